theorem in_X11_thrown_X11 : ∀ w ∈ u_ws RX11 TX11 33, w ∈ wsX11_thrown := fun _ h => (List.mem_cons_of_mem _ (List.mem_append_right _ h))
set_option maxHeartbeats 4000000 in
set_option maxRecDepth 100000 in
theorem c_X11_thrown (l : Launch) (G : va_G) (cy : Nat → ClassId) (h : Nat) (b : Nat → Nat) (T np : Nat) (th : Int32) : Met l yX11_thrown wsX11_thrown ({ frames := 0, cells := 0, slots := 0, locals := 0 }) (zS G cy [.ref h] [zO h 12 (.int (nI T) :: .ref (b 1) :: .int (nI np) :: .ref (b 3) :: .ref (b 4) :: .ref (b 5) :: .ref (b 6) :: .ref (b 7) :: .ref (b 8) :: .ref (b 9) :: .ref (b 10) :: .ref (b 11) :: .ref (b 12) :: .ref (b 13) :: .ref (b 14) :: .ref (b 15) :: .ref (b 16) :: .ref (b 17) :: .ref (b 18) :: .ref (b 19) :: .ref (b 20) :: .ref (b 21) :: .ref (b 22) :: .ref (b 23) :: .ref (b 24) :: .ref (b 25) :: .ref (b 26) :: .ref (b 27) :: .ref (b 28) :: .ref (b 29) :: .ref (b 30) :: .ref (b 31) :: .int th :: [])]) (vp_Si (fun r => r = th)) 0 0 (fun _ => False) := by
  refine z_ofS (cc := cX11_thrown) (maxL := 1) (ret := (some .int)) (by decide) rfl (Nat.le_of_ble_eq_true rfl) ?_
  intro p e s m below meth c ls hx hb hml hr hts hown hlk hP hK hl
  have hown : s.vm.findClass RX11 = some m.cls := hown
  have hl : lv_has ls 1 [(0, .ref h)] := hl
  refine lv_aload_n hx hb dX11_thrown_0 rfl (lv_at hl 0 rfl) ?_
  refine va_get (D := G) (ci := 12) (v := .int th) (C := RX11) (T := TX11) (N := 33) hx hb hts in_X11_thrown_X11 hown hK hP 0 rfl rfl 32 (by decide) (hts _ (List.mem_of_getElem? (i := 1) (by decide +kernel))) (fun _ h9 => h9) rfl dX11_thrown_1 ?_
  exact z_rSi hx hb hr hlk dX11_thrown_4 (rfl)
theorem in_X11_can_X11 : ∀ w ∈ u_ws RX11 TX11 33, w ∈ wsX11_can := fun _ h => (List.mem_cons_of_mem _ (List.mem_append_right _ h))
set_option maxHeartbeats 4000000 in
set_option maxRecDepth 100000 in
theorem c_X11_can (l : Launch) (G : va_G) (cy : Nat → ClassId) (sz0 : Nat) (h : Nat) (b : Nat → Nat) (T np : Nat) (th : Int32) (f : Nat) (hf : f < 8) : Met l yX11_can wsX11_can ({ frames := 0, cells := 0, slots := 0, locals := 0 }) (zM G cy [.ref h, .int (nI f)] sz0 [zO h 12 (.int (nI T) :: .ref (b 1) :: .int (nI np) :: .ref (b 3) :: .ref (b 4) :: .ref (b 5) :: .ref (b 6) :: .ref (b 7) :: .ref (b 8) :: .ref (b 9) :: .ref (b 10) :: .ref (b 11) :: .ref (b 12) :: .ref (b 13) :: .ref (b 14) :: .ref (b 15) :: .ref (b 16) :: .ref (b 17) :: .ref (b 18) :: .ref (b 19) :: .ref (b 20) :: .ref (b 21) :: .ref (b 22) :: .ref (b 23) :: .ref (b 24) :: .ref (b 25) :: .ref (b 26) :: .ref (b 27) :: .ref (b 28) :: .ref (b 29) :: .ref (b 30) :: .ref (b 31) :: .int th :: [])]) (va_Qi (fun (r : Int32) (_ : Unit) => r = (nI (if f = 0 then 1 else 0))) (fun (u : Unit) t9 => zB G cy (va_A [zO h 12 (.int (nI T) :: .ref (b 1) :: .int (nI np) :: .ref (b 3) :: .ref (b 4) :: .ref (b 5) :: .ref (b 6) :: .ref (b 7) :: .ref (b 8) :: .ref (b 9) :: .ref (b 10) :: .ref (b 11) :: .ref (b 12) :: .ref (b 13) :: .ref (b 14) :: .ref (b 15) :: .ref (b 16) :: .ref (b 17) :: .ref (b 18) :: .ref (b 19) :: .ref (b 20) :: .ref (b 21) :: .ref (b 22) :: .ref (b 23) :: .ref (b 24) :: .ref (b 25) :: .ref (b 26) :: .ref (b 27) :: .ref (b 28) :: .ref (b 29) :: .ref (b 30) :: .ref (b 31) :: .int th :: [])] sz0) [zO h 12 (.int (nI T) :: .ref (b 1) :: .int (nI np) :: .ref (b 3) :: .ref (b 4) :: .ref (b 5) :: .ref (b 6) :: .ref (b 7) :: .ref (b 8) :: .ref (b 9) :: .ref (b 10) :: .ref (b 11) :: .ref (b 12) :: .ref (b 13) :: .ref (b 14) :: .ref (b 15) :: .ref (b 16) :: .ref (b 17) :: .ref (b 18) :: .ref (b 19) :: .ref (b 20) :: .ref (b 21) :: .ref (b 22) :: .ref (b 23) :: .ref (b 24) :: .ref (b 25) :: .ref (b 26) :: .ref (b 27) :: .ref (b 28) :: .ref (b 29) :: .ref (b 30) :: .ref (b 31) :: .int (nI f) :: [])] t9) (va_A [zO h 12 (.int (nI T) :: .ref (b 1) :: .int (nI np) :: .ref (b 3) :: .ref (b 4) :: .ref (b 5) :: .ref (b 6) :: .ref (b 7) :: .ref (b 8) :: .ref (b 9) :: .ref (b 10) :: .ref (b 11) :: .ref (b 12) :: .ref (b 13) :: .ref (b 14) :: .ref (b 15) :: .ref (b 16) :: .ref (b 17) :: .ref (b 18) :: .ref (b 19) :: .ref (b 20) :: .ref (b 21) :: .ref (b 22) :: .ref (b 23) :: .ref (b 24) :: .ref (b 25) :: .ref (b 26) :: .ref (b 27) :: .ref (b 28) :: .ref (b 29) :: .ref (b 30) :: .ref (b 31) :: .int th :: [])] sz0)) 0 0 (va_A [zO h 12 (.int (nI T) :: .ref (b 1) :: .int (nI np) :: .ref (b 3) :: .ref (b 4) :: .ref (b 5) :: .ref (b 6) :: .ref (b 7) :: .ref (b 8) :: .ref (b 9) :: .ref (b 10) :: .ref (b 11) :: .ref (b 12) :: .ref (b 13) :: .ref (b 14) :: .ref (b 15) :: .ref (b 16) :: .ref (b 17) :: .ref (b 18) :: .ref (b 19) :: .ref (b 20) :: .ref (b 21) :: .ref (b 22) :: .ref (b 23) :: .ref (b 24) :: .ref (b 25) :: .ref (b 26) :: .ref (b 27) :: .ref (b 28) :: .ref (b 29) :: .ref (b 30) :: .ref (b 31) :: .int th :: [])] sz0) := by
  refine z_ofM (cc := cX11_can) (maxL := 2) (ret := (some .boolean)) (Qc := (fun A => va_Qi (fun (r : Int32) (_ : Unit) => r = (nI (if f = 0 then 1 else 0))) (fun (u : Unit) t9 => zB G cy A [zO h 12 (.int (nI T) :: .ref (b 1) :: .int (nI np) :: .ref (b 3) :: .ref (b 4) :: .ref (b 5) :: .ref (b 6) :: .ref (b 7) :: .ref (b 8) :: .ref (b 9) :: .ref (b 10) :: .ref (b 11) :: .ref (b 12) :: .ref (b 13) :: .ref (b 14) :: .ref (b 15) :: .ref (b 16) :: .ref (b 17) :: .ref (b 18) :: .ref (b 19) :: .ref (b 20) :: .ref (b 21) :: .ref (b 22) :: .ref (b 23) :: .ref (b 24) :: .ref (b 25) :: .ref (b 26) :: .ref (b 27) :: .ref (b 28) :: .ref (b 29) :: .ref (b 30) :: .ref (b 31) :: .int (nI f) :: [])] t9) A)) (by decide) rfl (Nat.le_of_ble_eq_true rfl) ?_
  intro p e s m below meth c ls A hx hb hml hr hts hown hlk hin hP hK hD hA hS hl hsz0
  have hown : s.vm.findClass RX11 = some m.cls := hown
  have hl : lv_has ls 2 [(0, .ref h), (1, .int (nI f))] := hl
  refine lv_aload_n hx hb dX11_can_0 rfl (lv_at hl 0 rfl) ?_
  refine lv_iload_n hx hb dX11_can_1 rfl (lv_at hl 1 rfl) ?_
  refine va_put (D := G) (ci := 12) (v := .int (nI f)) (ty := .int) (C := RX11) (T := TX11) (N := 33) hx hb hts in_X11_can_X11 tyX11 tyX11_ok nmX11 hown hK hP hD hS 0 rfl rfl 32 (by decide) (hts _ (List.mem_of_getElem? (i := 1) (by decide +kernel))) (fun _ h9 => h9) rfl (by decide +kernel) rfl rfl (Nat.le_of_ble_eq_true rfl) dX11_can_2 (fun H locs hP hD hS => ?_)
  have hP : va_P G vwCl [zO h 12 (.int (nI T) :: .ref (b 1) :: .int (nI np) :: .ref (b 3) :: .ref (b 4) :: .ref (b 5) :: .ref (b 6) :: .ref (b 7) :: .ref (b 8) :: .ref (b 9) :: .ref (b 10) :: .ref (b 11) :: .ref (b 12) :: .ref (b 13) :: .ref (b 14) :: .ref (b 15) :: .ref (b 16) :: .ref (b 17) :: .ref (b 18) :: .ref (b 19) :: .ref (b 20) :: .ref (b 21) :: .ref (b 22) :: .ref (b 23) :: .ref (b 24) :: .ref (b 25) :: .ref (b 26) :: .ref (b 27) :: .ref (b 28) :: .ref (b 29) :: .ref (b 30) :: .ref (b 31) :: .int (nI f) :: [])] H := hP
  have hD : va_D A [zO h 12 (.int (nI T) :: .ref (b 1) :: .int (nI np) :: .ref (b 3) :: .ref (b 4) :: .ref (b 5) :: .ref (b 6) :: .ref (b 7) :: .ref (b 8) :: .ref (b 9) :: .ref (b 10) :: .ref (b 11) :: .ref (b 12) :: .ref (b 13) :: .ref (b 14) :: .ref (b 15) :: .ref (b 16) :: .ref (b 17) :: .ref (b 18) :: .ref (b 19) :: .ref (b 20) :: .ref (b 21) :: .ref (b 22) :: .ref (b 23) :: .ref (b 24) :: .ref (b 25) :: .ref (b 26) :: .ref (b 27) :: .ref (b 28) :: .ref (b 29) :: .ref (b 30) :: .ref (b 31) :: .int (nI f) :: [])] := hD
  refine lv_iload_n hx hb dX11_can_5 rfl (lv_at hl 1 rfl) ?_
  refine z_if_ne hx hb (by omega) dX11_can_6 (tgt := 13) (by decide) (fun c_1 => ?_) (fun c_1 => ?_)
  · refine lv_iconst (v := nI 0) hx hb dX11_can_13 (by decide) ?_
    exact z_rMz hx hb hr hlk (by rfl) dX11_can_14 () (by rw [if_neg c_1]) hP hD hK hS (Nat.le_of_ble_eq_true rfl) (Nat.le_of_ble_eq_true rfl)
  · refine lv_iconst (v := nI 1) hx hb dX11_can_9 (by decide) ?_
    refine lv_goto (tgt := 14) hx hb dX11_can_10 (by decide) ?_
    exact z_rMz hx hb hr hlk (by rfl) dX11_can_14 () (by rw [if_pos c_1]) hP hD hK hS (Nat.le_of_ble_eq_true rfl) (Nat.le_of_ble_eq_true rfl)
set_option maxHeartbeats 4000000 in
set_option maxRecDepth 100000 in
theorem c_X11_isIn (l : Launch) (G : va_G) (cy : Nat → ClassId) (x lo hi : Int32) (a9 b9 c9 : Int) (ha : x.toInt = a9) (hlo : lo.toInt = b9) (hhi : hi.toInt = c9) : Met l yX11_isIn wsX11_isIn ({ frames := 0, cells := 0, slots := 0, locals := 0 }) (zS G cy [.int x, .int lo, .int hi] []) (vp_Si (fun r => (r = nI 1 ∧ (b9 ≤ a9 ∧ a9 ≤ c9)) ∨ (r = nI 0 ∧ ¬ (b9 ≤ a9 ∧ a9 ≤ c9)))) 0 0 (fun _ => False) := by
  refine z_ofS (cc := cX11_isIn) (maxL := 3) (ret := (some .boolean)) (by decide) rfl (Nat.le_of_ble_eq_true rfl) ?_
  intro p e s m below meth c ls hx hb hml hr hts hown hlk hP hK hl
  have hown : s.vm.findClass RX11 = some m.cls := hown
  have hl : lv_has ls 3 [(0, .int x), (1, .int lo), (2, .int hi)] := hl
  refine lv_iload_n hx hb dX11_isIn_0 rfl (lv_at hl 0 rfl) ?_
  refine lv_iload_n hx hb dX11_isIn_1 rfl (lv_at hl 1 rfl) ?_
  refine lv_icmp_lt hx hb dX11_isIn_2 (tgt := 14) (by decide) (fun c_1 => ?_) (fun c_1 => ?_)
  · refine lv_iconst (v := nI 0) hx hb dX11_isIn_14 (by decide) ?_
    exact z_rSz hx hb hr hlk (by rfl) dX11_isIn_15 (Or.inr ⟨rfl, by have h9 := c_1; rw [Int32.lt_iff_toInt_lt] at h9; omega⟩)
  · refine lv_iload_n hx hb dX11_isIn_5 rfl (lv_at hl 0 rfl) ?_
    refine lv_iload_n hx hb dX11_isIn_6 rfl (lv_at hl 2 rfl) ?_
    refine lv_icmp_gt hx hb dX11_isIn_7 (tgt := 14) (by decide) (fun c_2 => ?_) (fun c_2 => ?_)
    · refine lv_iconst (v := nI 0) hx hb dX11_isIn_14 (by decide) ?_
      exact z_rSz hx hb hr hlk (by rfl) dX11_isIn_15 (Or.inr ⟨rfl, by have h9 := c_2; rw [Int32.lt_iff_toInt_lt] at h9; omega⟩)
    · refine lv_iconst (v := nI 1) hx hb dX11_isIn_10 (by decide) ?_
      refine lv_goto (tgt := 15) hx hb dX11_isIn_11 (by decide) ?_
      exact z_rSz hx hb hr hlk (by rfl) dX11_isIn_15 (Or.inl ⟨rfl, by have h8 := c_1; have h9 := c_2; rw [Int32.lt_iff_toInt_lt] at h8 h9; omega⟩)
theorem in_X11_isPoint_X11 : ∀ w ∈ u_ws RX11 TX11 33, w ∈ wsX11_isPoint := fun _ h => (List.mem_cons_of_mem _ (List.mem_append_right _ h))
set_option maxHeartbeats 4000000 in
set_option maxRecDepth 100000 in
theorem c_X11_isPoint (l : Launch) (G : va_G) (cy : Nat → ClassId) (h : Nat) (b : Nat → Nat) (T np : Nat) (th : Int32) (x : Int32) (a9 : Int) (ha : x.toInt = a9) (hnp : np ≤ 8) : Met l yX11_isPoint wsX11_isPoint ({ frames := 1, cells := 0, slots := 0, locals := 22 }) (zS G cy [.ref h, .int x] [zO h 12 (.int (nI T) :: .ref (b 1) :: .int (nI np) :: .ref (b 3) :: .ref (b 4) :: .ref (b 5) :: .ref (b 6) :: .ref (b 7) :: .ref (b 8) :: .ref (b 9) :: .ref (b 10) :: .ref (b 11) :: .ref (b 12) :: .ref (b 13) :: .ref (b 14) :: .ref (b 15) :: .ref (b 16) :: .ref (b 17) :: .ref (b 18) :: .ref (b 19) :: .ref (b 20) :: .ref (b 21) :: .ref (b 22) :: .ref (b 23) :: .ref (b 24) :: .ref (b 25) :: .ref (b 26) :: .ref (b 27) :: .ref (b 28) :: .ref (b 29) :: .ref (b 30) :: .ref (b 31) :: .int th :: [])]) (vp_Si (fun r => (r = nI 1 ∧ (0 ≤ a9 ∧ a9 < (np : Int))) ∨ (r = nI 0 ∧ ¬ (0 ≤ a9 ∧ a9 < (np : Int))))) 0 0 (fun _ => False) := by
  refine z_ofS (cc := cX11_isPoint) (maxL := 2) (ret := (some .boolean)) (by decide) rfl (Nat.le_of_ble_eq_true rfl) ?_
  intro p e s m below meth c ls hx hb hml hr hts hown hlk hP hK hl
  have hown : s.vm.findClass RX11 = some m.cls := hown
  have hl : lv_has ls 2 [(0, .ref h), (1, .int x)] := hl
  refine lv_iload_n hx hb dX11_isPoint_0 rfl (lv_at hl 1 rfl) ?_
  refine lv_iconst (v := nI 0) hx hb dX11_isPoint_1 (by decide) ?_
  refine lv_aload_n hx hb dX11_isPoint_2 rfl (lv_at hl 0 rfl) ?_
  refine va_get (D := G) (ci := 12) (v := .int (nI np)) (C := RX11) (T := TX11) (N := 33) hx hb hts in_X11_isPoint_X11 hown hK hP 0 rfl rfl 2 (by decide) (hts _ (List.mem_of_getElem? (i := 1) (by decide +kernel))) (fun _ h9 => h9) rfl dX11_isPoint_3 ?_
  refine lv_iconst (v := nI 1) hx hb dX11_isPoint_6 (by decide) ?_
  refine lv_isub hx hb dX11_isPoint_7 ?_
  refine vp_callSi (va_runS (As := [.int x, .int (nI 0), .int ((nI np) - (nI 1))]) (rest := []) ⟨hx, hb, hml, hown, hts⟩ (c_X11_isIn l G cy x (nI 0) ((nI np) - (nI 1)) a9 (0 : Int) (((np : Nat) : Int) - 1) ha (nI_toInt (by omega)) (pk_sub_toInt (by omega) (by decide))) (va_cwS 3 hts gX11_isPoint_X11_isIn rfl rfl rfl (by decide +kernel) ⟨Nat.le_of_ble_eq_true rfl, Nat.le_of_ble_eq_true rfl⟩) (z_pS hK hP [] rfl) rfl rfl hl.1 rfl (lv_room (Nat.le_of_ble_eq_true rfl)) dX11_isPoint_8 ⟨Nat.le_of_ble_eq_true rfl, Nat.le_of_ble_eq_true rfl⟩).run (fun r_1 hr_1 => ?_)
  rcases hr_1 with ⟨rfl, b_2⟩ | ⟨rfl, b_2⟩
  · exact z_rSz hx hb hr hlk (by rfl) dX11_isPoint_11 (Or.inl ⟨rfl, by omega⟩)
  · exact z_rSz hx hb hr hlk (by rfl) dX11_isPoint_11 (Or.inr ⟨rfl, by omega⟩)
set_option maxHeartbeats 4000000 in
set_option maxRecDepth 100000 in
theorem c_X11_isSupplier (l : Launch) (G : va_G) (cy : Nat → ClassId) (x : Int32) (a9 : Int) (ha : x.toInt = a9) : Met l yX11_isSupplier wsX11_isSupplier ({ frames := 1, cells := 0, slots := 0, locals := 22 }) (zS G cy [.int x] []) (vp_Si (fun r => (r = nI 1 ∧ (0 ≤ a9 ∧ a9 < 4)) ∨ (r = nI 0 ∧ ¬ (0 ≤ a9 ∧ a9 < 4)))) 0 0 (fun _ => False) := by
  refine z_ofS (cc := cX11_isSupplier) (maxL := 1) (ret := (some .boolean)) (by decide) rfl (Nat.le_of_ble_eq_true rfl) ?_
  intro p e s m below meth c ls hx hb hml hr hts hown hlk hP hK hl
  have hown : s.vm.findClass RX11 = some m.cls := hown
  have hl : lv_has ls 1 [(0, .int x)] := hl
  refine lv_iload_n hx hb dX11_isSupplier_0 rfl (lv_at hl 0 rfl) ?_
  refine lv_iconst (v := nI 0) hx hb dX11_isSupplier_1 (by decide) ?_
  refine lv_iconst (v := nI 3) hx hb dX11_isSupplier_2 (by decide) ?_
  refine vp_callSi (va_runS (As := [.int x, .int (nI 0), .int (nI 3)]) (rest := []) ⟨hx, hb, hml, hown, hts⟩ (c_X11_isIn l G cy x (nI 0) (nI 3) a9 (0 : Int) (3 : Int) ha (nI_toInt (by omega)) (nI_toInt (by omega))) (va_cwS 3 hts gX11_isSupplier_X11_isIn rfl rfl rfl (by decide +kernel) ⟨Nat.le_of_ble_eq_true rfl, Nat.le_of_ble_eq_true rfl⟩) (z_pS hK hP [] rfl) rfl rfl hl.1 rfl (lv_room (Nat.le_of_ble_eq_true rfl)) dX11_isSupplier_3 ⟨Nat.le_of_ble_eq_true rfl, Nat.le_of_ble_eq_true rfl⟩).run (fun r_1 hr_1 => ?_)
  rcases hr_1 with ⟨rfl, b_2⟩ | ⟨rfl, b_2⟩
  · exact z_rSz hx hb hr hlk (by rfl) dX11_isSupplier_6 (Or.inl ⟨rfl, by omega⟩)
  · exact z_rSz hx hb hr hlk (by rfl) dX11_isSupplier_6 (Or.inr ⟨rfl, by omega⟩)
set_option maxHeartbeats 4000000 in
set_option maxRecDepth 100000 in
theorem c_X11_ten (l : Launch) (G : va_G) (cy : Nat → ClassId) (d : Nat) (hd : d ≤ 6) : Met l yX11_ten wsX11_ten ({ frames := 0, cells := 0, slots := 0, locals := 0 }) (zS G cy [.int (nI d)] []) (vp_Si (fun r => r = (nI (10 ^ d)))) 0 0 (fun _ => False) := by
  refine z_ofS (cc := cX11_ten) (maxL := 3) (ret := (some .int)) (by decide) rfl (Nat.le_of_ble_eq_true rfl) ?_
  intro p e s m below meth c ls hx hb hml hr hts hown hlk hP hK hl
  have hown : s.vm.findClass RX11 = some m.cls := hown
  have hl : lv_has ls 3 [(0, .int (nI d))] := hl
  refine lv_iconst (v := nI 1) hx hb dX11_ten_0 (by decide) ?_
  refine lv_istore_n (lv' := [(1, .int (nI 1)), (0, .int (nI d))]) hx hb dX11_ten_1 rfl hl (by decide) rfl (fun ls hl => ?_)
  refine lv_iconst (v := nI 0) hx hb dX11_ten_2 (by decide) ?_
  refine lv_istore_n (lv' := [(2, .int (nI 0)), (1, .int (nI 1)), (0, .int (nI d))]) hx hb dX11_ten_3 rfl hl (by decide) rfl (fun ls hl => ?_)
  have hloop4 : ∀ (fuel4 : Nat) (j : Nat), (j ≤ d) → (d - j) < fuel4 → ∀ (ls : Array Slot), lv_has ls 3 [(0, .int (nI d)), (1, .int (nI (10 ^ j))), (2, .int (nI j))] → W p l e { frames := 0, cells := 0, slots := 0, locals := 0 } s m [.int (nI d)].toArray below meth c s.heap [] 0 0 (MQ below (vp_Si (fun r => r = (nI (10 ^ d)))) [.int (nI d)].toArray s 0 0 (fun _ => False)) (F0 m 4 ls []) := by
    intro fuel4
    induction fuel4 with
    | zero =>
      intro j hi4_0 hfu4
      exact absurd hfu4 (Nat.not_lt_zero _)
    | succ fuel4 ih4 =>
      intro j hi4_0 hfu4 ls hl
      refine lv_iload_n hx hb dX11_ten_4 rfl (lv_at hl 2 rfl) ?_
      refine lv_iload_n hx hb dX11_ten_5 rfl (lv_at hl 0 rfl) ?_
      refine z_icmp_ge hx hb (by omega) (by omega) dX11_ten_6 (tgt := 20) (by decide) (fun c_1 => ?_) (fun c_1 => ?_)
      · refine lv_iload_n hx hb dX11_ten_20 rfl (lv_at hl 1 rfl) ?_
        exact z_rSi hx hb hr hlk dX11_ten_21 (by rw [show d = j by omega])
      · refine lv_iload_n hx hb dX11_ten_9 rfl (lv_at hl 1 rfl) ?_
        refine lv_bipush (v := nI 10) hx hb dX11_ten_10 (by decide) ?_
        refine z_imul hx hb dX11_ten_12 ?_
        refine lv_istore_n (lv' := [(1, .int (nI ((10 ^ j) * 10))), (0, .int (nI d)), (2, .int (nI j))]) hx hb dX11_ten_13 rfl hl (by decide) rfl (fun ls hl => ?_)
        refine lv_iinc (v := (nI (j + 1))) (lv' := [(2, .int (nI (j + 1))), (1, .int (nI ((10 ^ j) * 10))), (0, .int (nI d))]) hx hb dX11_ten_14 hl (k := 2) rfl (nI_add _ _) (by decide) rfl (fun ls hl => ?_)
        refine lv_goto (tgt := 4) hx hb dX11_ten_17 (by decide) ?_
        exact ih4 (j + 1) (by omega) (by omega) _ (lv_sub hl [2, 1, 0] rfl)
  exact hloop4 (d - 0 + 1) 0 (by omega) (by omega) _ (lv_sub hl [2, 1, 0] rfl)
set_option maxHeartbeats 4000000 in
set_option maxRecDepth 100000 in
theorem c_X11_isMeter (l : Launch) (G : va_G) (cy : Nat → ClassId) (x y : Int32) (a9 c9 : Int) (ha : x.toInt = a9) (hc : y.toInt = c9) : Met l yX11_isMeter wsX11_isMeter ({ frames := 1, cells := 0, slots := 0, locals := 22 }) (zS G cy [.int x, .int y] []) (vp_Si (fun r => (r = nI 1 ∧ (3 ≤ a9 ∧ a9 ≤ 6 ∧ 1 ≤ c9 ∧ c9 ≤ 10)) ∨ (r = nI 0 ∧ ¬ (3 ≤ a9 ∧ a9 ≤ 6 ∧ 1 ≤ c9 ∧ c9 ≤ 10)))) 0 0 (fun _ => False) := by
  refine z_ofS (cc := cX11_isMeter) (maxL := 2) (ret := (some .boolean)) (by decide) rfl (Nat.le_of_ble_eq_true rfl) ?_
  intro p e s m below meth c ls hx hb hml hr hts hown hlk hP hK hl
  have hown : s.vm.findClass RX11 = some m.cls := hown
  have hl : lv_has ls 2 [(0, .int x), (1, .int y)] := hl
  refine lv_iload_n hx hb dX11_isMeter_0 rfl (lv_at hl 0 rfl) ?_
  refine lv_iconst (v := nI 3) hx hb dX11_isMeter_1 (by decide) ?_
  refine lv_bipush (v := nI 6) hx hb dX11_isMeter_2 (by decide) ?_
  refine vp_callSi (va_runS (As := [.int x, .int (nI 3), .int (nI 6)]) (rest := []) ⟨hx, hb, hml, hown, hts⟩ (c_X11_isIn l G cy x (nI 3) (nI 6) a9 (3 : Int) (6 : Int) ha (nI_toInt (by omega)) (nI_toInt (by omega))) (va_cwS 3 hts gX11_isMeter_X11_isIn rfl rfl rfl (by decide +kernel) ⟨Nat.le_of_ble_eq_true rfl, Nat.le_of_ble_eq_true rfl⟩) (z_pS hK hP [] rfl) rfl rfl hl.1 rfl (lv_room (Nat.le_of_ble_eq_true rfl)) dX11_isMeter_4 ⟨Nat.le_of_ble_eq_true rfl, Nat.le_of_ble_eq_true rfl⟩).run (fun r_1 hr_1 => ?_)
  rcases hr_1 with ⟨rfl, b_2⟩ | ⟨rfl, b_2⟩
  · refine lv_if_eq hx hb dX11_isMeter_7 (tgt := 24) (by decide) (fun q => absurd q (by decide)) (fun _ => ?_)
    refine lv_iload_n hx hb dX11_isMeter_10 rfl (lv_at hl 1 rfl) ?_
    refine lv_iconst (v := nI 1) hx hb dX11_isMeter_11 (by decide) ?_
    refine lv_bipush (v := nI 10) hx hb dX11_isMeter_12 (by decide) ?_
    refine vp_callSi (va_runS (As := [.int y, .int (nI 1), .int (nI 10)]) (rest := []) ⟨hx, hb, hml, hown, hts⟩ (c_X11_isIn l G cy y (nI 1) (nI 10) c9 (1 : Int) (10 : Int) hc (nI_toInt (by omega)) (nI_toInt (by omega))) (va_cwS 3 hts gX11_isMeter_X11_isIn rfl rfl rfl (by decide +kernel) ⟨Nat.le_of_ble_eq_true rfl, Nat.le_of_ble_eq_true rfl⟩) (z_pS hK hP [] rfl) rfl rfl hl.1 rfl (lv_room (Nat.le_of_ble_eq_true rfl)) dX11_isMeter_14 ⟨Nat.le_of_ble_eq_true rfl, Nat.le_of_ble_eq_true rfl⟩).run (fun r_3 hr_3 => ?_)
    rcases hr_3 with ⟨rfl, b_4⟩ | ⟨rfl, b_4⟩
    · refine lv_if_eq hx hb dX11_isMeter_17 (tgt := 24) (by decide) (fun q => absurd q (by decide)) (fun _ => ?_)
      refine lv_iconst (v := nI 1) hx hb dX11_isMeter_20 (by decide) ?_
      refine lv_goto (tgt := 25) hx hb dX11_isMeter_21 (by decide) ?_
      exact z_rSz hx hb hr hlk (by rfl) dX11_isMeter_25 (Or.inl ⟨rfl, by omega⟩)
    · refine lv_if_eq hx hb dX11_isMeter_17 (tgt := 24) (by decide) (fun _ => ?_) (fun q => absurd (by decide) q)
      refine lv_iconst (v := nI 0) hx hb dX11_isMeter_24 (by decide) ?_
      exact z_rSz hx hb hr hlk (by rfl) dX11_isMeter_25 (Or.inr ⟨rfl, by omega⟩)
  · refine lv_if_eq hx hb dX11_isMeter_7 (tgt := 24) (by decide) (fun _ => ?_) (fun q => absurd (by decide) q)
    refine lv_iconst (v := nI 0) hx hb dX11_isMeter_24 (by decide) ?_
    exact z_rSz hx hb hr hlk (by rfl) dX11_isMeter_25 (Or.inr ⟨rfl, by omega⟩)
theorem in_X11_hasPassed_X11 : ∀ w ∈ u_ws RX11 TX11 33, w ∈ wsX11_hasPassed := fun _ h => (List.mem_cons_of_mem _ (List.mem_append_right _ h))
set_option maxHeartbeats 4000000 in
set_option maxRecDepth 100000 in
theorem c_X11_hasPassed (l : Launch) (G : va_G) (cy : Nat → ClassId) (h : Nat) (b : Nat → Nat) (T np : Nat) (th : Int32) (x : Int32) (a9 : Int) (ha : x.toInt = a9) (hT : T ≤ 900) : Met l yX11_hasPassed wsX11_hasPassed ({ frames := 1, cells := 0, slots := 0, locals := 22 }) (zS G cy [.ref h, .int x] [zO h 12 (.int (nI T) :: .ref (b 1) :: .int (nI np) :: .ref (b 3) :: .ref (b 4) :: .ref (b 5) :: .ref (b 6) :: .ref (b 7) :: .ref (b 8) :: .ref (b 9) :: .ref (b 10) :: .ref (b 11) :: .ref (b 12) :: .ref (b 13) :: .ref (b 14) :: .ref (b 15) :: .ref (b 16) :: .ref (b 17) :: .ref (b 18) :: .ref (b 19) :: .ref (b 20) :: .ref (b 21) :: .ref (b 22) :: .ref (b 23) :: .ref (b 24) :: .ref (b 25) :: .ref (b 26) :: .ref (b 27) :: .ref (b 28) :: .ref (b 29) :: .ref (b 30) :: .ref (b 31) :: .int th :: [])]) (vp_Si (fun r => (r = nI 1 ∧ (0 ≤ a9 ∧ a9 < (T : Int))) ∨ (r = nI 0 ∧ ¬ (0 ≤ a9 ∧ a9 < (T : Int))))) 0 0 (fun _ => False) := by
  refine z_ofS (cc := cX11_hasPassed) (maxL := 2) (ret := (some .boolean)) (by decide) rfl (Nat.le_of_ble_eq_true rfl) ?_
  intro p e s m below meth c ls hx hb hml hr hts hown hlk hP hK hl
  have hown : s.vm.findClass RX11 = some m.cls := hown
  have hl : lv_has ls 2 [(0, .ref h), (1, .int x)] := hl
  refine lv_iload_n hx hb dX11_hasPassed_0 rfl (lv_at hl 1 rfl) ?_
  refine lv_iconst (v := nI 0) hx hb dX11_hasPassed_1 (by decide) ?_
  refine lv_aload_n hx hb dX11_hasPassed_2 rfl (lv_at hl 0 rfl) ?_
  refine va_get (D := G) (ci := 12) (v := .int (nI T)) (C := RX11) (T := TX11) (N := 33) hx hb hts in_X11_hasPassed_X11 hown hK hP 0 rfl rfl 0 (by decide) (hts _ (List.mem_of_getElem? (i := 1) (by decide +kernel))) (fun _ h9 => h9) rfl dX11_hasPassed_3 ?_
  refine lv_iconst (v := nI 1) hx hb dX11_hasPassed_6 (by decide) ?_
  refine lv_isub hx hb dX11_hasPassed_7 ?_
  refine vp_callSi (va_runS (As := [.int x, .int (nI 0), .int ((nI T) - (nI 1))]) (rest := []) ⟨hx, hb, hml, hown, hts⟩ (c_X11_isIn l G cy x (nI 0) ((nI T) - (nI 1)) a9 (0 : Int) (((T : Nat) : Int) - 1) ha (nI_toInt (by omega)) (pk_sub_toInt (by omega) (by decide))) (va_cwS 3 hts gX11_hasPassed_X11_isIn rfl rfl rfl (by decide +kernel) ⟨Nat.le_of_ble_eq_true rfl, Nat.le_of_ble_eq_true rfl⟩) (z_pS hK hP [] rfl) rfl rfl hl.1 rfl (lv_room (Nat.le_of_ble_eq_true rfl)) dX11_hasPassed_8 ⟨Nat.le_of_ble_eq_true rfl, Nat.le_of_ble_eq_true rfl⟩).run (fun r_1 hr_1 => ?_)
  rcases hr_1 with ⟨rfl, b_2⟩ | ⟨rfl, b_2⟩
  · exact z_rSz hx hb hr hlk (by rfl) dX11_hasPassed_11 (Or.inl ⟨rfl, by omega⟩)
  · exact z_rSz hx hb hr hlk (by rfl) dX11_hasPassed_11 (Or.inr ⟨rfl, by omega⟩)
theorem in_X11_weight_X11 : ∀ w ∈ u_ws RX11 TX11 33, w ∈ wsX11_weight := fun _ h => (List.mem_cons_of_mem _ (List.mem_append_right _ h))
set_option maxHeartbeats 4000000 in
set_option maxRecDepth 100000 in
theorem c_X11_weight (l : Launch) (G : va_G) (cy : Nat → ClassId) (h : Nat) (b : Nat → Nat) (T np : Nat) (th : Int32) (kd dg : Nat → Nat) (k d : Nat) (hk : k < 8) (hkd : kd k < 3) (hg : ∀ d, dg d ≤ 30) (hd : d < 1000) : Met l yX11_weight wsX11_weight ({ frames := 0, cells := 0, slots := 0, locals := 0 }) (zS G cy [.ref h, .int (nI k), .int (nI d)] [zO h 12 (.int (nI T) :: .ref (b 1) :: .int (nI np) :: .ref (b 3) :: .ref (b 4) :: .ref (b 5) :: .ref (b 6) :: .ref (b 7) :: .ref (b 8) :: .ref (b 9) :: .ref (b 10) :: .ref (b 11) :: .ref (b 12) :: .ref (b 13) :: .ref (b 14) :: .ref (b 15) :: .ref (b 16) :: .ref (b 17) :: .ref (b 18) :: .ref (b 19) :: .ref (b 20) :: .ref (b 21) :: .ref (b 22) :: .ref (b 23) :: .ref (b 24) :: .ref (b 25) :: .ref (b 26) :: .ref (b 27) :: .ref (b 28) :: .ref (b 29) :: .ref (b 30) :: .ref (b 31) :: .int th :: []), zI cy (b 3) 8 (fun j9 => nI (kd j9)), zI cy (b 1) 1000 (fun j9 => nI (dg j9))]) (vp_Si (fun r => r = (nI (z_wt (kd k) (dg d))))) 0 0 (fun _ => False) := by
  refine z_ofS (cc := cX11_weight) (maxL := 3) (ret := (some .int)) (by decide) rfl (Nat.le_of_ble_eq_true rfl) ?_
  intro p e s m below meth c ls hx hb hml hr hts hown hlk hP hK hl
  have hown : s.vm.findClass RX11 = some m.cls := hown
  have hl : lv_has ls 3 [(0, .ref h), (1, .int (nI k)), (2, .int (nI d))] := hl
  refine lv_aload_n hx hb dX11_weight_0 rfl (lv_at hl 0 rfl) ?_
  refine va_get (D := G) (ci := 12) (v := .ref (b 3)) (C := RX11) (T := TX11) (N := 33) hx hb hts in_X11_weight_X11 hown hK hP 0 rfl rfl 3 (by decide) (hts _ (List.mem_of_getElem? (i := 1) (by decide +kernel))) (fun _ h9 => h9) rfl dX11_weight_1 ?_
  refine lv_iload_n hx hb dX11_weight_4 rfl (lv_at hl 1 rfl) ?_
  refine z_iald (G := G) (v := (nI (kd k))) hx hb hK hP 1 rfl (by omega) rfl dX11_weight_5 ?_
  refine z_if_ne hx hb (by omega) dX11_weight_6 (tgt := 14) (by decide) (fun c_1 => ?_) (fun c_1 => ?_)
  · refine lv_aload_n hx hb dX11_weight_14 rfl (lv_at hl 0 rfl) ?_
    refine va_get (D := G) (ci := 12) (v := .ref (b 3)) (C := RX11) (T := TX11) (N := 33) hx hb hts in_X11_weight_X11 hown hK hP 0 rfl rfl 3 (by decide) (hts _ (List.mem_of_getElem? (i := 1) (by decide +kernel))) (fun _ h9 => h9) rfl dX11_weight_15 ?_
    refine lv_iload_n hx hb dX11_weight_18 rfl (lv_at hl 1 rfl) ?_
    refine z_iald (G := G) (v := (nI (kd k))) hx hb hK hP 1 rfl (by omega) rfl dX11_weight_19 ?_
    refine lv_iconst (v := nI 1) hx hb dX11_weight_20 (by decide) ?_
    refine z_icmp_ne hx hb (by omega) (by omega) dX11_weight_21 (tgt := 36) (by decide) (fun c_2 => ?_) (fun c_2 => ?_)
    · refine lv_iconst (v := nI 5) hx hb dX11_weight_36 (by decide) ?_
      refine lv_iconst (v := nI 3) hx hb dX11_weight_37 (by decide) ?_
      refine lv_aload_n hx hb dX11_weight_38 rfl (lv_at hl 0 rfl) ?_
      refine va_get (D := G) (ci := 12) (v := .ref (b 1)) (C := RX11) (T := TX11) (N := 33) hx hb hts in_X11_weight_X11 hown hK hP 0 rfl rfl 1 (by decide) (hts _ (List.mem_of_getElem? (i := 2) (by decide +kernel))) (fun _ h9 => h9) rfl dX11_weight_39 ?_
      refine lv_iload_n hx hb dX11_weight_42 rfl (lv_at hl 2 rfl) ?_
      refine z_iald (G := G) (v := (nI (dg d))) hx hb hK hP 2 rfl (by omega) rfl dX11_weight_43 ?_
      refine z_imul hx hb dX11_weight_44 ?_
      refine z_iadd hx hb dX11_weight_45 ?_
      exact z_rSi hx hb hr hlk dX11_weight_46 (by rw [z_wt, if_neg c_1, if_neg c_2])
    · refine lv_bipush (v := nI 10) hx hb dX11_weight_24 (by decide) ?_
      refine lv_aload_n hx hb dX11_weight_26 rfl (lv_at hl 0 rfl) ?_
      refine va_get (D := G) (ci := 12) (v := .ref (b 1)) (C := RX11) (T := TX11) (N := 33) hx hb hts in_X11_weight_X11 hown hK hP 0 rfl rfl 1 (by decide) (hts _ (List.mem_of_getElem? (i := 2) (by decide +kernel))) (fun _ h9 => h9) rfl dX11_weight_27 ?_
      refine lv_iload_n hx hb dX11_weight_30 rfl (lv_at hl 2 rfl) ?_
      refine z_iald (G := G) (v := (nI (dg d))) hx hb hK hP 2 rfl (by omega) rfl dX11_weight_31 ?_
      refine z_iadd hx hb dX11_weight_32 ?_
      refine lv_goto (tgt := 46) hx hb dX11_weight_33 (by decide) ?_
      exact z_rSi hx hb hr hlk dX11_weight_46 (by rw [z_wt, if_neg c_1, if_pos c_2])
  · refine lv_bipush (v := nI 10) hx hb dX11_weight_9 (by decide) ?_
    refine lv_goto (tgt := 46) hx hb dX11_weight_11 (by decide) ?_
    exact z_rSi hx hb hr hlk dX11_weight_46 (by rw [z_wt, if_pos c_1])
set_option maxHeartbeats 4000000 in
set_option maxRecDepth 100000 in
theorem c_X11_weights (l : Launch) (G : va_G) (cy : Nat → ClassId) (h : Nat) (b : Nat → Nat) (T np : Nat) (th : Int32) (kd dg : Nat → Nat) (k a e9 : Nat) (hk : k < 8) (hkd : kd k < 3) (hg : ∀ d, dg d ≤ 30) (hae : a ≤ e9) (he : e9 ≤ 1000) : Met l yX11_weights wsX11_weights ({ frames := 1, cells := 0, slots := 0, locals := 22 }) (zS G cy [.ref h, .int (nI k), .int (nI a), .int (nI e9)] [zO h 12 (.int (nI T) :: .ref (b 1) :: .int (nI np) :: .ref (b 3) :: .ref (b 4) :: .ref (b 5) :: .ref (b 6) :: .ref (b 7) :: .ref (b 8) :: .ref (b 9) :: .ref (b 10) :: .ref (b 11) :: .ref (b 12) :: .ref (b 13) :: .ref (b 14) :: .ref (b 15) :: .ref (b 16) :: .ref (b 17) :: .ref (b 18) :: .ref (b 19) :: .ref (b 20) :: .ref (b 21) :: .ref (b 22) :: .ref (b 23) :: .ref (b 24) :: .ref (b 25) :: .ref (b 26) :: .ref (b 27) :: .ref (b 28) :: .ref (b 29) :: .ref (b 30) :: .ref (b 31) :: .int th :: []), zI cy (b 3) 8 (fun j9 => nI (kd j9)), zI cy (b 1) 1000 (fun j9 => nI (dg j9))]) (vp_Sl (fun r => r = (lN (z_sm (fun j8 => z_wt (kd k) (dg j8)) a (e9 - a))))) 0 0 (fun _ => False) := by
  refine z_ofS (cc := cX11_weights) (maxL := 7) (ret := (some .long)) (by decide) rfl (Nat.le_of_ble_eq_true rfl) ?_
  intro p e s m below meth c ls hx hb hml hr hts hown hlk hP hK hl
  have hown : s.vm.findClass RX11 = some m.cls := hown
  have hl : lv_has ls 7 [(0, .ref h), (1, .int (nI k)), (2, .int (nI a)), (3, .int (nI e9))] := hl
  refine lv_lconst (v := lN 0) hx hb dX11_weights_0 rfl ?_
  refine lv_lstore (lv' := [(4, .long (lN 0)), (0, .ref h), (1, .int (nI k)), (2, .int (nI a)), (3, .int (nI e9))]) hx hb dX11_weights_1 hl (by decide) rfl (fun ls hl => ?_)
  refine lv_iload_n hx hb dX11_weights_3 rfl (lv_at hl 3 rfl) ?_
  refine lv_istore (lv' := [(6, .int (nI a)), (4, .long (lN 0)), (0, .ref h), (1, .int (nI k)), (2, .int (nI a)), (3, .int (nI e9))]) hx hb dX11_weights_4 hl (by decide) rfl (fun ls hl => ?_)
  have hloop6 : ∀ (fuel6 : Nat) (j : Nat), (a + j ≤ e9) → (e9 - a - j) < fuel6 → ∀ (ls : Array Slot), lv_has ls 7 [(0, .ref h), (1, .int (nI k)), (2, .int (nI a)), (3, .int (nI e9)), (4, .long (lN (z_sm (fun j8 => z_wt (kd k) (dg j8)) a j))), (6, .int (nI (a + j)))] → W p l e { frames := 1, cells := 0, slots := 0, locals := 22 } s m [.ref h, .int (nI k), .int (nI a), .int (nI e9)].toArray below meth c s.heap [] 0 0 (MQ below (vp_Sl (fun r => r = (lN (z_sm (fun j8 => z_wt (kd k) (dg j8)) a (e9 - a))))) [.ref h, .int (nI k), .int (nI a), .int (nI e9)].toArray s 0 0 (fun _ => False)) (F0 m 6 ls []) := by
    intro fuel6
    induction fuel6 with
    | zero =>
      intro j hi6_0 hfu6
      exact absurd hfu6 (Nat.not_lt_zero _)
    | succ fuel6 ih6 =>
      intro j hi6_0 hfu6 ls hl
      refine lv_iload hx hb dX11_weights_6 (lv_at hl 5 rfl) ?_
      refine lv_iload_n hx hb dX11_weights_8 rfl (lv_at hl 3 rfl) ?_
      refine z_icmp_ge hx hb (by omega) (by omega) dX11_weights_9 (tgt := 31) (by decide) (fun c_1 => ?_) (fun c_1 => ?_)
      · refine lv_lload hx hb dX11_weights_31 (lv_at hl 4 rfl) ?_
        exact z_rSl hx hb hr hlk dX11_weights_33 (by rw [show e9 - a = j by omega])
      · refine lv_lload hx hb dX11_weights_12 (lv_at hl 4 rfl) ?_
        refine lv_aload_n hx hb dX11_weights_14 rfl (lv_at hl 0 rfl) ?_
        refine lv_iload_n hx hb dX11_weights_15 rfl (lv_at hl 1 rfl) ?_
        refine lv_iload hx hb dX11_weights_16 (lv_at hl 5 rfl) ?_
        refine vp_callSi (va_runV (As := [.int (nI k), .int (nI (a + j))]) (rest := [.long (lN (z_sm (fun j8 => z_wt (kd k) (dg j8)) a j))]) ⟨hx, hb, hml, hown, hts⟩ (c_X11_weight l G cy h b T np th kd dg k (a + j) (by omega) (by omega) (by omega) (by omega)) (cwV 2 hts gX11_weights_X11_weight rfl rfl rfl (by decide +kernel) ⟨Nat.le_of_ble_eq_true rfl, Nat.le_of_ble_eq_true rfl⟩) (z_pV hK hP [0, 1, 2] rfl (ci := 12) (q0 := 0) rfl rfl rfl) rfl rfl hl.1 rfl (lv_room (Nat.le_of_ble_eq_true rfl)) dX11_weights_18 ⟨Nat.le_of_ble_eq_true rfl, Nat.le_of_ble_eq_true rfl⟩).run (fun r_2 hr_2 => ?_)
        obtain rfl : r_2 = (nI (z_wt (kd k) (dg (a + j)))) := hr_2
        refine z_i2l hx hb (by have := z_wt_le (k := kd k) (hg (a + j)); omega) dX11_weights_21 ?_
        refine z_ladd hx hb dX11_weights_22 ?_
        refine lv_lstore (lv' := [(4, .long (lN ((z_sm (fun j8 => z_wt (kd k) (dg j8)) a j) + (z_wt (kd k) (dg (a + j)))))), (0, .ref h), (1, .int (nI k)), (2, .int (nI a)), (3, .int (nI e9)), (6, .int (nI (a + j)))]) hx hb dX11_weights_23 hl (by decide) rfl (fun ls hl => ?_)
        refine lv_iinc (v := (nI (a + j + 1))) (lv' := [(6, .int (nI (a + j + 1))), (4, .long (lN ((z_sm (fun j8 => z_wt (kd k) (dg j8)) a j) + (z_wt (kd k) (dg (a + j)))))), (0, .ref h), (1, .int (nI k)), (2, .int (nI a)), (3, .int (nI e9))]) hx hb dX11_weights_25 hl (k := 5) rfl (nI_add _ _) (by decide) rfl (fun ls hl => ?_)
        refine lv_goto (tgt := 6) hx hb dX11_weights_28 (by decide) ?_
        exact ih6 (j + 1) (by omega) (by omega) _ (lv_sub hl [2, 3, 4, 5, 1, 0] rfl)
  exact hloop6 (e9 - a - 0 + 1) 0 (by omega) (by omega) _ (lv_sub hl [2, 3, 4, 5, 1, 0] rfl)
theorem in_X11_canConfirm_X11 : ∀ w ∈ u_ws RX11 TX11 33, w ∈ wsX11_canConfirm := fun _ h => (List.mem_cons_of_mem _ (List.mem_append_right _ h))
set_option maxHeartbeats 4000000 in
set_option maxRecDepth 100000 in
theorem c_X11_canConfirm (l : Launch) (G : va_G) (cy : Nat → ClassId) (h : Nat) (b : Nat → Nat) (T np : Nat) (th : Int32) (dO : Nat → Int32) (ro : Nat → Nat) (k : Nat) (hk : k < 8) : Met l yX11_canConfirm wsX11_canConfirm ({ frames := 0, cells := 0, slots := 0, locals := 0 }) (zS G cy [.ref h, .int (nI k)] [zO h 12 (.int (nI T) :: .ref (b 1) :: .int (nI np) :: .ref (b 3) :: .ref (b 4) :: .ref (b 5) :: .ref (b 6) :: .ref (b 7) :: .ref (b 8) :: .ref (b 9) :: .ref (b 10) :: .ref (b 11) :: .ref (b 12) :: .ref (b 13) :: .ref (b 14) :: .ref (b 15) :: .ref (b 16) :: .ref (b 17) :: .ref (b 18) :: .ref (b 19) :: .ref (b 20) :: .ref (b 21) :: .ref (b 22) :: .ref (b 23) :: .ref (b 24) :: .ref (b 25) :: .ref (b 26) :: .ref (b 27) :: .ref (b 28) :: .ref (b 29) :: .ref (b 30) :: .ref (b 31) :: .int th :: []), zI cy (b 11) 8 dO, zI cy (b 8) 8 (fun j9 => nI (ro j9))]) (vp_Si (fun r => (r = nI 1 ∧ (¬ dO k = -1 ∧ nI (ro k) < dO k)) ∨ (r = nI 0 ∧ ¬ (¬ dO k = -1 ∧ nI (ro k) < dO k)))) 0 0 (fun _ => False) := by
  refine z_ofS (cc := cX11_canConfirm) (maxL := 2) (ret := (some .boolean)) (by decide) rfl (Nat.le_of_ble_eq_true rfl) ?_
  intro p e s m below meth c ls hx hb hml hr hts hown hlk hP hK hl
  have hown : s.vm.findClass RX11 = some m.cls := hown
  have hl : lv_has ls 2 [(0, .ref h), (1, .int (nI k))] := hl
  refine lv_aload_n hx hb dX11_canConfirm_0 rfl (lv_at hl 0 rfl) ?_
  refine va_get (D := G) (ci := 12) (v := .ref (b 11)) (C := RX11) (T := TX11) (N := 33) hx hb hts in_X11_canConfirm_X11 hown hK hP 0 rfl rfl 11 (by decide) (hts _ (List.mem_of_getElem? (i := 1) (by decide +kernel))) (fun _ h9 => h9) rfl dX11_canConfirm_1 ?_
  refine lv_iload_n hx hb dX11_canConfirm_4 rfl (lv_at hl 1 rfl) ?_
  refine z_iald (G := G) (v := (dO k)) hx hb hK hP 1 rfl (by omega) rfl dX11_canConfirm_5 ?_
  refine lv_iconst (v := (-1)) hx hb dX11_canConfirm_6 (by decide) ?_
  refine lv_icmp_eq hx hb dX11_canConfirm_7 (tgt := 29) (by decide) (fun c_1 => ?_) (fun c_1 => ?_)
  · refine lv_iconst (v := nI 0) hx hb dX11_canConfirm_29 (by decide) ?_
    exact z_rSz hx hb hr hlk (by rfl) dX11_canConfirm_30 (Or.inr ⟨rfl, fun q => q.1 c_1⟩)
  · refine lv_aload_n hx hb dX11_canConfirm_10 rfl (lv_at hl 0 rfl) ?_
    refine va_get (D := G) (ci := 12) (v := .ref (b 8)) (C := RX11) (T := TX11) (N := 33) hx hb hts in_X11_canConfirm_X11 hown hK hP 0 rfl rfl 8 (by decide) (hts _ (List.mem_of_getElem? (i := 2) (by decide +kernel))) (fun _ h9 => h9) rfl dX11_canConfirm_11 ?_
    refine lv_iload_n hx hb dX11_canConfirm_14 rfl (lv_at hl 1 rfl) ?_
    refine z_iald (G := G) (v := (nI (ro k))) hx hb hK hP 2 rfl (by omega) rfl dX11_canConfirm_15 ?_
    refine lv_aload_n hx hb dX11_canConfirm_16 rfl (lv_at hl 0 rfl) ?_
    refine va_get (D := G) (ci := 12) (v := .ref (b 11)) (C := RX11) (T := TX11) (N := 33) hx hb hts in_X11_canConfirm_X11 hown hK hP 0 rfl rfl 11 (by decide) (hts _ (List.mem_of_getElem? (i := 1) (by decide +kernel))) (fun _ h9 => h9) rfl dX11_canConfirm_17 ?_
    refine lv_iload_n hx hb dX11_canConfirm_20 rfl (lv_at hl 1 rfl) ?_
    refine z_iald (G := G) (v := (dO k)) hx hb hK hP 1 rfl (by omega) rfl dX11_canConfirm_21 ?_
    refine lv_icmp_ge hx hb dX11_canConfirm_22 (tgt := 29) (by decide) (fun c_2 => ?_) (fun c_2 => ?_)
    · refine lv_iconst (v := nI 0) hx hb dX11_canConfirm_29 (by decide) ?_
      exact z_rSz hx hb hr hlk (by rfl) dX11_canConfirm_30 (Or.inr ⟨rfl, fun q => Int32.not_le.mpr q.2 c_2⟩)
    · refine lv_iconst (v := nI 1) hx hb dX11_canConfirm_25 (by decide) ?_
      refine lv_goto (tgt := 30) hx hb dX11_canConfirm_26 (by decide) ?_
      exact z_rSz hx hb hr hlk (by rfl) dX11_canConfirm_30 (Or.inl ⟨rfl, c_1, Int32.not_le.mp c_2⟩)
theorem in_X11_supplierOf_X11 : ∀ w ∈ u_ws RX11 TX11 33, w ∈ wsX11_supplierOf := fun _ h => (List.mem_cons_of_mem _ (List.mem_append_right _ h))
set_option maxHeartbeats 4000000 in
set_option maxRecDepth 100000 in
theorem c_X11_supplierOf (l : Launch) (G : va_G) (cy : Nat → ClassId) (h : Nat) (b : Nat → Nat) (T np : Nat) (th : Int32) (su : Nat → Nat) (k d : Nat) (hk : k < 8) (hd : d < 1000) : Met l yX11_supplierOf wsX11_supplierOf ({ frames := 0, cells := 0, slots := 0, locals := 0 }) (zS G cy [.ref h, .int (nI k), .int (nI d)] [zO h 12 (.int (nI T) :: .ref (b 1) :: .int (nI np) :: .ref (b 3) :: .ref (b 4) :: .ref (b 5) :: .ref (b 6) :: .ref (b 7) :: .ref (b 8) :: .ref (b 9) :: .ref (b 10) :: .ref (b 11) :: .ref (b 12) :: .ref (b 13) :: .ref (b 14) :: .ref (b 15) :: .ref (b 16) :: .ref (b 17) :: .ref (b 18) :: .ref (b 19) :: .ref (b 20) :: .ref (b 21) :: .ref (b 22) :: .ref (b 23) :: .ref (b 24) :: .ref (b 25) :: .ref (b 26) :: .ref (b 27) :: .ref (b 28) :: .ref (b 29) :: .ref (b 30) :: .ref (b 31) :: .int th :: []), zI cy (b 19) 8000 (fun j9 => nI (su j9))]) (vp_Si (fun r => r = (nI (su (1000 * k + d))))) 0 0 (fun _ => False) := by
  refine z_ofS (cc := cX11_supplierOf) (maxL := 3) (ret := (some .int)) (by decide) rfl (Nat.le_of_ble_eq_true rfl) ?_
  intro p e s m below meth c ls hx hb hml hr hts hown hlk hP hK hl
  have hown : s.vm.findClass RX11 = some m.cls := hown
  have hl : lv_has ls 3 [(0, .ref h), (1, .int (nI k)), (2, .int (nI d))] := hl
  refine lv_aload_n hx hb dX11_supplierOf_0 rfl (lv_at hl 0 rfl) ?_
  refine va_get (D := G) (ci := 12) (v := .ref (b 19)) (C := RX11) (T := TX11) (N := 33) hx hb hts in_X11_supplierOf_X11 hown hK hP 0 rfl rfl 19 (by decide) (hts _ (List.mem_of_getElem? (i := 1) (by decide +kernel))) (fun _ h9 => h9) rfl dX11_supplierOf_1 ?_
  refine lv_sipush (v := nI 1000) hx hb dX11_supplierOf_4 (by decide) ?_
  refine lv_iload_n hx hb dX11_supplierOf_7 rfl (lv_at hl 1 rfl) ?_
  refine z_imul hx hb dX11_supplierOf_8 ?_
  refine lv_iload_n hx hb dX11_supplierOf_9 rfl (lv_at hl 2 rfl) ?_
  refine z_iadd hx hb dX11_supplierOf_10 ?_
  refine z_iald (G := G) (v := (nI (su ((1000 * k) + d)))) hx hb hK hP 1 rfl (by omega) rfl dX11_supplierOf_11 ?_
  exact z_rSi hx hb hr hlk dX11_supplierOf_12 (rfl)
theorem in_X11_use_X11 : ∀ w ∈ u_ws RX11 TX11 33, w ∈ wsX11_use := fun _ h => (List.mem_cons_of_mem _ (List.mem_append_right _ h))
set_option maxHeartbeats 4000000 in
set_option maxRecDepth 100000 in
theorem c_X11_use (l : Launch) (G : va_G) (cy : Nat → ClassId) (h : Nat) (b : Nat → Nat) (T np : Nat) (th : Int32) (sh dt mu : Nat → Nat) (k nb : Nat) (hk : k < 8) (hdt : dt k ≤ 6) (hsh : sh k < 10 ^ dt k) (hnb : nb < 10 ^ dt k) (hz : 10 ^ dt k ≤ 1000000) : Met l yX11_use wsX11_use ({ frames := 1, cells := 0, slots := 0, locals := 22 }) (zS G cy [.ref h, .int (nI k), .int (nI nb)] [zO h 12 (.int (nI T) :: .ref (b 1) :: .int (nI np) :: .ref (b 3) :: .ref (b 4) :: .ref (b 5) :: .ref (b 6) :: .ref (b 7) :: .ref (b 8) :: .ref (b 9) :: .ref (b 10) :: .ref (b 11) :: .ref (b 12) :: .ref (b 13) :: .ref (b 14) :: .ref (b 15) :: .ref (b 16) :: .ref (b 17) :: .ref (b 18) :: .ref (b 19) :: .ref (b 20) :: .ref (b 21) :: .ref (b 22) :: .ref (b 23) :: .ref (b 24) :: .ref (b 25) :: .ref (b 26) :: .ref (b 27) :: .ref (b 28) :: .ref (b 29) :: .ref (b 30) :: .ref (b 31) :: .int th :: []), zI cy (b 7) 8 (fun j9 => nI (sh j9)), zI cy (b 5) 8 (fun j9 => nI (dt j9)), zI cy (b 6) 8 (fun j9 => nI (mu j9))]) (vp_Si (fun r => r = (nI (z_use (10 ^ dt k) (mu k) (sh k) nb)))) 0 0 (fun _ => False) := by
  refine z_ofS (cc := cX11_use) (maxL := 4) (ret := (some .int)) (by decide) rfl (Nat.le_of_ble_eq_true rfl) ?_
  intro p e s m below meth c ls hx hb hml hr hts hown hlk hP hK hl
  have hown : s.vm.findClass RX11 = some m.cls := hown
  have hl : lv_has ls 4 [(0, .ref h), (1, .int (nI k)), (2, .int (nI nb))] := hl
  refine lv_iload_n hx hb dX11_use_0 rfl (lv_at hl 2 rfl) ?_
  refine lv_aload_n hx hb dX11_use_1 rfl (lv_at hl 0 rfl) ?_
  refine va_get (D := G) (ci := 12) (v := .ref (b 7)) (C := RX11) (T := TX11) (N := 33) hx hb hts in_X11_use_X11 hown hK hP 0 rfl rfl 7 (by decide) (hts _ (List.mem_of_getElem? (i := 1) (by decide +kernel))) (fun _ h9 => h9) rfl dX11_use_2 ?_
  refine lv_iload_n hx hb dX11_use_5 rfl (lv_at hl 1 rfl) ?_
  refine z_iald (G := G) (v := (nI (sh k))) hx hb hK hP 1 rfl (by omega) rfl dX11_use_6 ?_
  by_cases hlt : nb < sh k
  · refine lv_isub hx hb dX11_use_7 ?_
    refine lv_istore_n (lv' := [(3, .int (nI nb - nI (sh k))), (0, .ref h), (1, .int (nI k)), (2, .int (nI nb))]) hx hb dX11_use_8 rfl hl (by decide) rfl (fun ls hl => ?_)
    refine lv_iload_n hx hb dX11_use_9 rfl (lv_at hl 0 rfl) ?_
    refine lv_if_ge hx hb dX11_use_10 (tgt := 27) (by decide) (fun c_1 => ?_) (fun c_1 => ?_)
    · exact absurd c_1 (z_negi hlt (by omega))
    · refine lv_iload_n hx hb dX11_use_13 rfl (lv_at hl 0 rfl) ?_
      refine lv_aload_n hx hb dX11_use_14 rfl (lv_at hl 1 rfl) ?_
      refine va_get (D := G) (ci := 12) (v := .ref (b 5)) (C := RX11) (T := TX11) (N := 33) hx hb hts in_X11_use_X11 hown hK hP 0 rfl rfl 5 (by decide) (hts _ (List.mem_of_getElem? (i := 2) (by decide +kernel))) (fun _ h9 => h9) rfl dX11_use_15 ?_
      refine lv_iload_n hx hb dX11_use_18 rfl (lv_at hl 2 rfl) ?_
      refine z_iald (G := G) (v := (nI (dt k))) hx hb hK hP 2 rfl (by omega) rfl dX11_use_19 ?_
      refine vp_callSi (va_runS (As := [.int (nI (dt k))]) (rest := [.int (nI nb - nI (sh k))]) ⟨hx, hb, hml, hown, hts⟩ (c_X11_ten l G cy (dt k) (by omega)) (va_cwS 1 hts gX11_use_X11_ten rfl rfl rfl (by decide +kernel) ⟨Nat.le_of_ble_eq_true rfl, Nat.le_of_ble_eq_true rfl⟩) (z_pS hK hP [] rfl) rfl rfl hl.1 rfl (lv_room (Nat.le_of_ble_eq_true rfl)) dX11_use_20 ⟨Nat.le_of_ble_eq_true rfl, Nat.le_of_ble_eq_true rfl⟩).run (fun r_2 hr_2 => ?_)
      obtain rfl : r_2 = (nI (10 ^ (dt k))) := hr_2
      refine lv_iadd hx hb dX11_use_23 ?_
      rw [z_addi (by omega)]
      refine lv_goto (tgt := 28) hx hb dX11_use_24 (by decide) ?_
      refine lv_aload_n hx hb dX11_use_28 rfl (lv_at hl 1 rfl) ?_
      refine va_get (D := G) (ci := 12) (v := .ref (b 6)) (C := RX11) (T := TX11) (N := 33) hx hb hts in_X11_use_X11 hown hK hP 0 rfl rfl 6 (by decide) (hts _ (List.mem_of_getElem? (i := 3) (by decide +kernel))) (fun _ h9 => h9) rfl dX11_use_29 ?_
      refine lv_iload_n hx hb dX11_use_32 rfl (lv_at hl 2 rfl) ?_
      refine z_iald (G := G) (v := (nI (mu k))) hx hb hK hP 3 rfl (by omega) rfl dX11_use_33 ?_
      refine z_imul hx hb dX11_use_34 ?_
      exact z_rSi hx hb hr hlk dX11_use_35 (by rw [z_use, if_pos hlt])
  · refine z_isub hx hb (by omega) dX11_use_7 ?_
    refine lv_istore_n (lv' := [(3, .int (nI (nb - (sh k)))), (0, .ref h), (1, .int (nI k)), (2, .int (nI nb))]) hx hb dX11_use_8 rfl hl (by decide) rfl (fun ls hl => ?_)
    refine lv_iload_n hx hb dX11_use_9 rfl (lv_at hl 0 rfl) ?_
    refine z_if_ge hx hb (by omega) dX11_use_10 (tgt := 27) (by decide) ?_
    refine lv_iload_n hx hb dX11_use_27 rfl (lv_at hl 0 rfl) ?_
    refine lv_aload_n hx hb dX11_use_28 rfl (lv_at hl 1 rfl) ?_
    refine va_get (D := G) (ci := 12) (v := .ref (b 6)) (C := RX11) (T := TX11) (N := 33) hx hb hts in_X11_use_X11 hown hK hP 0 rfl rfl 6 (by decide) (hts _ (List.mem_of_getElem? (i := 3) (by decide +kernel))) (fun _ h9 => h9) rfl dX11_use_29 ?_
    refine lv_iload_n hx hb dX11_use_32 rfl (lv_at hl 2 rfl) ?_
    refine z_iald (G := G) (v := (nI (mu k))) hx hb hK hP 3 rfl (by omega) rfl dX11_use_33 ?_
    refine z_imul hx hb dX11_use_34 ?_
    exact z_rSi hx hb hr hlk dX11_use_35 (by rw [z_use, if_neg hlt])
theorem in_X11_volumeOf_X11 : ∀ w ∈ u_ws RX11 TX11 33, w ∈ wsX11_volumeOf := fun _ h => (List.mem_cons_of_mem _ (List.mem_append_right _ h))
set_option maxHeartbeats 4000000 in
set_option maxRecDepth 100000 in
theorem c_X11_volumeOf (l : Launch) (G : va_G) (cy : Nat → ClassId) (h : Nat) (b : Nat → Nat) (T np : Nat) (th : Int32) (ro vo pc kd dg : Nat → Nat) (k d : Nat) (hk : k < 8) (hkd : kd k < 3) (hg : ∀ d, dg d ≤ 30) (hd : d < 1000) (hro : ro k < 1000) (hpc : pc k ≤ 2000000000) : Met l yX11_volumeOf wsX11_volumeOf ({ frames := 1, cells := 0, slots := 0, locals := 22 }) (zS G cy [.ref h, .int (nI k), .int (nI d)] [zO h 12 (.int (nI T) :: .ref (b 1) :: .int (nI np) :: .ref (b 3) :: .ref (b 4) :: .ref (b 5) :: .ref (b 6) :: .ref (b 7) :: .ref (b 8) :: .ref (b 9) :: .ref (b 10) :: .ref (b 11) :: .ref (b 12) :: .ref (b 13) :: .ref (b 14) :: .ref (b 15) :: .ref (b 16) :: .ref (b 17) :: .ref (b 18) :: .ref (b 19) :: .ref (b 20) :: .ref (b 21) :: .ref (b 22) :: .ref (b 23) :: .ref (b 24) :: .ref (b 25) :: .ref (b 26) :: .ref (b 27) :: .ref (b 28) :: .ref (b 29) :: .ref (b 30) :: .ref (b 31) :: .int th :: []), zI cy (b 8) 8 (fun j9 => nI (ro j9)), zI cy (b 18) 8000 (fun j9 => nI (vo j9)), zI cy (b 10) 8 (fun j9 => nI (pc j9)), zI cy (b 3) 8 (fun j9 => nI (kd j9)), zI cy (b 1) 1000 (fun j9 => nI (dg j9))]) (vp_Si (fun r => r = (nI (z_un (ro k) (fun j8 => vo (1000 * k + j8)) (pc k) (kd k) dg d)))) 0 0 (fun _ => False) := by
  refine z_ofS (cc := cX11_volumeOf) (maxL := 3) (ret := (some .int)) (by decide) rfl (Nat.le_of_ble_eq_true rfl) ?_
  intro p e s m below meth c ls hx hb hml hr hts hown hlk hP hK hl
  have hown : s.vm.findClass RX11 = some m.cls := hown
  have hl : lv_has ls 3 [(0, .ref h), (1, .int (nI k)), (2, .int (nI d))] := hl
  refine lv_iload_n hx hb dX11_volumeOf_0 rfl (lv_at hl 2 rfl) ?_
  refine lv_aload_n hx hb dX11_volumeOf_1 rfl (lv_at hl 0 rfl) ?_
  refine va_get (D := G) (ci := 12) (v := .ref (b 8)) (C := RX11) (T := TX11) (N := 33) hx hb hts in_X11_volumeOf_X11 hown hK hP 0 rfl rfl 8 (by decide) (hts _ (List.mem_of_getElem? (i := 1) (by decide +kernel))) (fun _ h9 => h9) rfl dX11_volumeOf_2 ?_
  refine lv_iload_n hx hb dX11_volumeOf_5 rfl (lv_at hl 1 rfl) ?_
  refine z_iald (G := G) (v := (nI (ro k))) hx hb hK hP 1 rfl (by omega) rfl dX11_volumeOf_6 ?_
  refine z_icmp_ge hx hb (by omega) (by omega) dX11_volumeOf_7 (tgt := 25) (by decide) (fun c_1 => ?_) (fun c_1 => ?_)
  · refine lv_aload_n hx hb dX11_volumeOf_25 rfl (lv_at hl 0 rfl) ?_
    refine va_get (D := G) (ci := 12) (v := .ref (b 10)) (C := RX11) (T := TX11) (N := 33) hx hb hts in_X11_volumeOf_X11 hown hK hP 0 rfl rfl 10 (by decide) (hts _ (List.mem_of_getElem? (i := 3) (by decide +kernel))) (fun _ h9 => h9) rfl dX11_volumeOf_26 ?_
    refine lv_iload_n hx hb dX11_volumeOf_29 rfl (lv_at hl 1 rfl) ?_
    refine z_iald (G := G) (v := (nI (pc k))) hx hb hK hP 3 rfl (by omega) rfl dX11_volumeOf_30 ?_
    refine z_i2l hx hb (by omega) dX11_volumeOf_31 ?_
    refine lv_aload_n hx hb dX11_volumeOf_32 rfl (lv_at hl 0 rfl) ?_
    refine lv_iload_n hx hb dX11_volumeOf_33 rfl (lv_at hl 1 rfl) ?_
    refine lv_iload_n hx hb dX11_volumeOf_34 rfl (lv_at hl 2 rfl) ?_
    refine vp_callSi (va_runV (As := [.int (nI k), .int (nI d)]) (rest := [.long (lN (pc k))]) ⟨hx, hb, hml, hown, hts⟩ (c_X11_weight l G cy h b T np th kd dg k d (by omega) (by omega) (by omega) (by omega)) (cwV 2 hts gX11_volumeOf_X11_weight rfl rfl rfl (by decide +kernel) ⟨Nat.le_of_ble_eq_true rfl, Nat.le_of_ble_eq_true rfl⟩) (z_pV hK hP [0, 4, 5] rfl (ci := 12) (q0 := 0) rfl rfl rfl) rfl rfl hl.1 rfl (lv_room (Nat.le_of_ble_eq_true rfl)) dX11_volumeOf_35 ⟨Nat.le_of_ble_eq_true rfl, Nat.le_of_ble_eq_true rfl⟩).run (fun r_2 hr_2 => ?_)
    obtain rfl : r_2 = (nI (z_wt (kd k) (dg d))) := hr_2
    refine z_i2l hx hb (by have := z_wt_le (k := kd k) (hg d); omega) dX11_volumeOf_38 ?_
    refine z_lmul hx hb dX11_volumeOf_39 ?_
    refine lv_ldc2 (v := lN 1000) hx hb hown (hts _ (List.mem_of_getElem? (i := 4) (by decide +kernel))) dX11_volumeOf_40 ?_
    refine z_ldiv hx hb (by have h9 := Nat.mul_le_mul hpc (z_wt_le (k := kd k) (hg d)); omega) (by omega) (by omega) dX11_volumeOf_43 ?_
    refine z_l2i hx hb dX11_volumeOf_44 ?_
    exact z_rSi hx hb hr hlk dX11_volumeOf_45 (by rw [z_un, if_neg (by omega)])
  · refine lv_aload_n hx hb dX11_volumeOf_10 rfl (lv_at hl 0 rfl) ?_
    refine va_get (D := G) (ci := 12) (v := .ref (b 18)) (C := RX11) (T := TX11) (N := 33) hx hb hts in_X11_volumeOf_X11 hown hK hP 0 rfl rfl 18 (by decide) (hts _ (List.mem_of_getElem? (i := 2) (by decide +kernel))) (fun _ h9 => h9) rfl dX11_volumeOf_11 ?_
    refine lv_sipush (v := nI 1000) hx hb dX11_volumeOf_14 (by decide) ?_
    refine lv_iload_n hx hb dX11_volumeOf_17 rfl (lv_at hl 1 rfl) ?_
    refine z_imul hx hb dX11_volumeOf_18 ?_
    refine lv_iload_n hx hb dX11_volumeOf_19 rfl (lv_at hl 2 rfl) ?_
    refine z_iadd hx hb dX11_volumeOf_20 ?_
    refine z_iald (G := G) (v := (nI (vo ((1000 * k) + d)))) hx hb hK hP 2 rfl (by omega) rfl dX11_volumeOf_21 ?_
    refine lv_goto (tgt := 45) hx hb dX11_volumeOf_22 (by decide) ?_
    exact z_rSi hx hb hr hlk dX11_volumeOf_45 (by rw [z_un, if_pos (by omega)])
