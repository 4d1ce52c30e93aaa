/-! shows, isSpread, isWord -/
set_option maxHeartbeats 4000000 in
set_option maxRecDepth 100000 in
theorem c_L_shows (l : Launch) (G : va_G) (cy : Nat → ClassId) (dg : Nat) (h1 : 3 ≤ dg) (h2 : dg ≤ 6) : Met l yL_shows wsL_shows ({ frames := 0, cells := 0, slots := 0, locals := 0 }) (zS G cy [.int (nI dg)] []) (vp_Si (fun r => r = (nI (10 ^ dg)))) 0 0 (fun _ => False) := by
  refine z_ofS (cc := cL_shows) (maxL := 1) (ret := (some .int)) (by decide) rfl (Nat.le_of_ble_eq_true rfl) ?_
  intro p e s m below meth c ls hx hb hml hr hts hown hlk hP hK hl
  have hown : s.vm.findClass RL = some m.cls := hown
  have hl : lv_has ls 1 [(0, .int (nI dg))] := hl
  refine lv_iload_n hx hb dL_shows_0 rfl (lv_at hl 0 rfl) ?_
  refine lv_iconst (v := nI 3) hx hb dL_shows_1 (by decide) ?_
  refine z_icmp_ne hx hb (by omega) (by omega) dL_shows_2 (tgt := 11) (by decide) (fun c_1 => ?_) (fun c_1 => ?_)
  · refine lv_iload_n hx hb dL_shows_11 rfl (lv_at hl 0 rfl) ?_
    refine lv_iconst (v := nI 4) hx hb dL_shows_12 (by decide) ?_
    refine z_icmp_ne hx hb (by omega) (by omega) dL_shows_13 (tgt := 22) (by decide) (fun c_2 => ?_) (fun c_2 => ?_)
    · refine lv_iload_n hx hb dL_shows_22 rfl (lv_at hl 0 rfl) ?_
      refine lv_iconst (v := nI 5) hx hb dL_shows_23 (by decide) ?_
      refine z_icmp_ne hx hb (by omega) (by omega) dL_shows_24 (tgt := 32) (by decide) (fun c_3 => ?_) (fun c_3 => ?_)
      · refine lv_ldc (v := nI 1000000) hx hb hown (hts _ (List.mem_of_getElem? (i := 2) (by decide +kernel))) dL_shows_32 ?_
        exact z_rSi hx hb hr hlk dL_shows_34 (by rw [show dg = 6 by omega])
      · refine lv_ldc (v := nI 100000) hx hb hown (hts _ (List.mem_of_getElem? (i := 1) (by decide +kernel))) dL_shows_27 ?_
        refine lv_goto (tgt := 34) hx hb dL_shows_29 (by decide) ?_
        exact z_rSi hx hb hr hlk dL_shows_34 (by rw [show dg = 5 by omega])
    · refine lv_sipush (v := nI 10000) hx hb dL_shows_16 (by decide) ?_
      refine lv_goto (tgt := 34) hx hb dL_shows_19 (by decide) ?_
      exact z_rSi hx hb hr hlk dL_shows_34 (by rw [show dg = 4 by omega])
  · refine lv_sipush (v := nI 1000) hx hb dL_shows_5 (by decide) ?_
    refine lv_goto (tgt := 34) hx hb dL_shows_8 (by decide) ?_
    exact z_rSi hx hb hr hlk dL_shows_34 (by rw [show dg = 3 by omega])
set_option maxHeartbeats 4000000 in
set_option maxRecDepth 100000 in
theorem c_L_isSpread (l : Launch) (hl9 : l.stackTraces = false) (G : va_G) (cy : Nat → ClassId) (wd : Nat → Nat) (fo : Option Nat) (N0 sz0 : Nat) (a : Nat → Nat) (sg : zHo) (k x0 x1 U : Nat) (hO : zOk sg) (hkn : k < s_np sg) (h0 : q_fi (s_P sg k) ≤ x0) (h1 : x0 ≤ x1) (h2 : x1 ≤ q_la (s_P sg k)) (hU : z_sm (q_vo (s_P sg k)) x0 (x1 - x0) = U) (hU2 : U < 2 ^ 31) : Met l yL_isSpread wsL_isSpread ({ frames := 10, cells := 1800, slots := 18000, locals := 240 }) (zMH G cy wd fo N0 [.ref (a 0), .int (nI k), .int (nI x0), .int (nI x1), .int (nI U)] sz0 (zHs cy a sg)) (va_Qi (fun r s9 => r = nI 1 ∧ s9 = sg) (fun (u : zHo) t9 => zB G cy (va_A (zHs cy a sg) sz0) (zHs cy a u) t9) (va_A (zHs cy a sg) sz0)) 1800 18000 (va_A (zHs cy a sg) sz0) := by
  refine z_ofMN (cc := cL_isSpread) (maxL := 9) (ret := (some .boolean)) (Qc := (fun A => va_Qi (fun r s9 => r = nI 1 ∧ s9 = sg) (fun (u : zHo) t9 => zB G cy A (zHs cy a u) t9) A)) (by decide) rfl (Nat.le_of_ble_eq_true rfl) ?_
  intro p e s m below meth c ls A hx hb hml hr hts hown hlk hP hK hD hA hS hl hsz0 hN hAN hWd hE
  have hown : s.vm.findClass RL = some m.cls := hown
  have hl : lv_has ls 9 [(0, .ref (a 0)), (1, .int (nI k)), (2, .int (nI x0)), (3, .int (nI x1)), (4, .int (nI U))] := hl
  have hp := zOk_P hO hkn
  have hT9 := hO.1
  have hl9a := zPk_la hp
  have hf9a := zPk_con hp
  have hn9 := hO.2.1
  refine lv_lconst (v := lN 0) hx hb dL_isSpread_0 rfl ?_
  refine lv_lstore (lv' := [(5, .long (lN 0)), (0, .ref (a 0)), (1, .int (nI k)), (2, .int (nI x0)), (3, .int (nI x1)), (4, .int (nI U))]) hx hb dL_isSpread_1 hl (by decide) rfl (fun ls hl => ?_)
  refine lv_iconst (v := nI 1) hx hb dL_isSpread_3 (by decide) ?_
  refine lv_istore (lv' := [(7, .int (nI 1)), (5, .long (lN 0)), (0, .ref (a 0)), (1, .int (nI k)), (2, .int (nI x0)), (3, .int (nI x1)), (4, .int (nI U))]) hx hb dL_isSpread_4 hl (by decide) rfl (fun ls hl => ?_)
  refine lv_iload_n hx hb dL_isSpread_6 rfl (lv_at hl 4 rfl) ?_
  refine lv_istore (lv' := [(8, .int (nI x0)), (7, .int (nI 1)), (5, .long (lN 0)), (0, .ref (a 0)), (1, .int (nI k)), (2, .int (nI x0)), (3, .int (nI x1)), (4, .int (nI U))]) hx hb dL_isSpread_7 hl (by decide) rfl (fun ls hl => ?_)
  have hloop9 : ∀ (fuel9 : Nat) (j : Nat), (x0 + j ≤ x1) → (x1 - x0 - j) < fuel9 → ∀ (H : Heap) (locs : List Loc), va_P G vwCl (zHs cy a sg) H → va_D A (zHs cy a sg) → va_S A s.heap H locs → ∀ (ls : Array Slot), lv_has ls 9 [(0, .ref (a 0)), (1, .int (nI k)), (2, .int (nI x0)), (3, .int (nI x1)), (4, .int (nI U)), (5, .long (lN (z_sm (q_vo (s_P sg k)) x0 j))), (7, .int (nI 1)), (8, .int (nI (x0 + j)))] → W p l e { frames := 10, cells := 1800, slots := 18000, locals := 240 } s m [.ref (a 0), .int (nI k), .int (nI x0), .int (nI x1), .int (nI U)].toArray below meth c H locs (2 * j) (20 * j) (MQ below (va_Qi (fun r s9 => r = nI 1 ∧ s9 = sg) (fun (u : zHo) t9 => zB G cy A (zHs cy a u) t9) A) [.ref (a 0), .int (nI k), .int (nI x0), .int (nI x1), .int (nI U)].toArray s 1800 18000 A) (F0 m 9 ls []) := by
    intro fuel9
    induction fuel9 with
    | zero =>
      intro j hi9_0 hfu9
      exact absurd hfu9 (Nat.not_lt_zero _)
    | succ fuel9 ih9 =>
      intro j hi9_0 hfu9 H locs hP hD hS ls hl
      refine lv_iload hx hb dL_isSpread_9 (lv_at hl 7 rfl) ?_
      refine lv_iload_n hx hb dL_isSpread_11 rfl (lv_at hl 3 rfl) ?_
      refine z_icmp_ge hx hb (by omega) (by omega) dL_isSpread_12 (tgt := 69) (by decide) (fun c_1 => ?_) (fun c_1 => ?_)
      · have ej : j = x1 - x0 := by omega
        subst ej
        refine lv_iload hx hb dL_isSpread_69 (lv_at hl 6 rfl) ?_
        refine lv_if_eq hx hb dL_isSpread_71 (tgt := 87) (by decide) (fun q => absurd q (by decide)) (fun _ => ?_)
        refine lv_lload hx hb dL_isSpread_74 (lv_at hl 5 rfl) ?_
        refine lv_iload hx hb dL_isSpread_76 (lv_at hl 4 rfl) ?_
        refine z_i2l hx hb (by omega) dL_isSpread_78 ?_
        refine z_lcN_ne hx hb (by omega) (by omega) dL_isSpread_79 dL_isSpread_80 (tgt := 87) (by decide) (fun c_2 => ?_) (fun c_2 => ?_)
        · exfalso; omega
        · refine lv_iconst (v := nI 1) hx hb dL_isSpread_83 (by decide) ?_
          refine lv_goto (tgt := 88) hx hb dL_isSpread_84 (by decide) ?_
          exact z_rMz hx hb hr hlk (by rfl) dL_isSpread_88 sg (⟨rfl, rfl⟩) hP hD hK hS (by omega) (by omega)
      · refine lv_lload hx hb dL_isSpread_15 (lv_at hl 5 rfl) ?_
        refine lv_aload_n hx hb dL_isSpread_17 rfl (lv_at hl 0 rfl) ?_
        refine lv_iload_n hx hb dL_isSpread_18 rfl (lv_at hl 1 rfl) ?_
        refine lv_iload hx hb dL_isSpread_19 (lv_at hl 7 rfl) ?_
        have hP5 : va_P G vwCl ((zHs cy a sg) ++ []) _ := z_P_perm (z_permT (ww := []) (wu := []) (wr := []) (tl := (zHs cy a sg)) (n := 0) [] [] rfl rfl rfl (by decide)) hP
        have hD5 : va_D A ((zHs cy a sg) ++ []) := z_D_perm (z_permT (ww := []) (wu := []) (wr := []) (tl := (zHs cy a sg)) (n := 0) [] [] rfl rfl rfl (by decide)) hD
        refine z_ciP (wc := (zHs cy a sg)) (wr := []) (va_runV (As := [.int (nI k), .int (nI (x0 + j))]) (rest := [.long (lN (z_sm (q_vo (s_P sg k)) x0 j))]) ⟨hx, hb, hml, hown, hts⟩ (h_c_volume l hl9 G cy wd fo _ _ a sg k (hkn) (zOk_k8 hO hkn) (zOk_pt hO hkn) (hO.1) (x0 + j) (zPk_kd hp) (zOk_g hO) (by omega) (by omega) (by omega) (by have := zPk_pc hp; omega)) (cwV 2 hts gL_isSpread_X10_volume rfl rfl rfl (by decide +kernel) ⟨Nat.le_of_ble_eq_true rfl, Nat.le_of_ble_eq_true rfl⟩) (z_pVHP (ci := 11) hK hP5 hD5 hS hN hAN hWd hE rfl rfl 0 rfl) rfl rfl hl.1 rfl (lv_room (Nat.le_of_ble_eq_true rfl)) dL_isSpread_21 ⟨by show (2 * j) + 0 ≤ 1800; omega, by show (20 * j) + 0 ≤ 18000; omega⟩) hP5 hD5 hS hA (fun r_3 u H locs hr_3 hQ hD hS hz => ?_)
        obtain ⟨s9_4, rfl⟩ : ∃ z, z = u := ⟨_, rfl⟩
        try dsimp only at hr_3
        have hP : va_P G vwCl (zHs cy a s9_4) H := z_P_perm (List.Perm.symm (z_permT (ww := []) (wu := []) (wr := []) (tl := (zHs cy a s9_4)) (n := 0) [] [] rfl rfl rfl (by decide))) hQ
        have hD : va_D A (zHs cy a s9_4) := z_D_perm (List.Perm.symm (z_permT (ww := []) (wu := []) (wr := []) (tl := (zHs cy a s9_4)) (n := 0) [] [] rfl rfl rfl (by decide))) hD
        clear hQ hP5 hD5
        rw [hr_3.2] at hP hD
        have hvr_3 : (nI (z_un (q_la (s_P sg k)) (q_vo (s_P sg k)) (q_pc (s_P sg k)) (q_kd (s_P sg k)) (s_g sg) (x0 + j))) = (nI ((q_vo (s_P sg k)) (x0 + j))) := by rw [z_un, if_pos (by omega)]
        obtain rfl : r_3 = (nI ((q_vo (s_P sg k)) (x0 + j))) := hr_3.1.trans hvr_3
        refine z_i2l hx hb (by have := zPk_vo hp (x0 + j); omega) dL_isSpread_24 ?_
        refine z_ladd hx hb dL_isSpread_25 ?_
        refine lv_lstore (lv' := [(5, .long (lN ((z_sm (q_vo (s_P sg k)) x0 j) + ((q_vo (s_P sg k)) (x0 + j))))), (0, .ref (a 0)), (1, .int (nI k)), (2, .int (nI x0)), (3, .int (nI x1)), (4, .int (nI U)), (7, .int (nI 1)), (8, .int (nI (x0 + j)))]) hx hb dL_isSpread_26 hl (by decide) rfl (fun ls hl => ?_)
        refine lv_iload hx hb dL_isSpread_28 (lv_at hl 6 rfl) ?_
        refine lv_if_eq hx hb dL_isSpread_30 (tgt := 60) (by decide) (fun q => absurd q (by decide)) (fun _ => ?_)
        refine lv_aload_n hx hb dL_isSpread_33 rfl (lv_at hl 1 rfl) ?_
        refine lv_iload_n hx hb dL_isSpread_34 rfl (lv_at hl 2 rfl) ?_
        refine lv_iload hx hb dL_isSpread_35 (lv_at hl 7 rfl) ?_
        have hP5 : va_P G vwCl ((zHs cy a sg) ++ []) _ := z_P_perm (z_permT (ww := []) (wu := []) (wr := []) (tl := (zHs cy a sg)) (n := 0) [] [] rfl rfl rfl (by decide)) hP
        have hD5 : va_D A ((zHs cy a sg) ++ []) := z_D_perm (z_permT (ww := []) (wu := []) (wr := []) (tl := (zHs cy a sg)) (n := 0) [] [] rfl rfl rfl (by decide)) hD
        refine z_ciP (wc := (zHs cy a sg)) (wr := []) (va_runV (As := [.int (nI k), .int (nI (x0 + j))]) (rest := []) ⟨hx, hb, hml, hown, hts⟩ (h_c_volume l hl9 G cy wd fo _ _ a sg k (hkn) (zOk_k8 hO hkn) (zOk_pt hO hkn) (hO.1) (x0 + j) (zPk_kd hp) (zOk_g hO) (by omega) (by omega) (by omega) (by have := zPk_pc hp; omega)) (cwV 2 hts gL_isSpread_X10_volume rfl rfl rfl (by decide +kernel) ⟨Nat.le_of_ble_eq_true rfl, Nat.le_of_ble_eq_true rfl⟩) (z_pVHP (ci := 11) hK hP5 hD5 hS hN hAN hWd hE rfl rfl 0 rfl) rfl rfl hl.1 rfl (lv_room (Nat.le_of_ble_eq_true rfl)) dL_isSpread_37 ⟨by show (2 * j + 0) + 0 ≤ 1800; omega, by show (20 * j + 0) + 0 ≤ 18000; omega⟩) hP5 hD5 hS hA (fun r_5 u H locs hr_5 hQ hD hS hz => ?_)
        obtain ⟨s9_6, rfl⟩ : ∃ z, z = u := ⟨_, rfl⟩
        try dsimp only at hr_5
        have hP : va_P G vwCl (zHs cy a s9_6) H := z_P_perm (List.Perm.symm (z_permT (ww := []) (wu := []) (wr := []) (tl := (zHs cy a s9_6)) (n := 0) [] [] rfl rfl rfl (by decide))) hQ
        have hD : va_D A (zHs cy a s9_6) := z_D_perm (List.Perm.symm (z_permT (ww := []) (wu := []) (wr := []) (tl := (zHs cy a s9_6)) (n := 0) [] [] rfl rfl rfl (by decide))) hD
        clear hQ hP5 hD5
        rw [hr_5.2] at hP hD
        have hvr_5 : (nI (z_un (q_la (s_P sg k)) (q_vo (s_P sg k)) (q_pc (s_P sg k)) (q_kd (s_P sg k)) (s_g sg) (x0 + j))) = (nI ((q_vo (s_P sg k)) (x0 + j))) := by rw [z_un, if_pos (by omega)]
        obtain rfl : r_5 = (nI ((q_vo (s_P sg k)) (x0 + j))) := hr_5.1.trans hvr_5
        refine z_if_lt hx hb (by have := zPk_vo hp (x0 + j); omega) dL_isSpread_40 (tgt := 60) (by decide) ?_
        refine lv_aload_n hx hb dL_isSpread_43 rfl (lv_at hl 1 rfl) ?_
        refine lv_iload_n hx hb dL_isSpread_44 rfl (lv_at hl 2 rfl) ?_
        refine lv_iload hx hb dL_isSpread_45 (lv_at hl 7 rfl) ?_
        refine lv_iconst (v := nI 0) hx hb dL_isSpread_47 (by decide) ?_
        have hP5 : va_P G vwCl ((zHs cy a sg) ++ []) _ := z_P_perm (z_permT (ww := []) (wu := []) (wr := []) (tl := (zHs cy a sg)) (n := 0) [] [] rfl rfl rfl (by decide)) hP
        have hD5 : va_D A ((zHs cy a sg) ++ []) := z_D_perm (z_permT (ww := []) (wu := []) (wr := []) (tl := (zHs cy a sg)) (n := 0) [] [] rfl rfl rfl (by decide)) hD
        refine z_ciP (wc := (zHs cy a sg)) (wr := []) (va_runV (As := [.int (nI k), .int (nI (x0 + j)), .int (nI 0)]) (rest := []) ⟨hx, hb, hml, hown, hts⟩ (h_c_word l hl9 G cy wd fo _ _ a sg k (hkn) (zOk_k8 hO hkn) (zOk_pt hO hkn) (hO.1) (x0 + j) 0 (zPk_kd hp) (zOk_g hO) (by omega) (by omega) (by omega) (by have := zPk_pc hp; omega) (zPk_vo hp) ((zPk_su hp).1) (by omega)) (cwV 3 hts gL_isSpread_X10_word rfl rfl rfl (by decide +kernel) ⟨Nat.le_of_ble_eq_true rfl, Nat.le_of_ble_eq_true rfl⟩) (z_pVHP (ci := 11) hK hP5 hD5 hS hN hAN hWd hE rfl rfl 0 rfl) rfl rfl hl.1 rfl (lv_room (Nat.le_of_ble_eq_true rfl)) dL_isSpread_48 ⟨by show (2 * j + 0 + 0) + 2 ≤ 1800; omega, by show (20 * j + 0 + 0) + 20 ≤ 18000; omega⟩) hP5 hD5 hS hA (fun r_8 u H locs hr_8 hQ hD hS hz => ?_)
        obtain ⟨s9_9, rfl⟩ : ∃ z, z = u := ⟨_, rfl⟩
        try dsimp only at hr_8
        have hP : va_P G vwCl (zHs cy a s9_9) H := z_P_perm (List.Perm.symm (z_permT (ww := []) (wu := []) (wr := []) (tl := (zHs cy a s9_9)) (n := 0) [] [] rfl rfl rfl (by decide))) hQ
        have hD : va_D A (zHs cy a s9_9) := z_D_perm (List.Perm.symm (z_permT (ww := []) (wu := []) (wr := []) (tl := (zHs cy a s9_9)) (n := 0) [] [] rfl rfl rfl (by decide))) hD
        clear hQ hP5 hD5
        rw [hr_8.2] at hP hD
        have hvr_8 : (nI (z_sign (q_la (s_P sg k)) (z_un (q_la (s_P sg k)) (q_vo (s_P sg k)) (q_pc (s_P sg k)) (q_kd (s_P sg k)) (s_g sg) (x0 + j)) ((q_hg (s_P sg k)) (x0 + j)) (x0 + j) 0)) = (nI 109) := by rw [z_sign, if_pos rfl, if_pos (by omega)]
        obtain rfl : r_8 = (nI 109) := hr_8.1.trans hvr_8
        refine lv_bipush (v := nI 109) hx hb dL_isSpread_51 (by decide) ?_
        refine z_icmp_ne hx hb (by omega) (by omega) dL_isSpread_53 (tgt := 60) (by decide) (fun c_10 => ?_) (fun c_10 => ?_)
        · exfalso; omega
        · refine lv_iconst (v := nI 1) hx hb dL_isSpread_56 (by decide) ?_
          refine lv_goto (tgt := 61) hx hb dL_isSpread_57 (by decide) ?_
          refine lv_istore (lv' := [(7, .int (nI 1)), (5, .long (lN ((z_sm (q_vo (s_P sg k)) x0 j) + ((q_vo (s_P sg k)) (x0 + j))))), (0, .ref (a 0)), (1, .int (nI k)), (2, .int (nI x0)), (3, .int (nI x1)), (4, .int (nI U)), (8, .int (nI (x0 + j)))]) hx hb dL_isSpread_61 hl (by decide) rfl (fun ls hl => ?_)
          refine lv_iinc (v := (nI (x0 + j + 1))) (lv' := [(8, .int (nI (x0 + j + 1))), (7, .int (nI 1)), (5, .long (lN ((z_sm (q_vo (s_P sg k)) x0 j) + ((q_vo (s_P sg k)) (x0 + j))))), (0, .ref (a 0)), (1, .int (nI k)), (2, .int (nI x0)), (3, .int (nI x1)), (4, .int (nI U))]) hx hb dL_isSpread_63 hl (k := 7) rfl (nI_add _ _) (by decide) rfl (fun ls hl => ?_)
          refine lv_goto (tgt := 9) hx hb dL_isSpread_66 (by decide) ?_
          refine W.widen (k := 2 * (j + 1)) (n := 20 * (j + 1)) (by omega) (by omega) ?_
          exact ih9 (j + 1) (by omega) (by omega) _ _ hP hD hS _ (lv_sub hl [3, 4, 5, 6, 7, 2, 1, 0] rfl)
  refine W.widen (k := 2 * 0) (n := 20 * 0) (by omega) (by omega) ?_
  exact hloop9 (x1 - x0 - 0 + 1) 0 (by omega) (by omega) _ _ hP hD hS _ (lv_sub hl [3, 4, 5, 6, 7, 2, 1, 0] rfl)
