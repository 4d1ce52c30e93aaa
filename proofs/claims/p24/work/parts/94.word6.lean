/-! isWord -/
set_option maxHeartbeats 4000000 in
set_option maxRecDepth 100000 in
theorem c_L_isWord (l : Launch) (hl9 : l.stackTraces = false) (G : va_G) (cy : Nat → ClassId) (wd : Nat → Nat) (fo : Option Nat) (N0 sz0 : Nat) (a : Nat → Nat) (sg : zHo) (k d b9 : Nat) (hO : zOk sg) (hkn : k < s_np sg) (h0 : q_fi (s_P sg k) ≤ d) (h1 : d < s_T sg) (hb9 : b9 = if d < q_la (s_P sg k) then 1 else 0) : Met l yL_isWord wsL_isWord ({ frames := 10, cells := 80, slots := 800, locals := 240 }) (zMH G cy wd fo N0 [.ref (a 0), .int (nI k), .int (nI d), .int (nI b9)] sz0 (zHs cy a sg)) (va_Qi (fun r s9 => r = nI 1 ∧ zSame sg s9) (fun (u : zHo) t9 => zB G cy (va_A (zHs cy a sg) sz0) (zHs cy a u) t9) (va_A (zHs cy a sg) sz0)) 80 800 (va_A (zHs cy a sg) sz0) := by
  refine z_ofMN (cc := cL_isWord) (maxL := 7) (ret := (some .boolean)) (Qc := (fun A => va_Qi (fun r s9 => r = nI 1 ∧ zSame sg s9) (fun (u : zHo) t9 => zB G cy A (zHs cy a u) t9) A)) (by decide) rfl (Nat.le_of_ble_eq_true rfl) ?_
  intro p e s m below meth c ls A hx hb hml hr hts hown hlk hP hK hD hA hS hl hsz0 hN hAN hWd hE
  have hown : s.vm.findClass RL = some m.cls := hown
  have hl : lv_has ls 7 [(0, .ref (a 0)), (1, .int (nI k)), (2, .int (nI d)), (3, .int (nI b9))] := hl
  have hp := zOk_P hO hkn
  have hT9 := hO.1
  have hl9a := zPk_la hp
  have hf9a := zPk_con hp
  have hn9 := hO.2.1
  obtain ⟨u9, hu9⟩ : ∃ u9, u9 = z_un (q_la (s_P sg k)) (q_vo (s_P sg k)) (q_pc (s_P sg k)) (q_kd (s_P sg k)) (s_g sg) d := ⟨_, rfl⟩
  have hU9 : u9 ≤ 190000000 := by rw [hu9]; exact z_un_le (zPk_vo hp d) (zPk_pc hp) (zOk_g hO d)
  obtain ⟨D9, hD9, hD1, hD2, hD3, hD4⟩ := z_dg_b hU9
  have hsp : q_hg (s_P sg k) d < 4 := (zPk_su hp).1 d
  refine lv_iconst (v := nI 0) hx hb dL_isWord_0 (by decide) ?_
  refine lv_istore (lv' := [(4, .int (nI 0)), (0, .ref (a 0)), (1, .int (nI k)), (2, .int (nI d)), (3, .int (nI b9))]) hx hb dL_isWord_1 hl (by decide) rfl (fun ls hl => ?_)
  refine lv_iconst (v := nI 1) hx hb dL_isWord_3 (by decide) ?_
  refine lv_istore (lv' := [(5, .int (nI 1)), (4, .int (nI 0)), (0, .ref (a 0)), (1, .int (nI k)), (2, .int (nI d)), (3, .int (nI b9))]) hx hb dL_isWord_4 hl (by decide) rfl (fun ls hl => ?_)
  have hloop6 : ∀ (fuel6 : Nat) (i : Nat) (nv : Nat), (i ≤ D9) → (nv = u9 / 10 ^ (D9 - i)) → (D9 - i) < fuel6 → ∀ (H : Heap) (locs : List Loc), va_P G vwCl (zHs cy a sg) H → va_D A (zHs cy a sg) → va_S A s.heap H locs → ∀ (ls : Array Slot), lv_has ls 7 [(0, .ref (a 0)), (1, .int (nI k)), (2, .int (nI d)), (3, .int (nI b9)), (4, .int (nI nv)), (5, .int (nI (1 + i)))] → W p l e { frames := 10, cells := 80, slots := 800, locals := 240 } s m [.ref (a 0), .int (nI k), .int (nI d), .int (nI b9)].toArray below meth c H locs (6 * i) (60 * i) (MQ below (va_Qi (fun r s9 => r = nI 1 ∧ zSame sg s9) (fun (u : zHo) t9 => zB G cy A (zHs cy a u) t9) A) [.ref (a 0), .int (nI k), .int (nI d), .int (nI b9)].toArray s 80 800 A) (F0 m 6 ls []) := by
    intro fuel6
    induction fuel6 with
    | zero =>
      intro i nv hi6_0 hi6_1 hfu6
      exact absurd hfu6 (Nat.not_lt_zero _)
    | succ fuel6 ih6 =>
      intro i nv hi6_0 hi6_1 hfu6 H locs hP hD hS ls hl
      rcases (show i < D9 ∨ i = D9 by omega) with hi9 | hi9
      · refine lv_aload_n hx hb dL_isWord_6 rfl (lv_at hl 0 rfl) ?_
        refine lv_iload_n hx hb dL_isWord_7 rfl (lv_at hl 1 rfl) ?_
        refine lv_iload_n hx hb dL_isWord_8 rfl (lv_at hl 2 rfl) ?_
        refine lv_iload hx hb dL_isWord_9 (lv_at hl 5 rfl) ?_
        have hP5 : va_P G vwCl ((zHs cy a sg) ++ []) _ := z_P_perm (z_permT (ww := []) (wu := []) (wr := []) (tl := (zHs cy a sg)) (n := 0) [] [] rfl rfl rfl (by decide)) hP
        have hD5 : va_D A ((zHs cy a sg) ++ []) := z_D_perm (z_permT (ww := []) (wu := []) (wr := []) (tl := (zHs cy a sg)) (n := 0) [] [] rfl rfl rfl (by decide)) hD
        refine z_ciP (wc := (zHs cy a sg)) (wr := []) (va_runV (As := [.int (nI k), .int (nI d), .int (nI (1 + i))]) (rest := []) ⟨hx, hb, hml, hown, hts⟩ (h_c_word l hl9 G cy wd fo _ _ a sg k (hkn) (zOk_k8 hO hkn) (zOk_pt hO hkn) (hO.1) d (1 + i) (zPk_kd hp) (zOk_g hO) (h1) (h0) (by omega) (zPk_pc hp) (zPk_vo hp) ((zPk_su hp).1) (by omega)) (cwV 3 hts gL_isWord_X10_word rfl rfl rfl (by decide +kernel) ⟨Nat.le_of_ble_eq_true rfl, Nat.le_of_ble_eq_true rfl⟩) (z_pVHP (ci := 11) hK hP5 hD5 hS hN hAN hWd hE rfl rfl 0 rfl) rfl rfl hl.1 rfl (lv_room (Nat.le_of_ble_eq_true rfl)) dL_isWord_11 ⟨by show (6 * i) + 2 ≤ 80; omega, by show (60 * i) + 20 ≤ 800; omega⟩) hP5 hD5 hS hA (fun r_1 u H locs hr_1 hQ hD hS hz => ?_)
        obtain ⟨s9_2, rfl⟩ : ∃ z, z = u := ⟨_, rfl⟩
        try dsimp only at hr_1
        have hP : va_P G vwCl (zHs cy a s9_2) H := z_P_perm (List.Perm.symm (z_permT (ww := []) (wu := []) (wr := []) (tl := (zHs cy a s9_2)) (n := 0) [] [] rfl rfl rfl (by decide))) hQ
        have hD : va_D A (zHs cy a s9_2) := z_D_perm (List.Perm.symm (z_permT (ww := []) (wu := []) (wr := []) (tl := (zHs cy a s9_2)) (n := 0) [] [] rfl rfl rfl (by decide))) hD
        clear hQ hP5 hD5
        rw [hr_1.2] at hP hD
        have hvr_1 : (nI (z_sign (q_la (s_P sg k)) (z_un (q_la (s_P sg k)) (q_vo (s_P sg k)) (q_pc (s_P sg k)) (q_kd (s_P sg k)) (s_g sg) d) ((q_hg (s_P sg k)) d) d (1 + i))) = (nI (48 + u9 / 10 ^ (D9 - (1 + i)) % 10)) := by show nI (z_sign (q_la (s_P sg k)) (z_un (q_la (s_P sg k)) (q_vo (s_P sg k)) (q_pc (s_P sg k)) (q_kd (s_P sg k)) (s_g sg) d) (q_hg (s_P sg k) d) d (1 + i)) = _; rw [← hu9, z_sign, ← hD9]; rw [if_neg (by omega), if_pos (by omega)]
        obtain rfl : r_1 = (nI (48 + u9 / 10 ^ (D9 - (1 + i)) % 10)) := hr_1.1.trans hvr_1
        refine lv_bipush (v := nI 48) hx hb dL_isWord_14 (by decide) ?_
        refine z_icmp_lt hx hb (by omega) (by omega) dL_isWord_16 (tgt := 64) (by decide) (fun c_3 => ?_) (fun c_3 => ?_)
        · exfalso; omega
        · refine lv_aload_n hx hb dL_isWord_19 rfl (lv_at hl 0 rfl) ?_
          refine lv_iload_n hx hb dL_isWord_20 rfl (lv_at hl 1 rfl) ?_
          refine lv_iload_n hx hb dL_isWord_21 rfl (lv_at hl 2 rfl) ?_
          refine lv_iload hx hb dL_isWord_22 (lv_at hl 5 rfl) ?_
          have hP5 : va_P G vwCl ((zHs cy a sg) ++ []) _ := z_P_perm (z_permT (ww := []) (wu := []) (wr := []) (tl := (zHs cy a sg)) (n := 0) [] [] rfl rfl rfl (by decide)) hP
          have hD5 : va_D A ((zHs cy a sg) ++ []) := z_D_perm (z_permT (ww := []) (wu := []) (wr := []) (tl := (zHs cy a sg)) (n := 0) [] [] rfl rfl rfl (by decide)) hD
          refine z_ciP (wc := (zHs cy a sg)) (wr := []) (va_runV (As := [.int (nI k), .int (nI d), .int (nI (1 + i))]) (rest := []) ⟨hx, hb, hml, hown, hts⟩ (h_c_word l hl9 G cy wd fo _ _ a sg k (hkn) (zOk_k8 hO hkn) (zOk_pt hO hkn) (hO.1) d (1 + i) (zPk_kd hp) (zOk_g hO) (h1) (h0) (by omega) (zPk_pc hp) (zPk_vo hp) ((zPk_su hp).1) (by omega)) (cwV 3 hts gL_isWord_X10_word rfl rfl rfl (by decide +kernel) ⟨Nat.le_of_ble_eq_true rfl, Nat.le_of_ble_eq_true rfl⟩) (z_pVHP (ci := 11) hK hP5 hD5 hS hN hAN hWd hE rfl rfl 0 rfl) rfl rfl hl.1 rfl (lv_room (Nat.le_of_ble_eq_true rfl)) dL_isWord_24 ⟨by show (6 * i + 2) + 2 ≤ 80; omega, by show (60 * i + 20) + 20 ≤ 800; omega⟩) hP5 hD5 hS hA (fun r_4 u H locs hr_4 hQ hD hS hz => ?_)
          obtain ⟨s9_5, rfl⟩ : ∃ z, z = u := ⟨_, rfl⟩
          try dsimp only at hr_4
          have hP : va_P G vwCl (zHs cy a s9_5) H := z_P_perm (List.Perm.symm (z_permT (ww := []) (wu := []) (wr := []) (tl := (zHs cy a s9_5)) (n := 0) [] [] rfl rfl rfl (by decide))) hQ
          have hD : va_D A (zHs cy a s9_5) := z_D_perm (List.Perm.symm (z_permT (ww := []) (wu := []) (wr := []) (tl := (zHs cy a s9_5)) (n := 0) [] [] rfl rfl rfl (by decide))) hD
          clear hQ hP5 hD5
          rw [hr_4.2] at hP hD
          have hvr_4 : (nI (z_sign (q_la (s_P sg k)) (z_un (q_la (s_P sg k)) (q_vo (s_P sg k)) (q_pc (s_P sg k)) (q_kd (s_P sg k)) (s_g sg) d) ((q_hg (s_P sg k)) d) d (1 + i))) = (nI (48 + u9 / 10 ^ (D9 - (1 + i)) % 10)) := by show nI (z_sign (q_la (s_P sg k)) (z_un (q_la (s_P sg k)) (q_vo (s_P sg k)) (q_pc (s_P sg k)) (q_kd (s_P sg k)) (s_g sg) d) (q_hg (s_P sg k) d) d (1 + i)) = _; rw [← hu9, z_sign, ← hD9]; rw [if_neg (by omega), if_pos (by omega)]
          obtain rfl : r_4 = (nI (48 + u9 / 10 ^ (D9 - (1 + i)) % 10)) := hr_4.1.trans hvr_4
          refine lv_bipush (v := nI 57) hx hb dL_isWord_27 (by decide) ?_
          refine z_icmp_gt hx hb (by omega) (by omega) dL_isWord_29 (tgt := 64) (by decide) (fun c_6 => ?_) (fun c_6 => ?_)
          · exfalso; omega
          · refine lv_iload hx hb dL_isWord_32 (lv_at hl 5 rfl) ?_
            refine lv_bipush (v := nI 12) hx hb dL_isWord_34 (by decide) ?_
            refine z_icmp_ge hx hb (by omega) (by omega) dL_isWord_36 (tgt := 64) (by decide) (fun c_7 => ?_) (fun c_7 => ?_)
            · exfalso; omega
            · refine lv_bipush (v := nI 10) hx hb dL_isWord_39 (by decide) ?_
              refine lv_iload hx hb dL_isWord_41 (lv_at hl 4 rfl) ?_
              refine z_imul hx hb dL_isWord_43 ?_
              refine lv_aload_n hx hb dL_isWord_44 rfl (lv_at hl 0 rfl) ?_
              refine lv_iload_n hx hb dL_isWord_45 rfl (lv_at hl 1 rfl) ?_
              refine lv_iload_n hx hb dL_isWord_46 rfl (lv_at hl 2 rfl) ?_
              refine lv_iload hx hb dL_isWord_47 (lv_at hl 5 rfl) ?_
              have hP5 : va_P G vwCl ((zHs cy a sg) ++ []) _ := z_P_perm (z_permT (ww := []) (wu := []) (wr := []) (tl := (zHs cy a sg)) (n := 0) [] [] rfl rfl rfl (by decide)) hP
              have hD5 : va_D A ((zHs cy a sg) ++ []) := z_D_perm (z_permT (ww := []) (wu := []) (wr := []) (tl := (zHs cy a sg)) (n := 0) [] [] rfl rfl rfl (by decide)) hD
              refine z_ciP (wc := (zHs cy a sg)) (wr := []) (va_runV (As := [.int (nI k), .int (nI d), .int (nI (1 + i))]) (rest := [.int (nI (10 * nv))]) ⟨hx, hb, hml, hown, hts⟩ (h_c_word l hl9 G cy wd fo _ _ a sg k (hkn) (zOk_k8 hO hkn) (zOk_pt hO hkn) (hO.1) d (1 + i) (zPk_kd hp) (zOk_g hO) (h1) (h0) (by omega) (zPk_pc hp) (zPk_vo hp) ((zPk_su hp).1) (by omega)) (cwV 3 hts gL_isWord_X10_word rfl rfl rfl (by decide +kernel) ⟨Nat.le_of_ble_eq_true rfl, Nat.le_of_ble_eq_true rfl⟩) (z_pVHP (ci := 11) hK hP5 hD5 hS hN hAN hWd hE rfl rfl 0 rfl) rfl rfl hl.1 rfl (lv_room (Nat.le_of_ble_eq_true rfl)) dL_isWord_49 ⟨by show (6 * i + 2 + 2) + 2 ≤ 80; omega, by show (60 * i + 20 + 20) + 20 ≤ 800; omega⟩) hP5 hD5 hS hA (fun r_8 u H locs hr_8 hQ hD hS hz => ?_)
              obtain ⟨s9_9, rfl⟩ : ∃ z, z = u := ⟨_, rfl⟩
              try dsimp only at hr_8
              have hP : va_P G vwCl (zHs cy a s9_9) H := z_P_perm (List.Perm.symm (z_permT (ww := []) (wu := []) (wr := []) (tl := (zHs cy a s9_9)) (n := 0) [] [] rfl rfl rfl (by decide))) hQ
              have hD : va_D A (zHs cy a s9_9) := z_D_perm (List.Perm.symm (z_permT (ww := []) (wu := []) (wr := []) (tl := (zHs cy a s9_9)) (n := 0) [] [] rfl rfl rfl (by decide))) hD
              clear hQ hP5 hD5
              rw [hr_8.2] at hP hD
              have hvr_8 : (nI (z_sign (q_la (s_P sg k)) (z_un (q_la (s_P sg k)) (q_vo (s_P sg k)) (q_pc (s_P sg k)) (q_kd (s_P sg k)) (s_g sg) d) ((q_hg (s_P sg k)) d) d (1 + i))) = (nI (48 + u9 / 10 ^ (D9 - (1 + i)) % 10)) := by show nI (z_sign (q_la (s_P sg k)) (z_un (q_la (s_P sg k)) (q_vo (s_P sg k)) (q_pc (s_P sg k)) (q_kd (s_P sg k)) (s_g sg) d) (q_hg (s_P sg k) d) d (1 + i)) = _; rw [← hu9, z_sign, ← hD9]; rw [if_neg (by omega), if_pos (by omega)]
              obtain rfl : r_8 = (nI (48 + u9 / 10 ^ (D9 - (1 + i)) % 10)) := hr_8.1.trans hvr_8
              refine z_iadd hx hb dL_isWord_52 ?_
              refine lv_bipush (v := nI 48) hx hb dL_isWord_53 (by decide) ?_
              refine z_isub hx hb (by omega) dL_isWord_55 ?_
              refine lv_istore (lv' := [(4, .int (nI (((10 * nv) + (48 + u9 / 10 ^ (D9 - (1 + i)) % 10)) - 48))), (0, .ref (a 0)), (1, .int (nI k)), (2, .int (nI d)), (3, .int (nI b9)), (5, .int (nI (1 + i)))]) hx hb dL_isWord_56 hl (by decide) rfl (fun ls hl => ?_)
              refine lv_iinc (v := (nI (1 + i + 1))) (lv' := [(5, .int (nI (1 + i + 1))), (4, .int (nI (((10 * nv) + (48 + u9 / 10 ^ (D9 - (1 + i)) % 10)) - 48))), (0, .ref (a 0)), (1, .int (nI k)), (2, .int (nI d)), (3, .int (nI b9))]) hx hb dL_isWord_58 hl (k := 5) rfl (nI_add _ _) (by decide) rfl (fun ls hl => ?_)
              refine lv_goto (tgt := 6) hx hb dL_isWord_61 (by decide) ?_
              refine W.widen (k := 6 * (i + 1)) (n := 60 * (i + 1)) (by omega) (by omega) ?_
              exact ih6 (i + 1) (((10 * nv) + (48 + u9 / 10 ^ (D9 - (1 + i)) % 10)) - 48) (by omega) (z_dgs hi9 hi6_1) (by omega) _ _ hP hD hS _ (lv_sub hl [2, 3, 4, 5, 1, 0] rfl)
      · refine lv_aload_n hx hb dL_isWord_6 rfl (lv_at hl 0 rfl) ?_
        refine lv_iload_n hx hb dL_isWord_7 rfl (lv_at hl 1 rfl) ?_
        refine lv_iload_n hx hb dL_isWord_8 rfl (lv_at hl 2 rfl) ?_
        refine lv_iload hx hb dL_isWord_9 (lv_at hl 5 rfl) ?_
        have hP5 : va_P G vwCl ((zHs cy a sg) ++ []) _ := z_P_perm (z_permT (ww := []) (wu := []) (wr := []) (tl := (zHs cy a sg)) (n := 0) [] [] rfl rfl rfl (by decide)) hP
        have hD5 : va_D A ((zHs cy a sg) ++ []) := z_D_perm (z_permT (ww := []) (wu := []) (wr := []) (tl := (zHs cy a sg)) (n := 0) [] [] rfl rfl rfl (by decide)) hD
        refine z_ciP (wc := (zHs cy a sg)) (wr := []) (va_runV (As := [.int (nI k), .int (nI d), .int (nI (1 + i))]) (rest := []) ⟨hx, hb, hml, hown, hts⟩ (h_c_word l hl9 G cy wd fo _ _ a sg k (hkn) (zOk_k8 hO hkn) (zOk_pt hO hkn) (hO.1) d (1 + i) (zPk_kd hp) (zOk_g hO) (h1) (h0) (by omega) (zPk_pc hp) (zPk_vo hp) ((zPk_su hp).1) (by omega)) (cwV 3 hts gL_isWord_X10_word rfl rfl rfl (by decide +kernel) ⟨Nat.le_of_ble_eq_true rfl, Nat.le_of_ble_eq_true rfl⟩) (z_pVHP (ci := 11) hK hP5 hD5 hS hN hAN hWd hE rfl rfl 0 rfl) rfl rfl hl.1 rfl (lv_room (Nat.le_of_ble_eq_true rfl)) dL_isWord_11 ⟨by show (6 * i) + 2 ≤ 80; omega, by show (60 * i) + 20 ≤ 800; omega⟩) hP5 hD5 hS hA (fun r_10 u H locs hr_10 hQ hD hS hz => ?_)
        obtain ⟨s9_11, rfl⟩ : ∃ z, z = u := ⟨_, rfl⟩
        try dsimp only at hr_10
        have hP : va_P G vwCl (zHs cy a s9_11) H := z_P_perm (List.Perm.symm (z_permT (ww := []) (wu := []) (wr := []) (tl := (zHs cy a s9_11)) (n := 0) [] [] rfl rfl rfl (by decide))) hQ
        have hD : va_D A (zHs cy a s9_11) := z_D_perm (List.Perm.symm (z_permT (ww := []) (wu := []) (wr := []) (tl := (zHs cy a s9_11)) (n := 0) [] [] rfl rfl rfl (by decide))) hD
        clear hQ hP5 hD5
        rw [hr_10.2] at hP hD
        have hvr_10 : (nI (z_sign (q_la (s_P sg k)) (z_un (q_la (s_P sg k)) (q_vo (s_P sg k)) (q_pc (s_P sg k)) (q_kd (s_P sg k)) (s_g sg) d) ((q_hg (s_P sg k)) d) d (1 + i))) = (nI 47) := by show nI (z_sign (q_la (s_P sg k)) (z_un (q_la (s_P sg k)) (q_vo (s_P sg k)) (q_pc (s_P sg k)) (q_kd (s_P sg k)) (s_g sg) d) (q_hg (s_P sg k) d) d (1 + i)) = _; rw [← hu9, z_sign, ← hD9]; rw [if_neg (by omega), if_neg (by omega), if_pos (by omega)]
        obtain rfl : r_10 = (nI 47) := hr_10.1.trans hvr_10
        refine lv_bipush (v := nI 48) hx hb dL_isWord_14 (by decide) ?_
        refine z_icmp_lt hx hb (by omega) (by omega) dL_isWord_16 (tgt := 64) (by decide) (fun c_12 => ?_) (fun c_12 => ?_)
        · have hnv : nv = u9 := by rw [hi6_1, hi9, Nat.sub_self, Nat.pow_zero, Nat.div_one]
          subst hnv
          subst hi9
          refine lv_aload_n hx hb dL_isWord_64 rfl (lv_at hl 0 rfl) ?_
          refine lv_iload_n hx hb dL_isWord_65 rfl (lv_at hl 1 rfl) ?_
          refine lv_iload_n hx hb dL_isWord_66 rfl (lv_at hl 2 rfl) ?_
          refine lv_iload hx hb dL_isWord_67 (lv_at hl 5 rfl) ?_
          refine lv_iconst (v := nI 2) hx hb dL_isWord_69 (by decide) ?_
          refine z_iadd hx hb dL_isWord_70 ?_
          have hP5 : va_P G vwCl ((zHs cy a sg) ++ []) _ := z_P_perm (z_permT (ww := []) (wu := []) (wr := []) (tl := (zHs cy a sg)) (n := 0) [] [] rfl rfl rfl (by decide)) hP
          have hD5 : va_D A ((zHs cy a sg) ++ []) := z_D_perm (z_permT (ww := []) (wu := []) (wr := []) (tl := (zHs cy a sg)) (n := 0) [] [] rfl rfl rfl (by decide)) hD
          refine z_ciP (wc := (zHs cy a sg)) (wr := []) (va_runV (As := [.int (nI k), .int (nI d), .int (nI ((1 + i) + 2))]) (rest := []) ⟨hx, hb, hml, hown, hts⟩ (h_c_word l hl9 G cy wd fo _ _ a sg k (hkn) (zOk_k8 hO hkn) (zOk_pt hO hkn) (hO.1) d ((1 + i) + 2) (zPk_kd hp) (zOk_g hO) (h1) (h0) (by omega) (zPk_pc hp) (zPk_vo hp) ((zPk_su hp).1) (by omega)) (cwV 3 hts gL_isWord_X10_word rfl rfl rfl (by decide +kernel) ⟨Nat.le_of_ble_eq_true rfl, Nat.le_of_ble_eq_true rfl⟩) (z_pVHP (ci := 11) hK hP5 hD5 hS hN hAN hWd hE rfl rfl 0 rfl) rfl rfl hl.1 rfl (lv_room (Nat.le_of_ble_eq_true rfl)) dL_isWord_71 ⟨by show (6 * i + 2) + 2 ≤ 80; omega, by show (60 * i + 20) + 20 ≤ 800; omega⟩) hP5 hD5 hS hA (fun r_13 u H locs hr_13 hQ hD hS hz => ?_)
          obtain ⟨s9_14, rfl⟩ : ∃ z, z = u := ⟨_, rfl⟩
          try dsimp only at hr_13
          have hP : va_P G vwCl (zHs cy a s9_14) H := z_P_perm (List.Perm.symm (z_permT (ww := []) (wu := []) (wr := []) (tl := (zHs cy a s9_14)) (n := 0) [] [] rfl rfl rfl (by decide))) hQ
          have hD : va_D A (zHs cy a s9_14) := z_D_perm (List.Perm.symm (z_permT (ww := []) (wu := []) (wr := []) (tl := (zHs cy a s9_14)) (n := 0) [] [] rfl rfl rfl (by decide))) hD
          clear hQ hP5 hD5
          rw [hr_13.2] at hP hD
          have hvr_13 : (nI (z_sign (q_la (s_P sg k)) (z_un (q_la (s_P sg k)) (q_vo (s_P sg k)) (q_pc (s_P sg k)) (q_kd (s_P sg k)) (s_g sg) d) ((q_hg (s_P sg k)) d) d ((1 + i) + 2))) = (nI (48 + q_hg (s_P sg k) d)) := by show nI (z_sign (q_la (s_P sg k)) (z_un (q_la (s_P sg k)) (q_vo (s_P sg k)) (q_pc (s_P sg k)) (q_kd (s_P sg k)) (s_g sg) d) (q_hg (s_P sg k) d) d (1 + i + 2)) = _; rw [← hu9, z_sign, ← hD9]; rw [if_neg (by omega), if_neg (by omega), if_neg (by omega), if_neg (by omega), if_pos (by omega)]
          obtain rfl : r_13 = (nI (48 + q_hg (s_P sg k) d)) := hr_13.1.trans hvr_13
          refine lv_bipush (v := nI 48) hx hb dL_isWord_74 (by decide) ?_
          refine z_isub hx hb (by omega) dL_isWord_76 ?_
          refine lv_istore (lv' := [(6, .int (nI ((48 + q_hg (s_P sg k) d) - 48))), (0, .ref (a 0)), (1, .int (nI k)), (2, .int (nI d)), (3, .int (nI b9)), (4, .int (nI nv)), (5, .int (nI (1 + i)))]) hx hb dL_isWord_77 hl (by decide) rfl (fun ls hl => ?_)
          refine lv_aload_n hx hb dL_isWord_79 rfl (lv_at hl 1 rfl) ?_
          refine lv_iload_n hx hb dL_isWord_80 rfl (lv_at hl 2 rfl) ?_
          refine lv_iload_n hx hb dL_isWord_81 rfl (lv_at hl 3 rfl) ?_
          refine lv_iconst (v := nI 0) hx hb dL_isWord_82 (by decide) ?_
          have hP5 : va_P G vwCl ((zHs cy a sg) ++ []) _ := z_P_perm (z_permT (ww := []) (wu := []) (wr := []) (tl := (zHs cy a sg)) (n := 0) [] [] rfl rfl rfl (by decide)) hP
          have hD5 : va_D A ((zHs cy a sg) ++ []) := z_D_perm (z_permT (ww := []) (wu := []) (wr := []) (tl := (zHs cy a sg)) (n := 0) [] [] rfl rfl rfl (by decide)) hD
          refine z_ciP (wc := (zHs cy a sg)) (wr := []) (va_runV (As := [.int (nI k), .int (nI d), .int (nI 0)]) (rest := []) ⟨hx, hb, hml, hown, hts⟩ (h_c_word l hl9 G cy wd fo _ _ a sg k (hkn) (zOk_k8 hO hkn) (zOk_pt hO hkn) (hO.1) d 0 (zPk_kd hp) (zOk_g hO) (h1) (h0) (by omega) (zPk_pc hp) (zPk_vo hp) ((zPk_su hp).1) (by omega)) (cwV 3 hts gL_isWord_X10_word rfl rfl rfl (by decide +kernel) ⟨Nat.le_of_ble_eq_true rfl, Nat.le_of_ble_eq_true rfl⟩) (z_pVHP (ci := 11) hK hP5 hD5 hS hN hAN hWd hE rfl rfl 0 rfl) rfl rfl hl.1 rfl (lv_room (Nat.le_of_ble_eq_true rfl)) dL_isWord_83 ⟨by show (6 * i + 2 + 2) + 2 ≤ 80; omega, by show (60 * i + 20 + 20) + 20 ≤ 800; omega⟩) hP5 hD5 hS hA (fun r_15 u H locs hr_15 hQ hD hS hz => ?_)
          obtain ⟨s9_16, rfl⟩ : ∃ z, z = u := ⟨_, rfl⟩
          try dsimp only at hr_15
          have hP : va_P G vwCl (zHs cy a s9_16) H := z_P_perm (List.Perm.symm (z_permT (ww := []) (wu := []) (wr := []) (tl := (zHs cy a s9_16)) (n := 0) [] [] rfl rfl rfl (by decide))) hQ
          have hD : va_D A (zHs cy a s9_16) := z_D_perm (List.Perm.symm (z_permT (ww := []) (wu := []) (wr := []) (tl := (zHs cy a s9_16)) (n := 0) [] [] rfl rfl rfl (by decide))) hD
          clear hQ hP5 hD5
          rw [hr_15.2] at hP hD
          have hvr_15 : (nI (z_sign (q_la (s_P sg k)) (z_un (q_la (s_P sg k)) (q_vo (s_P sg k)) (q_pc (s_P sg k)) (q_kd (s_P sg k)) (s_g sg) d) ((q_hg (s_P sg k)) d) d 0)) = (nI (if d < q_la (s_P sg k) then 109 else 101)) := by show nI (z_sign (q_la (s_P sg k)) (z_un (q_la (s_P sg k)) (q_vo (s_P sg k)) (q_pc (s_P sg k)) (q_kd (s_P sg k)) (s_g sg) d) (q_hg (s_P sg k) d) d 0) = _; rw [← hu9, z_sign, ← hD9]; rw [if_pos rfl]
          obtain rfl : r_15 = (nI (if d < q_la (s_P sg k) then 109 else 101)) := hr_15.1.trans hvr_15
          by_cases hc : d < q_la (s_P sg k)
          · have hb1 : b9 = 1 := by rw [hb9, if_pos hc]
            subst hb1
            rw [if_pos hc]
            refine lv_iload_n hx hb dL_isWord_86 rfl (lv_at hl 4 rfl) ?_
            refine lv_if_eq hx hb dL_isWord_87 (tgt := 95) (by decide) (fun q => absurd q (by decide)) (fun _ => ?_)
            refine lv_bipush (v := nI 109) hx hb dL_isWord_90 (by decide) ?_
            refine lv_goto (tgt := 97) hx hb dL_isWord_92 (by decide) ?_
            refine z_icmp_ne hx hb (by omega) (by omega) dL_isWord_97 (tgt := 211) (by decide) (fun c_17 => ?_) (fun c_17 => ?_)
            · exfalso; omega
            · refine lv_iload hx hb dL_isWord_100 (lv_at hl 5 rfl) ?_
              refine lv_aload_n hx hb dL_isWord_102 rfl (lv_at hl 1 rfl) ?_
              refine lv_iload_n hx hb dL_isWord_103 rfl (lv_at hl 2 rfl) ?_
              refine lv_iload_n hx hb dL_isWord_104 rfl (lv_at hl 3 rfl) ?_
              have hP5 : va_P G vwCl ((zHs cy a sg) ++ []) _ := z_P_perm (z_permT (ww := []) (wu := []) (wr := []) (tl := (zHs cy a sg)) (n := 0) [] [] rfl rfl rfl (by decide)) hP
              have hD5 : va_D A ((zHs cy a sg) ++ []) := z_D_perm (z_permT (ww := []) (wu := []) (wr := []) (tl := (zHs cy a sg)) (n := 0) [] [] rfl rfl rfl (by decide)) hD
              refine z_ciP (wc := (zHs cy a sg)) (wr := []) (va_runV (As := [.int (nI k), .int (nI d)]) (rest := [.int (nI nv)]) ⟨hx, hb, hml, hown, hts⟩ (h_c_volume l hl9 G cy wd fo _ _ a sg k (hkn) (zOk_k8 hO hkn) (zOk_pt hO hkn) (hO.1) d (zPk_kd hp) (zOk_g hO) (h1) (h0) (by omega) (by have := zPk_pc hp; omega)) (cwV 2 hts gL_isWord_X10_volume rfl rfl rfl (by decide +kernel) ⟨Nat.le_of_ble_eq_true rfl, Nat.le_of_ble_eq_true rfl⟩) (z_pVHP (ci := 11) hK hP5 hD5 hS hN hAN hWd hE rfl rfl 0 rfl) rfl rfl hl.1 rfl (lv_room (Nat.le_of_ble_eq_true rfl)) dL_isWord_105 ⟨by show (6 * i + 2 + 2 + 2) + 0 ≤ 80; omega, by show (60 * i + 20 + 20 + 20) + 0 ≤ 800; omega⟩) hP5 hD5 hS hA (fun r_18 u H locs hr_18 hQ hD hS hz => ?_)
              obtain ⟨s9_19, rfl⟩ : ∃ z, z = u := ⟨_, rfl⟩
              try dsimp only at hr_18
              have hP : va_P G vwCl (zHs cy a s9_19) H := z_P_perm (List.Perm.symm (z_permT (ww := []) (wu := []) (wr := []) (tl := (zHs cy a s9_19)) (n := 0) [] [] rfl rfl rfl (by decide))) hQ
              have hD : va_D A (zHs cy a s9_19) := z_D_perm (List.Perm.symm (z_permT (ww := []) (wu := []) (wr := []) (tl := (zHs cy a s9_19)) (n := 0) [] [] rfl rfl rfl (by decide))) hD
              clear hQ hP5 hD5
              rw [hr_18.2] at hP hD
              have hvr_18 : (nI (z_un (q_la (s_P sg k)) (q_vo (s_P sg k)) (q_pc (s_P sg k)) (q_kd (s_P sg k)) (s_g sg) d)) = (nI nv) := by rw [hu9]
              obtain rfl : r_18 = (nI nv) := hr_18.1.trans hvr_18
              refine z_icmp_ne hx hb (by omega) (by omega) dL_isWord_108 (tgt := 211) (by decide) (fun c_20 => ?_) (fun c_20 => ?_)
              · exfalso; omega
              · refine lv_iload hx hb dL_isWord_111 (lv_at hl 5 rfl) ?_
                refine lv_aload_n hx hb dL_isWord_113 rfl (lv_at hl 1 rfl) ?_
                refine lv_iload_n hx hb dL_isWord_114 rfl (lv_at hl 2 rfl) ?_
                refine lv_iload_n hx hb dL_isWord_115 rfl (lv_at hl 3 rfl) ?_
                have hP5 : va_P G vwCl ((zHs cy a sg) ++ []) _ := z_P_perm (z_permT (ww := []) (wu := []) (wr := []) (tl := (zHs cy a sg)) (n := 0) [] [] rfl rfl rfl (by decide)) hP
                have hD5 : va_D A ((zHs cy a sg) ++ []) := z_D_perm (z_permT (ww := []) (wu := []) (wr := []) (tl := (zHs cy a sg)) (n := 0) [] [] rfl rfl rfl (by decide)) hD
                refine z_ciP (wc := (zHs cy a sg)) (wr := []) (va_runV (As := [.int (nI k), .int (nI d)]) (rest := [.int (nI nv)]) ⟨hx, hb, hml, hown, hts⟩ (h_c_volumeAnew l hl9 G cy wd fo _ _ a sg k (hkn) (zOk_k8 hO hkn) (zOk_pt hO hkn) (hO.1) (q_vo (s_P sg k)) d (zPk_kd hp) (zOk_g hO) (h1) (h0) (by omega) (zPk_cn hp)) (cwV 2 hts gL_isWord_X10_volumeAnew rfl rfl rfl (by decide +kernel) ⟨Nat.le_of_ble_eq_true rfl, Nat.le_of_ble_eq_true rfl⟩) (z_pVHP (ci := 11) hK hP5 hD5 hS hN hAN hWd hE rfl rfl 0 rfl) rfl rfl hl.1 rfl (lv_room (Nat.le_of_ble_eq_true rfl)) dL_isWord_116 ⟨by show (6 * i + 2 + 2 + 2 + 0) + 0 ≤ 80; omega, by show (60 * i + 20 + 20 + 20 + 0) + 0 ≤ 800; omega⟩) hP5 hD5 hS hA (fun r_21 u H locs hr_21 hQ hD hS hz => ?_)
                obtain ⟨s9_22, rfl⟩ : ∃ z, z = u := ⟨_, rfl⟩
                try dsimp only at hr_21
                have hP : va_P G vwCl (zHs cy a s9_22) H := z_P_perm (List.Perm.symm (z_permT (ww := []) (wu := []) (wr := []) (tl := (zHs cy a s9_22)) (n := 0) [] [] rfl rfl rfl (by decide))) hQ
                have hD : va_D A (zHs cy a s9_22) := z_D_perm (List.Perm.symm (z_permT (ww := []) (wu := []) (wr := []) (tl := (zHs cy a s9_22)) (n := 0) [] [] rfl rfl rfl (by decide))) hD
                clear hQ hP5 hD5
                obtain ⟨hv9, w8, p8, q8, hs8⟩ := hr_21
                rw [show s9_22 = uW sg w8 p8 q8 from hs8] at hP hD
                have hv8 : r_21 = nI nv := by rw [hv9, hu9]
                obtain rfl : r_21 = nI nv := hv8
                refine z_icmp_ne hx hb (by omega) (by omega) dL_isWord_119 (tgt := 211) (by decide) (fun c_23 => ?_) (fun c_23 => ?_)
                · exfalso; omega
                · refine lv_iload hx hb dL_isWord_122 (lv_at hl 6 rfl) ?_
                  refine lv_iconst (v := nI 2) hx hb dL_isWord_124 (by decide) ?_
                  refine z_icmp_eq hx hb (by omega) (by omega) dL_isWord_125 (tgt := 140) (by decide) (fun c_24 => ?_) (fun c_24 => ?_)
                  · refine lv_aload_n hx hb dL_isWord_140 rfl (lv_at hl 1 rfl) ?_
                    refine lv_iload_n hx hb dL_isWord_141 rfl (lv_at hl 2 rfl) ?_
                    refine lv_iload_n hx hb dL_isWord_142 rfl (lv_at hl 3 rfl) ?_
                    refine lv_iload hx hb dL_isWord_143 (lv_at hl 6 rfl) ?_
                    have hP5 : va_P G vwCl ((zHs cy a (uW sg w8 p8 q8)) ++ []) _ := z_P_perm (z_permT (ww := []) (wu := []) (wr := []) (tl := (zHs cy a (uW sg w8 p8 q8))) (n := 0) [] [] rfl rfl rfl (by decide)) hP
                    have hD5 : va_D A ((zHs cy a (uW sg w8 p8 q8)) ++ []) := z_D_perm (z_permT (ww := []) (wu := []) (wr := []) (tl := (zHs cy a (uW sg w8 p8 q8))) (n := 0) [] [] rfl rfl rfl (by decide)) hD
                    refine z_ciP (wc := (zHs cy a (uW sg w8 p8 q8))) (wr := []) (va_runV (As := [.int (nI k), .int (nI d), .int (nI (1 + i))]) (rest := []) ⟨hx, hb, hml, hown, hts⟩ (h_c_word l hl9 G cy wd fo _ _ a (uW sg w8 p8 q8) k (hkn) (zOk_k8 hO hkn) (zOk_pt hO hkn) (hO.1) d (1 + i) (zPk_kd hp) (zOk_g hO) (h1) (h0) ((by omega : q_la (s_P sg k) < 1000)) (zPk_pc hp) (zPk_vo hp) ((zPk_su hp).1) (by omega)) (cwV 3 hts gL_isWord_X10_word rfl rfl rfl (by decide +kernel) ⟨Nat.le_of_ble_eq_true rfl, Nat.le_of_ble_eq_true rfl⟩) (z_pVHP (ci := 11) hK hP5 hD5 hS hN hAN hWd hE rfl rfl 0 rfl) rfl rfl hl.1 rfl (lv_room (Nat.le_of_ble_eq_true rfl)) dL_isWord_145 ⟨by show (6 * i + 2 + 2 + 2 + 0 + 0) + 2 ≤ 80; omega, by show (60 * i + 20 + 20 + 20 + 0 + 0) + 20 ≤ 800; omega⟩) hP5 hD5 hS hA (fun r_25 u H locs hr_25 hQ hD hS hz => ?_)
                    obtain ⟨s9_26, rfl⟩ : ∃ z, z = u := ⟨_, rfl⟩
                    try dsimp only at hr_25
                    have hP : va_P G vwCl (zHs cy a s9_26) H := z_P_perm (List.Perm.symm (z_permT (ww := []) (wu := []) (wr := []) (tl := (zHs cy a s9_26)) (n := 0) [] [] rfl rfl rfl (by decide))) hQ
                    have hD : va_D A (zHs cy a s9_26) := z_D_perm (List.Perm.symm (z_permT (ww := []) (wu := []) (wr := []) (tl := (zHs cy a s9_26)) (n := 0) [] [] rfl rfl rfl (by decide))) hD
                    clear hQ hP5 hD5
                    rw [hr_25.2] at hP hD
                    have hvr_25 : (nI (z_sign (q_la (s_P (uW sg w8 p8 q8) k)) (z_un (q_la (s_P (uW sg w8 p8 q8) k)) (q_vo (s_P (uW sg w8 p8 q8) k)) (q_pc (s_P (uW sg w8 p8 q8) k)) (q_kd (s_P (uW sg w8 p8 q8) k)) (s_g (uW sg w8 p8 q8)) d) ((q_hg (s_P (uW sg w8 p8 q8) k)) d) d (1 + i))) = (nI 47) := by show nI (z_sign (q_la (s_P sg k)) (z_un (q_la (s_P sg k)) (q_vo (s_P sg k)) (q_pc (s_P sg k)) (q_kd (s_P sg k)) (s_g sg) d) (q_hg (s_P sg k) d) d (1 + i)) = _; rw [← hu9, z_sign, ← hD9]; rw [if_neg (by omega), if_neg (by omega), if_pos (by omega)]
                    obtain rfl : r_25 = (nI 47) := hr_25.1.trans hvr_25
                    refine lv_bipush (v := nI 47) hx hb dL_isWord_148 (by decide) ?_
                    refine z_icmp_ne hx hb (by omega) (by omega) dL_isWord_150 (tgt := 211) (by decide) (fun c_27 => ?_) (fun c_27 => ?_)
                    · exfalso; omega
                    · refine lv_aload_n hx hb dL_isWord_153 rfl (lv_at hl 1 rfl) ?_
                      refine lv_iload_n hx hb dL_isWord_154 rfl (lv_at hl 2 rfl) ?_
                      refine lv_iload_n hx hb dL_isWord_155 rfl (lv_at hl 3 rfl) ?_
                      refine lv_iload hx hb dL_isWord_156 (lv_at hl 6 rfl) ?_
                      refine lv_iconst (v := nI 1) hx hb dL_isWord_158 (by decide) ?_
                      refine z_iadd hx hb dL_isWord_159 ?_
                      have hP5 : va_P G vwCl ((zHs cy a (uW sg w8 p8 q8)) ++ []) _ := z_P_perm (z_permT (ww := []) (wu := []) (wr := []) (tl := (zHs cy a (uW sg w8 p8 q8))) (n := 0) [] [] rfl rfl rfl (by decide)) hP
                      have hD5 : va_D A ((zHs cy a (uW sg w8 p8 q8)) ++ []) := z_D_perm (z_permT (ww := []) (wu := []) (wr := []) (tl := (zHs cy a (uW sg w8 p8 q8))) (n := 0) [] [] rfl rfl rfl (by decide)) hD
                      refine z_ciP (wc := (zHs cy a (uW sg w8 p8 q8))) (wr := []) (va_runV (As := [.int (nI k), .int (nI d), .int (nI ((1 + i) + 1))]) (rest := []) ⟨hx, hb, hml, hown, hts⟩ (h_c_word l hl9 G cy wd fo _ _ a (uW sg w8 p8 q8) k (hkn) (zOk_k8 hO hkn) (zOk_pt hO hkn) (hO.1) d ((1 + i) + 1) (zPk_kd hp) (zOk_g hO) (h1) (h0) ((by omega : q_la (s_P sg k) < 1000)) (zPk_pc hp) (zPk_vo hp) ((zPk_su hp).1) (by omega)) (cwV 3 hts gL_isWord_X10_word rfl rfl rfl (by decide +kernel) ⟨Nat.le_of_ble_eq_true rfl, Nat.le_of_ble_eq_true rfl⟩) (z_pVHP (ci := 11) hK hP5 hD5 hS hN hAN hWd hE rfl rfl 0 rfl) rfl rfl hl.1 rfl (lv_room (Nat.le_of_ble_eq_true rfl)) dL_isWord_160 ⟨by show (6 * i + 2 + 2 + 2 + 0 + 0 + 2) + 2 ≤ 80; omega, by show (60 * i + 20 + 20 + 20 + 0 + 0 + 20) + 20 ≤ 800; omega⟩) hP5 hD5 hS hA (fun r_28 u H locs hr_28 hQ hD hS hz => ?_)
                      obtain ⟨s9_29, rfl⟩ : ∃ z, z = u := ⟨_, rfl⟩
                      try dsimp only at hr_28
                      have hP : va_P G vwCl (zHs cy a s9_29) H := z_P_perm (List.Perm.symm (z_permT (ww := []) (wu := []) (wr := []) (tl := (zHs cy a s9_29)) (n := 0) [] [] rfl rfl rfl (by decide))) hQ
                      have hD : va_D A (zHs cy a s9_29) := z_D_perm (List.Perm.symm (z_permT (ww := []) (wu := []) (wr := []) (tl := (zHs cy a s9_29)) (n := 0) [] [] rfl rfl rfl (by decide))) hD
                      clear hQ hP5 hD5
                      rw [hr_28.2] at hP hD
                      have hvr_28 : (nI (z_sign (q_la (s_P (uW sg w8 p8 q8) k)) (z_un (q_la (s_P (uW sg w8 p8 q8) k)) (q_vo (s_P (uW sg w8 p8 q8) k)) (q_pc (s_P (uW sg w8 p8 q8) k)) (q_kd (s_P (uW sg w8 p8 q8) k)) (s_g (uW sg w8 p8 q8)) d) ((q_hg (s_P (uW sg w8 p8 q8) k)) d) d ((1 + i) + 1))) = (nI 115) := by show nI (z_sign (q_la (s_P sg k)) (z_un (q_la (s_P sg k)) (q_vo (s_P sg k)) (q_pc (s_P sg k)) (q_kd (s_P sg k)) (s_g sg) d) (q_hg (s_P sg k) d) d (1 + i + 1)) = _; rw [← hu9, z_sign, ← hD9]; rw [if_neg (by omega), if_neg (by omega), if_neg (by omega), if_pos (by omega)]
                      obtain rfl : r_28 = (nI 115) := hr_28.1.trans hvr_28
                      refine lv_bipush (v := nI 115) hx hb dL_isWord_163 (by decide) ?_
                      refine z_icmp_ne hx hb (by omega) (by omega) dL_isWord_165 (tgt := 211) (by decide) (fun c_30 => ?_) (fun c_30 => ?_)
                      · exfalso; omega
                      · refine lv_iload hx hb dL_isWord_168 (lv_at hl 0 rfl) ?_
                        refine z_if_lt hx hb (by omega) dL_isWord_170 (tgt := 211) (by decide) ?_
                        refine lv_iload hx hb dL_isWord_173 (lv_at hl 0 rfl) ?_
                        refine lv_iconst (v := nI 4) hx hb dL_isWord_175 (by decide) ?_
                        refine z_icmp_ge hx hb (by omega) (by omega) dL_isWord_176 (tgt := 211) (by decide) (fun c_32 => ?_) (fun c_32 => ?_)
                        · exfalso; omega
                        · refine lv_aload_n hx hb dL_isWord_179 rfl (lv_at hl 1 rfl) ?_
                          refine lv_iload_n hx hb dL_isWord_180 rfl (lv_at hl 2 rfl) ?_
                          refine lv_iload_n hx hb dL_isWord_181 rfl (lv_at hl 3 rfl) ?_
                          refine lv_iload hx hb dL_isWord_182 (lv_at hl 6 rfl) ?_
                          refine lv_iconst (v := nI 3) hx hb dL_isWord_184 (by decide) ?_
                          refine z_iadd hx hb dL_isWord_185 ?_
                          have hP5 : va_P G vwCl ((zHs cy a (uW sg w8 p8 q8)) ++ []) _ := z_P_perm (z_permT (ww := []) (wu := []) (wr := []) (tl := (zHs cy a (uW sg w8 p8 q8))) (n := 0) [] [] rfl rfl rfl (by decide)) hP
                          have hD5 : va_D A ((zHs cy a (uW sg w8 p8 q8)) ++ []) := z_D_perm (z_permT (ww := []) (wu := []) (wr := []) (tl := (zHs cy a (uW sg w8 p8 q8))) (n := 0) [] [] rfl rfl rfl (by decide)) hD
                          refine z_ciP (wc := (zHs cy a (uW sg w8 p8 q8))) (wr := []) (va_runV (As := [.int (nI k), .int (nI d), .int (nI ((1 + i) + 3))]) (rest := []) ⟨hx, hb, hml, hown, hts⟩ (h_c_word l hl9 G cy wd fo _ _ a (uW sg w8 p8 q8) k (hkn) (zOk_k8 hO hkn) (zOk_pt hO hkn) (hO.1) d ((1 + i) + 3) (zPk_kd hp) (zOk_g hO) (h1) (h0) ((by omega : q_la (s_P sg k) < 1000)) (zPk_pc hp) (zPk_vo hp) ((zPk_su hp).1) (by omega)) (cwV 3 hts gL_isWord_X10_word rfl rfl rfl (by decide +kernel) ⟨Nat.le_of_ble_eq_true rfl, Nat.le_of_ble_eq_true rfl⟩) (z_pVHP (ci := 11) hK hP5 hD5 hS hN hAN hWd hE rfl rfl 0 rfl) rfl rfl hl.1 rfl (lv_room (Nat.le_of_ble_eq_true rfl)) dL_isWord_186 ⟨by show (6 * i + 2 + 2 + 2 + 0 + 0 + 2 + 2) + 2 ≤ 80; omega, by show (60 * i + 20 + 20 + 20 + 0 + 0 + 20 + 20) + 20 ≤ 800; omega⟩) hP5 hD5 hS hA (fun r_33 u H locs hr_33 hQ hD hS hz => ?_)
                          obtain ⟨s9_34, rfl⟩ : ∃ z, z = u := ⟨_, rfl⟩
                          try dsimp only at hr_33
                          have hP : va_P G vwCl (zHs cy a s9_34) H := z_P_perm (List.Perm.symm (z_permT (ww := []) (wu := []) (wr := []) (tl := (zHs cy a s9_34)) (n := 0) [] [] rfl rfl rfl (by decide))) hQ
                          have hD : va_D A (zHs cy a s9_34) := z_D_perm (List.Perm.symm (z_permT (ww := []) (wu := []) (wr := []) (tl := (zHs cy a s9_34)) (n := 0) [] [] rfl rfl rfl (by decide))) hD
                          clear hQ hP5 hD5
                          rw [hr_33.2] at hP hD
                          have hvr_33 : (nI (z_sign (q_la (s_P (uW sg w8 p8 q8) k)) (z_un (q_la (s_P (uW sg w8 p8 q8) k)) (q_vo (s_P (uW sg w8 p8 q8) k)) (q_pc (s_P (uW sg w8 p8 q8) k)) (q_kd (s_P (uW sg w8 p8 q8) k)) (s_g (uW sg w8 p8 q8)) d) ((q_hg (s_P (uW sg w8 p8 q8) k)) d) d ((1 + i) + 3))) = (nI 32) := by show nI (z_sign (q_la (s_P sg k)) (z_un (q_la (s_P sg k)) (q_vo (s_P sg k)) (q_pc (s_P sg k)) (q_kd (s_P sg k)) (s_g sg) d) (q_hg (s_P sg k) d) d (1 + i + 3)) = _; rw [← hu9, z_sign, ← hD9]; rw [if_neg (by omega), if_neg (by omega), if_neg (by omega), if_neg (by omega), if_neg (by omega)]
                          obtain rfl : r_33 = (nI 32) := hr_33.1.trans hvr_33
                          refine lv_bipush (v := nI 32) hx hb dL_isWord_189 (by decide) ?_
                          refine z_icmp_ne hx hb (by omega) (by omega) dL_isWord_191 (tgt := 211) (by decide) (fun c_35 => ?_) (fun c_35 => ?_)
                          · exfalso; omega
                          · refine lv_aload_n hx hb dL_isWord_194 rfl (lv_at hl 1 rfl) ?_
                            refine lv_iload_n hx hb dL_isWord_195 rfl (lv_at hl 2 rfl) ?_
                            refine lv_iload_n hx hb dL_isWord_196 rfl (lv_at hl 3 rfl) ?_
                            refine lv_ldc (v := nI 2147483647) hx hb hown (hts _ (List.mem_of_getElem? (i := 1) (by decide +kernel))) dL_isWord_197 ?_
                            have hP5 : va_P G vwCl ((zHs cy a (uW sg w8 p8 q8)) ++ []) _ := z_P_perm (z_permT (ww := []) (wu := []) (wr := []) (tl := (zHs cy a (uW sg w8 p8 q8))) (n := 0) [] [] rfl rfl rfl (by decide)) hP
                            have hD5 : va_D A ((zHs cy a (uW sg w8 p8 q8)) ++ []) := z_D_perm (z_permT (ww := []) (wu := []) (wr := []) (tl := (zHs cy a (uW sg w8 p8 q8))) (n := 0) [] [] rfl rfl rfl (by decide)) hD
                            refine z_ciP (wc := (zHs cy a (uW sg w8 p8 q8))) (wr := []) (va_runV (As := [.int (nI k), .int (nI d), .int (nI 2147483647)]) (rest := []) ⟨hx, hb, hml, hown, hts⟩ (h_c_word l hl9 G cy wd fo _ _ a (uW sg w8 p8 q8) k (hkn) (zOk_k8 hO hkn) (zOk_pt hO hkn) (hO.1) d 2147483647 (zPk_kd hp) (zOk_g hO) (h1) (h0) ((by omega : q_la (s_P sg k) < 1000)) (zPk_pc hp) (zPk_vo hp) ((zPk_su hp).1) (by omega)) (cwV 3 hts gL_isWord_X10_word rfl rfl rfl (by decide +kernel) ⟨Nat.le_of_ble_eq_true rfl, Nat.le_of_ble_eq_true rfl⟩) (z_pVHP (ci := 11) hK hP5 hD5 hS hN hAN hWd hE rfl rfl 0 rfl) rfl rfl hl.1 rfl (lv_room (Nat.le_of_ble_eq_true rfl)) dL_isWord_199 ⟨by show (6 * i + 2 + 2 + 2 + 0 + 0 + 2 + 2 + 2) + 2 ≤ 80; omega, by show (60 * i + 20 + 20 + 20 + 0 + 0 + 20 + 20 + 20) + 20 ≤ 800; omega⟩) hP5 hD5 hS hA (fun r_36 u H locs hr_36 hQ hD hS hz => ?_)
                            obtain ⟨s9_37, rfl⟩ : ∃ z, z = u := ⟨_, rfl⟩
                            try dsimp only at hr_36
                            have hP : va_P G vwCl (zHs cy a s9_37) H := z_P_perm (List.Perm.symm (z_permT (ww := []) (wu := []) (wr := []) (tl := (zHs cy a s9_37)) (n := 0) [] [] rfl rfl rfl (by decide))) hQ
                            have hD : va_D A (zHs cy a s9_37) := z_D_perm (List.Perm.symm (z_permT (ww := []) (wu := []) (wr := []) (tl := (zHs cy a s9_37)) (n := 0) [] [] rfl rfl rfl (by decide))) hD
                            clear hQ hP5 hD5
                            rw [hr_36.2] at hP hD
                            have hvr_36 : (nI (z_sign (q_la (s_P (uW sg w8 p8 q8) k)) (z_un (q_la (s_P (uW sg w8 p8 q8) k)) (q_vo (s_P (uW sg w8 p8 q8) k)) (q_pc (s_P (uW sg w8 p8 q8) k)) (q_kd (s_P (uW sg w8 p8 q8) k)) (s_g (uW sg w8 p8 q8)) d) ((q_hg (s_P (uW sg w8 p8 q8) k)) d) d 2147483647)) = (nI 32) := by show nI (z_sign (q_la (s_P sg k)) (z_un (q_la (s_P sg k)) (q_vo (s_P sg k)) (q_pc (s_P sg k)) (q_kd (s_P sg k)) (s_g sg) d) (q_hg (s_P sg k) d) d 2147483647) = _; rw [← hu9, z_sign, ← hD9]; rw [if_neg (by omega), if_neg (by omega), if_neg (by omega), if_neg (by omega), if_neg (by omega)]
                            obtain rfl : r_36 = (nI 32) := hr_36.1.trans hvr_36
                            refine lv_bipush (v := nI 32) hx hb dL_isWord_202 (by decide) ?_
                            refine z_icmp_ne hx hb (by omega) (by omega) dL_isWord_204 (tgt := 211) (by decide) (fun c_38 => ?_) (fun c_38 => ?_)
                            · exfalso; omega
                            · refine lv_iconst (v := nI 1) hx hb dL_isWord_207 (by decide) ?_
                              refine lv_goto (tgt := 212) hx hb dL_isWord_208 (by decide) ?_
                              exact z_rMz hx hb hr hlk (by rfl) dL_isWord_212 (uW sg w8 p8 q8) (⟨rfl, zSame_uW hO⟩) hP hD hK hS (by omega) (by omega)
                  · refine lv_aload_n hx hb dL_isWord_128 rfl (lv_at hl 1 rfl) ?_
                    refine lv_iload_n hx hb dL_isWord_129 rfl (lv_at hl 2 rfl) ?_
                    refine lv_iload_n hx hb dL_isWord_130 rfl (lv_at hl 3 rfl) ?_
                    refine lv_iconst (v := nI 1) hx hb dL_isWord_131 (by decide) ?_
                    have hP5 : va_P G vwCl ((zHs cy a (uW sg w8 p8 q8)) ++ []) _ := z_P_perm (z_permT (ww := []) (wu := []) (wr := []) (tl := (zHs cy a (uW sg w8 p8 q8))) (n := 0) [] [] rfl rfl rfl (by decide)) hP
                    have hD5 : va_D A ((zHs cy a (uW sg w8 p8 q8)) ++ []) := z_D_perm (z_permT (ww := []) (wu := []) (wr := []) (tl := (zHs cy a (uW sg w8 p8 q8))) (n := 0) [] [] rfl rfl rfl (by decide)) hD
                    refine z_ciP (wc := (zHs cy a (uW sg w8 p8 q8))) (wr := []) (va_runV (As := [.int (nI k), .int (nI d), .int (nI 1)]) (rest := []) ⟨hx, hb, hml, hown, hts⟩ (h_c_word l hl9 G cy wd fo _ _ a (uW sg w8 p8 q8) k (hkn) (zOk_k8 hO hkn) (zOk_pt hO hkn) (hO.1) d 1 (zPk_kd hp) (zOk_g hO) (h1) (h0) ((by omega : q_la (s_P sg k) < 1000)) (zPk_pc hp) (zPk_vo hp) ((zPk_su hp).1) (by omega)) (cwV 3 hts gL_isWord_X10_word rfl rfl rfl (by decide +kernel) ⟨Nat.le_of_ble_eq_true rfl, Nat.le_of_ble_eq_true rfl⟩) (z_pVHP (ci := 11) hK hP5 hD5 hS hN hAN hWd hE rfl rfl 0 rfl) rfl rfl hl.1 rfl (lv_room (Nat.le_of_ble_eq_true rfl)) dL_isWord_132 ⟨by show (6 * i + 2 + 2 + 2 + 0 + 0) + 2 ≤ 80; omega, by show (60 * i + 20 + 20 + 20 + 0 + 0) + 20 ≤ 800; omega⟩) hP5 hD5 hS hA (fun r_39 u H locs hr_39 hQ hD hS hz => ?_)
                    obtain ⟨s9_40, rfl⟩ : ∃ z, z = u := ⟨_, rfl⟩
                    try dsimp only at hr_39
                    have hP : va_P G vwCl (zHs cy a s9_40) H := z_P_perm (List.Perm.symm (z_permT (ww := []) (wu := []) (wr := []) (tl := (zHs cy a s9_40)) (n := 0) [] [] rfl rfl rfl (by decide))) hQ
                    have hD : va_D A (zHs cy a s9_40) := z_D_perm (List.Perm.symm (z_permT (ww := []) (wu := []) (wr := []) (tl := (zHs cy a s9_40)) (n := 0) [] [] rfl rfl rfl (by decide))) hD
                    clear hQ hP5 hD5
                    rw [hr_39.2] at hP hD
                    have hvr_39 : (nI (z_sign (q_la (s_P (uW sg w8 p8 q8) k)) (z_un (q_la (s_P (uW sg w8 p8 q8) k)) (q_vo (s_P (uW sg w8 p8 q8) k)) (q_pc (s_P (uW sg w8 p8 q8) k)) (q_kd (s_P (uW sg w8 p8 q8) k)) (s_g (uW sg w8 p8 q8)) d) ((q_hg (s_P (uW sg w8 p8 q8) k)) d) d 1)) = (nI (48 + nv / 10 ^ (i - 1) % 10)) := by show nI (z_sign (q_la (s_P sg k)) (z_un (q_la (s_P sg k)) (q_vo (s_P sg k)) (q_pc (s_P sg k)) (q_kd (s_P sg k)) (s_g sg) d) (q_hg (s_P sg k) d) d 1) = _; rw [← hu9, z_sign, ← hD9]; rw [if_neg (by omega), if_pos (by omega)]
                    obtain rfl : r_39 = (nI (48 + nv / 10 ^ (i - 1) % 10)) := hr_39.1.trans hvr_39
                    refine lv_bipush (v := nI 48) hx hb dL_isWord_135 (by decide) ?_
                    refine z_icmp_eq hx hb (by omega) (by omega) dL_isWord_137 (tgt := 211) (by decide) (fun c_41 => ?_) (fun c_41 => ?_)
                    · exact absurd c_41 (z_lead (by omega) hD3 hD4 hD1)
                    · refine lv_aload_n hx hb dL_isWord_140 rfl (lv_at hl 1 rfl) ?_
                      refine lv_iload_n hx hb dL_isWord_141 rfl (lv_at hl 2 rfl) ?_
                      refine lv_iload_n hx hb dL_isWord_142 rfl (lv_at hl 3 rfl) ?_
                      refine lv_iload hx hb dL_isWord_143 (lv_at hl 6 rfl) ?_
                      have hP5 : va_P G vwCl ((zHs cy a (uW sg w8 p8 q8)) ++ []) _ := z_P_perm (z_permT (ww := []) (wu := []) (wr := []) (tl := (zHs cy a (uW sg w8 p8 q8))) (n := 0) [] [] rfl rfl rfl (by decide)) hP
                      have hD5 : va_D A ((zHs cy a (uW sg w8 p8 q8)) ++ []) := z_D_perm (z_permT (ww := []) (wu := []) (wr := []) (tl := (zHs cy a (uW sg w8 p8 q8))) (n := 0) [] [] rfl rfl rfl (by decide)) hD
                      refine z_ciP (wc := (zHs cy a (uW sg w8 p8 q8))) (wr := []) (va_runV (As := [.int (nI k), .int (nI d), .int (nI (1 + i))]) (rest := []) ⟨hx, hb, hml, hown, hts⟩ (h_c_word l hl9 G cy wd fo _ _ a (uW sg w8 p8 q8) k (hkn) (zOk_k8 hO hkn) (zOk_pt hO hkn) (hO.1) d (1 + i) (zPk_kd hp) (zOk_g hO) (h1) (h0) ((by omega : q_la (s_P sg k) < 1000)) (zPk_pc hp) (zPk_vo hp) ((zPk_su hp).1) (by omega)) (cwV 3 hts gL_isWord_X10_word rfl rfl rfl (by decide +kernel) ⟨Nat.le_of_ble_eq_true rfl, Nat.le_of_ble_eq_true rfl⟩) (z_pVHP (ci := 11) hK hP5 hD5 hS hN hAN hWd hE rfl rfl 0 rfl) rfl rfl hl.1 rfl (lv_room (Nat.le_of_ble_eq_true rfl)) dL_isWord_145 ⟨by show (6 * i + 2 + 2 + 2 + 0 + 0 + 2) + 2 ≤ 80; omega, by show (60 * i + 20 + 20 + 20 + 0 + 0 + 20) + 20 ≤ 800; omega⟩) hP5 hD5 hS hA (fun r_42 u H locs hr_42 hQ hD hS hz => ?_)
                      obtain ⟨s9_43, rfl⟩ : ∃ z, z = u := ⟨_, rfl⟩
                      try dsimp only at hr_42
                      have hP : va_P G vwCl (zHs cy a s9_43) H := z_P_perm (List.Perm.symm (z_permT (ww := []) (wu := []) (wr := []) (tl := (zHs cy a s9_43)) (n := 0) [] [] rfl rfl rfl (by decide))) hQ
                      have hD : va_D A (zHs cy a s9_43) := z_D_perm (List.Perm.symm (z_permT (ww := []) (wu := []) (wr := []) (tl := (zHs cy a s9_43)) (n := 0) [] [] rfl rfl rfl (by decide))) hD
                      clear hQ hP5 hD5
                      rw [hr_42.2] at hP hD
                      have hvr_42 : (nI (z_sign (q_la (s_P (uW sg w8 p8 q8) k)) (z_un (q_la (s_P (uW sg w8 p8 q8) k)) (q_vo (s_P (uW sg w8 p8 q8) k)) (q_pc (s_P (uW sg w8 p8 q8) k)) (q_kd (s_P (uW sg w8 p8 q8) k)) (s_g (uW sg w8 p8 q8)) d) ((q_hg (s_P (uW sg w8 p8 q8) k)) d) d (1 + i))) = (nI 47) := by show nI (z_sign (q_la (s_P sg k)) (z_un (q_la (s_P sg k)) (q_vo (s_P sg k)) (q_pc (s_P sg k)) (q_kd (s_P sg k)) (s_g sg) d) (q_hg (s_P sg k) d) d (1 + i)) = _; rw [← hu9, z_sign, ← hD9]; rw [if_neg (by omega), if_neg (by omega), if_pos (by omega)]
                      obtain rfl : r_42 = (nI 47) := hr_42.1.trans hvr_42
                      refine lv_bipush (v := nI 47) hx hb dL_isWord_148 (by decide) ?_
                      refine z_icmp_ne hx hb (by omega) (by omega) dL_isWord_150 (tgt := 211) (by decide) (fun c_44 => ?_) (fun c_44 => ?_)
                      · exfalso; omega
                      · refine lv_aload_n hx hb dL_isWord_153 rfl (lv_at hl 1 rfl) ?_
                        refine lv_iload_n hx hb dL_isWord_154 rfl (lv_at hl 2 rfl) ?_
                        refine lv_iload_n hx hb dL_isWord_155 rfl (lv_at hl 3 rfl) ?_
                        refine lv_iload hx hb dL_isWord_156 (lv_at hl 6 rfl) ?_
                        refine lv_iconst (v := nI 1) hx hb dL_isWord_158 (by decide) ?_
                        refine z_iadd hx hb dL_isWord_159 ?_
                        have hP5 : va_P G vwCl ((zHs cy a (uW sg w8 p8 q8)) ++ []) _ := z_P_perm (z_permT (ww := []) (wu := []) (wr := []) (tl := (zHs cy a (uW sg w8 p8 q8))) (n := 0) [] [] rfl rfl rfl (by decide)) hP
                        have hD5 : va_D A ((zHs cy a (uW sg w8 p8 q8)) ++ []) := z_D_perm (z_permT (ww := []) (wu := []) (wr := []) (tl := (zHs cy a (uW sg w8 p8 q8))) (n := 0) [] [] rfl rfl rfl (by decide)) hD
                        refine z_ciP (wc := (zHs cy a (uW sg w8 p8 q8))) (wr := []) (va_runV (As := [.int (nI k), .int (nI d), .int (nI ((1 + i) + 1))]) (rest := []) ⟨hx, hb, hml, hown, hts⟩ (h_c_word l hl9 G cy wd fo _ _ a (uW sg w8 p8 q8) k (hkn) (zOk_k8 hO hkn) (zOk_pt hO hkn) (hO.1) d ((1 + i) + 1) (zPk_kd hp) (zOk_g hO) (h1) (h0) ((by omega : q_la (s_P sg k) < 1000)) (zPk_pc hp) (zPk_vo hp) ((zPk_su hp).1) (by omega)) (cwV 3 hts gL_isWord_X10_word rfl rfl rfl (by decide +kernel) ⟨Nat.le_of_ble_eq_true rfl, Nat.le_of_ble_eq_true rfl⟩) (z_pVHP (ci := 11) hK hP5 hD5 hS hN hAN hWd hE rfl rfl 0 rfl) rfl rfl hl.1 rfl (lv_room (Nat.le_of_ble_eq_true rfl)) dL_isWord_160 ⟨by show (6 * i + 2 + 2 + 2 + 0 + 0 + 2 + 2) + 2 ≤ 80; omega, by show (60 * i + 20 + 20 + 20 + 0 + 0 + 20 + 20) + 20 ≤ 800; omega⟩) hP5 hD5 hS hA (fun r_45 u H locs hr_45 hQ hD hS hz => ?_)
                        obtain ⟨s9_46, rfl⟩ : ∃ z, z = u := ⟨_, rfl⟩
                        try dsimp only at hr_45
                        have hP : va_P G vwCl (zHs cy a s9_46) H := z_P_perm (List.Perm.symm (z_permT (ww := []) (wu := []) (wr := []) (tl := (zHs cy a s9_46)) (n := 0) [] [] rfl rfl rfl (by decide))) hQ
                        have hD : va_D A (zHs cy a s9_46) := z_D_perm (List.Perm.symm (z_permT (ww := []) (wu := []) (wr := []) (tl := (zHs cy a s9_46)) (n := 0) [] [] rfl rfl rfl (by decide))) hD
                        clear hQ hP5 hD5
                        rw [hr_45.2] at hP hD
                        have hvr_45 : (nI (z_sign (q_la (s_P (uW sg w8 p8 q8) k)) (z_un (q_la (s_P (uW sg w8 p8 q8) k)) (q_vo (s_P (uW sg w8 p8 q8) k)) (q_pc (s_P (uW sg w8 p8 q8) k)) (q_kd (s_P (uW sg w8 p8 q8) k)) (s_g (uW sg w8 p8 q8)) d) ((q_hg (s_P (uW sg w8 p8 q8) k)) d) d ((1 + i) + 1))) = (nI 115) := by show nI (z_sign (q_la (s_P sg k)) (z_un (q_la (s_P sg k)) (q_vo (s_P sg k)) (q_pc (s_P sg k)) (q_kd (s_P sg k)) (s_g sg) d) (q_hg (s_P sg k) d) d (1 + i + 1)) = _; rw [← hu9, z_sign, ← hD9]; rw [if_neg (by omega), if_neg (by omega), if_neg (by omega), if_pos (by omega)]
                        obtain rfl : r_45 = (nI 115) := hr_45.1.trans hvr_45
                        refine lv_bipush (v := nI 115) hx hb dL_isWord_163 (by decide) ?_
                        refine z_icmp_ne hx hb (by omega) (by omega) dL_isWord_165 (tgt := 211) (by decide) (fun c_47 => ?_) (fun c_47 => ?_)
                        · exfalso; omega
                        · refine lv_iload hx hb dL_isWord_168 (lv_at hl 0 rfl) ?_
                          refine z_if_lt hx hb (by omega) dL_isWord_170 (tgt := 211) (by decide) ?_
                          refine lv_iload hx hb dL_isWord_173 (lv_at hl 0 rfl) ?_
                          refine lv_iconst (v := nI 4) hx hb dL_isWord_175 (by decide) ?_
                          refine z_icmp_ge hx hb (by omega) (by omega) dL_isWord_176 (tgt := 211) (by decide) (fun c_49 => ?_) (fun c_49 => ?_)
                          · exfalso; omega
                          · refine lv_aload_n hx hb dL_isWord_179 rfl (lv_at hl 1 rfl) ?_
                            refine lv_iload_n hx hb dL_isWord_180 rfl (lv_at hl 2 rfl) ?_
                            refine lv_iload_n hx hb dL_isWord_181 rfl (lv_at hl 3 rfl) ?_
                            refine lv_iload hx hb dL_isWord_182 (lv_at hl 6 rfl) ?_
                            refine lv_iconst (v := nI 3) hx hb dL_isWord_184 (by decide) ?_
                            refine z_iadd hx hb dL_isWord_185 ?_
                            have hP5 : va_P G vwCl ((zHs cy a (uW sg w8 p8 q8)) ++ []) _ := z_P_perm (z_permT (ww := []) (wu := []) (wr := []) (tl := (zHs cy a (uW sg w8 p8 q8))) (n := 0) [] [] rfl rfl rfl (by decide)) hP
                            have hD5 : va_D A ((zHs cy a (uW sg w8 p8 q8)) ++ []) := z_D_perm (z_permT (ww := []) (wu := []) (wr := []) (tl := (zHs cy a (uW sg w8 p8 q8))) (n := 0) [] [] rfl rfl rfl (by decide)) hD
                            refine z_ciP (wc := (zHs cy a (uW sg w8 p8 q8))) (wr := []) (va_runV (As := [.int (nI k), .int (nI d), .int (nI ((1 + i) + 3))]) (rest := []) ⟨hx, hb, hml, hown, hts⟩ (h_c_word l hl9 G cy wd fo _ _ a (uW sg w8 p8 q8) k (hkn) (zOk_k8 hO hkn) (zOk_pt hO hkn) (hO.1) d ((1 + i) + 3) (zPk_kd hp) (zOk_g hO) (h1) (h0) ((by omega : q_la (s_P sg k) < 1000)) (zPk_pc hp) (zPk_vo hp) ((zPk_su hp).1) (by omega)) (cwV 3 hts gL_isWord_X10_word rfl rfl rfl (by decide +kernel) ⟨Nat.le_of_ble_eq_true rfl, Nat.le_of_ble_eq_true rfl⟩) (z_pVHP (ci := 11) hK hP5 hD5 hS hN hAN hWd hE rfl rfl 0 rfl) rfl rfl hl.1 rfl (lv_room (Nat.le_of_ble_eq_true rfl)) dL_isWord_186 ⟨by show (6 * i + 2 + 2 + 2 + 0 + 0 + 2 + 2 + 2) + 2 ≤ 80; omega, by show (60 * i + 20 + 20 + 20 + 0 + 0 + 20 + 20 + 20) + 20 ≤ 800; omega⟩) hP5 hD5 hS hA (fun r_50 u H locs hr_50 hQ hD hS hz => ?_)
                            obtain ⟨s9_51, rfl⟩ : ∃ z, z = u := ⟨_, rfl⟩
                            try dsimp only at hr_50
                            have hP : va_P G vwCl (zHs cy a s9_51) H := z_P_perm (List.Perm.symm (z_permT (ww := []) (wu := []) (wr := []) (tl := (zHs cy a s9_51)) (n := 0) [] [] rfl rfl rfl (by decide))) hQ
                            have hD : va_D A (zHs cy a s9_51) := z_D_perm (List.Perm.symm (z_permT (ww := []) (wu := []) (wr := []) (tl := (zHs cy a s9_51)) (n := 0) [] [] rfl rfl rfl (by decide))) hD
                            clear hQ hP5 hD5
                            rw [hr_50.2] at hP hD
                            have hvr_50 : (nI (z_sign (q_la (s_P (uW sg w8 p8 q8) k)) (z_un (q_la (s_P (uW sg w8 p8 q8) k)) (q_vo (s_P (uW sg w8 p8 q8) k)) (q_pc (s_P (uW sg w8 p8 q8) k)) (q_kd (s_P (uW sg w8 p8 q8) k)) (s_g (uW sg w8 p8 q8)) d) ((q_hg (s_P (uW sg w8 p8 q8) k)) d) d ((1 + i) + 3))) = (nI 32) := by show nI (z_sign (q_la (s_P sg k)) (z_un (q_la (s_P sg k)) (q_vo (s_P sg k)) (q_pc (s_P sg k)) (q_kd (s_P sg k)) (s_g sg) d) (q_hg (s_P sg k) d) d (1 + i + 3)) = _; rw [← hu9, z_sign, ← hD9]; rw [if_neg (by omega), if_neg (by omega), if_neg (by omega), if_neg (by omega), if_neg (by omega)]
                            obtain rfl : r_50 = (nI 32) := hr_50.1.trans hvr_50
                            refine lv_bipush (v := nI 32) hx hb dL_isWord_189 (by decide) ?_
                            refine z_icmp_ne hx hb (by omega) (by omega) dL_isWord_191 (tgt := 211) (by decide) (fun c_52 => ?_) (fun c_52 => ?_)
                            · exfalso; omega
                            · refine lv_aload_n hx hb dL_isWord_194 rfl (lv_at hl 1 rfl) ?_
                              refine lv_iload_n hx hb dL_isWord_195 rfl (lv_at hl 2 rfl) ?_
                              refine lv_iload_n hx hb dL_isWord_196 rfl (lv_at hl 3 rfl) ?_
                              refine lv_ldc (v := nI 2147483647) hx hb hown (hts _ (List.mem_of_getElem? (i := 1) (by decide +kernel))) dL_isWord_197 ?_
                              have hP5 : va_P G vwCl ((zHs cy a (uW sg w8 p8 q8)) ++ []) _ := z_P_perm (z_permT (ww := []) (wu := []) (wr := []) (tl := (zHs cy a (uW sg w8 p8 q8))) (n := 0) [] [] rfl rfl rfl (by decide)) hP
                              have hD5 : va_D A ((zHs cy a (uW sg w8 p8 q8)) ++ []) := z_D_perm (z_permT (ww := []) (wu := []) (wr := []) (tl := (zHs cy a (uW sg w8 p8 q8))) (n := 0) [] [] rfl rfl rfl (by decide)) hD
                              refine z_ciP (wc := (zHs cy a (uW sg w8 p8 q8))) (wr := []) (va_runV (As := [.int (nI k), .int (nI d), .int (nI 2147483647)]) (rest := []) ⟨hx, hb, hml, hown, hts⟩ (h_c_word l hl9 G cy wd fo _ _ a (uW sg w8 p8 q8) k (hkn) (zOk_k8 hO hkn) (zOk_pt hO hkn) (hO.1) d 2147483647 (zPk_kd hp) (zOk_g hO) (h1) (h0) ((by omega : q_la (s_P sg k) < 1000)) (zPk_pc hp) (zPk_vo hp) ((zPk_su hp).1) (by omega)) (cwV 3 hts gL_isWord_X10_word rfl rfl rfl (by decide +kernel) ⟨Nat.le_of_ble_eq_true rfl, Nat.le_of_ble_eq_true rfl⟩) (z_pVHP (ci := 11) hK hP5 hD5 hS hN hAN hWd hE rfl rfl 0 rfl) rfl rfl hl.1 rfl (lv_room (Nat.le_of_ble_eq_true rfl)) dL_isWord_199 ⟨by show (6 * i + 2 + 2 + 2 + 0 + 0 + 2 + 2 + 2 + 2) + 2 ≤ 80; omega, by show (60 * i + 20 + 20 + 20 + 0 + 0 + 20 + 20 + 20 + 20) + 20 ≤ 800; omega⟩) hP5 hD5 hS hA (fun r_53 u H locs hr_53 hQ hD hS hz => ?_)
                              obtain ⟨s9_54, rfl⟩ : ∃ z, z = u := ⟨_, rfl⟩
                              try dsimp only at hr_53
                              have hP : va_P G vwCl (zHs cy a s9_54) H := z_P_perm (List.Perm.symm (z_permT (ww := []) (wu := []) (wr := []) (tl := (zHs cy a s9_54)) (n := 0) [] [] rfl rfl rfl (by decide))) hQ
                              have hD : va_D A (zHs cy a s9_54) := z_D_perm (List.Perm.symm (z_permT (ww := []) (wu := []) (wr := []) (tl := (zHs cy a s9_54)) (n := 0) [] [] rfl rfl rfl (by decide))) hD
                              clear hQ hP5 hD5
                              rw [hr_53.2] at hP hD
                              have hvr_53 : (nI (z_sign (q_la (s_P (uW sg w8 p8 q8) k)) (z_un (q_la (s_P (uW sg w8 p8 q8) k)) (q_vo (s_P (uW sg w8 p8 q8) k)) (q_pc (s_P (uW sg w8 p8 q8) k)) (q_kd (s_P (uW sg w8 p8 q8) k)) (s_g (uW sg w8 p8 q8)) d) ((q_hg (s_P (uW sg w8 p8 q8) k)) d) d 2147483647)) = (nI 32) := by show nI (z_sign (q_la (s_P sg k)) (z_un (q_la (s_P sg k)) (q_vo (s_P sg k)) (q_pc (s_P sg k)) (q_kd (s_P sg k)) (s_g sg) d) (q_hg (s_P sg k) d) d 2147483647) = _; rw [← hu9, z_sign, ← hD9]; rw [if_neg (by omega), if_neg (by omega), if_neg (by omega), if_neg (by omega), if_neg (by omega)]
                              obtain rfl : r_53 = (nI 32) := hr_53.1.trans hvr_53
                              refine lv_bipush (v := nI 32) hx hb dL_isWord_202 (by decide) ?_
                              refine z_icmp_ne hx hb (by omega) (by omega) dL_isWord_204 (tgt := 211) (by decide) (fun c_55 => ?_) (fun c_55 => ?_)
                              · exfalso; omega
                              · refine lv_iconst (v := nI 1) hx hb dL_isWord_207 (by decide) ?_
                                refine lv_goto (tgt := 212) hx hb dL_isWord_208 (by decide) ?_
                                exact z_rMz hx hb hr hlk (by rfl) dL_isWord_212 (uW sg w8 p8 q8) (⟨rfl, zSame_uW hO⟩) hP hD hK hS (by omega) (by omega)
          · have hb1 : b9 = 0 := by rw [hb9, if_neg hc]
            subst hb1
            rw [if_neg hc]
            refine lv_iload_n hx hb dL_isWord_86 rfl (lv_at hl 4 rfl) ?_
            refine lv_if_eq hx hb dL_isWord_87 (tgt := 95) (by decide) (fun _ => ?_) (fun q => absurd (by decide) q)
            refine lv_bipush (v := nI 101) hx hb dL_isWord_95 (by decide) ?_
            refine z_icmp_ne hx hb (by omega) (by omega) dL_isWord_97 (tgt := 211) (by decide) (fun c_56 => ?_) (fun c_56 => ?_)
            · exfalso; omega
            · refine lv_iload hx hb dL_isWord_100 (lv_at hl 5 rfl) ?_
              refine lv_aload_n hx hb dL_isWord_102 rfl (lv_at hl 1 rfl) ?_
              refine lv_iload_n hx hb dL_isWord_103 rfl (lv_at hl 2 rfl) ?_
              refine lv_iload_n hx hb dL_isWord_104 rfl (lv_at hl 3 rfl) ?_
              have hP5 : va_P G vwCl ((zHs cy a sg) ++ []) _ := z_P_perm (z_permT (ww := []) (wu := []) (wr := []) (tl := (zHs cy a sg)) (n := 0) [] [] rfl rfl rfl (by decide)) hP
              have hD5 : va_D A ((zHs cy a sg) ++ []) := z_D_perm (z_permT (ww := []) (wu := []) (wr := []) (tl := (zHs cy a sg)) (n := 0) [] [] rfl rfl rfl (by decide)) hD
              refine z_ciP (wc := (zHs cy a sg)) (wr := []) (va_runV (As := [.int (nI k), .int (nI d)]) (rest := [.int (nI nv)]) ⟨hx, hb, hml, hown, hts⟩ (h_c_volume l hl9 G cy wd fo _ _ a sg k (hkn) (zOk_k8 hO hkn) (zOk_pt hO hkn) (hO.1) d (zPk_kd hp) (zOk_g hO) (h1) (h0) (by omega) (by have := zPk_pc hp; omega)) (cwV 2 hts gL_isWord_X10_volume rfl rfl rfl (by decide +kernel) ⟨Nat.le_of_ble_eq_true rfl, Nat.le_of_ble_eq_true rfl⟩) (z_pVHP (ci := 11) hK hP5 hD5 hS hN hAN hWd hE rfl rfl 0 rfl) rfl rfl hl.1 rfl (lv_room (Nat.le_of_ble_eq_true rfl)) dL_isWord_105 ⟨by show (6 * i + 2 + 2 + 2) + 0 ≤ 80; omega, by show (60 * i + 20 + 20 + 20) + 0 ≤ 800; omega⟩) hP5 hD5 hS hA (fun r_57 u H locs hr_57 hQ hD hS hz => ?_)
              obtain ⟨s9_58, rfl⟩ : ∃ z, z = u := ⟨_, rfl⟩
              try dsimp only at hr_57
              have hP : va_P G vwCl (zHs cy a s9_58) H := z_P_perm (List.Perm.symm (z_permT (ww := []) (wu := []) (wr := []) (tl := (zHs cy a s9_58)) (n := 0) [] [] rfl rfl rfl (by decide))) hQ
              have hD : va_D A (zHs cy a s9_58) := z_D_perm (List.Perm.symm (z_permT (ww := []) (wu := []) (wr := []) (tl := (zHs cy a s9_58)) (n := 0) [] [] rfl rfl rfl (by decide))) hD
              clear hQ hP5 hD5
              rw [hr_57.2] at hP hD
              have hvr_57 : (nI (z_un (q_la (s_P sg k)) (q_vo (s_P sg k)) (q_pc (s_P sg k)) (q_kd (s_P sg k)) (s_g sg) d)) = (nI nv) := by rw [hu9]
              obtain rfl : r_57 = (nI nv) := hr_57.1.trans hvr_57
              refine z_icmp_ne hx hb (by omega) (by omega) dL_isWord_108 (tgt := 211) (by decide) (fun c_59 => ?_) (fun c_59 => ?_)
              · exfalso; omega
              · refine lv_iload hx hb dL_isWord_111 (lv_at hl 5 rfl) ?_
                refine lv_aload_n hx hb dL_isWord_113 rfl (lv_at hl 1 rfl) ?_
                refine lv_iload_n hx hb dL_isWord_114 rfl (lv_at hl 2 rfl) ?_
                refine lv_iload_n hx hb dL_isWord_115 rfl (lv_at hl 3 rfl) ?_
                have hP5 : va_P G vwCl ((zHs cy a sg) ++ []) _ := z_P_perm (z_permT (ww := []) (wu := []) (wr := []) (tl := (zHs cy a sg)) (n := 0) [] [] rfl rfl rfl (by decide)) hP
                have hD5 : va_D A ((zHs cy a sg) ++ []) := z_D_perm (z_permT (ww := []) (wu := []) (wr := []) (tl := (zHs cy a sg)) (n := 0) [] [] rfl rfl rfl (by decide)) hD
                refine z_ciP (wc := (zHs cy a sg)) (wr := []) (va_runV (As := [.int (nI k), .int (nI d)]) (rest := [.int (nI nv)]) ⟨hx, hb, hml, hown, hts⟩ (h_c_volumeAnew l hl9 G cy wd fo _ _ a sg k (hkn) (zOk_k8 hO hkn) (zOk_pt hO hkn) (hO.1) (q_vo (s_P sg k)) d (zPk_kd hp) (zOk_g hO) (h1) (h0) (by omega) (zPk_cn hp)) (cwV 2 hts gL_isWord_X10_volumeAnew rfl rfl rfl (by decide +kernel) ⟨Nat.le_of_ble_eq_true rfl, Nat.le_of_ble_eq_true rfl⟩) (z_pVHP (ci := 11) hK hP5 hD5 hS hN hAN hWd hE rfl rfl 0 rfl) rfl rfl hl.1 rfl (lv_room (Nat.le_of_ble_eq_true rfl)) dL_isWord_116 ⟨by show (6 * i + 2 + 2 + 2 + 0) + 0 ≤ 80; omega, by show (60 * i + 20 + 20 + 20 + 0) + 0 ≤ 800; omega⟩) hP5 hD5 hS hA (fun r_60 u H locs hr_60 hQ hD hS hz => ?_)
                obtain ⟨s9_61, rfl⟩ : ∃ z, z = u := ⟨_, rfl⟩
                try dsimp only at hr_60
                have hP : va_P G vwCl (zHs cy a s9_61) H := z_P_perm (List.Perm.symm (z_permT (ww := []) (wu := []) (wr := []) (tl := (zHs cy a s9_61)) (n := 0) [] [] rfl rfl rfl (by decide))) hQ
                have hD : va_D A (zHs cy a s9_61) := z_D_perm (List.Perm.symm (z_permT (ww := []) (wu := []) (wr := []) (tl := (zHs cy a s9_61)) (n := 0) [] [] rfl rfl rfl (by decide))) hD
                clear hQ hP5 hD5
                obtain ⟨hv9, w8, p8, q8, hs8⟩ := hr_60
                rw [show s9_61 = uW sg w8 p8 q8 from hs8] at hP hD
                have hv8 : r_60 = nI nv := by rw [hv9, hu9]
                obtain rfl : r_60 = nI nv := hv8
                refine z_icmp_ne hx hb (by omega) (by omega) dL_isWord_119 (tgt := 211) (by decide) (fun c_62 => ?_) (fun c_62 => ?_)
                · exfalso; omega
                · refine lv_iload hx hb dL_isWord_122 (lv_at hl 6 rfl) ?_
                  refine lv_iconst (v := nI 2) hx hb dL_isWord_124 (by decide) ?_
                  refine z_icmp_eq hx hb (by omega) (by omega) dL_isWord_125 (tgt := 140) (by decide) (fun c_63 => ?_) (fun c_63 => ?_)
                  · refine lv_aload_n hx hb dL_isWord_140 rfl (lv_at hl 1 rfl) ?_
                    refine lv_iload_n hx hb dL_isWord_141 rfl (lv_at hl 2 rfl) ?_
                    refine lv_iload_n hx hb dL_isWord_142 rfl (lv_at hl 3 rfl) ?_
                    refine lv_iload hx hb dL_isWord_143 (lv_at hl 6 rfl) ?_
                    have hP5 : va_P G vwCl ((zHs cy a (uW sg w8 p8 q8)) ++ []) _ := z_P_perm (z_permT (ww := []) (wu := []) (wr := []) (tl := (zHs cy a (uW sg w8 p8 q8))) (n := 0) [] [] rfl rfl rfl (by decide)) hP
                    have hD5 : va_D A ((zHs cy a (uW sg w8 p8 q8)) ++ []) := z_D_perm (z_permT (ww := []) (wu := []) (wr := []) (tl := (zHs cy a (uW sg w8 p8 q8))) (n := 0) [] [] rfl rfl rfl (by decide)) hD
                    refine z_ciP (wc := (zHs cy a (uW sg w8 p8 q8))) (wr := []) (va_runV (As := [.int (nI k), .int (nI d), .int (nI (1 + i))]) (rest := []) ⟨hx, hb, hml, hown, hts⟩ (h_c_word l hl9 G cy wd fo _ _ a (uW sg w8 p8 q8) k (hkn) (zOk_k8 hO hkn) (zOk_pt hO hkn) (hO.1) d (1 + i) (zPk_kd hp) (zOk_g hO) (h1) (h0) ((by omega : q_la (s_P sg k) < 1000)) (zPk_pc hp) (zPk_vo hp) ((zPk_su hp).1) (by omega)) (cwV 3 hts gL_isWord_X10_word rfl rfl rfl (by decide +kernel) ⟨Nat.le_of_ble_eq_true rfl, Nat.le_of_ble_eq_true rfl⟩) (z_pVHP (ci := 11) hK hP5 hD5 hS hN hAN hWd hE rfl rfl 0 rfl) rfl rfl hl.1 rfl (lv_room (Nat.le_of_ble_eq_true rfl)) dL_isWord_145 ⟨by show (6 * i + 2 + 2 + 2 + 0 + 0) + 2 ≤ 80; omega, by show (60 * i + 20 + 20 + 20 + 0 + 0) + 20 ≤ 800; omega⟩) hP5 hD5 hS hA (fun r_64 u H locs hr_64 hQ hD hS hz => ?_)
                    obtain ⟨s9_65, rfl⟩ : ∃ z, z = u := ⟨_, rfl⟩
                    try dsimp only at hr_64
                    have hP : va_P G vwCl (zHs cy a s9_65) H := z_P_perm (List.Perm.symm (z_permT (ww := []) (wu := []) (wr := []) (tl := (zHs cy a s9_65)) (n := 0) [] [] rfl rfl rfl (by decide))) hQ
                    have hD : va_D A (zHs cy a s9_65) := z_D_perm (List.Perm.symm (z_permT (ww := []) (wu := []) (wr := []) (tl := (zHs cy a s9_65)) (n := 0) [] [] rfl rfl rfl (by decide))) hD
                    clear hQ hP5 hD5
                    rw [hr_64.2] at hP hD
                    have hvr_64 : (nI (z_sign (q_la (s_P (uW sg w8 p8 q8) k)) (z_un (q_la (s_P (uW sg w8 p8 q8) k)) (q_vo (s_P (uW sg w8 p8 q8) k)) (q_pc (s_P (uW sg w8 p8 q8) k)) (q_kd (s_P (uW sg w8 p8 q8) k)) (s_g (uW sg w8 p8 q8)) d) ((q_hg (s_P (uW sg w8 p8 q8) k)) d) d (1 + i))) = (nI 47) := by show nI (z_sign (q_la (s_P sg k)) (z_un (q_la (s_P sg k)) (q_vo (s_P sg k)) (q_pc (s_P sg k)) (q_kd (s_P sg k)) (s_g sg) d) (q_hg (s_P sg k) d) d (1 + i)) = _; rw [← hu9, z_sign, ← hD9]; rw [if_neg (by omega), if_neg (by omega), if_pos (by omega)]
                    obtain rfl : r_64 = (nI 47) := hr_64.1.trans hvr_64
                    refine lv_bipush (v := nI 47) hx hb dL_isWord_148 (by decide) ?_
                    refine z_icmp_ne hx hb (by omega) (by omega) dL_isWord_150 (tgt := 211) (by decide) (fun c_66 => ?_) (fun c_66 => ?_)
                    · exfalso; omega
                    · refine lv_aload_n hx hb dL_isWord_153 rfl (lv_at hl 1 rfl) ?_
                      refine lv_iload_n hx hb dL_isWord_154 rfl (lv_at hl 2 rfl) ?_
                      refine lv_iload_n hx hb dL_isWord_155 rfl (lv_at hl 3 rfl) ?_
                      refine lv_iload hx hb dL_isWord_156 (lv_at hl 6 rfl) ?_
                      refine lv_iconst (v := nI 1) hx hb dL_isWord_158 (by decide) ?_
                      refine z_iadd hx hb dL_isWord_159 ?_
                      have hP5 : va_P G vwCl ((zHs cy a (uW sg w8 p8 q8)) ++ []) _ := z_P_perm (z_permT (ww := []) (wu := []) (wr := []) (tl := (zHs cy a (uW sg w8 p8 q8))) (n := 0) [] [] rfl rfl rfl (by decide)) hP
                      have hD5 : va_D A ((zHs cy a (uW sg w8 p8 q8)) ++ []) := z_D_perm (z_permT (ww := []) (wu := []) (wr := []) (tl := (zHs cy a (uW sg w8 p8 q8))) (n := 0) [] [] rfl rfl rfl (by decide)) hD
                      refine z_ciP (wc := (zHs cy a (uW sg w8 p8 q8))) (wr := []) (va_runV (As := [.int (nI k), .int (nI d), .int (nI ((1 + i) + 1))]) (rest := []) ⟨hx, hb, hml, hown, hts⟩ (h_c_word l hl9 G cy wd fo _ _ a (uW sg w8 p8 q8) k (hkn) (zOk_k8 hO hkn) (zOk_pt hO hkn) (hO.1) d ((1 + i) + 1) (zPk_kd hp) (zOk_g hO) (h1) (h0) ((by omega : q_la (s_P sg k) < 1000)) (zPk_pc hp) (zPk_vo hp) ((zPk_su hp).1) (by omega)) (cwV 3 hts gL_isWord_X10_word rfl rfl rfl (by decide +kernel) ⟨Nat.le_of_ble_eq_true rfl, Nat.le_of_ble_eq_true rfl⟩) (z_pVHP (ci := 11) hK hP5 hD5 hS hN hAN hWd hE rfl rfl 0 rfl) rfl rfl hl.1 rfl (lv_room (Nat.le_of_ble_eq_true rfl)) dL_isWord_160 ⟨by show (6 * i + 2 + 2 + 2 + 0 + 0 + 2) + 2 ≤ 80; omega, by show (60 * i + 20 + 20 + 20 + 0 + 0 + 20) + 20 ≤ 800; omega⟩) hP5 hD5 hS hA (fun r_67 u H locs hr_67 hQ hD hS hz => ?_)
                      obtain ⟨s9_68, rfl⟩ : ∃ z, z = u := ⟨_, rfl⟩
                      try dsimp only at hr_67
                      have hP : va_P G vwCl (zHs cy a s9_68) H := z_P_perm (List.Perm.symm (z_permT (ww := []) (wu := []) (wr := []) (tl := (zHs cy a s9_68)) (n := 0) [] [] rfl rfl rfl (by decide))) hQ
                      have hD : va_D A (zHs cy a s9_68) := z_D_perm (List.Perm.symm (z_permT (ww := []) (wu := []) (wr := []) (tl := (zHs cy a s9_68)) (n := 0) [] [] rfl rfl rfl (by decide))) hD
                      clear hQ hP5 hD5
                      rw [hr_67.2] at hP hD
                      have hvr_67 : (nI (z_sign (q_la (s_P (uW sg w8 p8 q8) k)) (z_un (q_la (s_P (uW sg w8 p8 q8) k)) (q_vo (s_P (uW sg w8 p8 q8) k)) (q_pc (s_P (uW sg w8 p8 q8) k)) (q_kd (s_P (uW sg w8 p8 q8) k)) (s_g (uW sg w8 p8 q8)) d) ((q_hg (s_P (uW sg w8 p8 q8) k)) d) d ((1 + i) + 1))) = (nI 115) := by show nI (z_sign (q_la (s_P sg k)) (z_un (q_la (s_P sg k)) (q_vo (s_P sg k)) (q_pc (s_P sg k)) (q_kd (s_P sg k)) (s_g sg) d) (q_hg (s_P sg k) d) d (1 + i + 1)) = _; rw [← hu9, z_sign, ← hD9]; rw [if_neg (by omega), if_neg (by omega), if_neg (by omega), if_pos (by omega)]
                      obtain rfl : r_67 = (nI 115) := hr_67.1.trans hvr_67
                      refine lv_bipush (v := nI 115) hx hb dL_isWord_163 (by decide) ?_
                      refine z_icmp_ne hx hb (by omega) (by omega) dL_isWord_165 (tgt := 211) (by decide) (fun c_69 => ?_) (fun c_69 => ?_)
                      · exfalso; omega
                      · refine lv_iload hx hb dL_isWord_168 (lv_at hl 0 rfl) ?_
                        refine z_if_lt hx hb (by omega) dL_isWord_170 (tgt := 211) (by decide) ?_
                        refine lv_iload hx hb dL_isWord_173 (lv_at hl 0 rfl) ?_
                        refine lv_iconst (v := nI 4) hx hb dL_isWord_175 (by decide) ?_
                        refine z_icmp_ge hx hb (by omega) (by omega) dL_isWord_176 (tgt := 211) (by decide) (fun c_71 => ?_) (fun c_71 => ?_)
                        · exfalso; omega
                        · refine lv_aload_n hx hb dL_isWord_179 rfl (lv_at hl 1 rfl) ?_
                          refine lv_iload_n hx hb dL_isWord_180 rfl (lv_at hl 2 rfl) ?_
                          refine lv_iload_n hx hb dL_isWord_181 rfl (lv_at hl 3 rfl) ?_
                          refine lv_iload hx hb dL_isWord_182 (lv_at hl 6 rfl) ?_
                          refine lv_iconst (v := nI 3) hx hb dL_isWord_184 (by decide) ?_
                          refine z_iadd hx hb dL_isWord_185 ?_
                          have hP5 : va_P G vwCl ((zHs cy a (uW sg w8 p8 q8)) ++ []) _ := z_P_perm (z_permT (ww := []) (wu := []) (wr := []) (tl := (zHs cy a (uW sg w8 p8 q8))) (n := 0) [] [] rfl rfl rfl (by decide)) hP
                          have hD5 : va_D A ((zHs cy a (uW sg w8 p8 q8)) ++ []) := z_D_perm (z_permT (ww := []) (wu := []) (wr := []) (tl := (zHs cy a (uW sg w8 p8 q8))) (n := 0) [] [] rfl rfl rfl (by decide)) hD
                          refine z_ciP (wc := (zHs cy a (uW sg w8 p8 q8))) (wr := []) (va_runV (As := [.int (nI k), .int (nI d), .int (nI ((1 + i) + 3))]) (rest := []) ⟨hx, hb, hml, hown, hts⟩ (h_c_word l hl9 G cy wd fo _ _ a (uW sg w8 p8 q8) k (hkn) (zOk_k8 hO hkn) (zOk_pt hO hkn) (hO.1) d ((1 + i) + 3) (zPk_kd hp) (zOk_g hO) (h1) (h0) ((by omega : q_la (s_P sg k) < 1000)) (zPk_pc hp) (zPk_vo hp) ((zPk_su hp).1) (by omega)) (cwV 3 hts gL_isWord_X10_word rfl rfl rfl (by decide +kernel) ⟨Nat.le_of_ble_eq_true rfl, Nat.le_of_ble_eq_true rfl⟩) (z_pVHP (ci := 11) hK hP5 hD5 hS hN hAN hWd hE rfl rfl 0 rfl) rfl rfl hl.1 rfl (lv_room (Nat.le_of_ble_eq_true rfl)) dL_isWord_186 ⟨by show (6 * i + 2 + 2 + 2 + 0 + 0 + 2 + 2) + 2 ≤ 80; omega, by show (60 * i + 20 + 20 + 20 + 0 + 0 + 20 + 20) + 20 ≤ 800; omega⟩) hP5 hD5 hS hA (fun r_72 u H locs hr_72 hQ hD hS hz => ?_)
                          obtain ⟨s9_73, rfl⟩ : ∃ z, z = u := ⟨_, rfl⟩
                          try dsimp only at hr_72
                          have hP : va_P G vwCl (zHs cy a s9_73) H := z_P_perm (List.Perm.symm (z_permT (ww := []) (wu := []) (wr := []) (tl := (zHs cy a s9_73)) (n := 0) [] [] rfl rfl rfl (by decide))) hQ
                          have hD : va_D A (zHs cy a s9_73) := z_D_perm (List.Perm.symm (z_permT (ww := []) (wu := []) (wr := []) (tl := (zHs cy a s9_73)) (n := 0) [] [] rfl rfl rfl (by decide))) hD
                          clear hQ hP5 hD5
                          rw [hr_72.2] at hP hD
                          have hvr_72 : (nI (z_sign (q_la (s_P (uW sg w8 p8 q8) k)) (z_un (q_la (s_P (uW sg w8 p8 q8) k)) (q_vo (s_P (uW sg w8 p8 q8) k)) (q_pc (s_P (uW sg w8 p8 q8) k)) (q_kd (s_P (uW sg w8 p8 q8) k)) (s_g (uW sg w8 p8 q8)) d) ((q_hg (s_P (uW sg w8 p8 q8) k)) d) d ((1 + i) + 3))) = (nI 32) := by show nI (z_sign (q_la (s_P sg k)) (z_un (q_la (s_P sg k)) (q_vo (s_P sg k)) (q_pc (s_P sg k)) (q_kd (s_P sg k)) (s_g sg) d) (q_hg (s_P sg k) d) d (1 + i + 3)) = _; rw [← hu9, z_sign, ← hD9]; rw [if_neg (by omega), if_neg (by omega), if_neg (by omega), if_neg (by omega), if_neg (by omega)]
                          obtain rfl : r_72 = (nI 32) := hr_72.1.trans hvr_72
                          refine lv_bipush (v := nI 32) hx hb dL_isWord_189 (by decide) ?_
                          refine z_icmp_ne hx hb (by omega) (by omega) dL_isWord_191 (tgt := 211) (by decide) (fun c_74 => ?_) (fun c_74 => ?_)
                          · exfalso; omega
                          · refine lv_aload_n hx hb dL_isWord_194 rfl (lv_at hl 1 rfl) ?_
                            refine lv_iload_n hx hb dL_isWord_195 rfl (lv_at hl 2 rfl) ?_
                            refine lv_iload_n hx hb dL_isWord_196 rfl (lv_at hl 3 rfl) ?_
                            refine lv_ldc (v := nI 2147483647) hx hb hown (hts _ (List.mem_of_getElem? (i := 1) (by decide +kernel))) dL_isWord_197 ?_
                            have hP5 : va_P G vwCl ((zHs cy a (uW sg w8 p8 q8)) ++ []) _ := z_P_perm (z_permT (ww := []) (wu := []) (wr := []) (tl := (zHs cy a (uW sg w8 p8 q8))) (n := 0) [] [] rfl rfl rfl (by decide)) hP
                            have hD5 : va_D A ((zHs cy a (uW sg w8 p8 q8)) ++ []) := z_D_perm (z_permT (ww := []) (wu := []) (wr := []) (tl := (zHs cy a (uW sg w8 p8 q8))) (n := 0) [] [] rfl rfl rfl (by decide)) hD
                            refine z_ciP (wc := (zHs cy a (uW sg w8 p8 q8))) (wr := []) (va_runV (As := [.int (nI k), .int (nI d), .int (nI 2147483647)]) (rest := []) ⟨hx, hb, hml, hown, hts⟩ (h_c_word l hl9 G cy wd fo _ _ a (uW sg w8 p8 q8) k (hkn) (zOk_k8 hO hkn) (zOk_pt hO hkn) (hO.1) d 2147483647 (zPk_kd hp) (zOk_g hO) (h1) (h0) ((by omega : q_la (s_P sg k) < 1000)) (zPk_pc hp) (zPk_vo hp) ((zPk_su hp).1) (by omega)) (cwV 3 hts gL_isWord_X10_word rfl rfl rfl (by decide +kernel) ⟨Nat.le_of_ble_eq_true rfl, Nat.le_of_ble_eq_true rfl⟩) (z_pVHP (ci := 11) hK hP5 hD5 hS hN hAN hWd hE rfl rfl 0 rfl) rfl rfl hl.1 rfl (lv_room (Nat.le_of_ble_eq_true rfl)) dL_isWord_199 ⟨by show (6 * i + 2 + 2 + 2 + 0 + 0 + 2 + 2 + 2) + 2 ≤ 80; omega, by show (60 * i + 20 + 20 + 20 + 0 + 0 + 20 + 20 + 20) + 20 ≤ 800; omega⟩) hP5 hD5 hS hA (fun r_75 u H locs hr_75 hQ hD hS hz => ?_)
                            obtain ⟨s9_76, rfl⟩ : ∃ z, z = u := ⟨_, rfl⟩
                            try dsimp only at hr_75
                            have hP : va_P G vwCl (zHs cy a s9_76) H := z_P_perm (List.Perm.symm (z_permT (ww := []) (wu := []) (wr := []) (tl := (zHs cy a s9_76)) (n := 0) [] [] rfl rfl rfl (by decide))) hQ
                            have hD : va_D A (zHs cy a s9_76) := z_D_perm (List.Perm.symm (z_permT (ww := []) (wu := []) (wr := []) (tl := (zHs cy a s9_76)) (n := 0) [] [] rfl rfl rfl (by decide))) hD
                            clear hQ hP5 hD5
                            rw [hr_75.2] at hP hD
                            have hvr_75 : (nI (z_sign (q_la (s_P (uW sg w8 p8 q8) k)) (z_un (q_la (s_P (uW sg w8 p8 q8) k)) (q_vo (s_P (uW sg w8 p8 q8) k)) (q_pc (s_P (uW sg w8 p8 q8) k)) (q_kd (s_P (uW sg w8 p8 q8) k)) (s_g (uW sg w8 p8 q8)) d) ((q_hg (s_P (uW sg w8 p8 q8) k)) d) d 2147483647)) = (nI 32) := by show nI (z_sign (q_la (s_P sg k)) (z_un (q_la (s_P sg k)) (q_vo (s_P sg k)) (q_pc (s_P sg k)) (q_kd (s_P sg k)) (s_g sg) d) (q_hg (s_P sg k) d) d 2147483647) = _; rw [← hu9, z_sign, ← hD9]; rw [if_neg (by omega), if_neg (by omega), if_neg (by omega), if_neg (by omega), if_neg (by omega)]
                            obtain rfl : r_75 = (nI 32) := hr_75.1.trans hvr_75
                            refine lv_bipush (v := nI 32) hx hb dL_isWord_202 (by decide) ?_
                            refine z_icmp_ne hx hb (by omega) (by omega) dL_isWord_204 (tgt := 211) (by decide) (fun c_77 => ?_) (fun c_77 => ?_)
                            · exfalso; omega
                            · refine lv_iconst (v := nI 1) hx hb dL_isWord_207 (by decide) ?_
                              refine lv_goto (tgt := 212) hx hb dL_isWord_208 (by decide) ?_
                              exact z_rMz hx hb hr hlk (by rfl) dL_isWord_212 (uW sg w8 p8 q8) (⟨rfl, zSame_uW hO⟩) hP hD hK hS (by omega) (by omega)
                  · refine lv_aload_n hx hb dL_isWord_128 rfl (lv_at hl 1 rfl) ?_
                    refine lv_iload_n hx hb dL_isWord_129 rfl (lv_at hl 2 rfl) ?_
                    refine lv_iload_n hx hb dL_isWord_130 rfl (lv_at hl 3 rfl) ?_
                    refine lv_iconst (v := nI 1) hx hb dL_isWord_131 (by decide) ?_
                    have hP5 : va_P G vwCl ((zHs cy a (uW sg w8 p8 q8)) ++ []) _ := z_P_perm (z_permT (ww := []) (wu := []) (wr := []) (tl := (zHs cy a (uW sg w8 p8 q8))) (n := 0) [] [] rfl rfl rfl (by decide)) hP
                    have hD5 : va_D A ((zHs cy a (uW sg w8 p8 q8)) ++ []) := z_D_perm (z_permT (ww := []) (wu := []) (wr := []) (tl := (zHs cy a (uW sg w8 p8 q8))) (n := 0) [] [] rfl rfl rfl (by decide)) hD
                    refine z_ciP (wc := (zHs cy a (uW sg w8 p8 q8))) (wr := []) (va_runV (As := [.int (nI k), .int (nI d), .int (nI 1)]) (rest := []) ⟨hx, hb, hml, hown, hts⟩ (h_c_word l hl9 G cy wd fo _ _ a (uW sg w8 p8 q8) k (hkn) (zOk_k8 hO hkn) (zOk_pt hO hkn) (hO.1) d 1 (zPk_kd hp) (zOk_g hO) (h1) (h0) ((by omega : q_la (s_P sg k) < 1000)) (zPk_pc hp) (zPk_vo hp) ((zPk_su hp).1) (by omega)) (cwV 3 hts gL_isWord_X10_word rfl rfl rfl (by decide +kernel) ⟨Nat.le_of_ble_eq_true rfl, Nat.le_of_ble_eq_true rfl⟩) (z_pVHP (ci := 11) hK hP5 hD5 hS hN hAN hWd hE rfl rfl 0 rfl) rfl rfl hl.1 rfl (lv_room (Nat.le_of_ble_eq_true rfl)) dL_isWord_132 ⟨by show (6 * i + 2 + 2 + 2 + 0 + 0) + 2 ≤ 80; omega, by show (60 * i + 20 + 20 + 20 + 0 + 0) + 20 ≤ 800; omega⟩) hP5 hD5 hS hA (fun r_78 u H locs hr_78 hQ hD hS hz => ?_)
                    obtain ⟨s9_79, rfl⟩ : ∃ z, z = u := ⟨_, rfl⟩
                    try dsimp only at hr_78
                    have hP : va_P G vwCl (zHs cy a s9_79) H := z_P_perm (List.Perm.symm (z_permT (ww := []) (wu := []) (wr := []) (tl := (zHs cy a s9_79)) (n := 0) [] [] rfl rfl rfl (by decide))) hQ
                    have hD : va_D A (zHs cy a s9_79) := z_D_perm (List.Perm.symm (z_permT (ww := []) (wu := []) (wr := []) (tl := (zHs cy a s9_79)) (n := 0) [] [] rfl rfl rfl (by decide))) hD
                    clear hQ hP5 hD5
                    rw [hr_78.2] at hP hD
                    have hvr_78 : (nI (z_sign (q_la (s_P (uW sg w8 p8 q8) k)) (z_un (q_la (s_P (uW sg w8 p8 q8) k)) (q_vo (s_P (uW sg w8 p8 q8) k)) (q_pc (s_P (uW sg w8 p8 q8) k)) (q_kd (s_P (uW sg w8 p8 q8) k)) (s_g (uW sg w8 p8 q8)) d) ((q_hg (s_P (uW sg w8 p8 q8) k)) d) d 1)) = (nI (48 + nv / 10 ^ (i - 1) % 10)) := by show nI (z_sign (q_la (s_P sg k)) (z_un (q_la (s_P sg k)) (q_vo (s_P sg k)) (q_pc (s_P sg k)) (q_kd (s_P sg k)) (s_g sg) d) (q_hg (s_P sg k) d) d 1) = _; rw [← hu9, z_sign, ← hD9]; rw [if_neg (by omega), if_pos (by omega)]
                    obtain rfl : r_78 = (nI (48 + nv / 10 ^ (i - 1) % 10)) := hr_78.1.trans hvr_78
                    refine lv_bipush (v := nI 48) hx hb dL_isWord_135 (by decide) ?_
                    refine z_icmp_eq hx hb (by omega) (by omega) dL_isWord_137 (tgt := 211) (by decide) (fun c_80 => ?_) (fun c_80 => ?_)
                    · exact absurd c_80 (z_lead (by omega) hD3 hD4 hD1)
                    · refine lv_aload_n hx hb dL_isWord_140 rfl (lv_at hl 1 rfl) ?_
                      refine lv_iload_n hx hb dL_isWord_141 rfl (lv_at hl 2 rfl) ?_
                      refine lv_iload_n hx hb dL_isWord_142 rfl (lv_at hl 3 rfl) ?_
                      refine lv_iload hx hb dL_isWord_143 (lv_at hl 6 rfl) ?_
                      have hP5 : va_P G vwCl ((zHs cy a (uW sg w8 p8 q8)) ++ []) _ := z_P_perm (z_permT (ww := []) (wu := []) (wr := []) (tl := (zHs cy a (uW sg w8 p8 q8))) (n := 0) [] [] rfl rfl rfl (by decide)) hP
                      have hD5 : va_D A ((zHs cy a (uW sg w8 p8 q8)) ++ []) := z_D_perm (z_permT (ww := []) (wu := []) (wr := []) (tl := (zHs cy a (uW sg w8 p8 q8))) (n := 0) [] [] rfl rfl rfl (by decide)) hD
                      refine z_ciP (wc := (zHs cy a (uW sg w8 p8 q8))) (wr := []) (va_runV (As := [.int (nI k), .int (nI d), .int (nI (1 + i))]) (rest := []) ⟨hx, hb, hml, hown, hts⟩ (h_c_word l hl9 G cy wd fo _ _ a (uW sg w8 p8 q8) k (hkn) (zOk_k8 hO hkn) (zOk_pt hO hkn) (hO.1) d (1 + i) (zPk_kd hp) (zOk_g hO) (h1) (h0) ((by omega : q_la (s_P sg k) < 1000)) (zPk_pc hp) (zPk_vo hp) ((zPk_su hp).1) (by omega)) (cwV 3 hts gL_isWord_X10_word rfl rfl rfl (by decide +kernel) ⟨Nat.le_of_ble_eq_true rfl, Nat.le_of_ble_eq_true rfl⟩) (z_pVHP (ci := 11) hK hP5 hD5 hS hN hAN hWd hE rfl rfl 0 rfl) rfl rfl hl.1 rfl (lv_room (Nat.le_of_ble_eq_true rfl)) dL_isWord_145 ⟨by show (6 * i + 2 + 2 + 2 + 0 + 0 + 2) + 2 ≤ 80; omega, by show (60 * i + 20 + 20 + 20 + 0 + 0 + 20) + 20 ≤ 800; omega⟩) hP5 hD5 hS hA (fun r_81 u H locs hr_81 hQ hD hS hz => ?_)
                      obtain ⟨s9_82, rfl⟩ : ∃ z, z = u := ⟨_, rfl⟩
                      try dsimp only at hr_81
                      have hP : va_P G vwCl (zHs cy a s9_82) H := z_P_perm (List.Perm.symm (z_permT (ww := []) (wu := []) (wr := []) (tl := (zHs cy a s9_82)) (n := 0) [] [] rfl rfl rfl (by decide))) hQ
                      have hD : va_D A (zHs cy a s9_82) := z_D_perm (List.Perm.symm (z_permT (ww := []) (wu := []) (wr := []) (tl := (zHs cy a s9_82)) (n := 0) [] [] rfl rfl rfl (by decide))) hD
                      clear hQ hP5 hD5
                      rw [hr_81.2] at hP hD
                      have hvr_81 : (nI (z_sign (q_la (s_P (uW sg w8 p8 q8) k)) (z_un (q_la (s_P (uW sg w8 p8 q8) k)) (q_vo (s_P (uW sg w8 p8 q8) k)) (q_pc (s_P (uW sg w8 p8 q8) k)) (q_kd (s_P (uW sg w8 p8 q8) k)) (s_g (uW sg w8 p8 q8)) d) ((q_hg (s_P (uW sg w8 p8 q8) k)) d) d (1 + i))) = (nI 47) := by show nI (z_sign (q_la (s_P sg k)) (z_un (q_la (s_P sg k)) (q_vo (s_P sg k)) (q_pc (s_P sg k)) (q_kd (s_P sg k)) (s_g sg) d) (q_hg (s_P sg k) d) d (1 + i)) = _; rw [← hu9, z_sign, ← hD9]; rw [if_neg (by omega), if_neg (by omega), if_pos (by omega)]
                      obtain rfl : r_81 = (nI 47) := hr_81.1.trans hvr_81
                      refine lv_bipush (v := nI 47) hx hb dL_isWord_148 (by decide) ?_
                      refine z_icmp_ne hx hb (by omega) (by omega) dL_isWord_150 (tgt := 211) (by decide) (fun c_83 => ?_) (fun c_83 => ?_)
                      · exfalso; omega
                      · refine lv_aload_n hx hb dL_isWord_153 rfl (lv_at hl 1 rfl) ?_
                        refine lv_iload_n hx hb dL_isWord_154 rfl (lv_at hl 2 rfl) ?_
                        refine lv_iload_n hx hb dL_isWord_155 rfl (lv_at hl 3 rfl) ?_
                        refine lv_iload hx hb dL_isWord_156 (lv_at hl 6 rfl) ?_
                        refine lv_iconst (v := nI 1) hx hb dL_isWord_158 (by decide) ?_
                        refine z_iadd hx hb dL_isWord_159 ?_
                        have hP5 : va_P G vwCl ((zHs cy a (uW sg w8 p8 q8)) ++ []) _ := z_P_perm (z_permT (ww := []) (wu := []) (wr := []) (tl := (zHs cy a (uW sg w8 p8 q8))) (n := 0) [] [] rfl rfl rfl (by decide)) hP
                        have hD5 : va_D A ((zHs cy a (uW sg w8 p8 q8)) ++ []) := z_D_perm (z_permT (ww := []) (wu := []) (wr := []) (tl := (zHs cy a (uW sg w8 p8 q8))) (n := 0) [] [] rfl rfl rfl (by decide)) hD
                        refine z_ciP (wc := (zHs cy a (uW sg w8 p8 q8))) (wr := []) (va_runV (As := [.int (nI k), .int (nI d), .int (nI ((1 + i) + 1))]) (rest := []) ⟨hx, hb, hml, hown, hts⟩ (h_c_word l hl9 G cy wd fo _ _ a (uW sg w8 p8 q8) k (hkn) (zOk_k8 hO hkn) (zOk_pt hO hkn) (hO.1) d ((1 + i) + 1) (zPk_kd hp) (zOk_g hO) (h1) (h0) ((by omega : q_la (s_P sg k) < 1000)) (zPk_pc hp) (zPk_vo hp) ((zPk_su hp).1) (by omega)) (cwV 3 hts gL_isWord_X10_word rfl rfl rfl (by decide +kernel) ⟨Nat.le_of_ble_eq_true rfl, Nat.le_of_ble_eq_true rfl⟩) (z_pVHP (ci := 11) hK hP5 hD5 hS hN hAN hWd hE rfl rfl 0 rfl) rfl rfl hl.1 rfl (lv_room (Nat.le_of_ble_eq_true rfl)) dL_isWord_160 ⟨by show (6 * i + 2 + 2 + 2 + 0 + 0 + 2 + 2) + 2 ≤ 80; omega, by show (60 * i + 20 + 20 + 20 + 0 + 0 + 20 + 20) + 20 ≤ 800; omega⟩) hP5 hD5 hS hA (fun r_84 u H locs hr_84 hQ hD hS hz => ?_)
                        obtain ⟨s9_85, rfl⟩ : ∃ z, z = u := ⟨_, rfl⟩
                        try dsimp only at hr_84
                        have hP : va_P G vwCl (zHs cy a s9_85) H := z_P_perm (List.Perm.symm (z_permT (ww := []) (wu := []) (wr := []) (tl := (zHs cy a s9_85)) (n := 0) [] [] rfl rfl rfl (by decide))) hQ
                        have hD : va_D A (zHs cy a s9_85) := z_D_perm (List.Perm.symm (z_permT (ww := []) (wu := []) (wr := []) (tl := (zHs cy a s9_85)) (n := 0) [] [] rfl rfl rfl (by decide))) hD
                        clear hQ hP5 hD5
                        rw [hr_84.2] at hP hD
                        have hvr_84 : (nI (z_sign (q_la (s_P (uW sg w8 p8 q8) k)) (z_un (q_la (s_P (uW sg w8 p8 q8) k)) (q_vo (s_P (uW sg w8 p8 q8) k)) (q_pc (s_P (uW sg w8 p8 q8) k)) (q_kd (s_P (uW sg w8 p8 q8) k)) (s_g (uW sg w8 p8 q8)) d) ((q_hg (s_P (uW sg w8 p8 q8) k)) d) d ((1 + i) + 1))) = (nI 115) := by show nI (z_sign (q_la (s_P sg k)) (z_un (q_la (s_P sg k)) (q_vo (s_P sg k)) (q_pc (s_P sg k)) (q_kd (s_P sg k)) (s_g sg) d) (q_hg (s_P sg k) d) d (1 + i + 1)) = _; rw [← hu9, z_sign, ← hD9]; rw [if_neg (by omega), if_neg (by omega), if_neg (by omega), if_pos (by omega)]
                        obtain rfl : r_84 = (nI 115) := hr_84.1.trans hvr_84
                        refine lv_bipush (v := nI 115) hx hb dL_isWord_163 (by decide) ?_
                        refine z_icmp_ne hx hb (by omega) (by omega) dL_isWord_165 (tgt := 211) (by decide) (fun c_86 => ?_) (fun c_86 => ?_)
                        · exfalso; omega
                        · refine lv_iload hx hb dL_isWord_168 (lv_at hl 0 rfl) ?_
                          refine z_if_lt hx hb (by omega) dL_isWord_170 (tgt := 211) (by decide) ?_
                          refine lv_iload hx hb dL_isWord_173 (lv_at hl 0 rfl) ?_
                          refine lv_iconst (v := nI 4) hx hb dL_isWord_175 (by decide) ?_
                          refine z_icmp_ge hx hb (by omega) (by omega) dL_isWord_176 (tgt := 211) (by decide) (fun c_88 => ?_) (fun c_88 => ?_)
                          · exfalso; omega
                          · refine lv_aload_n hx hb dL_isWord_179 rfl (lv_at hl 1 rfl) ?_
                            refine lv_iload_n hx hb dL_isWord_180 rfl (lv_at hl 2 rfl) ?_
                            refine lv_iload_n hx hb dL_isWord_181 rfl (lv_at hl 3 rfl) ?_
                            refine lv_iload hx hb dL_isWord_182 (lv_at hl 6 rfl) ?_
                            refine lv_iconst (v := nI 3) hx hb dL_isWord_184 (by decide) ?_
                            refine z_iadd hx hb dL_isWord_185 ?_
                            have hP5 : va_P G vwCl ((zHs cy a (uW sg w8 p8 q8)) ++ []) _ := z_P_perm (z_permT (ww := []) (wu := []) (wr := []) (tl := (zHs cy a (uW sg w8 p8 q8))) (n := 0) [] [] rfl rfl rfl (by decide)) hP
                            have hD5 : va_D A ((zHs cy a (uW sg w8 p8 q8)) ++ []) := z_D_perm (z_permT (ww := []) (wu := []) (wr := []) (tl := (zHs cy a (uW sg w8 p8 q8))) (n := 0) [] [] rfl rfl rfl (by decide)) hD
                            refine z_ciP (wc := (zHs cy a (uW sg w8 p8 q8))) (wr := []) (va_runV (As := [.int (nI k), .int (nI d), .int (nI ((1 + i) + 3))]) (rest := []) ⟨hx, hb, hml, hown, hts⟩ (h_c_word l hl9 G cy wd fo _ _ a (uW sg w8 p8 q8) k (hkn) (zOk_k8 hO hkn) (zOk_pt hO hkn) (hO.1) d ((1 + i) + 3) (zPk_kd hp) (zOk_g hO) (h1) (h0) ((by omega : q_la (s_P sg k) < 1000)) (zPk_pc hp) (zPk_vo hp) ((zPk_su hp).1) (by omega)) (cwV 3 hts gL_isWord_X10_word rfl rfl rfl (by decide +kernel) ⟨Nat.le_of_ble_eq_true rfl, Nat.le_of_ble_eq_true rfl⟩) (z_pVHP (ci := 11) hK hP5 hD5 hS hN hAN hWd hE rfl rfl 0 rfl) rfl rfl hl.1 rfl (lv_room (Nat.le_of_ble_eq_true rfl)) dL_isWord_186 ⟨by show (6 * i + 2 + 2 + 2 + 0 + 0 + 2 + 2 + 2) + 2 ≤ 80; omega, by show (60 * i + 20 + 20 + 20 + 0 + 0 + 20 + 20 + 20) + 20 ≤ 800; omega⟩) hP5 hD5 hS hA (fun r_89 u H locs hr_89 hQ hD hS hz => ?_)
                            obtain ⟨s9_90, rfl⟩ : ∃ z, z = u := ⟨_, rfl⟩
                            try dsimp only at hr_89
                            have hP : va_P G vwCl (zHs cy a s9_90) H := z_P_perm (List.Perm.symm (z_permT (ww := []) (wu := []) (wr := []) (tl := (zHs cy a s9_90)) (n := 0) [] [] rfl rfl rfl (by decide))) hQ
                            have hD : va_D A (zHs cy a s9_90) := z_D_perm (List.Perm.symm (z_permT (ww := []) (wu := []) (wr := []) (tl := (zHs cy a s9_90)) (n := 0) [] [] rfl rfl rfl (by decide))) hD
                            clear hQ hP5 hD5
                            rw [hr_89.2] at hP hD
                            have hvr_89 : (nI (z_sign (q_la (s_P (uW sg w8 p8 q8) k)) (z_un (q_la (s_P (uW sg w8 p8 q8) k)) (q_vo (s_P (uW sg w8 p8 q8) k)) (q_pc (s_P (uW sg w8 p8 q8) k)) (q_kd (s_P (uW sg w8 p8 q8) k)) (s_g (uW sg w8 p8 q8)) d) ((q_hg (s_P (uW sg w8 p8 q8) k)) d) d ((1 + i) + 3))) = (nI 32) := by show nI (z_sign (q_la (s_P sg k)) (z_un (q_la (s_P sg k)) (q_vo (s_P sg k)) (q_pc (s_P sg k)) (q_kd (s_P sg k)) (s_g sg) d) (q_hg (s_P sg k) d) d (1 + i + 3)) = _; rw [← hu9, z_sign, ← hD9]; rw [if_neg (by omega), if_neg (by omega), if_neg (by omega), if_neg (by omega), if_neg (by omega)]
                            obtain rfl : r_89 = (nI 32) := hr_89.1.trans hvr_89
                            refine lv_bipush (v := nI 32) hx hb dL_isWord_189 (by decide) ?_
                            refine z_icmp_ne hx hb (by omega) (by omega) dL_isWord_191 (tgt := 211) (by decide) (fun c_91 => ?_) (fun c_91 => ?_)
                            · exfalso; omega
                            · refine lv_aload_n hx hb dL_isWord_194 rfl (lv_at hl 1 rfl) ?_
                              refine lv_iload_n hx hb dL_isWord_195 rfl (lv_at hl 2 rfl) ?_
                              refine lv_iload_n hx hb dL_isWord_196 rfl (lv_at hl 3 rfl) ?_
                              refine lv_ldc (v := nI 2147483647) hx hb hown (hts _ (List.mem_of_getElem? (i := 1) (by decide +kernel))) dL_isWord_197 ?_
                              have hP5 : va_P G vwCl ((zHs cy a (uW sg w8 p8 q8)) ++ []) _ := z_P_perm (z_permT (ww := []) (wu := []) (wr := []) (tl := (zHs cy a (uW sg w8 p8 q8))) (n := 0) [] [] rfl rfl rfl (by decide)) hP
                              have hD5 : va_D A ((zHs cy a (uW sg w8 p8 q8)) ++ []) := z_D_perm (z_permT (ww := []) (wu := []) (wr := []) (tl := (zHs cy a (uW sg w8 p8 q8))) (n := 0) [] [] rfl rfl rfl (by decide)) hD
                              refine z_ciP (wc := (zHs cy a (uW sg w8 p8 q8))) (wr := []) (va_runV (As := [.int (nI k), .int (nI d), .int (nI 2147483647)]) (rest := []) ⟨hx, hb, hml, hown, hts⟩ (h_c_word l hl9 G cy wd fo _ _ a (uW sg w8 p8 q8) k (hkn) (zOk_k8 hO hkn) (zOk_pt hO hkn) (hO.1) d 2147483647 (zPk_kd hp) (zOk_g hO) (h1) (h0) ((by omega : q_la (s_P sg k) < 1000)) (zPk_pc hp) (zPk_vo hp) ((zPk_su hp).1) (by omega)) (cwV 3 hts gL_isWord_X10_word rfl rfl rfl (by decide +kernel) ⟨Nat.le_of_ble_eq_true rfl, Nat.le_of_ble_eq_true rfl⟩) (z_pVHP (ci := 11) hK hP5 hD5 hS hN hAN hWd hE rfl rfl 0 rfl) rfl rfl hl.1 rfl (lv_room (Nat.le_of_ble_eq_true rfl)) dL_isWord_199 ⟨by show (6 * i + 2 + 2 + 2 + 0 + 0 + 2 + 2 + 2 + 2) + 2 ≤ 80; omega, by show (60 * i + 20 + 20 + 20 + 0 + 0 + 20 + 20 + 20 + 20) + 20 ≤ 800; omega⟩) hP5 hD5 hS hA (fun r_92 u H locs hr_92 hQ hD hS hz => ?_)
                              obtain ⟨s9_93, rfl⟩ : ∃ z, z = u := ⟨_, rfl⟩
                              try dsimp only at hr_92
                              have hP : va_P G vwCl (zHs cy a s9_93) H := z_P_perm (List.Perm.symm (z_permT (ww := []) (wu := []) (wr := []) (tl := (zHs cy a s9_93)) (n := 0) [] [] rfl rfl rfl (by decide))) hQ
                              have hD : va_D A (zHs cy a s9_93) := z_D_perm (List.Perm.symm (z_permT (ww := []) (wu := []) (wr := []) (tl := (zHs cy a s9_93)) (n := 0) [] [] rfl rfl rfl (by decide))) hD
                              clear hQ hP5 hD5
                              rw [hr_92.2] at hP hD
                              have hvr_92 : (nI (z_sign (q_la (s_P (uW sg w8 p8 q8) k)) (z_un (q_la (s_P (uW sg w8 p8 q8) k)) (q_vo (s_P (uW sg w8 p8 q8) k)) (q_pc (s_P (uW sg w8 p8 q8) k)) (q_kd (s_P (uW sg w8 p8 q8) k)) (s_g (uW sg w8 p8 q8)) d) ((q_hg (s_P (uW sg w8 p8 q8) k)) d) d 2147483647)) = (nI 32) := by show nI (z_sign (q_la (s_P sg k)) (z_un (q_la (s_P sg k)) (q_vo (s_P sg k)) (q_pc (s_P sg k)) (q_kd (s_P sg k)) (s_g sg) d) (q_hg (s_P sg k) d) d 2147483647) = _; rw [← hu9, z_sign, ← hD9]; rw [if_neg (by omega), if_neg (by omega), if_neg (by omega), if_neg (by omega), if_neg (by omega)]
                              obtain rfl : r_92 = (nI 32) := hr_92.1.trans hvr_92
                              refine lv_bipush (v := nI 32) hx hb dL_isWord_202 (by decide) ?_
                              refine z_icmp_ne hx hb (by omega) (by omega) dL_isWord_204 (tgt := 211) (by decide) (fun c_94 => ?_) (fun c_94 => ?_)
                              · exfalso; omega
                              · refine lv_iconst (v := nI 1) hx hb dL_isWord_207 (by decide) ?_
                                refine lv_goto (tgt := 212) hx hb dL_isWord_208 (by decide) ?_
                                exact z_rMz hx hb hr hlk (by rfl) dL_isWord_212 (uW sg w8 p8 q8) (⟨rfl, zSame_uW hO⟩) hP hD hK hS (by omega) (by omega)
        · exfalso; omega
  refine W.widen (k := 6 * 0) (n := 60 * 0) (by omega) (by omega) ?_
  exact hloop6 (D9 - 0 + 1) 0 0 (by omega) (by rw [Nat.sub_zero, Nat.div_eq_of_lt hD3]) (by omega) _ _ hP hD hS _ (lv_sub hl [2, 3, 4, 5, 1, 0] rfl)
