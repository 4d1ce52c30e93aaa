/-! changes -/
set_option maxHeartbeats 4000000 in
set_option maxRecDepth 100000 in
theorem c_L_changes (l : Launch) (hl9 : l.stackTraces = false) (G : va_G) (cy : Nat → ClassId) (wd : Nat → Nat) (fo : Option Nat) (N0 sz0 : Nat) (a : Nat → Nat) (sg : zHo) (x y cA : Nat) (cc : Nat → Int32) (hO : zOk sg) (hn : 0 < s_np sg) (hx : x < 1073741824) (hy : y < 1073741824) (hc0 : cc 0 = nI (s_np sg)) (hc1 : cc 1 = nI (s_T sg)) : Met l yL_changes wsL_changes ({ frames := 10, cells := 2, slots := 12, locals := 250 }) (zMH G cy wd fo N0 [.ref (a 0), .int (nI x), .int (nI y), .ref cA] sz0 ([zI cy cA 3 cc] ++ (zHs cy a sg))) (va_Qi (fun r s9 => r = nI 1 ∧ zKp sg s9 ∧ ∀ j, zUv (s_P s9 j) = zUv (s_P sg j)) (fun (u : zHo) t9 => zB G cy (va_A ([zI cy cA 3 cc] ++ (zHs cy a sg)) sz0) ([zI cy cA 3 cc] ++ (zHs cy a u)) t9) (va_A ([zI cy cA 3 cc] ++ (zHs cy a sg)) sz0)) 2 12 (va_A ([zI cy cA 3 cc] ++ (zHs cy a sg)) sz0) := by
  refine z_ofMN (cc := cL_changes) (maxL := 9) (ret := (some .boolean)) (Qc := (fun A => va_Qi (fun r s9 => r = nI 1 ∧ zKp sg s9 ∧ ∀ j, zUv (s_P s9 j) = zUv (s_P sg j)) (fun (u : zHo) t9 => zB G cy A ([zI cy cA 3 cc] ++ (zHs cy a u)) t9) A)) (by decide) rfl (Nat.le_of_ble_eq_true rfl) ?_
  intro p e s m below meth c ls A hx hb hml hr hts hown hlk hP hK hD hA hS hl hsz0 hN hAN hWd hE
  have hown : s.vm.findClass RL = some m.cls := hown
  have hl : lv_has ls 9 [(0, .ref (a 0)), (1, .int (nI x)), (2, .int (nI y)), (3, .ref cA)] := hl
  have hn9 := hO.2.1
  refine lv_iload_n hx hb dL_changes_0 rfl (lv_at hl 1 rfl) ?_
  refine lv_aload_n hx hb dL_changes_1 rfl (lv_at hl 3 rfl) ?_
  refine lv_iconst (v := nI 0) hx hb dL_changes_2 (by decide) ?_
  refine z_iald (G := G) (v := (nI (s_np sg))) hx hb hK hP 0 rfl (by omega) (hc0) dL_changes_3 ?_
  refine z_irem hx hb (by omega) (by omega) (by omega) dL_changes_4 ?_
  obtain ⟨k, hkd⟩ : ∃ k, k = x % s_np sg := ⟨_, rfl⟩
  rw [← hkd]
  have hkn : k < s_np sg := by rw [hkd]; exact Nat.mod_lt _ hn
  have hp := zOk_P hO hkn
  have hT9 := hO.1
  have hl9a := zPk_la hp
  have hf9a := zPk_con hp
  have hn9 := hO.2.1
  have hk8 := zOk_k8 hO hkn
  have hs9 := zPk_su hp
  have hh9 := hs9.1 (s_T sg)
  refine lv_istore (lv' := [(4, .int (nI k)), (0, .ref (a 0)), (1, .int (nI x)), (2, .int (nI y)), (3, .ref cA)]) hx hb dL_changes_5 hl (by decide) rfl (fun ls hl => ?_)
  refine lv_iload_n hx hb dL_changes_7 rfl (lv_at hl 2 rfl) ?_
  refine lv_bipush (v := nI 8) hx hb dL_changes_8 (by decide) ?_
  refine z_idiv hx hb (by omega) (by omega) (by omega) dL_changes_10 ?_
  refine lv_iconst (v := nI 4) hx hb dL_changes_11 (by decide) ?_
  refine z_irem hx hb (by omega) (by omega) (by omega) dL_changes_12 ?_
  refine lv_istore (lv' := [(5, .int (nI ((x / 8) % 4))), (4, .int (nI k)), (0, .ref (a 0)), (1, .int (nI x)), (2, .int (nI y)), (3, .ref cA)]) hx hb dL_changes_13 hl (by decide) rfl (fun ls hl => ?_)
  refine lv_aload_n hx hb dL_changes_15 rfl (lv_at hl 2 rfl) ?_
  refine lv_iload hx hb dL_changes_16 (lv_at hl 1 rfl) ?_
  refine lv_iconst (v := nI 3) hx hb dL_changes_18 (by decide) ?_
  have hP5 : va_P G vwCl ((zHs cy a sg) ++ [zI cy cA 3 cc]) _ := z_P_perm (z_permT (ww := [zI cy cA 3 cc]) (wu := []) (wr := [zI cy cA 3 cc]) (tl := (zHs cy a sg)) (n := 1) [] [0] rfl rfl rfl (by decide)) hP
  have hD5 : va_D A ((zHs cy a sg) ++ [zI cy cA 3 cc]) := z_D_perm (z_permT (ww := [zI cy cA 3 cc]) (wu := []) (wr := [zI cy cA 3 cc]) (tl := (zHs cy a sg)) (n := 1) [] [0] rfl rfl rfl (by decide)) hD
  refine z_ciP (wc := (zHs cy a sg)) (wr := [zI cy cA 3 cc]) (va_runV (As := [.int (nI k), .int (nI 3)]) (rest := []) ⟨hx, hb, hml, hown, hts⟩ (h_c3_of l hl9 G cy wd fo _ _ a sg k (hkn) (zOk_k8 hO hkn) (zOk_pt hO hkn) (hO.1)) (cwV 2 hts gL_changes_X10_of rfl rfl rfl (by decide +kernel) ⟨Nat.le_of_ble_eq_true rfl, Nat.le_of_ble_eq_true rfl⟩) (z_pVHP (ci := 11) hK hP5 hD5 hS hN hAN hWd hE rfl rfl 0 rfl) rfl rfl hl.1 rfl (lv_room (Nat.le_of_ble_eq_true rfl)) dL_changes_19 ⟨by show 0 + 0 ≤ 2; omega, by show 0 + 0 ≤ 12; omega⟩) hP5 hD5 hS hA (fun r_1 u H locs hr_1 hQ hD hS hz => ?_)
  obtain ⟨s9_2, rfl⟩ : ∃ z, z = u := ⟨_, rfl⟩
  try dsimp only at hr_1
  have hP : va_P G vwCl ([zI cy cA 3 cc] ++ (zHs cy a s9_2)) H := z_P_perm (List.Perm.symm (z_permT (ww := [zI cy cA 3 cc]) (wu := []) (wr := [zI cy cA 3 cc]) (tl := (zHs cy a s9_2)) (n := 1) [] [0] rfl rfl rfl (by decide))) hQ
  have hD : va_D A ([zI cy cA 3 cc] ++ (zHs cy a s9_2)) := z_D_perm (List.Perm.symm (z_permT (ww := [zI cy cA 3 cc]) (wu := []) (wr := [zI cy cA 3 cc]) (tl := (zHs cy a s9_2)) (n := 1) [] [0] rfl rfl rfl (by decide))) hD
  clear hQ hP5 hD5
  rw [hr_1.2] at hP hD
  obtain rfl : r_1 = (nI ((q_hg (s_P sg k)) (s_T sg))) := hr_1.1
  refine lv_istore (lv' := [(6, .int (nI ((q_hg (s_P sg k)) (s_T sg)))), (5, .int (nI ((x / 8) % 4))), (4, .int (nI k)), (0, .ref (a 0)), (1, .int (nI x)), (2, .int (nI y)), (3, .ref cA)]) hx hb dL_changes_22 hl (by decide) rfl (fun ls hl => ?_)
  refine lv_iload hx hb dL_changes_24 (lv_at hl 1 rfl) ?_
  refine lv_iconst (v := nI 2) hx hb dL_changes_26 (by decide) ?_
  refine z_icmp_ge hx hb (by omega) (by omega) dL_changes_27 (tgt := 111) (by decide) (fun c_3 => ?_) (fun c_3 => ?_)
  · refine lv_iload hx hb dL_changes_111 (lv_at hl 1 rfl) ?_
    refine lv_iconst (v := nI 2) hx hb dL_changes_113 (by decide) ?_
    refine z_icmp_ne hx hb (by omega) (by omega) dL_changes_114 (tgt := 175) (by decide) (fun c_4 => ?_) (fun c_4 => ?_)
    · refine lv_aload_n hx hb dL_changes_175 rfl (lv_at hl 3 rfl) ?_
      refine lv_iconst (v := nI 5) hx hb dL_changes_176 (by decide) ?_
      refine lv_iload hx hb dL_changes_177 (lv_at hl 2 rfl) ?_
      refine lv_iconst (v := nI 0) hx hb dL_changes_179 (by decide) ?_
      refine lv_iconst (v := nI 0) hx hb dL_changes_180 (by decide) ?_
      have hP5 : va_P G vwCl ((zHs cy a sg) ++ [zI cy cA 3 cc]) _ := z_P_perm (z_permT (ww := [zI cy cA 3 cc]) (wu := []) (wr := [zI cy cA 3 cc]) (tl := (zHs cy a sg)) (n := 1) [] [0] rfl rfl rfl (by decide)) hP
      have hD5 : va_D A ((zHs cy a sg) ++ [zI cy cA 3 cc]) := z_D_perm (z_permT (ww := [zI cy cA 3 cc]) (wu := []) (wr := [zI cy cA 3 cc]) (tl := (zHs cy a sg)) (n := 1) [] [0] rfl rfl rfl (by decide)) hD
      refine z_ciP (wc := (zHs cy a sg)) (wr := [zI cy cA 3 cc]) (vx_runSW (As := [.ref (a 0), .int (nI 5), .int (nI k), .int (nI 0), .int (nI 0)]) (rest := []) ⟨hx, hb, hml, hown, hts⟩ (q_reverse l hl9 G cy wd fo _ _ a sg (by omega) k (hkn) (nI 0) (nI 0)) (vx_cwSW 5 hts gL_changes_L_asks rfl rfl rfl (by decide +kernel) ⟨Nat.le_of_ble_eq_true rfl, Nat.le_of_ble_eq_true rfl⟩) (z_pHP hK hP5 hD5 hS hN hAN hWd hE) rfl rfl hl.1 rfl (lv_room (Nat.le_of_ble_eq_true rfl)) dL_changes_181 ⟨by show 0 + 1 ≤ 2; omega, by show 0 + 6 ≤ 12; omega⟩) hP5 hD5 hS hA (fun r_5 u H locs hr_5 hQ hD hS hz => ?_)
      obtain ⟨s9_6, rfl⟩ : ∃ z, z = u := ⟨_, rfl⟩
      try dsimp only at hr_5
      have hP : va_P G vwCl ([zI cy cA 3 cc] ++ (zHs cy a s9_6)) H := z_P_perm (List.Perm.symm (z_permT (ww := [zI cy cA 3 cc]) (wu := []) (wr := [zI cy cA 3 cc]) (tl := (zHs cy a s9_6)) (n := 1) [] [0] rfl rfl rfl (by decide))) hQ
      have hD : va_D A ([zI cy cA 3 cc] ++ (zHs cy a s9_6)) := z_D_perm (List.Perm.symm (z_permT (ww := [zI cy cA 3 cc]) (wu := []) (wr := [zI cy cA 3 cc]) (tl := (zHs cy a s9_6)) (n := 1) [] [0] rfl rfl rfl (by decide))) hD
      clear hQ hP5 hD5
      rcases hr_5 with ⟨q1, q2, q3⟩ | ⟨dq, q0, q7, q4, q5, q6, q2, q3⟩
      · rw [q3] at hP hD
        obtain rfl : r_5 = -70008 := q2
        refine lv_istore (lv' := [(7, .int (-70008)), (6, .int (nI ((q_hg (s_P sg k)) (s_T sg)))), (5, .int (nI ((x / 8) % 4))), (4, .int (nI k)), (0, .ref (a 0)), (1, .int (nI x)), (2, .int (nI y)), (3, .ref cA)]) hx hb dL_changes_184 hl (by decide) rfl (fun ls hl => ?_)
        refine lv_iload hx hb dL_changes_186 (lv_at hl 0 rfl) ?_
        refine lv_ldc (v := (-70008)) hx hb hown (hts _ (List.mem_of_getElem? (i := 1) (by decide +kernel))) dL_changes_188 ?_
        refine lv_icmp_eq hx hb dL_changes_190 (tgt := 232) (by decide) (fun c_7 => ?_) (fun c_7 => ?_)
        · refine lv_iconst (v := nI 1) hx hb dL_changes_232 (by decide) ?_
          refine lv_goto (tgt := 237) hx hb dL_changes_233 (by decide) ?_
          exact z_rMz hx hb hr hlk (by rfl) dL_changes_237 sg (⟨rfl, zKp_rf hO, fun _ => rfl⟩) hP hD hK hS (by omega) (by omega)
        · exact absurd rfl c_7
      · obtain rfl : r_5 = nI (s_T sg - dq + 1) := q2
        have hk9 : k < s_np s9_6 := by rw [q3.2.1]; exact hkn
        have hP9 := zAt_k q3
        have hp9 := zOk_P q3.1 hk9
        have hT8 := q3.2.2.1
        have hh8 := hs9.1 (dq - 1)
        refine lv_istore (lv' := [(7, .int (nI (s_T sg - dq + 1))), (6, .int (nI ((q_hg (s_P sg k)) (s_T sg)))), (5, .int (nI ((x / 8) % 4))), (4, .int (nI k)), (0, .ref (a 0)), (1, .int (nI x)), (2, .int (nI y)), (3, .ref cA)]) hx hb dL_changes_184 hl (by decide) rfl (fun ls hl => ?_)
        refine lv_iload hx hb dL_changes_186 (lv_at hl 0 rfl) ?_
        refine lv_ldc (v := (-70008)) hx hb hown (hts _ (List.mem_of_getElem? (i := 1) (by decide +kernel))) dL_changes_188 ?_
        refine lv_icmp_eq hx hb dL_changes_190 (tgt := 232) (by decide) (fun c_8 => ?_) (fun c_8 => ?_)
        · exact absurd c_8 (z_n8 (by omega))
        · refine lv_iload hx hb dL_changes_193 (lv_at hl 0 rfl) ?_
          refine z_jf_le hx hb (a := ((s_T sg - dq + 1 : Nat) : Int)) (nI_toInt (by omega)) dL_changes_195 (tgt := 236) (by decide) (fun c_9 => ?_) (fun c_9 => ?_)
          · exfalso; omega
          · refine lv_iload hx hb dL_changes_198 (lv_at hl 0 rfl) ?_
            refine lv_aload_n hx hb dL_changes_200 rfl (lv_at hl 7 rfl) ?_
            refine lv_iconst (v := nI 1) hx hb dL_changes_201 (by decide) ?_
            refine z_iald (G := G) (v := (nI (s_T sg))) hx hb hK hP 0 rfl (by omega) (hc1) dL_changes_202 ?_
            refine z_icmp_gt hx hb (by omega) (by omega) dL_changes_203 (tgt := 236) (by decide) (fun c_10 => ?_) (fun c_10 => ?_)
            · exfalso; omega
            · refine lv_aload_n hx hb dL_changes_206 rfl (lv_at hl 4 rfl) ?_
              refine lv_iload hx hb dL_changes_207 (lv_at hl 3 rfl) ?_
              refine lv_iconst (v := nI 3) hx hb dL_changes_209 (by decide) ?_
              have hP5 : va_P G vwCl ((zHs cy a s9_6) ++ [zI cy cA 3 cc]) _ := z_P_perm (z_permT (ww := [zI cy cA 3 cc]) (wu := []) (wr := [zI cy cA 3 cc]) (tl := (zHs cy a s9_6)) (n := 1) [] [0] rfl rfl rfl (by decide)) hP
              have hD5 : va_D A ((zHs cy a s9_6) ++ [zI cy cA 3 cc]) := z_D_perm (z_permT (ww := [zI cy cA 3 cc]) (wu := []) (wr := [zI cy cA 3 cc]) (tl := (zHs cy a s9_6)) (n := 1) [] [0] rfl rfl rfl (by decide)) hD
              refine z_ciP (wc := (zHs cy a s9_6)) (wr := [zI cy cA 3 cc]) (va_runV (As := [.int (nI k), .int (nI 3)]) (rest := []) ⟨hx, hb, hml, hown, hts⟩ (h_c3_of l hl9 G cy wd fo _ _ a s9_6 k (hk9) (hk8) (zOk_pt q3.1 hk9) (q3.1.1)) (cwV 2 hts gL_changes_X10_of rfl rfl rfl (by decide +kernel) ⟨Nat.le_of_ble_eq_true rfl, Nat.le_of_ble_eq_true rfl⟩) (z_pVHP (ci := 11) hK hP5 hD5 hS hN hAN hWd hE rfl rfl 0 rfl) rfl rfl hl.1 rfl (lv_room (Nat.le_of_ble_eq_true rfl)) dL_changes_210 ⟨by show 1 + 0 ≤ 2; omega, by show 6 + 0 ≤ 12; omega⟩) hP5 hD5 hS hA (fun r_11 u H locs hr_11 hQ hD hS hz => ?_)
              obtain ⟨s9_12, rfl⟩ : ∃ z, z = u := ⟨_, rfl⟩
              try dsimp only at hr_11
              have hP : va_P G vwCl ([zI cy cA 3 cc] ++ (zHs cy a s9_12)) H := z_P_perm (List.Perm.symm (z_permT (ww := [zI cy cA 3 cc]) (wu := []) (wr := [zI cy cA 3 cc]) (tl := (zHs cy a s9_12)) (n := 1) [] [0] rfl rfl rfl (by decide))) hQ
              have hD : va_D A ([zI cy cA 3 cc] ++ (zHs cy a s9_12)) := z_D_perm (List.Perm.symm (z_permT (ww := [zI cy cA 3 cc]) (wu := []) (wr := [zI cy cA 3 cc]) (tl := (zHs cy a s9_12)) (n := 1) [] [0] rfl rfl rfl (by decide))) hD
              clear hQ hP5 hD5
              rw [hr_11.2] at hP hD
              have hvr_11 : (nI ((q_hg (s_P s9_6 k)) (s_T s9_6))) = (nI (q_hg (s_P sg k) (dq - 1))) := by rw [hP9, hT8, zRev_hg q5]
              obtain rfl : r_11 = (nI (q_hg (s_P sg k) (dq - 1))) := hr_11.1.trans hvr_11
              refine lv_iload hx hb dL_changes_213 (lv_at hl 1 rfl) ?_
              refine z_icmp_eq hx hb (by omega) (by omega) dL_changes_215 (tgt := 236) (by decide) (fun c_13 => ?_) (fun c_13 => ?_)
              · exfalso; omega
              · refine lv_aload_n hx hb dL_changes_218 rfl (lv_at hl 4 rfl) ?_
                refine lv_iconst (v := nI 5) hx hb dL_changes_219 (by decide) ?_
                refine lv_iload hx hb dL_changes_220 (lv_at hl 3 rfl) ?_
                refine lv_iconst (v := nI 0) hx hb dL_changes_222 (by decide) ?_
                refine lv_iconst (v := nI 0) hx hb dL_changes_223 (by decide) ?_
                have hP5 : va_P G vwCl ((zHs cy a s9_6) ++ [zI cy cA 3 cc]) _ := z_P_perm (z_permT (ww := [zI cy cA 3 cc]) (wu := []) (wr := [zI cy cA 3 cc]) (tl := (zHs cy a s9_6)) (n := 1) [] [0] rfl rfl rfl (by decide)) hP
                have hD5 : va_D A ((zHs cy a s9_6) ++ [zI cy cA 3 cc]) := z_D_perm (z_permT (ww := [zI cy cA 3 cc]) (wu := []) (wr := [zI cy cA 3 cc]) (tl := (zHs cy a s9_6)) (n := 1) [] [0] rfl rfl rfl (by decide)) hD
                refine z_ciP (wc := (zHs cy a s9_6)) (wr := [zI cy cA 3 cc]) (vx_runSW (As := [.ref (a 0), .int (nI 5), .int (nI k), .int (nI 0), .int (nI 0)]) (rest := []) ⟨hx, hb, hml, hown, hts⟩ (q_reverse l hl9 G cy wd fo _ _ a s9_6 (q3.1) k (hk9) (nI 0) (nI 0)) (vx_cwSW 5 hts gL_changes_L_asks rfl rfl rfl (by decide +kernel) ⟨Nat.le_of_ble_eq_true rfl, Nat.le_of_ble_eq_true rfl⟩) (z_pHP hK hP5 hD5 hS hN hAN hWd hE) rfl rfl hl.1 rfl (lv_room (Nat.le_of_ble_eq_true rfl)) dL_changes_224 ⟨by show 1 + 1 ≤ 2; omega, by show 6 + 6 ≤ 12; omega⟩) hP5 hD5 hS hA (fun r_14 u H locs hr_14 hQ hD hS hz => ?_)
                obtain ⟨s9_15, rfl⟩ : ∃ z, z = u := ⟨_, rfl⟩
                try dsimp only at hr_14
                have hP : va_P G vwCl ([zI cy cA 3 cc] ++ (zHs cy a s9_15)) H := z_P_perm (List.Perm.symm (z_permT (ww := [zI cy cA 3 cc]) (wu := []) (wr := [zI cy cA 3 cc]) (tl := (zHs cy a s9_15)) (n := 1) [] [0] rfl rfl rfl (by decide))) hQ
                have hD : va_D A ([zI cy cA 3 cc] ++ (zHs cy a s9_15)) := z_D_perm (List.Perm.symm (z_permT (ww := [zI cy cA 3 cc]) (wu := []) (wr := [zI cy cA 3 cc]) (tl := (zHs cy a s9_15)) (n := 1) [] [0] rfl rfl rfl (by decide))) hD
                clear hQ hP5 hD5
                rcases hr_14 with ⟨p1, p2, p3⟩ | ⟨d7, -, p5, -, p6, -⟩
                · rw [p3] at hP hD
                  obtain rfl : r_14 = -70008 := p2
                  refine lv_ldc (v := (-70008)) hx hb hown (hts _ (List.mem_of_getElem? (i := 1) (by decide +kernel))) dL_changes_227 ?_
                  refine lv_icmp_ne hx hb dL_changes_229 (tgt := 236) (by decide) (fun c_16 => ?_) (fun c_16 => ?_)
                  · exact absurd rfl c_16
                  · refine lv_iconst (v := nI 1) hx hb dL_changes_232 (by decide) ?_
                    refine lv_goto (tgt := 237) hx hb dL_changes_233 (by decide) ?_
                    exact z_rMz hx hb hr hlk (by rfl) dL_changes_237 s9_6 (⟨rfl, zKp_at q3 rfl rfl, zUv_at q3 rfl⟩) hP hD hK hS (by omega) (by omega)
                · rw [hP9] at p5
                  exact absurd (Eq.symm p5) (z_nm1 (show d7 < 2 ^ 31 by omega))
    · refine lv_aload_n hx hb dL_changes_117 rfl (lv_at hl 3 rfl) ?_
      refine lv_iconst (v := nI 4) hx hb dL_changes_118 (by decide) ?_
      refine lv_iload hx hb dL_changes_119 (lv_at hl 2 rfl) ?_
      refine lv_iconst (v := nI 0) hx hb dL_changes_121 (by decide) ?_
      refine lv_iconst (v := nI 0) hx hb dL_changes_122 (by decide) ?_
      have hP5 : va_P G vwCl ((zHs cy a sg) ++ [zI cy cA 3 cc]) _ := z_P_perm (z_permT (ww := [zI cy cA 3 cc]) (wu := []) (wr := [zI cy cA 3 cc]) (tl := (zHs cy a sg)) (n := 1) [] [0] rfl rfl rfl (by decide)) hP
      have hD5 : va_D A ((zHs cy a sg) ++ [zI cy cA 3 cc]) := z_D_perm (z_permT (ww := [zI cy cA 3 cc]) (wu := []) (wr := [zI cy cA 3 cc]) (tl := (zHs cy a sg)) (n := 1) [] [0] rfl rfl rfl (by decide)) hD
      refine z_ciP (wc := (zHs cy a sg)) (wr := [zI cy cA 3 cc]) (vx_runSW (As := [.ref (a 0), .int (nI 4), .int (nI k), .int (nI 0), .int (nI 0)]) (rest := []) ⟨hx, hb, hml, hown, hts⟩ (q_object l hl9 G cy wd fo _ _ a sg (by omega) k (hkn) (nI 0) (nI 0)) (vx_cwSW 5 hts gL_changes_L_asks rfl rfl rfl (by decide +kernel) ⟨Nat.le_of_ble_eq_true rfl, Nat.le_of_ble_eq_true rfl⟩) (z_pHP hK hP5 hD5 hS hN hAN hWd hE) rfl rfl hl.1 rfl (lv_room (Nat.le_of_ble_eq_true rfl)) dL_changes_123 ⟨by show 0 + 1 ≤ 2; omega, by show 0 + 6 ≤ 12; omega⟩) hP5 hD5 hS hA (fun r_17 u H locs hr_17 hQ hD hS hz => ?_)
      obtain ⟨s9_18, rfl⟩ : ∃ z, z = u := ⟨_, rfl⟩
      try dsimp only at hr_17
      have hP : va_P G vwCl ([zI cy cA 3 cc] ++ (zHs cy a s9_18)) H := z_P_perm (List.Perm.symm (z_permT (ww := [zI cy cA 3 cc]) (wu := []) (wr := [zI cy cA 3 cc]) (tl := (zHs cy a s9_18)) (n := 1) [] [0] rfl rfl rfl (by decide))) hQ
      have hD : va_D A ([zI cy cA 3 cc] ++ (zHs cy a s9_18)) := z_D_perm (List.Perm.symm (z_permT (ww := [zI cy cA 3 cc]) (wu := []) (wr := [zI cy cA 3 cc]) (tl := (zHs cy a s9_18)) (n := 1) [] [0] rfl rfl rfl (by decide))) hD
      clear hQ hP5 hD5
      rcases hr_17 with ⟨q1, q2, q3⟩ | ⟨dq, q0, q4, q5, q2, q3⟩
      · rw [q3] at hP hD
        obtain rfl : r_17 = -70008 := q2
        refine lv_istore (lv' := [(7, .int (-70008)), (6, .int (nI ((q_hg (s_P sg k)) (s_T sg)))), (5, .int (nI ((x / 8) % 4))), (4, .int (nI k)), (0, .ref (a 0)), (1, .int (nI x)), (2, .int (nI y)), (3, .ref cA)]) hx hb dL_changes_126 hl (by decide) rfl (fun ls hl => ?_)
        refine lv_iload hx hb dL_changes_128 (lv_at hl 0 rfl) ?_
        refine lv_ldc (v := (-70008)) hx hb hown (hts _ (List.mem_of_getElem? (i := 1) (by decide +kernel))) dL_changes_130 ?_
        refine lv_icmp_eq hx hb dL_changes_132 (tgt := 169) (by decide) (fun c_19 => ?_) (fun c_19 => ?_)
        · refine lv_iconst (v := nI 1) hx hb dL_changes_169 (by decide) ?_
          refine lv_goto (tgt := 174) hx hb dL_changes_170 (by decide) ?_
          exact z_rMz hx hb hr hlk (by rfl) dL_changes_174 sg (⟨rfl, zKp_rf hO, fun _ => rfl⟩) hP hD hK hS (by omega) (by omega)
        · exact absurd rfl c_19
      · obtain rfl : r_17 = nI (dq) := q2
        have hk9 : k < s_np s9_18 := by rw [q3.2.1]; exact hkn
        have hP9 := zAt_k q3
        have hp9 := zOk_P q3.1 hk9
        have hT8 := q3.2.2.1
        refine lv_istore (lv' := [(7, .int (nI dq)), (6, .int (nI ((q_hg (s_P sg k)) (s_T sg)))), (5, .int (nI ((x / 8) % 4))), (4, .int (nI k)), (0, .ref (a 0)), (1, .int (nI x)), (2, .int (nI y)), (3, .ref cA)]) hx hb dL_changes_126 hl (by decide) rfl (fun ls hl => ?_)
        refine lv_iload hx hb dL_changes_128 (lv_at hl 0 rfl) ?_
        refine lv_ldc (v := (-70008)) hx hb hown (hts _ (List.mem_of_getElem? (i := 1) (by decide +kernel))) dL_changes_130 ?_
        refine lv_icmp_eq hx hb dL_changes_132 (tgt := 169) (by decide) (fun c_20 => ?_) (fun c_20 => ?_)
        · exact absurd c_20 (z_n8 (by omega))
        · refine lv_iload hx hb dL_changes_135 (lv_at hl 0 rfl) ?_
          refine lv_aload_n hx hb dL_changes_137 rfl (lv_at hl 7 rfl) ?_
          refine lv_iconst (v := nI 1) hx hb dL_changes_138 (by decide) ?_
          refine z_iald (G := G) (v := (nI (s_T sg))) hx hb hK hP 0 rfl (by omega) (hc1) dL_changes_139 ?_
          refine z_icmp_le hx hb (by omega) (by omega) dL_changes_140 (tgt := 173) (by decide) (fun c_21 => ?_) (fun c_21 => ?_)
          · exfalso; omega
          · refine lv_aload_n hx hb dL_changes_143 rfl (lv_at hl 4 rfl) ?_
            refine lv_iconst (v := nI 4) hx hb dL_changes_144 (by decide) ?_
            refine lv_iload hx hb dL_changes_145 (lv_at hl 3 rfl) ?_
            refine lv_iconst (v := nI 0) hx hb dL_changes_147 (by decide) ?_
            refine lv_iconst (v := nI 0) hx hb dL_changes_148 (by decide) ?_
            have hP5 : va_P G vwCl ((zHs cy a s9_18) ++ [zI cy cA 3 cc]) _ := z_P_perm (z_permT (ww := [zI cy cA 3 cc]) (wu := []) (wr := [zI cy cA 3 cc]) (tl := (zHs cy a s9_18)) (n := 1) [] [0] rfl rfl rfl (by decide)) hP
            have hD5 : va_D A ((zHs cy a s9_18) ++ [zI cy cA 3 cc]) := z_D_perm (z_permT (ww := [zI cy cA 3 cc]) (wu := []) (wr := [zI cy cA 3 cc]) (tl := (zHs cy a s9_18)) (n := 1) [] [0] rfl rfl rfl (by decide)) hD
            refine z_ciP (wc := (zHs cy a s9_18)) (wr := [zI cy cA 3 cc]) (vx_runSW (As := [.ref (a 0), .int (nI 4), .int (nI k), .int (nI 0), .int (nI 0)]) (rest := []) ⟨hx, hb, hml, hown, hts⟩ (q_object l hl9 G cy wd fo _ _ a s9_18 (q3.1) k (hk9) (nI 0) (nI 0)) (vx_cwSW 5 hts gL_changes_L_asks rfl rfl rfl (by decide +kernel) ⟨Nat.le_of_ble_eq_true rfl, Nat.le_of_ble_eq_true rfl⟩) (z_pHP hK hP5 hD5 hS hN hAN hWd hE) rfl rfl hl.1 rfl (lv_room (Nat.le_of_ble_eq_true rfl)) dL_changes_149 ⟨by show 1 + 1 ≤ 2; omega, by show 6 + 6 ≤ 12; omega⟩) hP5 hD5 hS hA (fun r_22 u H locs hr_22 hQ hD hS hz => ?_)
            obtain ⟨s9_23, rfl⟩ : ∃ z, z = u := ⟨_, rfl⟩
            try dsimp only at hr_22
            have hP : va_P G vwCl ([zI cy cA 3 cc] ++ (zHs cy a s9_23)) H := z_P_perm (List.Perm.symm (z_permT (ww := [zI cy cA 3 cc]) (wu := []) (wr := [zI cy cA 3 cc]) (tl := (zHs cy a s9_23)) (n := 1) [] [0] rfl rfl rfl (by decide))) hQ
            have hD : va_D A ([zI cy cA 3 cc] ++ (zHs cy a s9_23)) := z_D_perm (List.Perm.symm (z_permT (ww := [zI cy cA 3 cc]) (wu := []) (wr := [zI cy cA 3 cc]) (tl := (zHs cy a s9_23)) (n := 1) [] [0] rfl rfl rfl (by decide))) hD
            clear hQ hP5 hD5
            rcases hr_22 with ⟨p1, p2, p3⟩ | ⟨d7, p5, -, p6, -⟩
            · rw [p3] at hP hD
              obtain rfl : r_22 = -70008 := p2
              refine lv_ldc (v := (-70008)) hx hb hown (hts _ (List.mem_of_getElem? (i := 1) (by decide +kernel))) dL_changes_152 ?_
              refine lv_icmp_ne hx hb dL_changes_154 (tgt := 173) (by decide) (fun c_24 => ?_) (fun c_24 => ?_)
              · exact absurd rfl c_24
              · refine lv_aload_n hx hb dL_changes_157 rfl (lv_at hl 4 rfl) ?_
                refine lv_iload hx hb dL_changes_158 (lv_at hl 3 rfl) ?_
                refine lv_iconst (v := nI 3) hx hb dL_changes_160 (by decide) ?_
                have hP5 : va_P G vwCl ((zHs cy a s9_18) ++ [zI cy cA 3 cc]) _ := z_P_perm (z_permT (ww := [zI cy cA 3 cc]) (wu := []) (wr := [zI cy cA 3 cc]) (tl := (zHs cy a s9_18)) (n := 1) [] [0] rfl rfl rfl (by decide)) hP
                have hD5 : va_D A ((zHs cy a s9_18) ++ [zI cy cA 3 cc]) := z_D_perm (z_permT (ww := [zI cy cA 3 cc]) (wu := []) (wr := [zI cy cA 3 cc]) (tl := (zHs cy a s9_18)) (n := 1) [] [0] rfl rfl rfl (by decide)) hD
                refine z_ciP (wc := (zHs cy a s9_18)) (wr := [zI cy cA 3 cc]) (va_runV (As := [.int (nI k), .int (nI 3)]) (rest := []) ⟨hx, hb, hml, hown, hts⟩ (h_c3_of l hl9 G cy wd fo _ _ a s9_18 k (hk9) (hk8) (zOk_pt q3.1 hk9) (q3.1.1)) (cwV 2 hts gL_changes_X10_of rfl rfl rfl (by decide +kernel) ⟨Nat.le_of_ble_eq_true rfl, Nat.le_of_ble_eq_true rfl⟩) (z_pVHP (ci := 11) hK hP5 hD5 hS hN hAN hWd hE rfl rfl 0 rfl) rfl rfl hl.1 rfl (lv_room (Nat.le_of_ble_eq_true rfl)) dL_changes_161 ⟨by show 2 + 0 ≤ 2; omega, by show 12 + 0 ≤ 12; omega⟩) hP5 hD5 hS hA (fun r_25 u H locs hr_25 hQ hD hS hz => ?_)
                obtain ⟨s9_26, rfl⟩ : ∃ z, z = u := ⟨_, rfl⟩
                try dsimp only at hr_25
                have hP : va_P G vwCl ([zI cy cA 3 cc] ++ (zHs cy a s9_26)) H := z_P_perm (List.Perm.symm (z_permT (ww := [zI cy cA 3 cc]) (wu := []) (wr := [zI cy cA 3 cc]) (tl := (zHs cy a s9_26)) (n := 1) [] [0] rfl rfl rfl (by decide))) hQ
                have hD : va_D A ([zI cy cA 3 cc] ++ (zHs cy a s9_26)) := z_D_perm (List.Perm.symm (z_permT (ww := [zI cy cA 3 cc]) (wu := []) (wr := [zI cy cA 3 cc]) (tl := (zHs cy a s9_26)) (n := 1) [] [0] rfl rfl rfl (by decide))) hD
                clear hQ hP5 hD5
                rw [hr_25.2] at hP hD
                have hvr_25 : (nI ((q_hg (s_P s9_18 k)) (s_T s9_18))) = (nI (q_hg (s_P sg k) (s_T sg))) := by rw [hP9, hT8]; rfl
                obtain rfl : r_25 = (nI (q_hg (s_P sg k) (s_T sg))) := hr_25.1.trans hvr_25
                refine lv_iload hx hb dL_changes_164 (lv_at hl 1 rfl) ?_
                refine z_icmp_ne hx hb (by omega) (by omega) dL_changes_166 (tgt := 173) (by decide) (fun c_27 => ?_) (fun c_27 => ?_)
                · exfalso; omega
                · refine lv_iconst (v := nI 1) hx hb dL_changes_169 (by decide) ?_
                  refine lv_goto (tgt := 174) hx hb dL_changes_170 (by decide) ?_
                  exact z_rMz hx hb hr hlk (by rfl) dL_changes_174 s9_18 (⟨rfl, zKp_at q3 rfl rfl, zUv_at q3 rfl⟩) hP hD hK hS (by omega) (by omega)
            · rw [hP9] at p5
              exact absurd (Eq.symm p5) (z_nm1 (show d7 < 2 ^ 31 by omega))
  · refine lv_aload_n hx hb dL_changes_30 rfl (lv_at hl 6 rfl) ?_
    refine lv_iconst (v := nI 1) hx hb dL_changes_31 (by decide) ?_
    refine z_iald (G := G) (v := (nI (s_T sg))) hx hb hK hP 0 rfl (by omega) (hc1) dL_changes_32 ?_
    refine lv_iconst (v := nI 1) hx hb dL_changes_33 (by decide) ?_
    refine z_iadd hx hb dL_changes_34 ?_
    refine lv_iload_n hx hb dL_changes_35 rfl (lv_at hl 5 rfl) ?_
    refine lv_iconst (v := nI 4) hx hb dL_changes_36 (by decide) ?_
    refine z_idiv hx hb (by omega) (by omega) (by omega) dL_changes_37 ?_
    refine lv_bipush (v := nI 9) hx hb dL_changes_38 (by decide) ?_
    refine z_irem hx hb (by omega) (by omega) (by omega) dL_changes_40 ?_
    refine z_iadd hx hb dL_changes_41 ?_
    refine lv_istore (lv' := [(7, .int (nI (((s_T sg) + 1) + ((y / 4) % 9)))), (6, .int (nI ((q_hg (s_P sg k)) (s_T sg)))), (5, .int (nI ((x / 8) % 4))), (4, .int (nI k)), (0, .ref (a 0)), (1, .int (nI x)), (2, .int (nI y)), (3, .ref cA)]) hx hb dL_changes_42 hl (by decide) rfl (fun ls hl => ?_)
    refine lv_aload_n hx hb dL_changes_44 rfl (lv_at hl 4 rfl) ?_
    refine lv_iconst (v := nI 3) hx hb dL_changes_45 (by decide) ?_
    refine lv_iload hx hb dL_changes_46 (lv_at hl 3 rfl) ?_
    refine lv_iload_n hx hb dL_changes_48 rfl (lv_at hl 6 rfl) ?_
    refine lv_iconst (v := nI 4) hx hb dL_changes_49 (by decide) ?_
    refine z_irem hx hb (by omega) (by omega) (by omega) dL_changes_50 ?_
    refine lv_iload hx hb dL_changes_51 (lv_at hl 0 rfl) ?_
    have hP5 : va_P G vwCl ((zHs cy a sg) ++ [zI cy cA 3 cc]) _ := z_P_perm (z_permT (ww := [zI cy cA 3 cc]) (wu := []) (wr := [zI cy cA 3 cc]) (tl := (zHs cy a sg)) (n := 1) [] [0] rfl rfl rfl (by decide)) hP
    have hD5 : va_D A ((zHs cy a sg) ++ [zI cy cA 3 cc]) := z_D_perm (z_permT (ww := [zI cy cA 3 cc]) (wu := []) (wr := [zI cy cA 3 cc]) (tl := (zHs cy a sg)) (n := 1) [] [0] rfl rfl rfl (by decide)) hD
    refine z_ciP (wc := (zHs cy a sg)) (wr := [zI cy cA 3 cc]) (vx_runSW (As := [.ref (a 0), .int (nI 3), .int (nI k), .int (nI (y % 4)), .int (nI (((s_T sg) + 1) + ((y / 4) % 9)))]) (rest := []) ⟨hx, hb, hml, hown, hts⟩ (q_change l hl9 G cy wd fo _ _ a sg (by omega) k (hkn) (y % 4) (((s_T sg) + 1) + ((y / 4) % 9)) (by omega) (by omega) (by omega)) (vx_cwSW 5 hts gL_changes_L_asks rfl rfl rfl (by decide +kernel) ⟨Nat.le_of_ble_eq_true rfl, Nat.le_of_ble_eq_true rfl⟩) (z_pHP hK hP5 hD5 hS hN hAN hWd hE) rfl rfl hl.1 rfl (lv_room (Nat.le_of_ble_eq_true rfl)) dL_changes_53 ⟨by show 0 + 1 ≤ 2; omega, by show 0 + 6 ≤ 12; omega⟩) hP5 hD5 hS hA (fun r_28 u H locs hr_28 hQ hD hS hz => ?_)
    obtain ⟨s9_29, rfl⟩ : ∃ z, z = u := ⟨_, rfl⟩
    try dsimp only at hr_28
    have hP : va_P G vwCl ([zI cy cA 3 cc] ++ (zHs cy a s9_29)) H := z_P_perm (List.Perm.symm (z_permT (ww := [zI cy cA 3 cc]) (wu := []) (wr := [zI cy cA 3 cc]) (tl := (zHs cy a s9_29)) (n := 1) [] [0] rfl rfl rfl (by decide))) hQ
    have hD : va_D A ([zI cy cA 3 cc] ++ (zHs cy a s9_29)) := z_D_perm (List.Perm.symm (z_permT (ww := [zI cy cA 3 cc]) (wu := []) (wr := [zI cy cA 3 cc]) (tl := (zHs cy a s9_29)) (n := 1) [] [0] rfl rfl rfl (by decide))) hD
    clear hQ hP5 hD5
    rcases hr_28 with ⟨q1, q2, q3⟩ | ⟨q0, q1, q2, q3⟩
    · rw [q3] at hP hD
      obtain rfl : r_28 = -70008 := q2
      refine lv_istore (lv' := [(8, .int (-70008)), (7, .int (nI (((s_T sg) + 1) + ((y / 4) % 9)))), (6, .int (nI ((q_hg (s_P sg k)) (s_T sg)))), (5, .int (nI ((x / 8) % 4))), (4, .int (nI k)), (0, .ref (a 0)), (1, .int (nI x)), (2, .int (nI y)), (3, .ref cA)]) hx hb dL_changes_56 hl (by decide) rfl (fun ls hl => ?_)
      refine lv_iload hx hb dL_changes_58 (lv_at hl 0 rfl) ?_
      refine lv_iload_n hx hb dL_changes_60 rfl (lv_at hl 7 rfl) ?_
      refine lv_iconst (v := nI 4) hx hb dL_changes_61 (by decide) ?_
      refine z_irem hx hb (by omega) (by omega) (by omega) dL_changes_62 ?_
      refine lv_iload hx hb dL_changes_63 (lv_at hl 2 rfl) ?_
      refine z_icmp_ne hx hb (by omega) (by omega) dL_changes_65 (tgt := 73) (by decide) (fun c_30 => ?_) (fun c_30 => ?_)
      · refine lv_iload hx hb dL_changes_73 (lv_at hl 2 rfl) ?_
        refine lv_icmp_eq hx hb dL_changes_75 (tgt := 105) (by decide) (fun c_31 => ?_) (fun c_31 => ?_)
        · exact absurd c_31 (z_n8b (by omega))
        · refine lv_iload hx hb dL_changes_78 (lv_at hl 0 rfl) ?_
          refine lv_ldc (v := (-70008)) hx hb hown (hts _ (List.mem_of_getElem? (i := 1) (by decide +kernel))) dL_changes_80 ?_
          refine lv_icmp_ne hx hb dL_changes_82 (tgt := 109) (by decide) (fun c_32 => ?_) (fun c_32 => ?_)
          · exact absurd rfl c_32
          · refine lv_aload_n hx hb dL_changes_85 rfl (lv_at hl 5 rfl) ?_
            refine lv_iconst (v := nI 3) hx hb dL_changes_86 (by decide) ?_
            refine lv_iload hx hb dL_changes_87 (lv_at hl 4 rfl) ?_
            refine lv_iload hx hb dL_changes_89 (lv_at hl 2 rfl) ?_
            refine lv_iconst (v := nI 1) hx hb dL_changes_91 (by decide) ?_
            refine z_iadd hx hb dL_changes_92 ?_
            refine lv_iconst (v := nI 4) hx hb dL_changes_93 (by decide) ?_
            refine z_irem hx hb (by omega) (by omega) (by omega) dL_changes_94 ?_
            refine lv_iload hx hb dL_changes_95 (lv_at hl 1 rfl) ?_
            have hP5 : va_P G vwCl ((zHs cy a sg) ++ [zI cy cA 3 cc]) _ := z_P_perm (z_permT (ww := [zI cy cA 3 cc]) (wu := []) (wr := [zI cy cA 3 cc]) (tl := (zHs cy a sg)) (n := 1) [] [0] rfl rfl rfl (by decide)) hP
            have hD5 : va_D A ((zHs cy a sg) ++ [zI cy cA 3 cc]) := z_D_perm (z_permT (ww := [zI cy cA 3 cc]) (wu := []) (wr := [zI cy cA 3 cc]) (tl := (zHs cy a sg)) (n := 1) [] [0] rfl rfl rfl (by decide)) hD
            refine z_ciP (wc := (zHs cy a sg)) (wr := [zI cy cA 3 cc]) (vx_runSW (As := [.ref (a 0), .int (nI 3), .int (nI k), .int (nI ((((q_hg (s_P sg k)) (s_T sg)) + 1) % 4)), .int (nI (((s_T sg) + 1) + ((y / 4) % 9)))]) (rest := []) ⟨hx, hb, hml, hown, hts⟩ (q_change l hl9 G cy wd fo _ _ a sg (by omega) k (hkn) ((((q_hg (s_P sg k)) (s_T sg)) + 1) % 4) (((s_T sg) + 1) + ((y / 4) % 9)) (by omega) (by omega) (by omega)) (vx_cwSW 5 hts gL_changes_L_asks rfl rfl rfl (by decide +kernel) ⟨Nat.le_of_ble_eq_true rfl, Nat.le_of_ble_eq_true rfl⟩) (z_pHP hK hP5 hD5 hS hN hAN hWd hE) rfl rfl hl.1 rfl (lv_room (Nat.le_of_ble_eq_true rfl)) dL_changes_97 ⟨by show 1 + 1 ≤ 2; omega, by show 6 + 6 ≤ 12; omega⟩) hP5 hD5 hS hA (fun r_33 u H locs hr_33 hQ hD hS hz => ?_)
            obtain ⟨s9_34, rfl⟩ : ∃ z, z = u := ⟨_, rfl⟩
            try dsimp only at hr_33
            have hP : va_P G vwCl ([zI cy cA 3 cc] ++ (zHs cy a s9_34)) H := z_P_perm (List.Perm.symm (z_permT (ww := [zI cy cA 3 cc]) (wu := []) (wr := [zI cy cA 3 cc]) (tl := (zHs cy a s9_34)) (n := 1) [] [0] rfl rfl rfl (by decide))) hQ
            have hD : va_D A ([zI cy cA 3 cc] ++ (zHs cy a s9_34)) := z_D_perm (List.Perm.symm (z_permT (ww := [zI cy cA 3 cc]) (wu := []) (wr := [zI cy cA 3 cc]) (tl := (zHs cy a s9_34)) (n := 1) [] [0] rfl rfl rfl (by decide))) hD
            clear hQ hP5 hD5
            rcases hr_33 with ⟨p1, p2, p3⟩ | ⟨p5, -⟩
            · rw [p3] at hP hD
              obtain rfl : r_33 = -70008 := p2
              refine lv_ldc (v := (-70008)) hx hb hown (hts _ (List.mem_of_getElem? (i := 1) (by decide +kernel))) dL_changes_100 ?_
              refine lv_icmp_ne hx hb dL_changes_102 (tgt := 109) (by decide) (fun c_35 => ?_) (fun c_35 => ?_)
              · exact absurd rfl c_35
              · refine lv_iconst (v := nI 1) hx hb dL_changes_105 (by decide) ?_
                refine lv_goto (tgt := 110) hx hb dL_changes_106 (by decide) ?_
                exact z_rMz hx hb hr hlk (by rfl) dL_changes_110 sg (⟨rfl, zKp_rf hO, fun _ => rfl⟩) hP hD hK hS (by omega) (by omega)
            · rcases q1 with q | q
              · exact absurd p5 q
              · exact absurd (Eq.symm q) (by omega)
      · refine lv_ldc (v := (-70008)) hx hb hown (hts _ (List.mem_of_getElem? (i := 1) (by decide +kernel))) dL_changes_68 ?_
        refine lv_goto (tgt := 75) hx hb dL_changes_70 (by decide) ?_
        refine lv_icmp_eq hx hb dL_changes_75 (tgt := 105) (by decide) (fun c_36 => ?_) (fun c_36 => ?_)
        · refine lv_iconst (v := nI 1) hx hb dL_changes_105 (by decide) ?_
          refine lv_goto (tgt := 110) hx hb dL_changes_106 (by decide) ?_
          exact z_rMz hx hb hr hlk (by rfl) dL_changes_110 sg (⟨rfl, zKp_rf hO, fun _ => rfl⟩) hP hD hK hS (by omega) (by omega)
        · exact absurd rfl c_36
    · obtain rfl : r_28 = nI (q_hg (s_P sg k) (s_T sg)) := q2
      have hk9 : k < s_np s9_29 := by rw [q3.2.1]; exact hkn
      have hP9 := zAt_k q3
      have hp9 := zOk_P q3.1 hk9
      have hT8 := q3.2.2.1
      refine lv_istore (lv' := [(8, .int (nI (q_hg (s_P sg k) (s_T sg)))), (7, .int (nI (((s_T sg) + 1) + ((y / 4) % 9)))), (6, .int (nI ((q_hg (s_P sg k)) (s_T sg)))), (5, .int (nI ((x / 8) % 4))), (4, .int (nI k)), (0, .ref (a 0)), (1, .int (nI x)), (2, .int (nI y)), (3, .ref cA)]) hx hb dL_changes_56 hl (by decide) rfl (fun ls hl => ?_)
      refine lv_iload hx hb dL_changes_58 (lv_at hl 0 rfl) ?_
      refine lv_iload_n hx hb dL_changes_60 rfl (lv_at hl 7 rfl) ?_
      refine lv_iconst (v := nI 4) hx hb dL_changes_61 (by decide) ?_
      refine z_irem hx hb (by omega) (by omega) (by omega) dL_changes_62 ?_
      refine lv_iload hx hb dL_changes_63 (lv_at hl 2 rfl) ?_
      refine z_icmp_ne hx hb (by omega) (by omega) dL_changes_65 (tgt := 73) (by decide) (fun c_37 => ?_) (fun c_37 => ?_)
      · refine lv_iload hx hb dL_changes_73 (lv_at hl 2 rfl) ?_
        refine z_icmp_eq hx hb (by omega) (by omega) dL_changes_75 (tgt := 105) (by decide) (fun c_38 => ?_) (fun c_38 => ?_)
        · refine lv_iconst (v := nI 1) hx hb dL_changes_105 (by decide) ?_
          refine lv_goto (tgt := 110) hx hb dL_changes_106 (by decide) ?_
          exact z_rMz hx hb hr hlk (by rfl) dL_changes_110 s9_29 (⟨rfl, zKp_at q3 rfl rfl, zUv_at q3 rfl⟩) hP hD hK hS (by omega) (by omega)
        · exact absurd rfl c_38
      · exfalso; omega
