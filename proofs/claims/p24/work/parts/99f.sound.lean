/-! isSound -/
set_option maxHeartbeats 4000000 in
set_option maxRecDepth 100000 in
theorem c_L_isSound (l : Launch) (hl9 : l.stackTraces = false) (G : va_G) (cy : Nat → ClassId) (wd : Nat → Nat) (fo : Option Nat) (N0 sz0 : Nat) (a : Nat → Nat) (sg : zHo) (x cA fA uA cn : Nat) (cc ff uu : Nat → Int32) (hO : zOk sg) (hx : x < 1073741824) (hc0 : cc 0 = nI (s_np sg)) (hc1 : cc 1 = nI (s_T sg)) (hc2 : cc 2 = nI cn) (hcn : cn ≤ 1000000) (hs : zSum sg cn) (hf : ∀ k, k < s_np sg → ff k = nI (q_fi (s_P sg k))) (hu : zUk sg uu) : Met l yL_isSound wsL_isSound ({ frames := 12, cells := 1296, slots := 12896, locals := 290 }) (zMH G cy wd fo N0 [.ref (a 0), .int (nI x), .ref cA, .ref fA, .ref uA] sz0 ([zI cy cA 3 cc, zI cy fA 8 ff, zI cy uA 48 uu] ++ (zHs cy a sg))) (va_Qi (fun r s9 => r = nI 1 ∧ zSame sg s9) (fun (u : zHo) t9 => zB G cy (va_A ([zI cy cA 3 cc, zI cy fA 8 ff, zI cy uA 48 uu] ++ (zHs cy a sg)) sz0) ([zI cy cA 3 cc, zI cy fA 8 ff, zI cy uA 48 uu] ++ (zHs cy a u)) t9) (va_A ([zI cy cA 3 cc, zI cy fA 8 ff, zI cy uA 48 uu] ++ (zHs cy a sg)) sz0)) 1296 12896 (va_A ([zI cy cA 3 cc, zI cy fA 8 ff, zI cy uA 48 uu] ++ (zHs cy a sg)) sz0) := by
  refine z_ofMN (cc := cL_isSound) (maxL := 12) (ret := (some .boolean)) (Qc := (fun A => va_Qi (fun r s9 => r = nI 1 ∧ zSame sg s9) (fun (u : zHo) t9 => zB G cy A ([zI cy cA 3 cc, zI cy fA 8 ff, zI cy uA 48 uu] ++ (zHs cy a u)) t9) A)) (by decide) rfl (Nat.le_of_ble_eq_true rfl) ?_
  intro p e s m below meth c ls A hx hb hml hr hts hown hlk hP hK hD hA hS hl hsz0 hN hAN hWd hE
  have hown : s.vm.findClass RL = some m.cls := hown
  have hl : lv_has ls 12 [(0, .ref (a 0)), (1, .int (nI x)), (2, .ref cA), (3, .ref fA), (4, .ref uA)] := hl
  have hT9 := hO.1
  have hn9 := hO.2.1
  refine lv_aload_n hx hb dL_isSound_0 rfl (lv_at hl 2 rfl) ?_
  refine lv_iconst (v := nI 2) hx hb dL_isSound_1 (by decide) ?_
  refine z_iald (G := G) (v := (nI cn)) hx hb hK hP 0 rfl (by omega) (hc2) dL_isSound_2 ?_
  refine z_i2l hx hb (by omega) dL_isSound_3 ?_
  refine lv_lstore (lv' := [(5, .long (lN cn)), (0, .ref (a 0)), (1, .int (nI x)), (2, .ref cA), (3, .ref fA), (4, .ref uA)]) hx hb dL_isSound_4 hl (by decide) rfl (fun ls hl => ?_)
  refine lv_lconst (v := lN 0) hx hb dL_isSound_6 rfl ?_
  refine lv_lstore (lv' := [(7, .long (lN 0)), (5, .long (lN cn)), (0, .ref (a 0)), (1, .int (nI x)), (2, .ref cA), (3, .ref fA), (4, .ref uA)]) hx hb dL_isSound_7 hl (by decide) rfl (fun ls hl => ?_)
  refine lv_iconst (v := nI 1) hx hb dL_isSound_9 (by decide) ?_
  refine lv_istore (lv' := [(9, .int (nI 1)), (7, .long (lN 0)), (5, .long (lN cn)), (0, .ref (a 0)), (1, .int (nI x)), (2, .ref cA), (3, .ref fA), (4, .ref uA)]) hx hb dL_isSound_10 hl (by decide) rfl (fun ls hl => ?_)
  refine lv_iconst (v := nI 0) hx hb dL_isSound_12 (by decide) ?_
  refine lv_istore (lv' := [(10, .int (nI 0)), (9, .int (nI 1)), (7, .long (lN 0)), (5, .long (lN cn)), (0, .ref (a 0)), (1, .int (nI x)), (2, .ref cA), (3, .ref fA), (4, .ref uA)]) hx hb dL_isSound_13 hl (by decide) rfl (fun ls hl => ?_)
  have hloop15 : ∀ (fuel15 : Nat) (t : Nat), (t ≤ 4) → (4 - t) < fuel15 → ∀ (H : Heap) (locs : List Loc), va_P G vwCl ([zI cy cA 3 cc, zI cy fA 8 ff, zI cy uA 48 uu] ++ (zHs cy a sg)) H → va_D A ([zI cy cA 3 cc, zI cy fA 8 ff, zI cy uA 48 uu] ++ (zHs cy a sg)) → va_S A s.heap H locs → ∀ (ls : Array Slot), lv_has ls 12 [(9, .int (nI 1)), (5, .long (lN cn)), (0, .ref (a 0)), (1, .int (nI x)), (2, .ref cA), (3, .ref fA), (4, .ref uA), (7, .long (zS8 (s_ic sg) t)), (10, .int (nI t))] → W p l e { frames := 12, cells := 1296, slots := 12896, locals := 290 } s m [.ref (a 0), .int (nI x), .ref cA, .ref fA, .ref uA].toArray below meth c H locs 0 0 (MQ below (va_Qi (fun r s9 => r = nI 1 ∧ zSame sg s9) (fun (u : zHo) t9 => zB G cy A ([zI cy cA 3 cc, zI cy fA 8 ff, zI cy uA 48 uu] ++ (zHs cy a u)) t9) A) [.ref (a 0), .int (nI x), .ref cA, .ref fA, .ref uA].toArray s 1296 12896 A) (F0 m 15 ls []) := by
    intro fuel15
    induction fuel15 with
    | zero =>
      intro t hi15_0 hfu15
      exact absurd hfu15 (Nat.not_lt_zero _)
    | succ fuel15 ih15 =>
      intro t hi15_0 hfu15 H locs hP hD hS ls hl
      refine lv_iload hx hb dL_isSound_15 (lv_at hl 8 rfl) ?_
      refine lv_iconst (v := nI 4) hx hb dL_isSound_17 (by decide) ?_
      refine z_icmp_ge hx hb (by omega) (by omega) dL_isSound_18 (tgt := 38) (by decide) (fun c_1 => ?_) (fun c_1 => ?_)
      · have et : t = 4 := by omega
        subst et
        refine lv_iconst (v := nI 0) hx hb dL_isSound_38 (by decide) ?_
        refine lv_istore (lv' := [(10, .int (nI 0)), (9, .int (nI 1)), (5, .long (lN cn)), (0, .ref (a 0)), (1, .int (nI x)), (2, .ref cA), (3, .ref fA), (4, .ref uA), (7, .long (zS8 (s_ic sg) 4))]) hx hb dL_isSound_39 hl (by decide) rfl (fun ls hl => ?_)
        have hloop41 : ∀ (fuel41 : Nat) (k : Nat) (ov : Int64) (s5 : zHo), (k ≤ s_np sg) → (ov = lN cn + zS8 (fun j => q_ow (s_P sg j)) k) → (zSame sg s5) → (s_np sg - k) < fuel41 → ∀ (H : Heap) (locs : List Loc), va_P G vwCl ([zI cy cA 3 cc, zI cy fA 8 ff, zI cy uA 48 uu] ++ (zHs cy a s5)) H → va_D A ([zI cy cA 3 cc, zI cy fA 8 ff, zI cy uA 48 uu] ++ (zHs cy a s5)) → va_S A s.heap H locs → ∀ (ls : Array Slot), lv_has ls 12 [(9, .int (nI 1)), (0, .ref (a 0)), (1, .int (nI x)), (2, .ref cA), (3, .ref fA), (4, .ref uA), (7, .long (zS8 (s_ic sg) 4)), (5, .long ov), (10, .int (nI k))] → W p l e { frames := 12, cells := 1296, slots := 12896, locals := 290 } s m [.ref (a 0), .int (nI x), .ref cA, .ref fA, .ref uA].toArray below meth c H locs (162 * k) (1612 * k) (MQ below (va_Qi (fun r s9 => r = nI 1 ∧ zSame sg s9) (fun (u : zHo) t9 => zB G cy A ([zI cy cA 3 cc, zI cy fA 8 ff, zI cy uA 48 uu] ++ (zHs cy a u)) t9) A) [.ref (a 0), .int (nI x), .ref cA, .ref fA, .ref uA].toArray s 1296 12896 A) (F0 m 41 ls []) := by
          intro fuel41
          induction fuel41 with
          | zero =>
            intro k ov s5 hi41_0 hi41_1 hi41_2 hfu41
            exact absurd hfu41 (Nat.not_lt_zero _)
          | succ fuel41 ih41 =>
            intro k ov s5 hi41_0 hi41_1 hi41_2 hfu41 H locs hP hD hS ls hl
            have hsm := hi41_2
            refine lv_iload hx hb dL_isSound_41 (lv_at hl 8 rfl) ?_
            refine lv_aload_n hx hb dL_isSound_43 rfl (lv_at hl 3 rfl) ?_
            refine lv_iconst (v := nI 0) hx hb dL_isSound_44 (by decide) ?_
            refine z_iald (G := G) (v := (nI (s_np sg))) hx hb hK hP 0 rfl (by omega) (hc0) dL_isSound_45 ?_
            refine z_icmp_ge hx hb (by omega) (by omega) dL_isSound_46 (tgt := 307) (by decide) (fun c_2 => ?_) (fun c_2 => ?_)
            · have ek : k = s_np sg := by omega
              rw [ek] at hi41_1
              refine lv_iload hx hb dL_isSound_307 (lv_at hl 0 rfl) ?_
              refine lv_if_eq hx hb dL_isSound_309 (tgt := 324) (by decide) (fun q => absurd q (by decide)) (fun _ => ?_)
              refine lv_lload hx hb dL_isSound_312 (lv_at hl 7 rfl) ?_
              refine lv_lload hx hb dL_isSound_314 (lv_at hl 6 rfl) ?_
              refine z_lc_ne hx hb dL_isSound_316 dL_isSound_317 (tgt := 324) (by decide) (fun c_3 => ?_) (fun c_3 => ?_)
              · exact (c_3 (by rw [hi41_1]; exact Eq.symm hs)).elim
              · refine lv_iconst (v := nI 1) hx hb dL_isSound_320 (by decide) ?_
                refine lv_goto (tgt := 325) hx hb dL_isSound_321 (by decide) ?_
                exact z_rMz hx hb hr hlk (by rfl) dL_isSound_325 s5 (⟨rfl, hsm⟩) hP hD hK hS (by omega) (by omega)
            · have hk6 : k < s_np sg := by omega
              have hk5 : k < s_np s5 := by rw [hsm.2.1]; exact hk6
              have hp := zOk_P hO hk6
              have hla := zPk_la hp
              have hfi := zPk_con hp
              have hpc := zPk_pc hp
              have hhg := (zPk_su hp).1 (s_T sg)
              refine lv_iload hx hb dL_isSound_49 (lv_at hl 0 rfl) ?_
              refine lv_if_eq hx hb dL_isSound_51 (tgt := 307) (by decide) (fun q => absurd q (by decide)) (fun _ => ?_)
              refine lv_lload hx hb dL_isSound_54 (lv_at hl 7 rfl) ?_
              refine lv_aload_n hx hb dL_isSound_56 rfl (lv_at hl 1 rfl) ?_
              refine lv_iload hx hb dL_isSound_57 (lv_at hl 8 rfl) ?_
              have hP5 : va_P G vwCl ((zHs cy a s5) ++ [zI cy cA 3 cc, zI cy fA 8 ff, zI cy uA 48 uu]) _ := z_P_perm (z_permT (ww := [zI cy cA 3 cc, zI cy fA 8 ff, zI cy uA 48 uu]) (wu := []) (wr := [zI cy cA 3 cc, zI cy fA 8 ff, zI cy uA 48 uu]) (tl := (zHs cy a s5)) (n := 3) [] [0, 1, 2] rfl rfl rfl (by decide)) hP
              have hD5 : va_D A ((zHs cy a s5) ++ [zI cy cA 3 cc, zI cy fA 8 ff, zI cy uA 48 uu]) := z_D_perm (z_permT (ww := [zI cy cA 3 cc, zI cy fA 8 ff, zI cy uA 48 uu]) (wu := []) (wr := [zI cy cA 3 cc, zI cy fA 8 ff, zI cy uA 48 uu]) (tl := (zHs cy a s5)) (n := 3) [] [0, 1, 2] rfl rfl rfl (by decide)) hD
              refine z_clP (wc := (zHs cy a s5)) (wr := [zI cy cA 3 cc, zI cy fA 8 ff, zI cy uA 48 uu]) (va_runV (As := [.int (nI k)]) (rest := [.long ov]) ⟨hx, hb, hml, hown, hts⟩ (h_c_account l hl9 G cy wd fo _ _ a s5 k (hk5) (zOk_k8 hsm.1 hk5) (zOk_pt hsm.1 hk5) (hsm.1.1)) (cwV 1 hts gL_isSound_X10_account rfl rfl rfl (by decide +kernel) ⟨Nat.le_of_ble_eq_true rfl, Nat.le_of_ble_eq_true rfl⟩) (z_pVHP (ci := 11) hK hP5 hD5 hS hN hAN hWd hE rfl rfl 0 rfl) rfl rfl hl.1 rfl (lv_room (Nat.le_of_ble_eq_true rfl)) dL_isSound_59 ⟨by show (162 * k) + 0 ≤ 1296; omega, by show (1612 * k) + 0 ≤ 12896; omega⟩) hP5 hD5 hS hA (fun r_4 u H locs hr_4 hQ hD hS hz => ?_)
              obtain ⟨s9_5, rfl⟩ : ∃ z, z = u := ⟨_, rfl⟩
              try dsimp only at hr_4
              have hP : va_P G vwCl ([zI cy cA 3 cc, zI cy fA 8 ff, zI cy uA 48 uu] ++ (zHs cy a s9_5)) H := z_P_perm (List.Perm.symm (z_permT (ww := [zI cy cA 3 cc, zI cy fA 8 ff, zI cy uA 48 uu]) (wu := []) (wr := [zI cy cA 3 cc, zI cy fA 8 ff, zI cy uA 48 uu]) (tl := (zHs cy a s9_5)) (n := 3) [] [0, 1, 2] rfl rfl rfl (by decide))) hQ
              have hD : va_D A ([zI cy cA 3 cc, zI cy fA 8 ff, zI cy uA 48 uu] ++ (zHs cy a s9_5)) := z_D_perm (List.Perm.symm (z_permT (ww := [zI cy cA 3 cc, zI cy fA 8 ff, zI cy uA 48 uu]) (wu := []) (wr := [zI cy cA 3 cc, zI cy fA 8 ff, zI cy uA 48 uu]) (tl := (zHs cy a s9_5)) (n := 3) [] [0, 1, 2] rfl rfl rfl (by decide))) hD
              clear hQ hP5 hD5
              rw [hr_4.2] at hP hD
              have hvr_4 : (q_ow (s_P s5 k)) = (q_ow (s_P sg k)) := by rw [hsm.2.2.2.2.2]
              obtain rfl : r_4 = (q_ow (s_P sg k)) := hr_4.1.trans hvr_4
              refine lv_ladd hx hb dL_isSound_62 ?_
              refine lv_lstore (lv' := [(5, .long (ov + (q_ow (s_P sg k)))), (9, .int (nI 1)), (0, .ref (a 0)), (1, .int (nI x)), (2, .ref cA), (3, .ref fA), (4, .ref uA), (7, .long (zS8 (s_ic sg) 4)), (10, .int (nI k))]) hx hb dL_isSound_63 hl (by decide) rfl (fun ls hl => ?_)
              refine lv_aload_n hx hb dL_isSound_65 rfl (lv_at hl 2 rfl) ?_
              refine lv_iload hx hb dL_isSound_66 (lv_at hl 8 rfl) ?_
              refine lv_iconst (v := nI 1) hx hb dL_isSound_68 (by decide) ?_
              have hP5 : va_P G vwCl ((zHs cy a s5) ++ [zI cy cA 3 cc, zI cy fA 8 ff, zI cy uA 48 uu]) _ := z_P_perm (z_permT (ww := [zI cy cA 3 cc, zI cy fA 8 ff, zI cy uA 48 uu]) (wu := []) (wr := [zI cy cA 3 cc, zI cy fA 8 ff, zI cy uA 48 uu]) (tl := (zHs cy a s5)) (n := 3) [] [0, 1, 2] rfl rfl rfl (by decide)) hP
              have hD5 : va_D A ((zHs cy a s5) ++ [zI cy cA 3 cc, zI cy fA 8 ff, zI cy uA 48 uu]) := z_D_perm (z_permT (ww := [zI cy cA 3 cc, zI cy fA 8 ff, zI cy uA 48 uu]) (wu := []) (wr := [zI cy cA 3 cc, zI cy fA 8 ff, zI cy uA 48 uu]) (tl := (zHs cy a s5)) (n := 3) [] [0, 1, 2] rfl rfl rfl (by decide)) hD
              refine z_ciP (wc := (zHs cy a s5)) (wr := [zI cy cA 3 cc, zI cy fA 8 ff, zI cy uA 48 uu]) (va_runV (As := [.int (nI k), .int (nI 1)]) (rest := []) ⟨hx, hb, hml, hown, hts⟩ (h_c1_of l hl9 G cy wd fo _ _ a s5 k (hk5) (zOk_k8 hsm.1 hk5) (zOk_pt hsm.1 hk5) (hsm.1.1)) (cwV 2 hts gL_isSound_X10_of rfl rfl rfl (by decide +kernel) ⟨Nat.le_of_ble_eq_true rfl, Nat.le_of_ble_eq_true rfl⟩) (z_pVHP (ci := 11) hK hP5 hD5 hS hN hAN hWd hE rfl rfl 0 rfl) rfl rfl hl.1 rfl (lv_room (Nat.le_of_ble_eq_true rfl)) dL_isSound_69 ⟨by show (162 * k + 0) + 0 ≤ 1296; omega, by show (1612 * k + 0) + 0 ≤ 12896; omega⟩) hP5 hD5 hS hA (fun r_6 u H locs hr_6 hQ hD hS hz => ?_)
              obtain ⟨s9_7, rfl⟩ : ∃ z, z = u := ⟨_, rfl⟩
              try dsimp only at hr_6
              have hP : va_P G vwCl ([zI cy cA 3 cc, zI cy fA 8 ff, zI cy uA 48 uu] ++ (zHs cy a s9_7)) H := z_P_perm (List.Perm.symm (z_permT (ww := [zI cy cA 3 cc, zI cy fA 8 ff, zI cy uA 48 uu]) (wu := []) (wr := [zI cy cA 3 cc, zI cy fA 8 ff, zI cy uA 48 uu]) (tl := (zHs cy a s9_7)) (n := 3) [] [0, 1, 2] rfl rfl rfl (by decide))) hQ
              have hD : va_D A ([zI cy cA 3 cc, zI cy fA 8 ff, zI cy uA 48 uu] ++ (zHs cy a s9_7)) := z_D_perm (List.Perm.symm (z_permT (ww := [zI cy cA 3 cc, zI cy fA 8 ff, zI cy uA 48 uu]) (wu := []) (wr := [zI cy cA 3 cc, zI cy fA 8 ff, zI cy uA 48 uu]) (tl := (zHs cy a s9_7)) (n := 3) [] [0, 1, 2] rfl rfl rfl (by decide))) hD
              clear hQ hP5 hD5
              rw [hr_6.2] at hP hD
              have hvr_6 : (nI (q_la (s_P s5 k))) = (nI (q_la (s_P sg k))) := by rw [hsm.2.2.2.2.2]
              obtain rfl : r_6 = (nI (q_la (s_P sg k))) := hr_6.1.trans hvr_6
              refine lv_aload hx hb dL_isSound_72 (lv_at hl 6 rfl) ?_
              refine lv_bipush (v := nI 6) hx hb dL_isSound_74 (by decide) ?_
              refine lv_iload hx hb dL_isSound_76 (lv_at hl 8 rfl) ?_
              refine z_imul hx hb dL_isSound_78 ?_
              refine z_iald (G := G) (v := (nI (q_la (s_P sg k)))) hx hb hK hP 2 rfl (by omega) (hu k (by omega) 0 (by decide)) dL_isSound_79 ?_
              refine z_icmp_ne hx hb (by omega) (by omega) dL_isSound_80 (tgt := 195) (by decide) (fun c_8 => ?_) (fun c_8 => ?_)
              · exfalso; omega
              · refine lv_aload_n hx hb dL_isSound_83 rfl (lv_at hl 2 rfl) ?_
                refine lv_iload hx hb dL_isSound_84 (lv_at hl 8 rfl) ?_
                refine lv_iconst (v := nI 2) hx hb dL_isSound_86 (by decide) ?_
                have hP5 : va_P G vwCl ((zHs cy a s5) ++ [zI cy cA 3 cc, zI cy fA 8 ff, zI cy uA 48 uu]) _ := z_P_perm (z_permT (ww := [zI cy cA 3 cc, zI cy fA 8 ff, zI cy uA 48 uu]) (wu := []) (wr := [zI cy cA 3 cc, zI cy fA 8 ff, zI cy uA 48 uu]) (tl := (zHs cy a s5)) (n := 3) [] [0, 1, 2] rfl rfl rfl (by decide)) hP
                have hD5 : va_D A ((zHs cy a s5) ++ [zI cy cA 3 cc, zI cy fA 8 ff, zI cy uA 48 uu]) := z_D_perm (z_permT (ww := [zI cy cA 3 cc, zI cy fA 8 ff, zI cy uA 48 uu]) (wu := []) (wr := [zI cy cA 3 cc, zI cy fA 8 ff, zI cy uA 48 uu]) (tl := (zHs cy a s5)) (n := 3) [] [0, 1, 2] rfl rfl rfl (by decide)) hD
                refine z_ciP (wc := (zHs cy a s5)) (wr := [zI cy cA 3 cc, zI cy fA 8 ff, zI cy uA 48 uu]) (va_runV (As := [.int (nI k), .int (nI 2)]) (rest := []) ⟨hx, hb, hml, hown, hts⟩ (h_c2_of l hl9 G cy wd fo _ _ a s5 k (hk5) (zOk_k8 hsm.1 hk5) (zOk_pt hsm.1 hk5) (hsm.1.1)) (cwV 2 hts gL_isSound_X10_of rfl rfl rfl (by decide +kernel) ⟨Nat.le_of_ble_eq_true rfl, Nat.le_of_ble_eq_true rfl⟩) (z_pVHP (ci := 11) hK hP5 hD5 hS hN hAN hWd hE rfl rfl 0 rfl) rfl rfl hl.1 rfl (lv_room (Nat.le_of_ble_eq_true rfl)) dL_isSound_87 ⟨by show (162 * k + 0 + 0) + 0 ≤ 1296; omega, by show (1612 * k + 0 + 0) + 0 ≤ 12896; omega⟩) hP5 hD5 hS hA (fun r_9 u H locs hr_9 hQ hD hS hz => ?_)
                obtain ⟨s9_10, rfl⟩ : ∃ z, z = u := ⟨_, rfl⟩
                try dsimp only at hr_9
                have hP : va_P G vwCl ([zI cy cA 3 cc, zI cy fA 8 ff, zI cy uA 48 uu] ++ (zHs cy a s9_10)) H := z_P_perm (List.Perm.symm (z_permT (ww := [zI cy cA 3 cc, zI cy fA 8 ff, zI cy uA 48 uu]) (wu := []) (wr := [zI cy cA 3 cc, zI cy fA 8 ff, zI cy uA 48 uu]) (tl := (zHs cy a s9_10)) (n := 3) [] [0, 1, 2] rfl rfl rfl (by decide))) hQ
                have hD : va_D A ([zI cy cA 3 cc, zI cy fA 8 ff, zI cy uA 48 uu] ++ (zHs cy a s9_10)) := z_D_perm (List.Perm.symm (z_permT (ww := [zI cy cA 3 cc, zI cy fA 8 ff, zI cy uA 48 uu]) (wu := []) (wr := [zI cy cA 3 cc, zI cy fA 8 ff, zI cy uA 48 uu]) (tl := (zHs cy a s9_10)) (n := 3) [] [0, 1, 2] rfl rfl rfl (by decide))) hD
                clear hQ hP5 hD5
                rw [hr_9.2] at hP hD
                have hvr_9 : (nI (q_tk (s_P s5 k))) = (nI (q_tk (s_P sg k))) := by rw [hsm.2.2.2.2.2]
                obtain rfl : r_9 = (nI (q_tk (s_P sg k))) := hr_9.1.trans hvr_9
                refine lv_aload hx hb dL_isSound_90 (lv_at hl 6 rfl) ?_
                refine lv_bipush (v := nI 6) hx hb dL_isSound_92 (by decide) ?_
                refine lv_iload hx hb dL_isSound_94 (lv_at hl 8 rfl) ?_
                refine z_imul hx hb dL_isSound_96 ?_
                refine lv_iconst (v := nI 4) hx hb dL_isSound_97 (by decide) ?_
                refine z_iadd hx hb dL_isSound_98 ?_
                refine z_iald (G := G) (v := (nI (q_tk (s_P sg k)))) hx hb hK hP 2 rfl (by omega) (hu k (by omega) 4 (by decide)) dL_isSound_99 ?_
                refine lv_icmp_ne hx hb dL_isSound_100 (tgt := 195) (by decide) (fun c_11 => ?_) (fun c_11 => ?_)
                · exact absurd rfl c_11
                · refine lv_aload_n hx hb dL_isSound_103 rfl (lv_at hl 2 rfl) ?_
                  refine lv_iload hx hb dL_isSound_104 (lv_at hl 8 rfl) ?_
                  refine lv_iconst (v := nI 4) hx hb dL_isSound_106 (by decide) ?_
                  have hP5 : va_P G vwCl ((zHs cy a s5) ++ [zI cy cA 3 cc, zI cy fA 8 ff, zI cy uA 48 uu]) _ := z_P_perm (z_permT (ww := [zI cy cA 3 cc, zI cy fA 8 ff, zI cy uA 48 uu]) (wu := []) (wr := [zI cy cA 3 cc, zI cy fA 8 ff, zI cy uA 48 uu]) (tl := (zHs cy a s5)) (n := 3) [] [0, 1, 2] rfl rfl rfl (by decide)) hP
                  have hD5 : va_D A ((zHs cy a s5) ++ [zI cy cA 3 cc, zI cy fA 8 ff, zI cy uA 48 uu]) := z_D_perm (z_permT (ww := [zI cy cA 3 cc, zI cy fA 8 ff, zI cy uA 48 uu]) (wu := []) (wr := [zI cy cA 3 cc, zI cy fA 8 ff, zI cy uA 48 uu]) (tl := (zHs cy a s5)) (n := 3) [] [0, 1, 2] rfl rfl rfl (by decide)) hD
                  refine z_ciP (wc := (zHs cy a s5)) (wr := [zI cy cA 3 cc, zI cy fA 8 ff, zI cy uA 48 uu]) (va_runV (As := [.int (nI k), .int (nI 4)]) (rest := []) ⟨hx, hb, hml, hown, hts⟩ (h_c4_of l hl9 G cy wd fo _ _ a s5 k (hk5) (zOk_k8 hsm.1 hk5) (zOk_pt hsm.1 hk5) (hsm.1.1)) (cwV 2 hts gL_isSound_X10_of rfl rfl rfl (by decide +kernel) ⟨Nat.le_of_ble_eq_true rfl, Nat.le_of_ble_eq_true rfl⟩) (z_pVHP (ci := 11) hK hP5 hD5 hS hN hAN hWd hE rfl rfl 0 rfl) rfl rfl hl.1 rfl (lv_room (Nat.le_of_ble_eq_true rfl)) dL_isSound_107 ⟨by show (162 * k + 0 + 0 + 0) + 0 ≤ 1296; omega, by show (1612 * k + 0 + 0 + 0) + 0 ≤ 12896; omega⟩) hP5 hD5 hS hA (fun r_12 u H locs hr_12 hQ hD hS hz => ?_)
                  obtain ⟨s9_13, rfl⟩ : ∃ z, z = u := ⟨_, rfl⟩
                  try dsimp only at hr_12
                  have hP : va_P G vwCl ([zI cy cA 3 cc, zI cy fA 8 ff, zI cy uA 48 uu] ++ (zHs cy a s9_13)) H := z_P_perm (List.Perm.symm (z_permT (ww := [zI cy cA 3 cc, zI cy fA 8 ff, zI cy uA 48 uu]) (wu := []) (wr := [zI cy cA 3 cc, zI cy fA 8 ff, zI cy uA 48 uu]) (tl := (zHs cy a s9_13)) (n := 3) [] [0, 1, 2] rfl rfl rfl (by decide))) hQ
                  have hD : va_D A ([zI cy cA 3 cc, zI cy fA 8 ff, zI cy uA 48 uu] ++ (zHs cy a s9_13)) := z_D_perm (List.Perm.symm (z_permT (ww := [zI cy cA 3 cc, zI cy fA 8 ff, zI cy uA 48 uu]) (wu := []) (wr := [zI cy cA 3 cc, zI cy fA 8 ff, zI cy uA 48 uu]) (tl := (zHs cy a s9_13)) (n := 3) [] [0, 1, 2] rfl rfl rfl (by decide))) hD
                  clear hQ hP5 hD5
                  rw [hr_12.2] at hP hD
                  have hvr_12 : (if (q_dd (s_P s5 k)) ≤ nI (q_la (s_P s5 k)) then (-1) else (q_dd (s_P s5 k))) = (if q_dd (s_P sg k) ≤ nI (q_la (s_P sg k)) then (-1) else q_dd (s_P sg k)) := by rw [hsm.2.2.2.2.2]
                  obtain rfl : r_12 = (if q_dd (s_P sg k) ≤ nI (q_la (s_P sg k)) then (-1) else q_dd (s_P sg k)) := hr_12.1.trans hvr_12
                  refine lv_aload hx hb dL_isSound_110 (lv_at hl 6 rfl) ?_
                  refine lv_bipush (v := nI 6) hx hb dL_isSound_112 (by decide) ?_
                  refine lv_iload hx hb dL_isSound_114 (lv_at hl 8 rfl) ?_
                  refine z_imul hx hb dL_isSound_116 ?_
                  refine lv_iconst (v := nI 5) hx hb dL_isSound_117 (by decide) ?_
                  refine z_iadd hx hb dL_isSound_118 ?_
                  refine z_iald (G := G) (v := (if q_dd (s_P sg k) ≤ nI (q_la (s_P sg k)) then (-1) else q_dd (s_P sg k))) hx hb hK hP 2 rfl (by omega) (hu k (by omega) 5 (by decide)) dL_isSound_119 ?_
                  refine lv_icmp_ne hx hb dL_isSound_120 (tgt := 195) (by decide) (fun c_14 => ?_) (fun c_14 => ?_)
                  · exact absurd rfl c_14
                  · refine lv_aload_n hx hb dL_isSound_123 rfl (lv_at hl 2 rfl) ?_
                    refine lv_iload hx hb dL_isSound_124 (lv_at hl 8 rfl) ?_
                    refine lv_iconst (v := nI 3) hx hb dL_isSound_126 (by decide) ?_
                    have hP5 : va_P G vwCl ((zHs cy a s5) ++ [zI cy cA 3 cc, zI cy fA 8 ff, zI cy uA 48 uu]) _ := z_P_perm (z_permT (ww := [zI cy cA 3 cc, zI cy fA 8 ff, zI cy uA 48 uu]) (wu := []) (wr := [zI cy cA 3 cc, zI cy fA 8 ff, zI cy uA 48 uu]) (tl := (zHs cy a s5)) (n := 3) [] [0, 1, 2] rfl rfl rfl (by decide)) hP
                    have hD5 : va_D A ((zHs cy a s5) ++ [zI cy cA 3 cc, zI cy fA 8 ff, zI cy uA 48 uu]) := z_D_perm (z_permT (ww := [zI cy cA 3 cc, zI cy fA 8 ff, zI cy uA 48 uu]) (wu := []) (wr := [zI cy cA 3 cc, zI cy fA 8 ff, zI cy uA 48 uu]) (tl := (zHs cy a s5)) (n := 3) [] [0, 1, 2] rfl rfl rfl (by decide)) hD
                    refine z_ciP (wc := (zHs cy a s5)) (wr := [zI cy cA 3 cc, zI cy fA 8 ff, zI cy uA 48 uu]) (va_runV (As := [.int (nI k), .int (nI 3)]) (rest := []) ⟨hx, hb, hml, hown, hts⟩ (h_c3_of l hl9 G cy wd fo _ _ a s5 k (hk5) (zOk_k8 hsm.1 hk5) (zOk_pt hsm.1 hk5) (hsm.1.1)) (cwV 2 hts gL_isSound_X10_of rfl rfl rfl (by decide +kernel) ⟨Nat.le_of_ble_eq_true rfl, Nat.le_of_ble_eq_true rfl⟩) (z_pVHP (ci := 11) hK hP5 hD5 hS hN hAN hWd hE rfl rfl 0 rfl) rfl rfl hl.1 rfl (lv_room (Nat.le_of_ble_eq_true rfl)) dL_isSound_127 ⟨by show (162 * k + 0 + 0 + 0 + 0) + 0 ≤ 1296; omega, by show (1612 * k + 0 + 0 + 0 + 0) + 0 ≤ 12896; omega⟩) hP5 hD5 hS hA (fun r_15 u H locs hr_15 hQ hD hS hz => ?_)
                    obtain ⟨s9_16, rfl⟩ : ∃ z, z = u := ⟨_, rfl⟩
                    try dsimp only at hr_15
                    have hP : va_P G vwCl ([zI cy cA 3 cc, zI cy fA 8 ff, zI cy uA 48 uu] ++ (zHs cy a s9_16)) H := z_P_perm (List.Perm.symm (z_permT (ww := [zI cy cA 3 cc, zI cy fA 8 ff, zI cy uA 48 uu]) (wu := []) (wr := [zI cy cA 3 cc, zI cy fA 8 ff, zI cy uA 48 uu]) (tl := (zHs cy a s9_16)) (n := 3) [] [0, 1, 2] rfl rfl rfl (by decide))) hQ
                    have hD : va_D A ([zI cy cA 3 cc, zI cy fA 8 ff, zI cy uA 48 uu] ++ (zHs cy a s9_16)) := z_D_perm (List.Perm.symm (z_permT (ww := [zI cy cA 3 cc, zI cy fA 8 ff, zI cy uA 48 uu]) (wu := []) (wr := [zI cy cA 3 cc, zI cy fA 8 ff, zI cy uA 48 uu]) (tl := (zHs cy a s9_16)) (n := 3) [] [0, 1, 2] rfl rfl rfl (by decide))) hD
                    clear hQ hP5 hD5
                    rw [hr_15.2] at hP hD
                    have hvr_15 : (nI ((q_hg (s_P s5 k)) (s_T s5))) = (nI (q_hg (s_P sg k) (s_T sg))) := by rw [hsm.2.2.2.2.2, hsm.2.2.1]
                    obtain rfl : r_15 = (nI (q_hg (s_P sg k) (s_T sg))) := hr_15.1.trans hvr_15
                    refine z_if_lt hx hb (by omega) dL_isSound_130 (tgt := 195) (by decide) ?_
                    refine lv_aload_n hx hb dL_isSound_133 rfl (lv_at hl 2 rfl) ?_
                    refine lv_iload hx hb dL_isSound_134 (lv_at hl 8 rfl) ?_
                    refine lv_iconst (v := nI 3) hx hb dL_isSound_136 (by decide) ?_
                    have hP5 : va_P G vwCl ((zHs cy a s5) ++ [zI cy cA 3 cc, zI cy fA 8 ff, zI cy uA 48 uu]) _ := z_P_perm (z_permT (ww := [zI cy cA 3 cc, zI cy fA 8 ff, zI cy uA 48 uu]) (wu := []) (wr := [zI cy cA 3 cc, zI cy fA 8 ff, zI cy uA 48 uu]) (tl := (zHs cy a s5)) (n := 3) [] [0, 1, 2] rfl rfl rfl (by decide)) hP
                    have hD5 : va_D A ((zHs cy a s5) ++ [zI cy cA 3 cc, zI cy fA 8 ff, zI cy uA 48 uu]) := z_D_perm (z_permT (ww := [zI cy cA 3 cc, zI cy fA 8 ff, zI cy uA 48 uu]) (wu := []) (wr := [zI cy cA 3 cc, zI cy fA 8 ff, zI cy uA 48 uu]) (tl := (zHs cy a s5)) (n := 3) [] [0, 1, 2] rfl rfl rfl (by decide)) hD
                    refine z_ciP (wc := (zHs cy a s5)) (wr := [zI cy cA 3 cc, zI cy fA 8 ff, zI cy uA 48 uu]) (va_runV (As := [.int (nI k), .int (nI 3)]) (rest := []) ⟨hx, hb, hml, hown, hts⟩ (h_c3_of l hl9 G cy wd fo _ _ a s5 k (hk5) (zOk_k8 hsm.1 hk5) (zOk_pt hsm.1 hk5) (hsm.1.1)) (cwV 2 hts gL_isSound_X10_of rfl rfl rfl (by decide +kernel) ⟨Nat.le_of_ble_eq_true rfl, Nat.le_of_ble_eq_true rfl⟩) (z_pVHP (ci := 11) hK hP5 hD5 hS hN hAN hWd hE rfl rfl 0 rfl) rfl rfl hl.1 rfl (lv_room (Nat.le_of_ble_eq_true rfl)) dL_isSound_137 ⟨by show (162 * k + 0 + 0 + 0 + 0 + 0) + 0 ≤ 1296; omega, by show (1612 * k + 0 + 0 + 0 + 0 + 0) + 0 ≤ 12896; omega⟩) hP5 hD5 hS hA (fun r_18 u H locs hr_18 hQ hD hS hz => ?_)
                    obtain ⟨s9_19, rfl⟩ : ∃ z, z = u := ⟨_, rfl⟩
                    try dsimp only at hr_18
                    have hP : va_P G vwCl ([zI cy cA 3 cc, zI cy fA 8 ff, zI cy uA 48 uu] ++ (zHs cy a s9_19)) H := z_P_perm (List.Perm.symm (z_permT (ww := [zI cy cA 3 cc, zI cy fA 8 ff, zI cy uA 48 uu]) (wu := []) (wr := [zI cy cA 3 cc, zI cy fA 8 ff, zI cy uA 48 uu]) (tl := (zHs cy a s9_19)) (n := 3) [] [0, 1, 2] rfl rfl rfl (by decide))) hQ
                    have hD : va_D A ([zI cy cA 3 cc, zI cy fA 8 ff, zI cy uA 48 uu] ++ (zHs cy a s9_19)) := z_D_perm (List.Perm.symm (z_permT (ww := [zI cy cA 3 cc, zI cy fA 8 ff, zI cy uA 48 uu]) (wu := []) (wr := [zI cy cA 3 cc, zI cy fA 8 ff, zI cy uA 48 uu]) (tl := (zHs cy a s9_19)) (n := 3) [] [0, 1, 2] rfl rfl rfl (by decide))) hD
                    clear hQ hP5 hD5
                    rw [hr_18.2] at hP hD
                    have hvr_18 : (nI ((q_hg (s_P s5 k)) (s_T s5))) = (nI (q_hg (s_P sg k) (s_T sg))) := by rw [hsm.2.2.2.2.2, hsm.2.2.1]
                    obtain rfl : r_18 = (nI (q_hg (s_P sg k) (s_T sg))) := hr_18.1.trans hvr_18
                    refine lv_iconst (v := nI 4) hx hb dL_isSound_140 (by decide) ?_
                    refine z_icmp_ge hx hb (by omega) (by omega) dL_isSound_141 (tgt := 195) (by decide) (fun c_20 => ?_) (fun c_20 => ?_)
                    · exfalso; omega
                    · refine lv_aload_n hx hb dL_isSound_144 rfl (lv_at hl 2 rfl) ?_
                      refine lv_iload hx hb dL_isSound_145 (lv_at hl 8 rfl) ?_
                      refine lv_iconst (v := nI 0) hx hb dL_isSound_147 (by decide) ?_
                      have hP5 : va_P G vwCl ((zHs cy a s5) ++ [zI cy cA 3 cc, zI cy fA 8 ff, zI cy uA 48 uu]) _ := z_P_perm (z_permT (ww := [zI cy cA 3 cc, zI cy fA 8 ff, zI cy uA 48 uu]) (wu := []) (wr := [zI cy cA 3 cc, zI cy fA 8 ff, zI cy uA 48 uu]) (tl := (zHs cy a s5)) (n := 3) [] [0, 1, 2] rfl rfl rfl (by decide)) hP
                      have hD5 : va_D A ((zHs cy a s5) ++ [zI cy cA 3 cc, zI cy fA 8 ff, zI cy uA 48 uu]) := z_D_perm (z_permT (ww := [zI cy cA 3 cc, zI cy fA 8 ff, zI cy uA 48 uu]) (wu := []) (wr := [zI cy cA 3 cc, zI cy fA 8 ff, zI cy uA 48 uu]) (tl := (zHs cy a s5)) (n := 3) [] [0, 1, 2] rfl rfl rfl (by decide)) hD
                      refine z_ciP (wc := (zHs cy a s5)) (wr := [zI cy cA 3 cc, zI cy fA 8 ff, zI cy uA 48 uu]) (va_runV (As := [.int (nI k), .int (nI 0)]) (rest := []) ⟨hx, hb, hml, hown, hts⟩ (h_c0_of l hl9 G cy wd fo _ _ a s5 k (hk5) (zOk_k8 hsm.1 hk5) (zOk_pt hsm.1 hk5) (hsm.1.1)) (cwV 2 hts gL_isSound_X10_of rfl rfl rfl (by decide +kernel) ⟨Nat.le_of_ble_eq_true rfl, Nat.le_of_ble_eq_true rfl⟩) (z_pVHP (ci := 11) hK hP5 hD5 hS hN hAN hWd hE rfl rfl 0 rfl) rfl rfl hl.1 rfl (lv_room (Nat.le_of_ble_eq_true rfl)) dL_isSound_148 ⟨by show (162 * k + 0 + 0 + 0 + 0 + 0 + 0) + 0 ≤ 1296; omega, by show (1612 * k + 0 + 0 + 0 + 0 + 0 + 0) + 0 ≤ 12896; omega⟩) hP5 hD5 hS hA (fun r_21 u H locs hr_21 hQ hD hS hz => ?_)
                      obtain ⟨s9_22, rfl⟩ : ∃ z, z = u := ⟨_, rfl⟩
                      try dsimp only at hr_21
                      have hP : va_P G vwCl ([zI cy cA 3 cc, zI cy fA 8 ff, zI cy uA 48 uu] ++ (zHs cy a s9_22)) H := z_P_perm (List.Perm.symm (z_permT (ww := [zI cy cA 3 cc, zI cy fA 8 ff, zI cy uA 48 uu]) (wu := []) (wr := [zI cy cA 3 cc, zI cy fA 8 ff, zI cy uA 48 uu]) (tl := (zHs cy a s9_22)) (n := 3) [] [0, 1, 2] rfl rfl rfl (by decide))) hQ
                      have hD : va_D A ([zI cy cA 3 cc, zI cy fA 8 ff, zI cy uA 48 uu] ++ (zHs cy a s9_22)) := z_D_perm (List.Perm.symm (z_permT (ww := [zI cy cA 3 cc, zI cy fA 8 ff, zI cy uA 48 uu]) (wu := []) (wr := [zI cy cA 3 cc, zI cy fA 8 ff, zI cy uA 48 uu]) (tl := (zHs cy a s9_22)) (n := 3) [] [0, 1, 2] rfl rfl rfl (by decide))) hD
                      clear hQ hP5 hD5
                      rw [hr_21.2] at hP hD
                      have hvr_21 : (nI (q_pc (s_P s5 k))) = (nI (q_pc (s_P sg k))) := by rw [hsm.2.2.2.2.2]
                      obtain rfl : r_21 = (nI (q_pc (s_P sg k))) := hr_21.1.trans hvr_21
                      refine z_if_lt hx hb (by omega) dL_isSound_151 (tgt := 195) (by decide) ?_
                      refine lv_aload_n hx hb dL_isSound_154 rfl (lv_at hl 2 rfl) ?_
                      refine lv_bipush (v := nI 9) hx hb dL_isSound_155 (by decide) ?_
                      refine lv_iload hx hb dL_isSound_157 (lv_at hl 8 rfl) ?_
                      refine lv_aload_n hx hb dL_isSound_159 rfl (lv_at hl 4 rfl) ?_
                      refine lv_iconst (v := nI 1) hx hb dL_isSound_160 (by decide) ?_
                      refine z_iald (G := G) (v := (nI (s_T sg))) hx hb hK hP 0 rfl (by omega) (hc1) dL_isSound_161 ?_
                      refine lv_iconst (v := nI 0) hx hb dL_isSound_162 (by decide) ?_
                      have hP5 : va_P G vwCl ((zHs cy a s5) ++ [zI cy cA 3 cc, zI cy fA 8 ff, zI cy uA 48 uu]) _ := z_P_perm (z_permT (ww := [zI cy cA 3 cc, zI cy fA 8 ff, zI cy uA 48 uu]) (wu := []) (wr := [zI cy cA 3 cc, zI cy fA 8 ff, zI cy uA 48 uu]) (tl := (zHs cy a s5)) (n := 3) [] [0, 1, 2] rfl rfl rfl (by decide)) hP
                      have hD5 : va_D A ((zHs cy a s5) ++ [zI cy cA 3 cc, zI cy fA 8 ff, zI cy uA 48 uu]) := z_D_perm (z_permT (ww := [zI cy cA 3 cc, zI cy fA 8 ff, zI cy uA 48 uu]) (wu := []) (wr := [zI cy cA 3 cc, zI cy fA 8 ff, zI cy uA 48 uu]) (tl := (zHs cy a s5)) (n := 3) [] [0, 1, 2] rfl rfl rfl (by decide)) hD
                      refine z_ciP (wc := (zHs cy a s5)) (wr := [zI cy cA 3 cc, zI cy fA 8 ff, zI cy uA 48 uu]) (vx_runSW (As := [.ref (a 0), .int (nI 9), .int (nI k), .int (nI (s_T sg)), .int (nI 0)]) (rest := []) ⟨hx, hb, hml, hown, hts⟩ (k_e1b_volume l hl9 G cy wd fo _ _ a s5 k (hk5) (zOk_k8 hsm.1 hk5) (zOk_pt hsm.1 hk5) (hsm.1.1) (nI (s_T sg)) (by rw [hsm.2.2.2.2.2]; omega) (by rw [nI_toInt (by omega), hsm.2.2.2.2.2, hsm.2.2.1]; omega) (nI 0)) (vx_cwSW 5 hts gL_isSound_L_asks rfl rfl rfl (by decide +kernel) ⟨Nat.le_of_ble_eq_true rfl, Nat.le_of_ble_eq_true rfl⟩) (z_pHP hK hP5 hD5 hS hN hAN hWd hE) rfl rfl hl.1 rfl (lv_room (Nat.le_of_ble_eq_true rfl)) dL_isSound_163 ⟨by show (162 * k + 0 + 0 + 0 + 0 + 0 + 0 + 0) + 1 ≤ 1296; omega, by show (1612 * k + 0 + 0 + 0 + 0 + 0 + 0 + 0) + 6 ≤ 12896; omega⟩) hP5 hD5 hS hA (fun r_24 u H locs hr_24 hQ hD hS hz => ?_)
                      obtain ⟨s9_25, rfl⟩ : ∃ z, z = u := ⟨_, rfl⟩
                      try dsimp only at hr_24
                      have hP : va_P G vwCl ([zI cy cA 3 cc, zI cy fA 8 ff, zI cy uA 48 uu] ++ (zHs cy a s9_25)) H := z_P_perm (List.Perm.symm (z_permT (ww := [zI cy cA 3 cc, zI cy fA 8 ff, zI cy uA 48 uu]) (wu := []) (wr := [zI cy cA 3 cc, zI cy fA 8 ff, zI cy uA 48 uu]) (tl := (zHs cy a s9_25)) (n := 3) [] [0, 1, 2] rfl rfl rfl (by decide))) hQ
                      have hD : va_D A ([zI cy cA 3 cc, zI cy fA 8 ff, zI cy uA 48 uu] ++ (zHs cy a s9_25)) := z_D_perm (List.Perm.symm (z_permT (ww := [zI cy cA 3 cc, zI cy fA 8 ff, zI cy uA 48 uu]) (wu := []) (wr := [zI cy cA 3 cc, zI cy fA 8 ff, zI cy uA 48 uu]) (tl := (zHs cy a s9_25)) (n := 3) [] [0, 1, 2] rfl rfl rfl (by decide))) hD
                      clear hQ hP5 hD5
                      rw [hr_24.2] at hP hD
                      obtain rfl : r_24 = (-70007) := hr_24.1
                      refine lv_ldc (v := (-70007)) hx hb hown (hts _ (List.mem_of_getElem? (i := 1) (by decide +kernel))) dL_isSound_166 ?_
                      refine lv_icmp_ne hx hb dL_isSound_168 (tgt := 195) (by decide) (fun c_26 => ?_) (fun c_26 => ?_)
                      · exact absurd rfl c_26
                      · refine lv_aload_n hx hb dL_isSound_171 rfl (lv_at hl 2 rfl) ?_
                        refine lv_bipush (v := nI 9) hx hb dL_isSound_172 (by decide) ?_
                        refine lv_iload hx hb dL_isSound_174 (lv_at hl 8 rfl) ?_
                        refine lv_aload_n hx hb dL_isSound_176 rfl (lv_at hl 5 rfl) ?_
                        refine lv_iload hx hb dL_isSound_177 (lv_at hl 8 rfl) ?_
                        refine z_iald (G := G) (v := (nI (q_fi (s_P sg k)))) hx hb hK hP 1 rfl (by omega) (hf k (by omega)) dL_isSound_179 ?_
                        refine lv_iconst (v := nI 1) hx hb dL_isSound_180 (by decide) ?_
                        refine lv_isub hx hb dL_isSound_181 ?_
                        refine lv_iconst (v := nI 0) hx hb dL_isSound_182 (by decide) ?_
                        have hP5 : va_P G vwCl ((zHs cy a s5) ++ [zI cy cA 3 cc, zI cy fA 8 ff, zI cy uA 48 uu]) _ := z_P_perm (z_permT (ww := [zI cy cA 3 cc, zI cy fA 8 ff, zI cy uA 48 uu]) (wu := []) (wr := [zI cy cA 3 cc, zI cy fA 8 ff, zI cy uA 48 uu]) (tl := (zHs cy a s5)) (n := 3) [] [0, 1, 2] rfl rfl rfl (by decide)) hP
                        have hD5 : va_D A ((zHs cy a s5) ++ [zI cy cA 3 cc, zI cy fA 8 ff, zI cy uA 48 uu]) := z_D_perm (z_permT (ww := [zI cy cA 3 cc, zI cy fA 8 ff, zI cy uA 48 uu]) (wu := []) (wr := [zI cy cA 3 cc, zI cy fA 8 ff, zI cy uA 48 uu]) (tl := (zHs cy a s5)) (n := 3) [] [0, 1, 2] rfl rfl rfl (by decide)) hD
                        refine z_ciP (wc := (zHs cy a s5)) (wr := [zI cy cA 3 cc, zI cy fA 8 ff, zI cy uA 48 uu]) (vx_runSW (As := [.ref (a 0), .int (nI 9), .int (nI k), .int ((nI (q_fi (s_P sg k))) - (nI 1)), .int (nI 0)]) (rest := []) ⟨hx, hb, hml, hown, hts⟩ (k_e1b_volume l hl9 G cy wd fo _ _ a s5 k (hk5) (zOk_k8 hsm.1 hk5) (zOk_pt hsm.1 hk5) (hsm.1.1) ((nI (q_fi (s_P sg k))) - (nI 1)) (by rw [hsm.2.2.2.2.2]; omega) (by rw [pk_sub_toInt (by omega) (by decide), hsm.2.2.2.2.2, hsm.2.2.1]; omega) (nI 0)) (vx_cwSW 5 hts gL_isSound_L_asks rfl rfl rfl (by decide +kernel) ⟨Nat.le_of_ble_eq_true rfl, Nat.le_of_ble_eq_true rfl⟩) (z_pHP hK hP5 hD5 hS hN hAN hWd hE) rfl rfl hl.1 rfl (lv_room (Nat.le_of_ble_eq_true rfl)) dL_isSound_183 ⟨by show (162 * k + 0 + 0 + 0 + 0 + 0 + 0 + 0 + 1) + 1 ≤ 1296; omega, by show (1612 * k + 0 + 0 + 0 + 0 + 0 + 0 + 0 + 6) + 6 ≤ 12896; omega⟩) hP5 hD5 hS hA (fun r_27 u H locs hr_27 hQ hD hS hz => ?_)
                        obtain ⟨s9_28, rfl⟩ : ∃ z, z = u := ⟨_, rfl⟩
                        try dsimp only at hr_27
                        have hP : va_P G vwCl ([zI cy cA 3 cc, zI cy fA 8 ff, zI cy uA 48 uu] ++ (zHs cy a s9_28)) H := z_P_perm (List.Perm.symm (z_permT (ww := [zI cy cA 3 cc, zI cy fA 8 ff, zI cy uA 48 uu]) (wu := []) (wr := [zI cy cA 3 cc, zI cy fA 8 ff, zI cy uA 48 uu]) (tl := (zHs cy a s9_28)) (n := 3) [] [0, 1, 2] rfl rfl rfl (by decide))) hQ
                        have hD : va_D A ([zI cy cA 3 cc, zI cy fA 8 ff, zI cy uA 48 uu] ++ (zHs cy a s9_28)) := z_D_perm (List.Perm.symm (z_permT (ww := [zI cy cA 3 cc, zI cy fA 8 ff, zI cy uA 48 uu]) (wu := []) (wr := [zI cy cA 3 cc, zI cy fA 8 ff, zI cy uA 48 uu]) (tl := (zHs cy a s9_28)) (n := 3) [] [0, 1, 2] rfl rfl rfl (by decide))) hD
                        clear hQ hP5 hD5
                        rw [hr_27.2] at hP hD
                        obtain rfl : r_27 = (-70007) := hr_27.1
                        refine lv_ldc (v := (-70007)) hx hb hown (hts _ (List.mem_of_getElem? (i := 1) (by decide +kernel))) dL_isSound_186 ?_
                        refine lv_icmp_ne hx hb dL_isSound_188 (tgt := 195) (by decide) (fun c_29 => ?_) (fun c_29 => ?_)
                        · exact absurd rfl c_29
                        · refine lv_iconst (v := nI 1) hx hb dL_isSound_191 (by decide) ?_
                          refine lv_goto (tgt := 196) hx hb dL_isSound_192 (by decide) ?_
                          refine lv_istore (lv' := [(9, .int (nI 1)), (5, .long (ov + (q_ow (s_P sg k)))), (0, .ref (a 0)), (1, .int (nI x)), (2, .ref cA), (3, .ref fA), (4, .ref uA), (7, .long (zS8 (s_ic sg) 4)), (10, .int (nI k))]) hx hb dL_isSound_196 hl (by decide) rfl (fun ls hl => ?_)
                          refine lv_aload_n hx hb dL_isSound_198 rfl (lv_at hl 4 rfl) ?_
                          refine lv_iconst (v := nI 1) hx hb dL_isSound_199 (by decide) ?_
                          refine z_iald (G := G) (v := (nI (s_T sg))) hx hb hK hP 0 rfl (by omega) (hc1) dL_isSound_200 ?_
                          refine lv_aload_n hx hb dL_isSound_201 rfl (lv_at hl 5 rfl) ?_
                          refine lv_iload hx hb dL_isSound_202 (lv_at hl 8 rfl) ?_
                          refine z_iald (G := G) (v := (nI (q_fi (s_P sg k)))) hx hb hK hP 1 rfl (by omega) (hf k (by omega)) dL_isSound_204 ?_
                          refine z_icmp_le hx hb (by omega) (by omega) dL_isSound_205 (tgt := 301) (by decide) (fun c_30 => ?_) (fun c_30 => ?_)
                          · refine lv_iinc (v := (nI (k + 1))) (lv' := [(10, .int (nI (k + 1))), (9, .int (nI 1)), (5, .long (ov + (q_ow (s_P sg k)))), (0, .ref (a 0)), (1, .int (nI x)), (2, .ref cA), (3, .ref fA), (4, .ref uA), (7, .long (zS8 (s_ic sg) 4))]) hx hb dL_isSound_301 hl (k := 8) rfl (nI_add _ _) (by decide) rfl (fun ls hl => ?_)
                            refine lv_goto (tgt := 41) hx hb dL_isSound_304 (by decide) ?_
                            refine W.widen (k := 162 * (k + 1)) (n := 1612 * (k + 1)) (by omega) (by omega) ?_
                            exact ih41 (k + 1) (ov + q_ow (s_P sg k)) s5 (by omega) (by show _ = lN cn + (zS8 (fun j => q_ow (s_P sg j)) k + q_ow (s_P sg k)); rw [hi41_1]; grind) (hsm) (by omega) _ _ hP hD hS _ (lv_sub hl [1, 3, 4, 5, 6, 7, 8, 2, 0] rfl)
                          · refine lv_iload hx hb dL_isSound_208 (lv_at hl 0 rfl) ?_
                            refine lv_if_eq hx hb dL_isSound_210 (tgt := 301) (by decide) (fun q => absurd q (by decide)) (fun _ => ?_)
                            refine lv_aload_n hx hb dL_isSound_213 rfl (lv_at hl 5 rfl) ?_
                            refine lv_iload hx hb dL_isSound_214 (lv_at hl 8 rfl) ?_
                            refine z_iald (G := G) (v := (nI (q_fi (s_P sg k)))) hx hb hK hP 1 rfl (by omega) (hf k (by omega)) dL_isSound_216 ?_
                            refine lv_iload_n hx hb dL_isSound_217 rfl (lv_at hl 3 rfl) ?_
                            refine lv_aload_n hx hb dL_isSound_218 rfl (lv_at hl 4 rfl) ?_
                            refine lv_iconst (v := nI 1) hx hb dL_isSound_219 (by decide) ?_
                            refine z_iald (G := G) (v := (nI (s_T sg))) hx hb hK hP 0 rfl (by omega) (hc1) dL_isSound_220 ?_
                            refine lv_aload_n hx hb dL_isSound_221 rfl (lv_at hl 5 rfl) ?_
                            refine lv_iload hx hb dL_isSound_222 (lv_at hl 8 rfl) ?_
                            refine z_iald (G := G) (v := (nI (q_fi (s_P sg k)))) hx hb hK hP 1 rfl (by omega) (hf k (by omega)) dL_isSound_224 ?_
                            refine z_isub hx hb (by omega) dL_isSound_225 ?_
                            refine z_irem hx hb (by omega) (by omega) (by omega) dL_isSound_226 ?_
                            refine z_iadd hx hb dL_isSound_227 ?_
                            have hmd := Nat.mod_lt x (show 0 < s_T sg - q_fi (s_P sg k) by omega)
                            obtain ⟨d, hdd⟩ : ∃ d, d = (q_fi (s_P sg k)) + (x % ((s_T sg) - (q_fi (s_P sg k)))) := ⟨_, rfl⟩
                            rw [← hdd]
                            have hd0 : q_fi (s_P sg k) ≤ d := by omega
                            have hd1 : d < s_T sg := by omega
                            refine lv_istore (lv' := [(11, .int (nI d)), (9, .int (nI 1)), (5, .long (ov + (q_ow (s_P sg k)))), (0, .ref (a 0)), (1, .int (nI x)), (2, .ref cA), (3, .ref fA), (4, .ref uA), (7, .long (zS8 (s_ic sg) 4)), (10, .int (nI k))]) hx hb dL_isSound_228 hl (by decide) rfl (fun ls hl => ?_)
                            refine lv_aload_n hx hb dL_isSound_230 rfl (lv_at hl 3 rfl) ?_
                            refine lv_iload hx hb dL_isSound_231 (lv_at hl 9 rfl) ?_
                            refine lv_iload hx hb dL_isSound_233 (lv_at hl 0 rfl) ?_
                            refine lv_iload hx hb dL_isSound_235 (lv_at hl 0 rfl) ?_
                            refine lv_aload hx hb dL_isSound_237 (lv_at hl 7 rfl) ?_
                            refine lv_bipush (v := nI 6) hx hb dL_isSound_239 (by decide) ?_
                            refine lv_iload hx hb dL_isSound_241 (lv_at hl 9 rfl) ?_
                            refine z_imul hx hb dL_isSound_243 ?_
                            refine z_iald (G := G) (v := (nI (q_la (s_P sg k)))) hx hb hK hP 2 rfl (by omega) (hu k (by omega) 0 (by decide)) dL_isSound_244 ?_
                            refine z_icmp_ge hx hb (by omega) (by omega) dL_isSound_245 (tgt := 252) (by decide) (fun c_31 => ?_) (fun c_31 => ?_)
                            · refine lv_iconst (v := nI 0) hx hb dL_isSound_252 (by decide) ?_
                              have hP5 : va_P G vwCl ((zHs cy a s5) ++ [zI cy cA 3 cc, zI cy fA 8 ff, zI cy uA 48 uu]) _ := z_P_perm (z_permT (ww := [zI cy cA 3 cc, zI cy fA 8 ff, zI cy uA 48 uu]) (wu := []) (wr := [zI cy cA 3 cc, zI cy fA 8 ff, zI cy uA 48 uu]) (tl := (zHs cy a s5)) (n := 3) [] [0, 1, 2] rfl rfl rfl (by decide)) hP
                              have hD5 : va_D A ((zHs cy a s5) ++ [zI cy cA 3 cc, zI cy fA 8 ff, zI cy uA 48 uu]) := z_D_perm (z_permT (ww := [zI cy cA 3 cc, zI cy fA 8 ff, zI cy uA 48 uu]) (wu := []) (wr := [zI cy cA 3 cc, zI cy fA 8 ff, zI cy uA 48 uu]) (tl := (zHs cy a s5)) (n := 3) [] [0, 1, 2] rfl rfl rfl (by decide)) hD
                              refine z_ciP (wc := (zHs cy a s5)) (wr := [zI cy cA 3 cc, zI cy fA 8 ff, zI cy uA 48 uu]) (va_runS (As := [.ref (a 0), .int (nI k), .int (nI d), .int (nI 0)]) (rest := []) ⟨hx, hb, hml, hown, hts⟩ (c_L_isWord l hl9 G cy wd fo _ _ a s5 k d 0 (hsm.1) (by rw [hsm.2.1]; omega) (by rw [hsm.2.2.2.2.2]; omega) (by rw [hsm.2.2.1]; omega) (by rw [hsm.2.2.2.2.2, if_neg (by omega)])) (va_cwS 4 hts gL_isSound_L_isWord rfl rfl rfl (by decide +kernel) ⟨Nat.le_of_ble_eq_true rfl, Nat.le_of_ble_eq_true rfl⟩) (z_pHP hK hP5 hD5 hS hN hAN hWd hE) rfl rfl hl.1 rfl (lv_room (Nat.le_of_ble_eq_true rfl)) dL_isSound_253 ⟨by show (162 * k + 0 + 0 + 0 + 0 + 0 + 0 + 0 + 1 + 1) + 80 ≤ 1296; omega, by show (1612 * k + 0 + 0 + 0 + 0 + 0 + 0 + 0 + 6 + 6) + 800 ≤ 12896; omega⟩) hP5 hD5 hS hA (fun r_32 u H locs hr_32 hQ hD hS hz => ?_)
                              obtain ⟨s9_33, rfl⟩ : ∃ z, z = u := ⟨_, rfl⟩
                              try dsimp only at hr_32
                              have hP : va_P G vwCl ([zI cy cA 3 cc, zI cy fA 8 ff, zI cy uA 48 uu] ++ (zHs cy a s9_33)) H := z_P_perm (List.Perm.symm (z_permT (ww := [zI cy cA 3 cc, zI cy fA 8 ff, zI cy uA 48 uu]) (wu := []) (wr := [zI cy cA 3 cc, zI cy fA 8 ff, zI cy uA 48 uu]) (tl := (zHs cy a s9_33)) (n := 3) [] [0, 1, 2] rfl rfl rfl (by decide))) hQ
                              have hD : va_D A ([zI cy cA 3 cc, zI cy fA 8 ff, zI cy uA 48 uu] ++ (zHs cy a s9_33)) := z_D_perm (List.Perm.symm (z_permT (ww := [zI cy cA 3 cc, zI cy fA 8 ff, zI cy uA 48 uu]) (wu := []) (wr := [zI cy cA 3 cc, zI cy fA 8 ff, zI cy uA 48 uu]) (tl := (zHs cy a s9_33)) (n := 3) [] [0, 1, 2] rfl rfl rfl (by decide))) hD
                              clear hQ hP5 hD5
                              obtain ⟨w_34_1, w_34_2⟩ := hr_32
                              obtain rfl : r_32 = nI 1 := w_34_1
                              have w_34_3 := zSame_tr hsm w_34_2
                              refine lv_if_eq hx hb dL_isSound_256 (tgt := 298) (by decide) (fun q => absurd q (by decide)) (fun _ => ?_)
                              refine lv_aload_n hx hb dL_isSound_259 rfl (lv_at hl 3 rfl) ?_
                              refine lv_iload hx hb dL_isSound_260 (lv_at hl 9 rfl) ?_
                              refine lv_aload_n hx hb dL_isSound_262 rfl (lv_at hl 5 rfl) ?_
                              refine lv_iconst (v := nI 1) hx hb dL_isSound_263 (by decide) ?_
                              refine z_iald (G := G) (v := (nI (s_T sg))) hx hb hK hP 0 rfl (by omega) (hc1) dL_isSound_264 ?_
                              refine lv_iconst (v := nI 1) hx hb dL_isSound_265 (by decide) ?_
                              refine z_isub hx hb (by omega) dL_isSound_266 ?_
                              refine lv_aload_n hx hb dL_isSound_267 rfl (lv_at hl 5 rfl) ?_
                              refine lv_iconst (v := nI 1) hx hb dL_isSound_268 (by decide) ?_
                              refine z_iald (G := G) (v := (nI (s_T sg))) hx hb hK hP 0 rfl (by omega) (hc1) dL_isSound_269 ?_
                              refine lv_iconst (v := nI 1) hx hb dL_isSound_270 (by decide) ?_
                              refine z_isub hx hb (by omega) dL_isSound_271 ?_
                              refine lv_aload hx hb dL_isSound_272 (lv_at hl 7 rfl) ?_
                              refine lv_bipush (v := nI 6) hx hb dL_isSound_274 (by decide) ?_
                              refine lv_iload hx hb dL_isSound_276 (lv_at hl 9 rfl) ?_
                              refine z_imul hx hb dL_isSound_278 ?_
                              refine z_iald (G := G) (v := (nI (q_la (s_P sg k)))) hx hb hK hP 2 rfl (by omega) (hu k (by omega) 0 (by decide)) dL_isSound_279 ?_
                              refine z_icmp_ge hx hb (by omega) (by omega) dL_isSound_280 (tgt := 287) (by decide) (fun c_35 => ?_) (fun c_35 => ?_)
                              · refine lv_iconst (v := nI 0) hx hb dL_isSound_287 (by decide) ?_
                                have hP5 : va_P G vwCl ((zHs cy a s9_33) ++ [zI cy cA 3 cc, zI cy fA 8 ff, zI cy uA 48 uu]) _ := z_P_perm (z_permT (ww := [zI cy cA 3 cc, zI cy fA 8 ff, zI cy uA 48 uu]) (wu := []) (wr := [zI cy cA 3 cc, zI cy fA 8 ff, zI cy uA 48 uu]) (tl := (zHs cy a s9_33)) (n := 3) [] [0, 1, 2] rfl rfl rfl (by decide)) hP
                                have hD5 : va_D A ((zHs cy a s9_33) ++ [zI cy cA 3 cc, zI cy fA 8 ff, zI cy uA 48 uu]) := z_D_perm (z_permT (ww := [zI cy cA 3 cc, zI cy fA 8 ff, zI cy uA 48 uu]) (wu := []) (wr := [zI cy cA 3 cc, zI cy fA 8 ff, zI cy uA 48 uu]) (tl := (zHs cy a s9_33)) (n := 3) [] [0, 1, 2] rfl rfl rfl (by decide)) hD
                                refine z_ciP (wc := (zHs cy a s9_33)) (wr := [zI cy cA 3 cc, zI cy fA 8 ff, zI cy uA 48 uu]) (va_runS (As := [.ref (a 0), .int (nI k), .int (nI ((s_T sg) - 1)), .int (nI 0)]) (rest := []) ⟨hx, hb, hml, hown, hts⟩ (c_L_isWord l hl9 G cy wd fo _ _ a s9_33 k ((s_T sg) - 1) 0 (w_34_3.1) (by rw [w_34_3.2.1]; omega) (by rw [w_34_3.2.2.2.2.2]; omega) (by rw [w_34_3.2.2.1]; omega) (by rw [w_34_3.2.2.2.2.2, if_neg (by omega)])) (va_cwS 4 hts gL_isSound_L_isWord rfl rfl rfl (by decide +kernel) ⟨Nat.le_of_ble_eq_true rfl, Nat.le_of_ble_eq_true rfl⟩) (z_pHP hK hP5 hD5 hS hN hAN hWd hE) rfl rfl hl.1 rfl (lv_room (Nat.le_of_ble_eq_true rfl)) dL_isSound_288 ⟨by show (162 * k + 0 + 0 + 0 + 0 + 0 + 0 + 0 + 1 + 1 + 80) + 80 ≤ 1296; omega, by show (1612 * k + 0 + 0 + 0 + 0 + 0 + 0 + 0 + 6 + 6 + 800) + 800 ≤ 12896; omega⟩) hP5 hD5 hS hA (fun r_36 u H locs hr_36 hQ hD hS hz => ?_)
                                obtain ⟨s9_37, rfl⟩ : ∃ z, z = u := ⟨_, rfl⟩
                                try dsimp only at hr_36
                                have hP : va_P G vwCl ([zI cy cA 3 cc, zI cy fA 8 ff, zI cy uA 48 uu] ++ (zHs cy a s9_37)) H := z_P_perm (List.Perm.symm (z_permT (ww := [zI cy cA 3 cc, zI cy fA 8 ff, zI cy uA 48 uu]) (wu := []) (wr := [zI cy cA 3 cc, zI cy fA 8 ff, zI cy uA 48 uu]) (tl := (zHs cy a s9_37)) (n := 3) [] [0, 1, 2] rfl rfl rfl (by decide))) hQ
                                have hD : va_D A ([zI cy cA 3 cc, zI cy fA 8 ff, zI cy uA 48 uu] ++ (zHs cy a s9_37)) := z_D_perm (List.Perm.symm (z_permT (ww := [zI cy cA 3 cc, zI cy fA 8 ff, zI cy uA 48 uu]) (wu := []) (wr := [zI cy cA 3 cc, zI cy fA 8 ff, zI cy uA 48 uu]) (tl := (zHs cy a s9_37)) (n := 3) [] [0, 1, 2] rfl rfl rfl (by decide))) hD
                                clear hQ hP5 hD5
                                obtain ⟨w_38_1, w_38_2⟩ := hr_36
                                obtain rfl : r_36 = nI 1 := w_38_1
                                have w_38_3 := zSame_tr w_34_3 w_38_2
                                refine lv_if_eq hx hb dL_isSound_291 (tgt := 298) (by decide) (fun q => absurd q (by decide)) (fun _ => ?_)
                                refine lv_iconst (v := nI 1) hx hb dL_isSound_294 (by decide) ?_
                                refine lv_goto (tgt := 299) hx hb dL_isSound_295 (by decide) ?_
                                refine lv_istore (lv' := [(9, .int (nI 1)), (11, .int (nI d)), (5, .long (ov + (q_ow (s_P sg k)))), (0, .ref (a 0)), (1, .int (nI x)), (2, .ref cA), (3, .ref fA), (4, .ref uA), (7, .long (zS8 (s_ic sg) 4)), (10, .int (nI k))]) hx hb dL_isSound_299 hl (by decide) rfl (fun ls hl => ?_)
                                refine lv_iinc (v := (nI (k + 1))) (lv' := [(10, .int (nI (k + 1))), (9, .int (nI 1)), (11, .int (nI d)), (5, .long (ov + (q_ow (s_P sg k)))), (0, .ref (a 0)), (1, .int (nI x)), (2, .ref cA), (3, .ref fA), (4, .ref uA), (7, .long (zS8 (s_ic sg) 4))]) hx hb dL_isSound_301 hl (k := 9) rfl (nI_add _ _) (by decide) rfl (fun ls hl => ?_)
                                refine lv_goto (tgt := 41) hx hb dL_isSound_304 (by decide) ?_
                                refine W.widen (k := 162 * (k + 1)) (n := 1612 * (k + 1)) (by omega) (by omega) ?_
                                exact ih41 (k + 1) (ov + q_ow (s_P sg k)) s9_37 (by omega) (by show _ = lN cn + (zS8 (fun j => q_ow (s_P sg j)) k + q_ow (s_P sg k)); rw [hi41_1]; grind) (w_38_3) (by omega) _ _ hP hD hS _ (lv_sub hl [1, 4, 5, 6, 7, 8, 9, 3, 0] rfl)
                              · refine lv_iconst (v := nI 1) hx hb dL_isSound_283 (by decide) ?_
                                refine lv_goto (tgt := 288) hx hb dL_isSound_284 (by decide) ?_
                                have hP5 : va_P G vwCl ((zHs cy a s9_33) ++ [zI cy cA 3 cc, zI cy fA 8 ff, zI cy uA 48 uu]) _ := z_P_perm (z_permT (ww := [zI cy cA 3 cc, zI cy fA 8 ff, zI cy uA 48 uu]) (wu := []) (wr := [zI cy cA 3 cc, zI cy fA 8 ff, zI cy uA 48 uu]) (tl := (zHs cy a s9_33)) (n := 3) [] [0, 1, 2] rfl rfl rfl (by decide)) hP
                                have hD5 : va_D A ((zHs cy a s9_33) ++ [zI cy cA 3 cc, zI cy fA 8 ff, zI cy uA 48 uu]) := z_D_perm (z_permT (ww := [zI cy cA 3 cc, zI cy fA 8 ff, zI cy uA 48 uu]) (wu := []) (wr := [zI cy cA 3 cc, zI cy fA 8 ff, zI cy uA 48 uu]) (tl := (zHs cy a s9_33)) (n := 3) [] [0, 1, 2] rfl rfl rfl (by decide)) hD
                                refine z_ciP (wc := (zHs cy a s9_33)) (wr := [zI cy cA 3 cc, zI cy fA 8 ff, zI cy uA 48 uu]) (va_runS (As := [.ref (a 0), .int (nI k), .int (nI ((s_T sg) - 1)), .int (nI 1)]) (rest := []) ⟨hx, hb, hml, hown, hts⟩ (c_L_isWord l hl9 G cy wd fo _ _ a s9_33 k ((s_T sg) - 1) 1 (w_34_3.1) (by rw [w_34_3.2.1]; omega) (by rw [w_34_3.2.2.2.2.2]; omega) (by rw [w_34_3.2.2.1]; omega) (by rw [w_34_3.2.2.2.2.2, if_pos (by omega)])) (va_cwS 4 hts gL_isSound_L_isWord rfl rfl rfl (by decide +kernel) ⟨Nat.le_of_ble_eq_true rfl, Nat.le_of_ble_eq_true rfl⟩) (z_pHP hK hP5 hD5 hS hN hAN hWd hE) rfl rfl hl.1 rfl (lv_room (Nat.le_of_ble_eq_true rfl)) dL_isSound_288 ⟨by show (162 * k + 0 + 0 + 0 + 0 + 0 + 0 + 0 + 1 + 1 + 80) + 80 ≤ 1296; omega, by show (1612 * k + 0 + 0 + 0 + 0 + 0 + 0 + 0 + 6 + 6 + 800) + 800 ≤ 12896; omega⟩) hP5 hD5 hS hA (fun r_39 u H locs hr_39 hQ hD hS hz => ?_)
                                obtain ⟨s9_40, rfl⟩ : ∃ z, z = u := ⟨_, rfl⟩
                                try dsimp only at hr_39
                                have hP : va_P G vwCl ([zI cy cA 3 cc, zI cy fA 8 ff, zI cy uA 48 uu] ++ (zHs cy a s9_40)) H := z_P_perm (List.Perm.symm (z_permT (ww := [zI cy cA 3 cc, zI cy fA 8 ff, zI cy uA 48 uu]) (wu := []) (wr := [zI cy cA 3 cc, zI cy fA 8 ff, zI cy uA 48 uu]) (tl := (zHs cy a s9_40)) (n := 3) [] [0, 1, 2] rfl rfl rfl (by decide))) hQ
                                have hD : va_D A ([zI cy cA 3 cc, zI cy fA 8 ff, zI cy uA 48 uu] ++ (zHs cy a s9_40)) := z_D_perm (List.Perm.symm (z_permT (ww := [zI cy cA 3 cc, zI cy fA 8 ff, zI cy uA 48 uu]) (wu := []) (wr := [zI cy cA 3 cc, zI cy fA 8 ff, zI cy uA 48 uu]) (tl := (zHs cy a s9_40)) (n := 3) [] [0, 1, 2] rfl rfl rfl (by decide))) hD
                                clear hQ hP5 hD5
                                obtain ⟨w_41_1, w_41_2⟩ := hr_39
                                obtain rfl : r_39 = nI 1 := w_41_1
                                have w_41_3 := zSame_tr w_34_3 w_41_2
                                refine lv_if_eq hx hb dL_isSound_291 (tgt := 298) (by decide) (fun q => absurd q (by decide)) (fun _ => ?_)
                                refine lv_iconst (v := nI 1) hx hb dL_isSound_294 (by decide) ?_
                                refine lv_goto (tgt := 299) hx hb dL_isSound_295 (by decide) ?_
                                refine lv_istore (lv' := [(9, .int (nI 1)), (11, .int (nI d)), (5, .long (ov + (q_ow (s_P sg k)))), (0, .ref (a 0)), (1, .int (nI x)), (2, .ref cA), (3, .ref fA), (4, .ref uA), (7, .long (zS8 (s_ic sg) 4)), (10, .int (nI k))]) hx hb dL_isSound_299 hl (by decide) rfl (fun ls hl => ?_)
                                refine lv_iinc (v := (nI (k + 1))) (lv' := [(10, .int (nI (k + 1))), (9, .int (nI 1)), (11, .int (nI d)), (5, .long (ov + (q_ow (s_P sg k)))), (0, .ref (a 0)), (1, .int (nI x)), (2, .ref cA), (3, .ref fA), (4, .ref uA), (7, .long (zS8 (s_ic sg) 4))]) hx hb dL_isSound_301 hl (k := 9) rfl (nI_add _ _) (by decide) rfl (fun ls hl => ?_)
                                refine lv_goto (tgt := 41) hx hb dL_isSound_304 (by decide) ?_
                                refine W.widen (k := 162 * (k + 1)) (n := 1612 * (k + 1)) (by omega) (by omega) ?_
                                exact ih41 (k + 1) (ov + q_ow (s_P sg k)) s9_40 (by omega) (by show _ = lN cn + (zS8 (fun j => q_ow (s_P sg j)) k + q_ow (s_P sg k)); rw [hi41_1]; grind) (w_41_3) (by omega) _ _ hP hD hS _ (lv_sub hl [1, 4, 5, 6, 7, 8, 9, 3, 0] rfl)
                            · refine lv_iconst (v := nI 1) hx hb dL_isSound_248 (by decide) ?_
                              refine lv_goto (tgt := 253) hx hb dL_isSound_249 (by decide) ?_
                              have hP5 : va_P G vwCl ((zHs cy a s5) ++ [zI cy cA 3 cc, zI cy fA 8 ff, zI cy uA 48 uu]) _ := z_P_perm (z_permT (ww := [zI cy cA 3 cc, zI cy fA 8 ff, zI cy uA 48 uu]) (wu := []) (wr := [zI cy cA 3 cc, zI cy fA 8 ff, zI cy uA 48 uu]) (tl := (zHs cy a s5)) (n := 3) [] [0, 1, 2] rfl rfl rfl (by decide)) hP
                              have hD5 : va_D A ((zHs cy a s5) ++ [zI cy cA 3 cc, zI cy fA 8 ff, zI cy uA 48 uu]) := z_D_perm (z_permT (ww := [zI cy cA 3 cc, zI cy fA 8 ff, zI cy uA 48 uu]) (wu := []) (wr := [zI cy cA 3 cc, zI cy fA 8 ff, zI cy uA 48 uu]) (tl := (zHs cy a s5)) (n := 3) [] [0, 1, 2] rfl rfl rfl (by decide)) hD
                              refine z_ciP (wc := (zHs cy a s5)) (wr := [zI cy cA 3 cc, zI cy fA 8 ff, zI cy uA 48 uu]) (va_runS (As := [.ref (a 0), .int (nI k), .int (nI d), .int (nI 1)]) (rest := []) ⟨hx, hb, hml, hown, hts⟩ (c_L_isWord l hl9 G cy wd fo _ _ a s5 k d 1 (hsm.1) (by rw [hsm.2.1]; omega) (by rw [hsm.2.2.2.2.2]; omega) (by rw [hsm.2.2.1]; omega) (by rw [hsm.2.2.2.2.2, if_pos (by omega)])) (va_cwS 4 hts gL_isSound_L_isWord rfl rfl rfl (by decide +kernel) ⟨Nat.le_of_ble_eq_true rfl, Nat.le_of_ble_eq_true rfl⟩) (z_pHP hK hP5 hD5 hS hN hAN hWd hE) rfl rfl hl.1 rfl (lv_room (Nat.le_of_ble_eq_true rfl)) dL_isSound_253 ⟨by show (162 * k + 0 + 0 + 0 + 0 + 0 + 0 + 0 + 1 + 1) + 80 ≤ 1296; omega, by show (1612 * k + 0 + 0 + 0 + 0 + 0 + 0 + 0 + 6 + 6) + 800 ≤ 12896; omega⟩) hP5 hD5 hS hA (fun r_42 u H locs hr_42 hQ hD hS hz => ?_)
                              obtain ⟨s9_43, rfl⟩ : ∃ z, z = u := ⟨_, rfl⟩
                              try dsimp only at hr_42
                              have hP : va_P G vwCl ([zI cy cA 3 cc, zI cy fA 8 ff, zI cy uA 48 uu] ++ (zHs cy a s9_43)) H := z_P_perm (List.Perm.symm (z_permT (ww := [zI cy cA 3 cc, zI cy fA 8 ff, zI cy uA 48 uu]) (wu := []) (wr := [zI cy cA 3 cc, zI cy fA 8 ff, zI cy uA 48 uu]) (tl := (zHs cy a s9_43)) (n := 3) [] [0, 1, 2] rfl rfl rfl (by decide))) hQ
                              have hD : va_D A ([zI cy cA 3 cc, zI cy fA 8 ff, zI cy uA 48 uu] ++ (zHs cy a s9_43)) := z_D_perm (List.Perm.symm (z_permT (ww := [zI cy cA 3 cc, zI cy fA 8 ff, zI cy uA 48 uu]) (wu := []) (wr := [zI cy cA 3 cc, zI cy fA 8 ff, zI cy uA 48 uu]) (tl := (zHs cy a s9_43)) (n := 3) [] [0, 1, 2] rfl rfl rfl (by decide))) hD
                              clear hQ hP5 hD5
                              obtain ⟨w_44_1, w_44_2⟩ := hr_42
                              obtain rfl : r_42 = nI 1 := w_44_1
                              have w_44_3 := zSame_tr hsm w_44_2
                              refine lv_if_eq hx hb dL_isSound_256 (tgt := 298) (by decide) (fun q => absurd q (by decide)) (fun _ => ?_)
                              refine lv_aload_n hx hb dL_isSound_259 rfl (lv_at hl 3 rfl) ?_
                              refine lv_iload hx hb dL_isSound_260 (lv_at hl 9 rfl) ?_
                              refine lv_aload_n hx hb dL_isSound_262 rfl (lv_at hl 5 rfl) ?_
                              refine lv_iconst (v := nI 1) hx hb dL_isSound_263 (by decide) ?_
                              refine z_iald (G := G) (v := (nI (s_T sg))) hx hb hK hP 0 rfl (by omega) (hc1) dL_isSound_264 ?_
                              refine lv_iconst (v := nI 1) hx hb dL_isSound_265 (by decide) ?_
                              refine z_isub hx hb (by omega) dL_isSound_266 ?_
                              refine lv_aload_n hx hb dL_isSound_267 rfl (lv_at hl 5 rfl) ?_
                              refine lv_iconst (v := nI 1) hx hb dL_isSound_268 (by decide) ?_
                              refine z_iald (G := G) (v := (nI (s_T sg))) hx hb hK hP 0 rfl (by omega) (hc1) dL_isSound_269 ?_
                              refine lv_iconst (v := nI 1) hx hb dL_isSound_270 (by decide) ?_
                              refine z_isub hx hb (by omega) dL_isSound_271 ?_
                              refine lv_aload hx hb dL_isSound_272 (lv_at hl 7 rfl) ?_
                              refine lv_bipush (v := nI 6) hx hb dL_isSound_274 (by decide) ?_
                              refine lv_iload hx hb dL_isSound_276 (lv_at hl 9 rfl) ?_
                              refine z_imul hx hb dL_isSound_278 ?_
                              refine z_iald (G := G) (v := (nI (q_la (s_P sg k)))) hx hb hK hP 2 rfl (by omega) (hu k (by omega) 0 (by decide)) dL_isSound_279 ?_
                              refine z_icmp_ge hx hb (by omega) (by omega) dL_isSound_280 (tgt := 287) (by decide) (fun c_45 => ?_) (fun c_45 => ?_)
                              · refine lv_iconst (v := nI 0) hx hb dL_isSound_287 (by decide) ?_
                                have hP5 : va_P G vwCl ((zHs cy a s9_43) ++ [zI cy cA 3 cc, zI cy fA 8 ff, zI cy uA 48 uu]) _ := z_P_perm (z_permT (ww := [zI cy cA 3 cc, zI cy fA 8 ff, zI cy uA 48 uu]) (wu := []) (wr := [zI cy cA 3 cc, zI cy fA 8 ff, zI cy uA 48 uu]) (tl := (zHs cy a s9_43)) (n := 3) [] [0, 1, 2] rfl rfl rfl (by decide)) hP
                                have hD5 : va_D A ((zHs cy a s9_43) ++ [zI cy cA 3 cc, zI cy fA 8 ff, zI cy uA 48 uu]) := z_D_perm (z_permT (ww := [zI cy cA 3 cc, zI cy fA 8 ff, zI cy uA 48 uu]) (wu := []) (wr := [zI cy cA 3 cc, zI cy fA 8 ff, zI cy uA 48 uu]) (tl := (zHs cy a s9_43)) (n := 3) [] [0, 1, 2] rfl rfl rfl (by decide)) hD
                                refine z_ciP (wc := (zHs cy a s9_43)) (wr := [zI cy cA 3 cc, zI cy fA 8 ff, zI cy uA 48 uu]) (va_runS (As := [.ref (a 0), .int (nI k), .int (nI ((s_T sg) - 1)), .int (nI 0)]) (rest := []) ⟨hx, hb, hml, hown, hts⟩ (c_L_isWord l hl9 G cy wd fo _ _ a s9_43 k ((s_T sg) - 1) 0 (w_44_3.1) (by rw [w_44_3.2.1]; omega) (by rw [w_44_3.2.2.2.2.2]; omega) (by rw [w_44_3.2.2.1]; omega) (by rw [w_44_3.2.2.2.2.2, if_neg (by omega)])) (va_cwS 4 hts gL_isSound_L_isWord rfl rfl rfl (by decide +kernel) ⟨Nat.le_of_ble_eq_true rfl, Nat.le_of_ble_eq_true rfl⟩) (z_pHP hK hP5 hD5 hS hN hAN hWd hE) rfl rfl hl.1 rfl (lv_room (Nat.le_of_ble_eq_true rfl)) dL_isSound_288 ⟨by show (162 * k + 0 + 0 + 0 + 0 + 0 + 0 + 0 + 1 + 1 + 80) + 80 ≤ 1296; omega, by show (1612 * k + 0 + 0 + 0 + 0 + 0 + 0 + 0 + 6 + 6 + 800) + 800 ≤ 12896; omega⟩) hP5 hD5 hS hA (fun r_46 u H locs hr_46 hQ hD hS hz => ?_)
                                obtain ⟨s9_47, rfl⟩ : ∃ z, z = u := ⟨_, rfl⟩
                                try dsimp only at hr_46
                                have hP : va_P G vwCl ([zI cy cA 3 cc, zI cy fA 8 ff, zI cy uA 48 uu] ++ (zHs cy a s9_47)) H := z_P_perm (List.Perm.symm (z_permT (ww := [zI cy cA 3 cc, zI cy fA 8 ff, zI cy uA 48 uu]) (wu := []) (wr := [zI cy cA 3 cc, zI cy fA 8 ff, zI cy uA 48 uu]) (tl := (zHs cy a s9_47)) (n := 3) [] [0, 1, 2] rfl rfl rfl (by decide))) hQ
                                have hD : va_D A ([zI cy cA 3 cc, zI cy fA 8 ff, zI cy uA 48 uu] ++ (zHs cy a s9_47)) := z_D_perm (List.Perm.symm (z_permT (ww := [zI cy cA 3 cc, zI cy fA 8 ff, zI cy uA 48 uu]) (wu := []) (wr := [zI cy cA 3 cc, zI cy fA 8 ff, zI cy uA 48 uu]) (tl := (zHs cy a s9_47)) (n := 3) [] [0, 1, 2] rfl rfl rfl (by decide))) hD
                                clear hQ hP5 hD5
                                obtain ⟨w_48_1, w_48_2⟩ := hr_46
                                obtain rfl : r_46 = nI 1 := w_48_1
                                have w_48_3 := zSame_tr w_44_3 w_48_2
                                refine lv_if_eq hx hb dL_isSound_291 (tgt := 298) (by decide) (fun q => absurd q (by decide)) (fun _ => ?_)
                                refine lv_iconst (v := nI 1) hx hb dL_isSound_294 (by decide) ?_
                                refine lv_goto (tgt := 299) hx hb dL_isSound_295 (by decide) ?_
                                refine lv_istore (lv' := [(9, .int (nI 1)), (11, .int (nI d)), (5, .long (ov + (q_ow (s_P sg k)))), (0, .ref (a 0)), (1, .int (nI x)), (2, .ref cA), (3, .ref fA), (4, .ref uA), (7, .long (zS8 (s_ic sg) 4)), (10, .int (nI k))]) hx hb dL_isSound_299 hl (by decide) rfl (fun ls hl => ?_)
                                refine lv_iinc (v := (nI (k + 1))) (lv' := [(10, .int (nI (k + 1))), (9, .int (nI 1)), (11, .int (nI d)), (5, .long (ov + (q_ow (s_P sg k)))), (0, .ref (a 0)), (1, .int (nI x)), (2, .ref cA), (3, .ref fA), (4, .ref uA), (7, .long (zS8 (s_ic sg) 4))]) hx hb dL_isSound_301 hl (k := 9) rfl (nI_add _ _) (by decide) rfl (fun ls hl => ?_)
                                refine lv_goto (tgt := 41) hx hb dL_isSound_304 (by decide) ?_
                                refine W.widen (k := 162 * (k + 1)) (n := 1612 * (k + 1)) (by omega) (by omega) ?_
                                exact ih41 (k + 1) (ov + q_ow (s_P sg k)) s9_47 (by omega) (by show _ = lN cn + (zS8 (fun j => q_ow (s_P sg j)) k + q_ow (s_P sg k)); rw [hi41_1]; grind) (w_48_3) (by omega) _ _ hP hD hS _ (lv_sub hl [1, 4, 5, 6, 7, 8, 9, 3, 0] rfl)
                              · refine lv_iconst (v := nI 1) hx hb dL_isSound_283 (by decide) ?_
                                refine lv_goto (tgt := 288) hx hb dL_isSound_284 (by decide) ?_
                                have hP5 : va_P G vwCl ((zHs cy a s9_43) ++ [zI cy cA 3 cc, zI cy fA 8 ff, zI cy uA 48 uu]) _ := z_P_perm (z_permT (ww := [zI cy cA 3 cc, zI cy fA 8 ff, zI cy uA 48 uu]) (wu := []) (wr := [zI cy cA 3 cc, zI cy fA 8 ff, zI cy uA 48 uu]) (tl := (zHs cy a s9_43)) (n := 3) [] [0, 1, 2] rfl rfl rfl (by decide)) hP
                                have hD5 : va_D A ((zHs cy a s9_43) ++ [zI cy cA 3 cc, zI cy fA 8 ff, zI cy uA 48 uu]) := z_D_perm (z_permT (ww := [zI cy cA 3 cc, zI cy fA 8 ff, zI cy uA 48 uu]) (wu := []) (wr := [zI cy cA 3 cc, zI cy fA 8 ff, zI cy uA 48 uu]) (tl := (zHs cy a s9_43)) (n := 3) [] [0, 1, 2] rfl rfl rfl (by decide)) hD
                                refine z_ciP (wc := (zHs cy a s9_43)) (wr := [zI cy cA 3 cc, zI cy fA 8 ff, zI cy uA 48 uu]) (va_runS (As := [.ref (a 0), .int (nI k), .int (nI ((s_T sg) - 1)), .int (nI 1)]) (rest := []) ⟨hx, hb, hml, hown, hts⟩ (c_L_isWord l hl9 G cy wd fo _ _ a s9_43 k ((s_T sg) - 1) 1 (w_44_3.1) (by rw [w_44_3.2.1]; omega) (by rw [w_44_3.2.2.2.2.2]; omega) (by rw [w_44_3.2.2.1]; omega) (by rw [w_44_3.2.2.2.2.2, if_pos (by omega)])) (va_cwS 4 hts gL_isSound_L_isWord rfl rfl rfl (by decide +kernel) ⟨Nat.le_of_ble_eq_true rfl, Nat.le_of_ble_eq_true rfl⟩) (z_pHP hK hP5 hD5 hS hN hAN hWd hE) rfl rfl hl.1 rfl (lv_room (Nat.le_of_ble_eq_true rfl)) dL_isSound_288 ⟨by show (162 * k + 0 + 0 + 0 + 0 + 0 + 0 + 0 + 1 + 1 + 80) + 80 ≤ 1296; omega, by show (1612 * k + 0 + 0 + 0 + 0 + 0 + 0 + 0 + 6 + 6 + 800) + 800 ≤ 12896; omega⟩) hP5 hD5 hS hA (fun r_49 u H locs hr_49 hQ hD hS hz => ?_)
                                obtain ⟨s9_50, rfl⟩ : ∃ z, z = u := ⟨_, rfl⟩
                                try dsimp only at hr_49
                                have hP : va_P G vwCl ([zI cy cA 3 cc, zI cy fA 8 ff, zI cy uA 48 uu] ++ (zHs cy a s9_50)) H := z_P_perm (List.Perm.symm (z_permT (ww := [zI cy cA 3 cc, zI cy fA 8 ff, zI cy uA 48 uu]) (wu := []) (wr := [zI cy cA 3 cc, zI cy fA 8 ff, zI cy uA 48 uu]) (tl := (zHs cy a s9_50)) (n := 3) [] [0, 1, 2] rfl rfl rfl (by decide))) hQ
                                have hD : va_D A ([zI cy cA 3 cc, zI cy fA 8 ff, zI cy uA 48 uu] ++ (zHs cy a s9_50)) := z_D_perm (List.Perm.symm (z_permT (ww := [zI cy cA 3 cc, zI cy fA 8 ff, zI cy uA 48 uu]) (wu := []) (wr := [zI cy cA 3 cc, zI cy fA 8 ff, zI cy uA 48 uu]) (tl := (zHs cy a s9_50)) (n := 3) [] [0, 1, 2] rfl rfl rfl (by decide))) hD
                                clear hQ hP5 hD5
                                obtain ⟨w_51_1, w_51_2⟩ := hr_49
                                obtain rfl : r_49 = nI 1 := w_51_1
                                have w_51_3 := zSame_tr w_44_3 w_51_2
                                refine lv_if_eq hx hb dL_isSound_291 (tgt := 298) (by decide) (fun q => absurd q (by decide)) (fun _ => ?_)
                                refine lv_iconst (v := nI 1) hx hb dL_isSound_294 (by decide) ?_
                                refine lv_goto (tgt := 299) hx hb dL_isSound_295 (by decide) ?_
                                refine lv_istore (lv' := [(9, .int (nI 1)), (11, .int (nI d)), (5, .long (ov + (q_ow (s_P sg k)))), (0, .ref (a 0)), (1, .int (nI x)), (2, .ref cA), (3, .ref fA), (4, .ref uA), (7, .long (zS8 (s_ic sg) 4)), (10, .int (nI k))]) hx hb dL_isSound_299 hl (by decide) rfl (fun ls hl => ?_)
                                refine lv_iinc (v := (nI (k + 1))) (lv' := [(10, .int (nI (k + 1))), (9, .int (nI 1)), (11, .int (nI d)), (5, .long (ov + (q_ow (s_P sg k)))), (0, .ref (a 0)), (1, .int (nI x)), (2, .ref cA), (3, .ref fA), (4, .ref uA), (7, .long (zS8 (s_ic sg) 4))]) hx hb dL_isSound_301 hl (k := 9) rfl (nI_add _ _) (by decide) rfl (fun ls hl => ?_)
                                refine lv_goto (tgt := 41) hx hb dL_isSound_304 (by decide) ?_
                                refine W.widen (k := 162 * (k + 1)) (n := 1612 * (k + 1)) (by omega) (by omega) ?_
                                exact ih41 (k + 1) (ov + q_ow (s_P sg k)) s9_50 (by omega) (by show _ = lN cn + (zS8 (fun j => q_ow (s_P sg j)) k + q_ow (s_P sg k)); rw [hi41_1]; grind) (w_51_3) (by omega) _ _ hP hD hS _ (lv_sub hl [1, 4, 5, 6, 7, 8, 9, 3, 0] rfl)
        refine W.widen (k := 162 * 0) (n := 1612 * 0) (by omega) (by omega) ?_
        exact hloop41 (s_np sg - 0 + 1) 0 (lN cn) sg (by omega) (by show lN cn = lN cn + lN 0; rw [z_lN0]; grind) (zSame_rf hO) (by omega) _ _ hP hD hS _ (lv_sub hl [1, 3, 4, 5, 6, 7, 8, 2, 0] rfl)
      · refine lv_lload hx hb dL_isSound_21 (lv_at hl 7 rfl) ?_
        refine lv_aload_n hx hb dL_isSound_23 rfl (lv_at hl 2 rfl) ?_
        refine lv_iload hx hb dL_isSound_24 (lv_at hl 8 rfl) ?_
        have hP5 : va_P G vwCl ((zHs cy a sg) ++ [zI cy cA 3 cc, zI cy fA 8 ff, zI cy uA 48 uu]) _ := z_P_perm (z_permT (ww := [zI cy cA 3 cc, zI cy fA 8 ff, zI cy uA 48 uu]) (wu := []) (wr := [zI cy cA 3 cc, zI cy fA 8 ff, zI cy uA 48 uu]) (tl := (zHs cy a sg)) (n := 3) [] [0, 1, 2] rfl rfl rfl (by decide)) hP
        have hD5 : va_D A ((zHs cy a sg) ++ [zI cy cA 3 cc, zI cy fA 8 ff, zI cy uA 48 uu]) := z_D_perm (z_permT (ww := [zI cy cA 3 cc, zI cy fA 8 ff, zI cy uA 48 uu]) (wu := []) (wr := [zI cy cA 3 cc, zI cy fA 8 ff, zI cy uA 48 uu]) (tl := (zHs cy a sg)) (n := 3) [] [0, 1, 2] rfl rfl rfl (by decide)) hD
        refine z_clP (wc := (zHs cy a sg)) (wr := [zI cy cA 3 cc, zI cy fA 8 ff, zI cy uA 48 uu]) (va_runV (As := [.int (nI t)]) (rest := [.long (zS8 (s_ic sg) t)]) ⟨hx, hb, hml, hown, hts⟩ (h_c_income l hl9 G cy wd fo _ _ a sg t (by omega)) (cwV 1 hts gL_isSound_X10_income rfl rfl rfl (by decide +kernel) ⟨Nat.le_of_ble_eq_true rfl, Nat.le_of_ble_eq_true rfl⟩) (z_pVHP (ci := 11) hK hP5 hD5 hS hN hAN hWd hE rfl rfl 0 rfl) rfl rfl hl.1 rfl (lv_room (Nat.le_of_ble_eq_true rfl)) dL_isSound_26 ⟨by show 0 + 0 ≤ 1296; omega, by show 0 + 0 ≤ 12896; omega⟩) hP5 hD5 hS hA (fun r_52 u H locs hr_52 hQ hD hS hz => ?_)
        obtain ⟨s9_53, rfl⟩ : ∃ z, z = u := ⟨_, rfl⟩
        try dsimp only at hr_52
        have hP : va_P G vwCl ([zI cy cA 3 cc, zI cy fA 8 ff, zI cy uA 48 uu] ++ (zHs cy a s9_53)) H := z_P_perm (List.Perm.symm (z_permT (ww := [zI cy cA 3 cc, zI cy fA 8 ff, zI cy uA 48 uu]) (wu := []) (wr := [zI cy cA 3 cc, zI cy fA 8 ff, zI cy uA 48 uu]) (tl := (zHs cy a s9_53)) (n := 3) [] [0, 1, 2] rfl rfl rfl (by decide))) hQ
        have hD : va_D A ([zI cy cA 3 cc, zI cy fA 8 ff, zI cy uA 48 uu] ++ (zHs cy a s9_53)) := z_D_perm (List.Perm.symm (z_permT (ww := [zI cy cA 3 cc, zI cy fA 8 ff, zI cy uA 48 uu]) (wu := []) (wr := [zI cy cA 3 cc, zI cy fA 8 ff, zI cy uA 48 uu]) (tl := (zHs cy a s9_53)) (n := 3) [] [0, 1, 2] rfl rfl rfl (by decide))) hD
        clear hQ hP5 hD5
        rw [hr_52.2] at hP hD
        obtain rfl : r_52 = ((s_ic sg) t) := hr_52.1
        refine lv_ladd hx hb dL_isSound_29 ?_
        refine lv_lstore (lv' := [(7, .long ((zS8 (s_ic sg) t) + ((s_ic sg) t))), (9, .int (nI 1)), (5, .long (lN cn)), (0, .ref (a 0)), (1, .int (nI x)), (2, .ref cA), (3, .ref fA), (4, .ref uA), (10, .int (nI t))]) hx hb dL_isSound_30 hl (by decide) rfl (fun ls hl => ?_)
        refine lv_iinc (v := (nI (t + 1))) (lv' := [(10, .int (nI (t + 1))), (7, .long ((zS8 (s_ic sg) t) + ((s_ic sg) t))), (9, .int (nI 1)), (5, .long (lN cn)), (0, .ref (a 0)), (1, .int (nI x)), (2, .ref cA), (3, .ref fA), (4, .ref uA)]) hx hb dL_isSound_32 hl (k := 8) rfl (nI_add _ _) (by decide) rfl (fun ls hl => ?_)
        refine lv_goto (tgt := 15) hx hb dL_isSound_35 (by decide) ?_
        exact ih15 (t + 1) (by omega) (by omega) _ _ hP hD hS _ (lv_sub hl [2, 3, 4, 5, 6, 7, 8, 1, 0] rfl)
  exact hloop15 (4 - 0 + 1) 0 (by omega) (by omega) _ _ hP hD hS _ (lv_sub hl [1, 3, 4, 5, 6, 7, 8, 2, 0] rfl)
