/-! what asks answers, case by case -/
set_option maxHeartbeats 4000000 in
set_option maxRecDepth 100000 in
theorem k_e3_read (l : Launch) (hl9 : l.stackTraces = false) (G : va_G) (cy : Nat → ClassId) (wd : Nat → Nat) (fo : Option Nat) (N0 sz0 : Nat) (a : Nat → Nat) (sg : zHo) (k : Nat) (hkn : k < s_np sg) (hk8 : k < 8) (hpt : (s_pt sg) k = some ((s_pa sg k) 0)) (hT : (s_T sg) ≤ 900) (hsz : (q_sz (s_P sg k)) ≤ 1000000) (hmu : (q_mu (s_P sg k)) ≤ 10) (hsh : (q_sh (s_P sg k)) < (q_sz (s_P sg k))) (nb : Nat) (hnb : nb < (q_sz (s_P sg k))) (hla : (q_la (s_P sg k)) = (s_T sg)) (d9 : Int32) : Met l yL_asks wsL_asks ({ frames := 8, cells := 1, slots := 6, locals := 200 }) (zMH G cy wd fo N0 [.ref (a 0), .int (nI 0), .int (nI k), .int (nI nb), .int d9] sz0 (zHs cy a sg)) (va_Qi (fun r s9 => r = (-70008) ∧ s9 = sg) (fun (u : zHo) t9 => zB G cy (va_A (zHs cy a sg) sz0) (zHs cy a u) t9) (va_A (zHs cy a sg) sz0)) 1 6 (va_A (zHs cy a sg) sz0) := by
  refine z_ofMH (cc := cL_asks) (maxL := 6) (ret := (some .int)) (Qc := (fun A => va_Qi (fun r s9 => r = (-70008) ∧ s9 = sg) (fun (u : zHo) t9 => zB G cy A (zHs cy a u) t9) A)) (by decide) rfl (Nat.le_of_ble_eq_true rfl) ?_
  intro p e s m below meth c ls A hx hb hml hr hts hown hlk hP hK hD hA hS hl hsz0 hN hAN hWd hE htb
  have hown : s.vm.findClass RL = some m.cls := hown
  have hl : lv_has ls 6 [(0, .ref (a 0)), (1, .int (nI 0)), (2, .int (nI k)), (3, .int (nI nb)), (4, .int d9)] := hl
  refine lv_iload_n hx hb dL_asks_0 rfl (lv_at hl 1 rfl) ?_
  refine lv_if_ne hx hb dL_asks_1 (tgt := 13) (by decide) (fun q => absurd (by decide) q) (fun _ => ?_)
  refine lv_aload_n hx hb dL_asks_4 rfl (lv_at hl 0 rfl) ?_
  refine lv_iload_n hx hb dL_asks_5 rfl (lv_at hl 2 rfl) ?_
  refine lv_iload_n hx hb dL_asks_6 rfl (lv_at hl 3 rfl) ?_
  have hP5 : va_P G vwCl ((zHs cy a sg) ++ []) _ := z_P_perm (z_permT (ww := []) (wu := []) (wr := []) (tl := (zHs cy a sg)) (n := 0) [] [] rfl rfl rfl (by decide)) hP
  have hD5 : va_D A ((zHs cy a sg) ++ []) := z_D_perm (z_permT (ww := []) (wu := []) (wr := []) (tl := (zHs cy a sg)) (n := 0) [] [] rfl rfl rfl (by decide)) hD
  refine z_cxP (wc := (zHs cy a sg)) (wr := []) (vx_runV (As := [.int (nI k), .int (nI nb)]) (rest := []) ⟨hx, hb, hml, hown, hts⟩ (h_e3_read l hl9 G cy wd fo _ _ a sg k (hkn) (hk8) (hpt) (hT) (hsz) (hmu) (hsh) nb (hnb) (hla)) (cwV 2 hts gL_asks_X10_read rfl rfl rfl (by decide +kernel) ⟨Nat.le_of_ble_eq_true rfl, Nat.le_of_ble_eq_true rfl⟩) (z_pVHP (ci := 11) hK hP5 hD5 hS hN hAN hWd hE rfl rfl 0 rfl) rfl rfl hl.1 rfl (lv_room (Nat.le_of_ble_eq_true rfl)) dL_asks_7 ⟨Nat.le_of_ble_eq_true rfl, Nat.le_of_ble_eq_true rfl⟩) hP5 hD5 hS hA (fun ce q9 H locs hP hD hS hce hcv hcl => ?_)
  replace hP : va_P G vwCl (zHs cy a sg) H := z_P_perm (List.Perm.symm (z_permT (ww := []) (wu := []) (wr := []) (tl := (zHs cy a sg)) (n := 0) [] [] rfl rfl rfl (by decide))) hP
  replace hD : va_D A (zHs cy a sg) := z_D_perm (List.Perm.symm (z_permT (ww := []) (wu := []) (wr := []) (tl := (zHs cy a sg)) (n := 0) [] [] rfl rfl rfl (by decide))) hD
  clear hP5 hD5
  refine vx_catch (own := RL) (name := zE 3) (E := zE 3) hown [⟨0, 147, 148, 46⟩, ⟨0, 147, 153, 49⟩] ⟨0, 147, 158, 52⟩ [] (htb.trans rfl) (List.forall_mem_cons.mpr ⟨Or.inr ⟨by decide, zE 1, hts _ (List.mem_of_getElem? (i := 1) (by decide +kernel)), hE.2.2.2.2.2 3 1 (by decide)⟩, (List.forall_mem_cons.mpr ⟨Or.inr ⟨by decide, zE 2, hts _ (List.mem_of_getElem? (i := 2) (by decide +kernel)), hE.2.2.2.2.2 3 2 (by decide)⟩, (fun z hz => nomatch hz)⟩)⟩) rfl (by decide) (hts _ (List.mem_of_getElem? (i := 3) (by decide +kernel))) (va_Nw.use rfl (hE.2.2.2.2.1 3)) hce hcv hcl ?_
  refine lv_astore (lv' := [(5, .ref q9), (0, .ref (a 0)), (1, .int (nI 0)), (2, .int (nI k)), (3, .int (nI nb)), (4, .int d9)]) hx hb dL_asks_158 hl (by decide) rfl (fun ls hl => ?_)
  refine lv_ldc (v := (-70008)) hx hb hown (hts _ (List.mem_of_getElem? (i := 6) (by decide +kernel))) dL_asks_160 ?_
  exact z_rMi hx hb hr hlk dL_asks_162 sg (⟨rfl, rfl⟩) hP hD hK hS (Nat.le_of_ble_eq_true rfl) (Nat.le_of_ble_eq_true rfl)
set_option maxHeartbeats 4000000 in
set_option maxRecDepth 100000 in
theorem k_c2_read (l : Launch) (hl9 : l.stackTraces = false) (G : va_G) (cy : Nat → ClassId) (wd : Nat → Nat) (fo : Option Nat) (N0 sz0 : Nat) (a : Nat → Nat) (sg : zHo) (k : Nat) (hkn : k < s_np sg) (hk8 : k < 8) (hpt : (s_pt sg) k = some ((s_pa sg k) 0)) (hT : (s_T sg) ≤ 900) (hsz : (q_sz (s_P sg k)) ≤ 1000000) (hmu : (q_mu (s_P sg k)) ≤ 10) (hsh : (q_sh (s_P sg k)) < (q_sz (s_P sg k))) (nb : Nat) (hnb : nb < (q_sz (s_P sg k))) (hk : (q_kd (s_P sg k)) < 3) (hg : ∀ d, (s_g sg) d ≤ 30) (hla : (q_la (s_P sg k)) < (s_T sg)) (hdb : ¬ (z_use (q_sz (s_P sg k)) (q_mu (s_P sg k)) (q_sh (s_P sg k)) nb) ≤ 20 * z_sm (fun j8 => z_wt (q_kd (s_P sg k)) ((s_g sg) j8)) (q_la (s_P sg k)) ((s_T sg) - (q_la (s_P sg k)))) (d9 : Int32) : Met l yL_asks wsL_asks ({ frames := 8, cells := 1, slots := 6, locals := 200 }) (zMH G cy wd fo N0 [.ref (a 0), .int (nI 0), .int (nI k), .int (nI nb), .int d9] sz0 (zHs cy a sg)) (va_Qi (fun r s9 => r = (-1) ∧ s9 = (s_nc sg, s_np sg, s_T sg, s_pt sg, s_g sg, s_w9 sg, s_p9 sg, s_q9 sg, s_tf sg, s_tb sg, s_tr sg, s_ic sg, s_fl sg, s_ru sg, s_rs sg, s_w4 sg, s_p4 sg, s_q4 sg, s_cd sg, zUp (s_P sg) k (q_kd (s_P sg k), q_fi (s_P sg k), q_la (s_P sg k), q_tk (s_P sg k), q_pc (s_P sg k), nb, (nI (s_T sg)), q_sz (s_P sg k), q_mu (s_P sg k), q_sh (s_P sg k), q_vo (s_P sg k), q_us (s_P sg k), q_ts (s_P sg k), q_td (s_P sg k), q_md (s_P sg k), q_hg (s_P sg k), q_ow (s_P sg k), q_ce (s_P sg k), q_bi (s_P sg k)), s_pa sg)) (fun (u : zHo) t9 => zB G cy (va_A (zHs cy a sg) sz0) (zHs cy a u) t9) (va_A (zHs cy a sg) sz0)) 1 6 (va_A (zHs cy a sg) sz0) := by
  refine z_ofMH (cc := cL_asks) (maxL := 6) (ret := (some .int)) (Qc := (fun A => va_Qi (fun r s9 => r = (-1) ∧ s9 = (s_nc sg, s_np sg, s_T sg, s_pt sg, s_g sg, s_w9 sg, s_p9 sg, s_q9 sg, s_tf sg, s_tb sg, s_tr sg, s_ic sg, s_fl sg, s_ru sg, s_rs sg, s_w4 sg, s_p4 sg, s_q4 sg, s_cd sg, zUp (s_P sg) k (q_kd (s_P sg k), q_fi (s_P sg k), q_la (s_P sg k), q_tk (s_P sg k), q_pc (s_P sg k), nb, (nI (s_T sg)), q_sz (s_P sg k), q_mu (s_P sg k), q_sh (s_P sg k), q_vo (s_P sg k), q_us (s_P sg k), q_ts (s_P sg k), q_td (s_P sg k), q_md (s_P sg k), q_hg (s_P sg k), q_ow (s_P sg k), q_ce (s_P sg k), q_bi (s_P sg k)), s_pa sg)) (fun (u : zHo) t9 => zB G cy A (zHs cy a u) t9) A)) (by decide) rfl (Nat.le_of_ble_eq_true rfl) ?_
  intro p e s m below meth c ls A hx hb hml hr hts hown hlk hP hK hD hA hS hl hsz0 hN hAN hWd hE htb
  have hown : s.vm.findClass RL = some m.cls := hown
  have hl : lv_has ls 6 [(0, .ref (a 0)), (1, .int (nI 0)), (2, .int (nI k)), (3, .int (nI nb)), (4, .int d9)] := hl
  refine lv_iload_n hx hb dL_asks_0 rfl (lv_at hl 1 rfl) ?_
  refine lv_if_ne hx hb dL_asks_1 (tgt := 13) (by decide) (fun q => absurd (by decide) q) (fun _ => ?_)
  refine lv_aload_n hx hb dL_asks_4 rfl (lv_at hl 0 rfl) ?_
  refine lv_iload_n hx hb dL_asks_5 rfl (lv_at hl 2 rfl) ?_
  refine lv_iload_n hx hb dL_asks_6 rfl (lv_at hl 3 rfl) ?_
  have hP5 : va_P G vwCl ((zHs cy a sg) ++ []) _ := z_P_perm (z_permT (ww := []) (wu := []) (wr := []) (tl := (zHs cy a sg)) (n := 0) [] [] rfl rfl rfl (by decide)) hP
  have hD5 : va_D A ((zHs cy a sg) ++ []) := z_D_perm (z_permT (ww := []) (wu := []) (wr := []) (tl := (zHs cy a sg)) (n := 0) [] [] rfl rfl rfl (by decide)) hD
  refine z_ciP (wc := (zHs cy a sg)) (wr := []) (va_runV (As := [.int (nI k), .int (nI nb)]) (rest := []) ⟨hx, hb, hml, hown, hts⟩ (h_c2_read l hl9 G cy wd fo _ _ a sg k (hkn) (hk8) (hpt) (hT) (hsz) (hmu) (hsh) nb (hnb) (hk) (hg) (hla) (hdb)) (cwV 2 hts gL_asks_X10_read rfl rfl rfl (by decide +kernel) ⟨Nat.le_of_ble_eq_true rfl, Nat.le_of_ble_eq_true rfl⟩) (z_pVHP (ci := 11) hK hP5 hD5 hS hN hAN hWd hE rfl rfl 0 rfl) rfl rfl hl.1 rfl (lv_room (Nat.le_of_ble_eq_true rfl)) dL_asks_7 ⟨Nat.le_of_ble_eq_true rfl, Nat.le_of_ble_eq_true rfl⟩) hP5 hD5 hS hA (fun r_1 u H locs hr_1 hQ hD hS hz => ?_)
  obtain ⟨s9_2, rfl⟩ : ∃ z, z = u := ⟨_, rfl⟩
  try dsimp only at hr_1
  have hP : va_P G vwCl (zHs cy a s9_2) H := z_P_perm (List.Perm.symm (z_permT (ww := []) (wu := []) (wr := []) (tl := (zHs cy a s9_2)) (n := 0) [] [] rfl rfl rfl (by decide))) hQ
  have hD : va_D A (zHs cy a s9_2) := z_D_perm (List.Perm.symm (z_permT (ww := []) (wu := []) (wr := []) (tl := (zHs cy a s9_2)) (n := 0) [] [] rfl rfl rfl (by decide))) hD
  clear hQ hP5 hD5
  refine lv_goto (tgt := 147) hx hb dL_asks_10 (by decide) ?_
  exact z_rMi hx hb hr hlk dL_asks_147 s9_2 (hr_1) hP hD hK hS (Nat.le_of_ble_eq_true rfl) (Nat.le_of_ble_eq_true rfl)
set_option maxHeartbeats 4000000 in
set_option maxRecDepth 100000 in
theorem k_c_read (l : Launch) (hl9 : l.stackTraces = false) (G : va_G) (cy : Nat → ClassId) (wd : Nat → Nat) (fo : Option Nat) (N0 sz0 : Nat) (a : Nat → Nat) (sg : zHo) (k : Nat) (hkn : k < s_np sg) (hk8 : k < 8) (hpt : (s_pt sg) k = some ((s_pa sg k) 0)) (hT : (s_T sg) ≤ 900) (hsz : (q_sz (s_P sg k)) ≤ 1000000) (hmu : (q_mu (s_P sg k)) ≤ 10) (hsh : (q_sh (s_P sg k)) < (q_sz (s_P sg k))) (nb : Nat) (hnb : nb < (q_sz (s_P sg k))) (hk : (q_kd (s_P sg k)) < 3) (hg : ∀ d, (s_g sg) d ≤ 30) (hla : (q_la (s_P sg k)) < (s_T sg)) (hdb : (z_use (q_sz (s_P sg k)) (q_mu (s_P sg k)) (q_sh (s_P sg k)) nb) ≤ 20 * z_sm (fun j8 => z_wt (q_kd (s_P sg k)) ((s_g sg) j8)) (q_la (s_P sg k)) ((s_T sg) - (q_la (s_P sg k)))) (d9 : Int32) : Met l yL_asks wsL_asks ({ frames := 8, cells := 1, slots := 6, locals := 200 }) (zMH G cy wd fo N0 [.ref (a 0), .int (nI 0), .int (nI k), .int (nI nb), .int d9] sz0 (zHs cy a sg)) (va_Qi (fun r s9 => r = (nI (z_use (q_sz (s_P sg k)) (q_mu (s_P sg k)) (q_sh (s_P sg k)) nb)) ∧ ∃ (w2 : Nat → Nat) (p2 : Nat → Nat) (q2 : Nat → Nat), s9 = (s_nc sg, s_np sg, s_T sg, s_pt sg, s_g sg, w2, p2, q2, s_tf sg, s_tb sg, s_tr sg, s_ic sg, s_fl sg, s_ru sg, s_rs sg, s_w4 sg, s_p4 sg, s_q4 sg, s_cd sg, zUp (s_P sg) k (q_kd (s_P sg k), q_fi (s_P sg k), (s_T sg), (q_tk (s_P sg k)) + 1, z_pace (z_use (q_sz (s_P sg k)) (q_mu (s_P sg k)) (q_sh (s_P sg k)) nb) (fun j8 => z_wt (q_kd (s_P sg k)) ((s_g sg) j8)) (q_la (s_P sg k)) ((s_T sg) - (q_la (s_P sg k))), q_ds (s_P sg k), q_dd (s_P sg k), q_sz (s_P sg k), q_mu (s_P sg k), nb, (z_over (z_pt (z_use (q_sz (s_P sg k)) (q_mu (s_P sg k)) (q_sh (s_P sg k)) nb) (fun j8 => z_wt (q_kd (s_P sg k)) ((s_g sg) j8)) (q_la (s_P sg k)) ((s_T sg) - (q_la (s_P sg k)))) (q_vo (s_P sg k)) (q_la (s_P sg k)) ((s_T sg) - (q_la (s_P sg k)))), (va_up (q_us (s_P sg k)) (s_T sg) ((z_use (q_sz (s_P sg k)) (q_mu (s_P sg k)) (q_sh (s_P sg k)) nb) + 1)), q_ts (s_P sg k), q_td (s_P sg k), q_md (s_P sg k), q_hg (s_P sg k), q_ow (s_P sg k), q_ce (s_P sg k), q_bi (s_P sg k)), s_pa sg)) (fun (u : zHo) t9 => zB G cy (va_A (zHs cy a sg) sz0) (zHs cy a u) t9) (va_A (zHs cy a sg) sz0)) 1 6 (va_A (zHs cy a sg) sz0) := by
  refine z_ofMH (cc := cL_asks) (maxL := 6) (ret := (some .int)) (Qc := (fun A => va_Qi (fun r s9 => r = (nI (z_use (q_sz (s_P sg k)) (q_mu (s_P sg k)) (q_sh (s_P sg k)) nb)) ∧ ∃ (w2 : Nat → Nat) (p2 : Nat → Nat) (q2 : Nat → Nat), s9 = (s_nc sg, s_np sg, s_T sg, s_pt sg, s_g sg, w2, p2, q2, s_tf sg, s_tb sg, s_tr sg, s_ic sg, s_fl sg, s_ru sg, s_rs sg, s_w4 sg, s_p4 sg, s_q4 sg, s_cd sg, zUp (s_P sg) k (q_kd (s_P sg k), q_fi (s_P sg k), (s_T sg), (q_tk (s_P sg k)) + 1, z_pace (z_use (q_sz (s_P sg k)) (q_mu (s_P sg k)) (q_sh (s_P sg k)) nb) (fun j8 => z_wt (q_kd (s_P sg k)) ((s_g sg) j8)) (q_la (s_P sg k)) ((s_T sg) - (q_la (s_P sg k))), q_ds (s_P sg k), q_dd (s_P sg k), q_sz (s_P sg k), q_mu (s_P sg k), nb, (z_over (z_pt (z_use (q_sz (s_P sg k)) (q_mu (s_P sg k)) (q_sh (s_P sg k)) nb) (fun j8 => z_wt (q_kd (s_P sg k)) ((s_g sg) j8)) (q_la (s_P sg k)) ((s_T sg) - (q_la (s_P sg k)))) (q_vo (s_P sg k)) (q_la (s_P sg k)) ((s_T sg) - (q_la (s_P sg k)))), (va_up (q_us (s_P sg k)) (s_T sg) ((z_use (q_sz (s_P sg k)) (q_mu (s_P sg k)) (q_sh (s_P sg k)) nb) + 1)), q_ts (s_P sg k), q_td (s_P sg k), q_md (s_P sg k), q_hg (s_P sg k), q_ow (s_P sg k), q_ce (s_P sg k), q_bi (s_P sg k)), s_pa sg)) (fun (u : zHo) t9 => zB G cy A (zHs cy a u) t9) A)) (by decide) rfl (Nat.le_of_ble_eq_true rfl) ?_
  intro p e s m below meth c ls A hx hb hml hr hts hown hlk hP hK hD hA hS hl hsz0 hN hAN hWd hE htb
  have hown : s.vm.findClass RL = some m.cls := hown
  have hl : lv_has ls 6 [(0, .ref (a 0)), (1, .int (nI 0)), (2, .int (nI k)), (3, .int (nI nb)), (4, .int d9)] := hl
  refine lv_iload_n hx hb dL_asks_0 rfl (lv_at hl 1 rfl) ?_
  refine lv_if_ne hx hb dL_asks_1 (tgt := 13) (by decide) (fun q => absurd (by decide) q) (fun _ => ?_)
  refine lv_aload_n hx hb dL_asks_4 rfl (lv_at hl 0 rfl) ?_
  refine lv_iload_n hx hb dL_asks_5 rfl (lv_at hl 2 rfl) ?_
  refine lv_iload_n hx hb dL_asks_6 rfl (lv_at hl 3 rfl) ?_
  have hP5 : va_P G vwCl ((zHs cy a sg) ++ []) _ := z_P_perm (z_permT (ww := []) (wu := []) (wr := []) (tl := (zHs cy a sg)) (n := 0) [] [] rfl rfl rfl (by decide)) hP
  have hD5 : va_D A ((zHs cy a sg) ++ []) := z_D_perm (z_permT (ww := []) (wu := []) (wr := []) (tl := (zHs cy a sg)) (n := 0) [] [] rfl rfl rfl (by decide)) hD
  refine z_ciP (wc := (zHs cy a sg)) (wr := []) (va_runV (As := [.int (nI k), .int (nI nb)]) (rest := []) ⟨hx, hb, hml, hown, hts⟩ (h_c_read l hl9 G cy wd fo _ _ a sg k (hkn) (hk8) (hpt) (hT) (hsz) (hmu) (hsh) nb (hnb) (hk) (hg) (hla) (hdb)) (cwV 2 hts gL_asks_X10_read rfl rfl rfl (by decide +kernel) ⟨Nat.le_of_ble_eq_true rfl, Nat.le_of_ble_eq_true rfl⟩) (z_pVHP (ci := 11) hK hP5 hD5 hS hN hAN hWd hE rfl rfl 0 rfl) rfl rfl hl.1 rfl (lv_room (Nat.le_of_ble_eq_true rfl)) dL_asks_7 ⟨Nat.le_of_ble_eq_true rfl, Nat.le_of_ble_eq_true rfl⟩) hP5 hD5 hS hA (fun r_1 u H locs hr_1 hQ hD hS hz => ?_)
  obtain ⟨s9_2, rfl⟩ : ∃ z, z = u := ⟨_, rfl⟩
  try dsimp only at hr_1
  have hP : va_P G vwCl (zHs cy a s9_2) H := z_P_perm (List.Perm.symm (z_permT (ww := []) (wu := []) (wr := []) (tl := (zHs cy a s9_2)) (n := 0) [] [] rfl rfl rfl (by decide))) hQ
  have hD : va_D A (zHs cy a s9_2) := z_D_perm (List.Perm.symm (z_permT (ww := []) (wu := []) (wr := []) (tl := (zHs cy a s9_2)) (n := 0) [] [] rfl rfl rfl (by decide))) hD
  clear hQ hP5 hD5
  refine lv_goto (tgt := 147) hx hb dL_asks_10 (by decide) ?_
  exact z_rMi hx hb hr hlk dL_asks_147 s9_2 (hr_1) hP hD hK hS (Nat.le_of_ble_eq_true rfl) (Nat.le_of_ble_eq_true rfl)
set_option maxHeartbeats 4000000 in
set_option maxRecDepth 100000 in
theorem k_e3_confirm (l : Launch) (hl9 : l.stackTraces = false) (G : va_G) (cy : Nat → ClassId) (wd : Nat → Nat) (fo : Option Nat) (N0 sz0 : Nat) (a : Nat → Nat) (sg : zHo) (k : Nat) (hkn : k < s_np sg) (hk8 : k < 8) (hpt : (s_pt sg) k = some ((s_pa sg k) 0)) (hT : (s_T sg) ≤ 900) (hdd : (q_dd (s_P sg k)) ≤ nI (q_la (s_P sg k))) (b8 d9 : Int32) : Met l yL_asks wsL_asks ({ frames := 8, cells := 1, slots := 6, locals := 200 }) (zMH G cy wd fo N0 [.ref (a 0), .int (nI 1), .int (nI k), .int b8, .int d9] sz0 (zHs cy a sg)) (va_Qi (fun r s9 => r = (-70008) ∧ s9 = sg) (fun (u : zHo) t9 => zB G cy (va_A (zHs cy a sg) sz0) (zHs cy a u) t9) (va_A (zHs cy a sg) sz0)) 1 6 (va_A (zHs cy a sg) sz0) := by
  refine z_ofMH (cc := cL_asks) (maxL := 6) (ret := (some .int)) (Qc := (fun A => va_Qi (fun r s9 => r = (-70008) ∧ s9 = sg) (fun (u : zHo) t9 => zB G cy A (zHs cy a u) t9) A)) (by decide) rfl (Nat.le_of_ble_eq_true rfl) ?_
  intro p e s m below meth c ls A hx hb hml hr hts hown hlk hP hK hD hA hS hl hsz0 hN hAN hWd hE htb
  have hown : s.vm.findClass RL = some m.cls := hown
  have hl : lv_has ls 6 [(0, .ref (a 0)), (1, .int (nI 1)), (2, .int (nI k)), (3, .int b8), (4, .int d9)] := hl
  refine lv_iload_n hx hb dL_asks_0 rfl (lv_at hl 1 rfl) ?_
  refine lv_if_ne hx hb dL_asks_1 (tgt := 13) (by decide) (fun _ => ?_) (fun q => absurd q (by decide))
  refine lv_iload_n hx hb dL_asks_13 rfl (lv_at hl 1 rfl) ?_
  refine lv_iconst (v := nI 1) hx hb dL_asks_14 (by decide) ?_
  refine z_icmp_ne hx hb (by omega) (by omega) dL_asks_15 (tgt := 26) (by decide) (fun c_1 => ?_) (fun c_1 => ?_)
  · exfalso; omega
  · refine lv_aload_n hx hb dL_asks_18 rfl (lv_at hl 0 rfl) ?_
    refine lv_iload_n hx hb dL_asks_19 rfl (lv_at hl 2 rfl) ?_
    have hP5 : va_P G vwCl ((zHs cy a sg) ++ []) _ := z_P_perm (z_permT (ww := []) (wu := []) (wr := []) (tl := (zHs cy a sg)) (n := 0) [] [] rfl rfl rfl (by decide)) hP
    have hD5 : va_D A ((zHs cy a sg) ++ []) := z_D_perm (z_permT (ww := []) (wu := []) (wr := []) (tl := (zHs cy a sg)) (n := 0) [] [] rfl rfl rfl (by decide)) hD
    refine z_cxP (wc := (zHs cy a sg)) (wr := []) (vx_runV (As := [.int (nI k)]) (rest := []) ⟨hx, hb, hml, hown, hts⟩ (h_e3_confirm l hl9 G cy wd fo _ _ a sg k (hkn) (hk8) (hpt) (hT) (hdd)) (cwV 1 hts gL_asks_X10_confirm rfl rfl rfl (by decide +kernel) ⟨Nat.le_of_ble_eq_true rfl, Nat.le_of_ble_eq_true rfl⟩) (z_pVHP (ci := 11) hK hP5 hD5 hS hN hAN hWd hE rfl rfl 0 rfl) rfl rfl hl.1 rfl (lv_room (Nat.le_of_ble_eq_true rfl)) dL_asks_20 ⟨Nat.le_of_ble_eq_true rfl, Nat.le_of_ble_eq_true rfl⟩) hP5 hD5 hS hA (fun ce q9 H locs hP hD hS hce hcv hcl => ?_)
    replace hP : va_P G vwCl (zHs cy a sg) H := z_P_perm (List.Perm.symm (z_permT (ww := []) (wu := []) (wr := []) (tl := (zHs cy a sg)) (n := 0) [] [] rfl rfl rfl (by decide))) hP
    replace hD : va_D A (zHs cy a sg) := z_D_perm (List.Perm.symm (z_permT (ww := []) (wu := []) (wr := []) (tl := (zHs cy a sg)) (n := 0) [] [] rfl rfl rfl (by decide))) hD
    clear hP5 hD5
    refine vx_catch (own := RL) (name := zE 3) (E := zE 3) hown [⟨0, 147, 148, 46⟩, ⟨0, 147, 153, 49⟩] ⟨0, 147, 158, 52⟩ [] (htb.trans rfl) (List.forall_mem_cons.mpr ⟨Or.inr ⟨by decide, zE 1, hts _ (List.mem_of_getElem? (i := 1) (by decide +kernel)), hE.2.2.2.2.2 3 1 (by decide)⟩, (List.forall_mem_cons.mpr ⟨Or.inr ⟨by decide, zE 2, hts _ (List.mem_of_getElem? (i := 2) (by decide +kernel)), hE.2.2.2.2.2 3 2 (by decide)⟩, (fun z hz => nomatch hz)⟩)⟩) rfl (by decide) (hts _ (List.mem_of_getElem? (i := 3) (by decide +kernel))) (va_Nw.use rfl (hE.2.2.2.2.1 3)) hce hcv hcl ?_
    refine lv_astore (lv' := [(5, .ref q9), (0, .ref (a 0)), (1, .int (nI 1)), (2, .int (nI k)), (3, .int b8), (4, .int d9)]) hx hb dL_asks_158 hl (by decide) rfl (fun ls hl => ?_)
    refine lv_ldc (v := (-70008)) hx hb hown (hts _ (List.mem_of_getElem? (i := 6) (by decide +kernel))) dL_asks_160 ?_
    exact z_rMi hx hb hr hlk dL_asks_162 sg (⟨rfl, rfl⟩) hP hD hK hS (Nat.le_of_ble_eq_true rfl) (Nat.le_of_ble_eq_true rfl)
set_option maxHeartbeats 4000000 in
set_option maxRecDepth 100000 in
theorem k_c_confirm (l : Launch) (hl9 : l.stackTraces = false) (G : va_G) (cy : Nat → ClassId) (wd : Nat → Nat) (fo : Option Nat) (N0 sz0 : Nat) (a : Nat → Nat) (sg : zHo) (k : Nat) (hkn : k < s_np sg) (hk8 : k < 8) (hpt : (s_pt sg) k = some ((s_pa sg k) 0)) (hT : (s_T sg) ≤ 900) (hsz : (q_sz (s_P sg k)) ≤ 1000000) (hmu : (q_mu (s_P sg k)) ≤ 10) (hsh : (q_sh (s_P sg k)) < (q_sz (s_P sg k))) (hnb : (q_ds (s_P sg k)) < (q_sz (s_P sg k))) (hk : (q_kd (s_P sg k)) < 3) (hg : ∀ d, (s_g sg) d ≤ 30) (dq : Nat) (hdq : dq ≤ (s_T sg)) (hla : (q_la (s_P sg k)) < dq) (e_dq : q_dd (s_P sg k) = nI dq) (b8 d9 : Int32) : Met l yL_asks wsL_asks ({ frames := 8, cells := 1, slots := 6, locals := 200 }) (zMH G cy wd fo N0 [.ref (a 0), .int (nI 1), .int (nI k), .int b8, .int d9] sz0 (zHs cy a sg)) (va_Qi (fun r s9 => r = (nI (z_use (q_sz (s_P sg k)) (q_mu (s_P sg k)) (q_sh (s_P sg k)) (q_ds (s_P sg k)))) ∧ ∃ (w2 : Nat → Nat) (p2 : Nat → Nat) (q2 : Nat → Nat), s9 = (s_nc sg, s_np sg, s_T sg, s_pt sg, s_g sg, w2, p2, q2, s_tf sg, s_tb sg, s_tr sg, s_ic sg, s_fl sg, s_ru sg, s_rs sg, s_w4 sg, s_p4 sg, s_q4 sg, s_cd sg, zUp (s_P sg) k (q_kd (s_P sg k), q_fi (s_P sg k), dq, (q_tk (s_P sg k)) + 1, z_pace (z_use (q_sz (s_P sg k)) (q_mu (s_P sg k)) (q_sh (s_P sg k)) (q_ds (s_P sg k))) (fun j8 => z_wt (q_kd (s_P sg k)) ((s_g sg) j8)) (q_la (s_P sg k)) (dq - (q_la (s_P sg k))), q_ds (s_P sg k), (nI dq), q_sz (s_P sg k), q_mu (s_P sg k), (q_ds (s_P sg k)), (z_over (z_pt (z_use (q_sz (s_P sg k)) (q_mu (s_P sg k)) (q_sh (s_P sg k)) (q_ds (s_P sg k))) (fun j8 => z_wt (q_kd (s_P sg k)) ((s_g sg) j8)) (q_la (s_P sg k)) (dq - (q_la (s_P sg k)))) (q_vo (s_P sg k)) (q_la (s_P sg k)) (dq - (q_la (s_P sg k)))), (va_up (q_us (s_P sg k)) dq ((z_use (q_sz (s_P sg k)) (q_mu (s_P sg k)) (q_sh (s_P sg k)) (q_ds (s_P sg k))) + 1)), q_ts (s_P sg k), q_td (s_P sg k), q_md (s_P sg k), q_hg (s_P sg k), q_ow (s_P sg k), q_ce (s_P sg k), q_bi (s_P sg k)), s_pa sg)) (fun (u : zHo) t9 => zB G cy (va_A (zHs cy a sg) sz0) (zHs cy a u) t9) (va_A (zHs cy a sg) sz0)) 1 6 (va_A (zHs cy a sg) sz0) := by
  refine z_ofMH (cc := cL_asks) (maxL := 6) (ret := (some .int)) (Qc := (fun A => va_Qi (fun r s9 => r = (nI (z_use (q_sz (s_P sg k)) (q_mu (s_P sg k)) (q_sh (s_P sg k)) (q_ds (s_P sg k)))) ∧ ∃ (w2 : Nat → Nat) (p2 : Nat → Nat) (q2 : Nat → Nat), s9 = (s_nc sg, s_np sg, s_T sg, s_pt sg, s_g sg, w2, p2, q2, s_tf sg, s_tb sg, s_tr sg, s_ic sg, s_fl sg, s_ru sg, s_rs sg, s_w4 sg, s_p4 sg, s_q4 sg, s_cd sg, zUp (s_P sg) k (q_kd (s_P sg k), q_fi (s_P sg k), dq, (q_tk (s_P sg k)) + 1, z_pace (z_use (q_sz (s_P sg k)) (q_mu (s_P sg k)) (q_sh (s_P sg k)) (q_ds (s_P sg k))) (fun j8 => z_wt (q_kd (s_P sg k)) ((s_g sg) j8)) (q_la (s_P sg k)) (dq - (q_la (s_P sg k))), q_ds (s_P sg k), (nI dq), q_sz (s_P sg k), q_mu (s_P sg k), (q_ds (s_P sg k)), (z_over (z_pt (z_use (q_sz (s_P sg k)) (q_mu (s_P sg k)) (q_sh (s_P sg k)) (q_ds (s_P sg k))) (fun j8 => z_wt (q_kd (s_P sg k)) ((s_g sg) j8)) (q_la (s_P sg k)) (dq - (q_la (s_P sg k)))) (q_vo (s_P sg k)) (q_la (s_P sg k)) (dq - (q_la (s_P sg k)))), (va_up (q_us (s_P sg k)) dq ((z_use (q_sz (s_P sg k)) (q_mu (s_P sg k)) (q_sh (s_P sg k)) (q_ds (s_P sg k))) + 1)), q_ts (s_P sg k), q_td (s_P sg k), q_md (s_P sg k), q_hg (s_P sg k), q_ow (s_P sg k), q_ce (s_P sg k), q_bi (s_P sg k)), s_pa sg)) (fun (u : zHo) t9 => zB G cy A (zHs cy a u) t9) A)) (by decide) rfl (Nat.le_of_ble_eq_true rfl) ?_
  intro p e s m below meth c ls A hx hb hml hr hts hown hlk hP hK hD hA hS hl hsz0 hN hAN hWd hE htb
  have hown : s.vm.findClass RL = some m.cls := hown
  have hl : lv_has ls 6 [(0, .ref (a 0)), (1, .int (nI 1)), (2, .int (nI k)), (3, .int b8), (4, .int d9)] := hl
  refine lv_iload_n hx hb dL_asks_0 rfl (lv_at hl 1 rfl) ?_
  refine lv_if_ne hx hb dL_asks_1 (tgt := 13) (by decide) (fun _ => ?_) (fun q => absurd q (by decide))
  refine lv_iload_n hx hb dL_asks_13 rfl (lv_at hl 1 rfl) ?_
  refine lv_iconst (v := nI 1) hx hb dL_asks_14 (by decide) ?_
  refine z_icmp_ne hx hb (by omega) (by omega) dL_asks_15 (tgt := 26) (by decide) (fun c_1 => ?_) (fun c_1 => ?_)
  · exfalso; omega
  · refine lv_aload_n hx hb dL_asks_18 rfl (lv_at hl 0 rfl) ?_
    refine lv_iload_n hx hb dL_asks_19 rfl (lv_at hl 2 rfl) ?_
    have hP5 : va_P G vwCl ((zHs cy a sg) ++ []) _ := z_P_perm (z_permT (ww := []) (wu := []) (wr := []) (tl := (zHs cy a sg)) (n := 0) [] [] rfl rfl rfl (by decide)) hP
    have hD5 : va_D A ((zHs cy a sg) ++ []) := z_D_perm (z_permT (ww := []) (wu := []) (wr := []) (tl := (zHs cy a sg)) (n := 0) [] [] rfl rfl rfl (by decide)) hD
    refine z_ciP (wc := (zHs cy a sg)) (wr := []) (va_runV (As := [.int (nI k)]) (rest := []) ⟨hx, hb, hml, hown, hts⟩ (h_c_confirm l hl9 G cy wd fo _ _ a sg k (hkn) (hk8) (hpt) (hT) (hsz) (hmu) (hsh) (hnb) (hk) (hg) (dq) (hdq) (hla) (e_dq)) (cwV 1 hts gL_asks_X10_confirm rfl rfl rfl (by decide +kernel) ⟨Nat.le_of_ble_eq_true rfl, Nat.le_of_ble_eq_true rfl⟩) (z_pVHP (ci := 11) hK hP5 hD5 hS hN hAN hWd hE rfl rfl 0 rfl) rfl rfl hl.1 rfl (lv_room (Nat.le_of_ble_eq_true rfl)) dL_asks_20 ⟨Nat.le_of_ble_eq_true rfl, Nat.le_of_ble_eq_true rfl⟩) hP5 hD5 hS hA (fun r_2 u H locs hr_2 hQ hD hS hz => ?_)
    obtain ⟨s9_3, rfl⟩ : ∃ z, z = u := ⟨_, rfl⟩
    try dsimp only at hr_2
    have hP : va_P G vwCl (zHs cy a s9_3) H := z_P_perm (List.Perm.symm (z_permT (ww := []) (wu := []) (wr := []) (tl := (zHs cy a s9_3)) (n := 0) [] [] rfl rfl rfl (by decide))) hQ
    have hD : va_D A (zHs cy a s9_3) := z_D_perm (List.Perm.symm (z_permT (ww := []) (wu := []) (wr := []) (tl := (zHs cy a s9_3)) (n := 0) [] [] rfl rfl rfl (by decide))) hD
    clear hQ hP5 hD5
    refine lv_goto (tgt := 147) hx hb dL_asks_23 (by decide) ?_
    exact z_rMi hx hb hr hlk dL_asks_147 s9_3 (hr_2) hP hD hK hS (Nat.le_of_ble_eq_true rfl) (Nat.le_of_ble_eq_true rfl)
set_option maxHeartbeats 4000000 in
set_option maxRecDepth 100000 in
theorem k_e3_exchange (l : Launch) (hl9 : l.stackTraces = false) (G : va_G) (cy : Nat → ClassId) (wd : Nat → Nat) (fo : Option Nat) (N0 sz0 : Nat) (a : Nat → Nat) (sg : zHo) (k : Nat) (hkn : k < s_np sg) (hk8 : k < 8) (hpt : (s_pt sg) k = some ((s_pa sg k) 0)) (hT : (s_T sg) ≤ 900) (hsz : (q_sz (s_P sg k)) ≤ 1000000) (hmu : (q_mu (s_P sg k)) ≤ 10) (hsh : (q_sh (s_P sg k)) < (q_sz (s_P sg k))) (nb : Nat) (hnb : nb < (q_sz (s_P sg k)))  (hla : (q_la (s_P sg k)) = (s_T sg)) (d8 : Nat) (hd8 : d8 < 40) : Met l yL_asks wsL_asks ({ frames := 8, cells := 1, slots := 6, locals := 200 }) (zMH G cy wd fo N0 [.ref (a 0), .int (nI 2), .int (nI k), .int (nI nb), .int (nI d8)] sz0 (zHs cy a sg)) (va_Qi (fun r s9 => r = (-70008) ∧ s9 = sg) (fun (u : zHo) t9 => zB G cy (va_A (zHs cy a sg) sz0) (zHs cy a u) t9) (va_A (zHs cy a sg) sz0)) 1 6 (va_A (zHs cy a sg) sz0) := by
  refine z_ofMH (cc := cL_asks) (maxL := 6) (ret := (some .int)) (Qc := (fun A => va_Qi (fun r s9 => r = (-70008) ∧ s9 = sg) (fun (u : zHo) t9 => zB G cy A (zHs cy a u) t9) A)) (by decide) rfl (Nat.le_of_ble_eq_true rfl) ?_
  intro p e s m below meth c ls A hx hb hml hr hts hown hlk hP hK hD hA hS hl hsz0 hN hAN hWd hE htb
  have hown : s.vm.findClass RL = some m.cls := hown
  have hl : lv_has ls 6 [(0, .ref (a 0)), (1, .int (nI 2)), (2, .int (nI k)), (3, .int (nI nb)), (4, .int (nI d8))] := hl
  refine lv_iload_n hx hb dL_asks_0 rfl (lv_at hl 1 rfl) ?_
  refine lv_if_ne hx hb dL_asks_1 (tgt := 13) (by decide) (fun _ => ?_) (fun q => absurd q (by decide))
  refine lv_iload_n hx hb dL_asks_13 rfl (lv_at hl 1 rfl) ?_
  refine lv_iconst (v := nI 1) hx hb dL_asks_14 (by decide) ?_
  refine z_icmp_ne hx hb (by omega) (by omega) dL_asks_15 (tgt := 26) (by decide) (fun c_1 => ?_) (fun c_1 => ?_)
  · refine lv_iload_n hx hb dL_asks_26 rfl (lv_at hl 1 rfl) ?_
    refine lv_iconst (v := nI 2) hx hb dL_asks_27 (by decide) ?_
    refine z_icmp_ne hx hb (by omega) (by omega) dL_asks_28 (tgt := 55) (by decide) (fun c_2 => ?_) (fun c_2 => ?_)
    · exfalso; omega
    · refine lv_aload_n hx hb dL_asks_31 rfl (lv_at hl 0 rfl) ?_
      refine lv_iload_n hx hb dL_asks_32 rfl (lv_at hl 2 rfl) ?_
      refine lv_iload_n hx hb dL_asks_33 rfl (lv_at hl 3 rfl) ?_
      refine lv_iconst (v := nI 3) hx hb dL_asks_34 (by decide) ?_
      refine lv_iload hx hb dL_asks_35 (lv_at hl 4 rfl) ?_
      refine lv_iconst (v := nI 4) hx hb dL_asks_37 (by decide) ?_
      refine z_irem hx hb (by omega) (by omega) (by omega) dL_asks_38 ?_
      refine z_iadd hx hb dL_asks_39 ?_
      refine lv_iconst (v := nI 1) hx hb dL_asks_40 (by decide) ?_
      refine lv_iload hx hb dL_asks_41 (lv_at hl 4 rfl) ?_
      refine lv_iconst (v := nI 4) hx hb dL_asks_43 (by decide) ?_
      refine z_idiv hx hb (by omega) (by omega) (by omega) dL_asks_44 ?_
      refine lv_bipush (v := nI 10) hx hb dL_asks_45 (by decide) ?_
      refine z_irem hx hb (by omega) (by omega) (by omega) dL_asks_47 ?_
      refine z_iadd hx hb dL_asks_48 ?_
      have hP5 : va_P G vwCl ((zHs cy a sg) ++ []) _ := z_P_perm (z_permT (ww := []) (wu := []) (wr := []) (tl := (zHs cy a sg)) (n := 0) [] [] rfl rfl rfl (by decide)) hP
      have hD5 : va_D A ((zHs cy a sg) ++ []) := z_D_perm (z_permT (ww := []) (wu := []) (wr := []) (tl := (zHs cy a sg)) (n := 0) [] [] rfl rfl rfl (by decide)) hD
      refine z_cxP (wc := (zHs cy a sg)) (wr := []) (vx_runV (As := [.int (nI k), .int (nI nb), .int (nI (3 + (d8 % 4))), .int (nI (1 + ((d8 / 4) % 10)))]) (rest := []) ⟨hx, hb, hml, hown, hts⟩ (h_e3_exchange l hl9 G cy wd fo _ _ a sg k (hkn) (hk8) (hpt) (hT) (hsz) (hmu) (hsh) nb (hnb) (3 + (d8 % 4)) (1 + ((d8 / 4) % 10)) (by omega) (by omega) (by omega) (by omega) (hla)) (cwV 4 hts gL_asks_X10_exchange rfl rfl rfl (by decide +kernel) ⟨Nat.le_of_ble_eq_true rfl, Nat.le_of_ble_eq_true rfl⟩) (z_pVHP (ci := 11) hK hP5 hD5 hS hN hAN hWd hE rfl rfl 0 rfl) rfl rfl hl.1 rfl (lv_room (Nat.le_of_ble_eq_true rfl)) dL_asks_49 ⟨Nat.le_of_ble_eq_true rfl, Nat.le_of_ble_eq_true rfl⟩) hP5 hD5 hS hA (fun ce q9 H locs hP hD hS hce hcv hcl => ?_)
      replace hP : va_P G vwCl (zHs cy a sg) H := z_P_perm (List.Perm.symm (z_permT (ww := []) (wu := []) (wr := []) (tl := (zHs cy a sg)) (n := 0) [] [] rfl rfl rfl (by decide))) hP
      replace hD : va_D A (zHs cy a sg) := z_D_perm (List.Perm.symm (z_permT (ww := []) (wu := []) (wr := []) (tl := (zHs cy a sg)) (n := 0) [] [] rfl rfl rfl (by decide))) hD
      clear hP5 hD5
      refine vx_catch (own := RL) (name := zE 3) (E := zE 3) hown [⟨0, 147, 148, 46⟩, ⟨0, 147, 153, 49⟩] ⟨0, 147, 158, 52⟩ [] (htb.trans rfl) (List.forall_mem_cons.mpr ⟨Or.inr ⟨by decide, zE 1, hts _ (List.mem_of_getElem? (i := 1) (by decide +kernel)), hE.2.2.2.2.2 3 1 (by decide)⟩, (List.forall_mem_cons.mpr ⟨Or.inr ⟨by decide, zE 2, hts _ (List.mem_of_getElem? (i := 2) (by decide +kernel)), hE.2.2.2.2.2 3 2 (by decide)⟩, (fun z hz => nomatch hz)⟩)⟩) rfl (by decide) (hts _ (List.mem_of_getElem? (i := 3) (by decide +kernel))) (va_Nw.use rfl (hE.2.2.2.2.1 3)) hce hcv hcl ?_
      refine lv_astore (lv' := [(5, .ref q9), (0, .ref (a 0)), (1, .int (nI 2)), (2, .int (nI k)), (3, .int (nI nb)), (4, .int (nI d8))]) hx hb dL_asks_158 hl (by decide) rfl (fun ls hl => ?_)
      refine lv_ldc (v := (-70008)) hx hb hown (hts _ (List.mem_of_getElem? (i := 6) (by decide +kernel))) dL_asks_160 ?_
      exact z_rMi hx hb hr hlk dL_asks_162 sg (⟨rfl, rfl⟩) hP hD hK hS (Nat.le_of_ble_eq_true rfl) (Nat.le_of_ble_eq_true rfl)
  · exfalso; omega
set_option maxHeartbeats 4000000 in
set_option maxRecDepth 100000 in
theorem k_c_exchange (l : Launch) (hl9 : l.stackTraces = false) (G : va_G) (cy : Nat → ClassId) (wd : Nat → Nat) (fo : Option Nat) (N0 sz0 : Nat) (a : Nat → Nat) (sg : zHo) (k : Nat) (hkn : k < s_np sg) (hk8 : k < 8) (hpt : (s_pt sg) k = some ((s_pa sg k) 0)) (hT : (s_T sg) ≤ 900) (hsz : (q_sz (s_P sg k)) ≤ 1000000) (hmu : (q_mu (s_P sg k)) ≤ 10) (hsh : (q_sh (s_P sg k)) < (q_sz (s_P sg k))) (nb : Nat) (hnb : nb < (q_sz (s_P sg k))) (hk : (q_kd (s_P sg k)) < 3) (hg : ∀ d, (s_g sg) d ≤ 30) (hla : (q_la (s_P sg k)) < (s_T sg))  (d8 : Nat) (hd8 : d8 < 40) : Met l yL_asks wsL_asks ({ frames := 8, cells := 1, slots := 6, locals := 200 }) (zMH G cy wd fo N0 [.ref (a 0), .int (nI 2), .int (nI k), .int (nI nb), .int (nI d8)] sz0 (zHs cy a sg)) (va_Qi (fun r s9 => r = (nI (z_use (q_sz (s_P sg k)) (q_mu (s_P sg k)) (q_sh (s_P sg k)) nb)) ∧ ∃ (q2m : Nat) (w2 : Nat → Nat) (p2 : Nat → Nat) (q2 : Nat → Nat), s9 = (s_nc sg, s_np sg, s_T sg, s_pt sg, s_g sg, w2, p2, q2, s_tf sg, s_tb sg, s_tr sg, s_ic sg, s_fl sg, s_ru sg, s_rs sg, s_w4 sg, s_p4 sg, s_q4 sg, s_cd sg, zUp (s_P sg) k (q_kd (s_P sg k), q_fi (s_P sg k), (s_T sg), (q_tk (s_P sg k)) + 1, z_pace (z_use (q_sz (s_P sg k)) (q_mu (s_P sg k)) (q_sh (s_P sg k)) nb) (fun j8 => z_wt (q_kd (s_P sg k)) ((s_g sg) j8)) (q_la (s_P sg k)) ((s_T sg) - (q_la (s_P sg k))), q_ds (s_P sg k), q_dd (s_P sg k), 10 ^ (3 + d8 % 4), (1 + d8 / 4 % 10), 0, (z_over (z_pt (z_use (q_sz (s_P sg k)) (q_mu (s_P sg k)) (q_sh (s_P sg k)) nb) (fun j8 => z_wt (q_kd (s_P sg k)) ((s_g sg) j8)) (q_la (s_P sg k)) ((s_T sg) - (q_la (s_P sg k)))) (q_vo (s_P sg k)) (q_la (s_P sg k)) ((s_T sg) - (q_la (s_P sg k)))), (va_up (q_us (s_P sg k)) (s_T sg) ((z_use (q_sz (s_P sg k)) (q_mu (s_P sg k)) (q_sh (s_P sg k)) nb) + 1)), q_ts (s_P sg k), q_td (s_P sg k), q_md (s_P sg k), q_hg (s_P sg k), q_ow (s_P sg k), q_ce (s_P sg k), q_bi (s_P sg k)), zUp (s_pa sg) k (fun i9 => if i9 = 2 then q2m else s_pa sg k i9))) (fun (u : zHo) t9 => zB G cy (va_A (zHs cy a sg) sz0) (zHs cy a u) t9) (va_A (zHs cy a sg) sz0)) 1 6 (va_A (zHs cy a sg) sz0) := by
  refine z_ofMH (cc := cL_asks) (maxL := 6) (ret := (some .int)) (Qc := (fun A => va_Qi (fun r s9 => r = (nI (z_use (q_sz (s_P sg k)) (q_mu (s_P sg k)) (q_sh (s_P sg k)) nb)) ∧ ∃ (q2m : Nat) (w2 : Nat → Nat) (p2 : Nat → Nat) (q2 : Nat → Nat), s9 = (s_nc sg, s_np sg, s_T sg, s_pt sg, s_g sg, w2, p2, q2, s_tf sg, s_tb sg, s_tr sg, s_ic sg, s_fl sg, s_ru sg, s_rs sg, s_w4 sg, s_p4 sg, s_q4 sg, s_cd sg, zUp (s_P sg) k (q_kd (s_P sg k), q_fi (s_P sg k), (s_T sg), (q_tk (s_P sg k)) + 1, z_pace (z_use (q_sz (s_P sg k)) (q_mu (s_P sg k)) (q_sh (s_P sg k)) nb) (fun j8 => z_wt (q_kd (s_P sg k)) ((s_g sg) j8)) (q_la (s_P sg k)) ((s_T sg) - (q_la (s_P sg k))), q_ds (s_P sg k), q_dd (s_P sg k), 10 ^ (3 + d8 % 4), (1 + d8 / 4 % 10), 0, (z_over (z_pt (z_use (q_sz (s_P sg k)) (q_mu (s_P sg k)) (q_sh (s_P sg k)) nb) (fun j8 => z_wt (q_kd (s_P sg k)) ((s_g sg) j8)) (q_la (s_P sg k)) ((s_T sg) - (q_la (s_P sg k)))) (q_vo (s_P sg k)) (q_la (s_P sg k)) ((s_T sg) - (q_la (s_P sg k)))), (va_up (q_us (s_P sg k)) (s_T sg) ((z_use (q_sz (s_P sg k)) (q_mu (s_P sg k)) (q_sh (s_P sg k)) nb) + 1)), q_ts (s_P sg k), q_td (s_P sg k), q_md (s_P sg k), q_hg (s_P sg k), q_ow (s_P sg k), q_ce (s_P sg k), q_bi (s_P sg k)), zUp (s_pa sg) k (fun i9 => if i9 = 2 then q2m else s_pa sg k i9))) (fun (u : zHo) t9 => zB G cy A (zHs cy a u) t9) A)) (by decide) rfl (Nat.le_of_ble_eq_true rfl) ?_
  intro p e s m below meth c ls A hx hb hml hr hts hown hlk hP hK hD hA hS hl hsz0 hN hAN hWd hE htb
  have hown : s.vm.findClass RL = some m.cls := hown
  have hl : lv_has ls 6 [(0, .ref (a 0)), (1, .int (nI 2)), (2, .int (nI k)), (3, .int (nI nb)), (4, .int (nI d8))] := hl
  refine lv_iload_n hx hb dL_asks_0 rfl (lv_at hl 1 rfl) ?_
  refine lv_if_ne hx hb dL_asks_1 (tgt := 13) (by decide) (fun _ => ?_) (fun q => absurd q (by decide))
  refine lv_iload_n hx hb dL_asks_13 rfl (lv_at hl 1 rfl) ?_
  refine lv_iconst (v := nI 1) hx hb dL_asks_14 (by decide) ?_
  refine z_icmp_ne hx hb (by omega) (by omega) dL_asks_15 (tgt := 26) (by decide) (fun c_1 => ?_) (fun c_1 => ?_)
  · refine lv_iload_n hx hb dL_asks_26 rfl (lv_at hl 1 rfl) ?_
    refine lv_iconst (v := nI 2) hx hb dL_asks_27 (by decide) ?_
    refine z_icmp_ne hx hb (by omega) (by omega) dL_asks_28 (tgt := 55) (by decide) (fun c_2 => ?_) (fun c_2 => ?_)
    · exfalso; omega
    · refine lv_aload_n hx hb dL_asks_31 rfl (lv_at hl 0 rfl) ?_
      refine lv_iload_n hx hb dL_asks_32 rfl (lv_at hl 2 rfl) ?_
      refine lv_iload_n hx hb dL_asks_33 rfl (lv_at hl 3 rfl) ?_
      refine lv_iconst (v := nI 3) hx hb dL_asks_34 (by decide) ?_
      refine lv_iload hx hb dL_asks_35 (lv_at hl 4 rfl) ?_
      refine lv_iconst (v := nI 4) hx hb dL_asks_37 (by decide) ?_
      refine z_irem hx hb (by omega) (by omega) (by omega) dL_asks_38 ?_
      refine z_iadd hx hb dL_asks_39 ?_
      refine lv_iconst (v := nI 1) hx hb dL_asks_40 (by decide) ?_
      refine lv_iload hx hb dL_asks_41 (lv_at hl 4 rfl) ?_
      refine lv_iconst (v := nI 4) hx hb dL_asks_43 (by decide) ?_
      refine z_idiv hx hb (by omega) (by omega) (by omega) dL_asks_44 ?_
      refine lv_bipush (v := nI 10) hx hb dL_asks_45 (by decide) ?_
      refine z_irem hx hb (by omega) (by omega) (by omega) dL_asks_47 ?_
      refine z_iadd hx hb dL_asks_48 ?_
      have hP5 : va_P G vwCl ((zHs cy a sg) ++ []) _ := z_P_perm (z_permT (ww := []) (wu := []) (wr := []) (tl := (zHs cy a sg)) (n := 0) [] [] rfl rfl rfl (by decide)) hP
      have hD5 : va_D A ((zHs cy a sg) ++ []) := z_D_perm (z_permT (ww := []) (wu := []) (wr := []) (tl := (zHs cy a sg)) (n := 0) [] [] rfl rfl rfl (by decide)) hD
      refine z_ciP (wc := (zHs cy a sg)) (wr := []) (va_runV (As := [.int (nI k), .int (nI nb), .int (nI (3 + (d8 % 4))), .int (nI (1 + ((d8 / 4) % 10)))]) (rest := []) ⟨hx, hb, hml, hown, hts⟩ (h_c_exchange l hl9 G cy wd fo _ _ a sg k (hkn) (hk8) (hpt) (hT) (hsz) (hmu) (hsh) nb (hnb) (hk) (hg) (hla) (3 + (d8 % 4)) (1 + ((d8 / 4) % 10)) (by omega) (by omega) (by omega) (by omega)) (cwV 4 hts gL_asks_X10_exchange rfl rfl rfl (by decide +kernel) ⟨Nat.le_of_ble_eq_true rfl, Nat.le_of_ble_eq_true rfl⟩) (z_pVHP (ci := 11) hK hP5 hD5 hS hN hAN hWd hE rfl rfl 0 rfl) rfl rfl hl.1 rfl (lv_room (Nat.le_of_ble_eq_true rfl)) dL_asks_49 ⟨Nat.le_of_ble_eq_true rfl, Nat.le_of_ble_eq_true rfl⟩) hP5 hD5 hS hA (fun r_3 u H locs hr_3 hQ hD hS hz => ?_)
      obtain ⟨s9_4, rfl⟩ : ∃ z, z = u := ⟨_, rfl⟩
      try dsimp only at hr_3
      have hP : va_P G vwCl (zHs cy a s9_4) H := z_P_perm (List.Perm.symm (z_permT (ww := []) (wu := []) (wr := []) (tl := (zHs cy a s9_4)) (n := 0) [] [] rfl rfl rfl (by decide))) hQ
      have hD : va_D A (zHs cy a s9_4) := z_D_perm (List.Perm.symm (z_permT (ww := []) (wu := []) (wr := []) (tl := (zHs cy a s9_4)) (n := 0) [] [] rfl rfl rfl (by decide))) hD
      clear hQ hP5 hD5
      refine lv_goto (tgt := 147) hx hb dL_asks_52 (by decide) ?_
      exact z_rMi hx hb hr hlk dL_asks_147 s9_4 (hr_3) hP hD hK hS (Nat.le_of_ble_eq_true rfl) (Nat.le_of_ble_eq_true rfl)
  · exfalso; omega
set_option maxHeartbeats 4000000 in
set_option maxRecDepth 100000 in
theorem k_e3_object (l : Launch) (hl9 : l.stackTraces = false) (G : va_G) (cy : Nat → ClassId) (wd : Nat → Nat) (fo : Option Nat) (N0 sz0 : Nat) (a : Nat → Nat) (sg : zHo) (k : Nat) (hkn : k < s_np sg) (hk8 : k < 8) (hpt : (s_pt sg) k = some ((s_pa sg k) 0)) (hT : (s_T sg) ≤ 900) (hc9 : (q_td (s_P sg k)).toInt = -1) (b8 d9 : Int32) : Met l yL_asks wsL_asks ({ frames := 8, cells := 1, slots := 6, locals := 200 }) (zMH G cy wd fo N0 [.ref (a 0), .int (nI 4), .int (nI k), .int b8, .int d9] sz0 (zHs cy a sg)) (va_Qi (fun r s9 => r = (-70008) ∧ s9 = sg) (fun (u : zHo) t9 => zB G cy (va_A (zHs cy a sg) sz0) (zHs cy a u) t9) (va_A (zHs cy a sg) sz0)) 1 6 (va_A (zHs cy a sg) sz0) := by
  refine z_ofMH (cc := cL_asks) (maxL := 6) (ret := (some .int)) (Qc := (fun A => va_Qi (fun r s9 => r = (-70008) ∧ s9 = sg) (fun (u : zHo) t9 => zB G cy A (zHs cy a u) t9) A)) (by decide) rfl (Nat.le_of_ble_eq_true rfl) ?_
  intro p e s m below meth c ls A hx hb hml hr hts hown hlk hP hK hD hA hS hl hsz0 hN hAN hWd hE htb
  have hown : s.vm.findClass RL = some m.cls := hown
  have hl : lv_has ls 6 [(0, .ref (a 0)), (1, .int (nI 4)), (2, .int (nI k)), (3, .int b8), (4, .int d9)] := hl
  refine lv_iload_n hx hb dL_asks_0 rfl (lv_at hl 1 rfl) ?_
  refine lv_if_ne hx hb dL_asks_1 (tgt := 13) (by decide) (fun _ => ?_) (fun q => absurd q (by decide))
  refine lv_iload_n hx hb dL_asks_13 rfl (lv_at hl 1 rfl) ?_
  refine lv_iconst (v := nI 1) hx hb dL_asks_14 (by decide) ?_
  refine z_icmp_ne hx hb (by omega) (by omega) dL_asks_15 (tgt := 26) (by decide) (fun c_1 => ?_) (fun c_1 => ?_)
  · refine lv_iload_n hx hb dL_asks_26 rfl (lv_at hl 1 rfl) ?_
    refine lv_iconst (v := nI 2) hx hb dL_asks_27 (by decide) ?_
    refine z_icmp_ne hx hb (by omega) (by omega) dL_asks_28 (tgt := 55) (by decide) (fun c_2 => ?_) (fun c_2 => ?_)
    · refine lv_iload_n hx hb dL_asks_55 rfl (lv_at hl 1 rfl) ?_
      refine lv_iconst (v := nI 3) hx hb dL_asks_56 (by decide) ?_
      refine z_icmp_ne hx hb (by omega) (by omega) dL_asks_57 (tgt := 71) (by decide) (fun c_3 => ?_) (fun c_3 => ?_)
      · refine lv_iload_n hx hb dL_asks_71 rfl (lv_at hl 1 rfl) ?_
        refine lv_iconst (v := nI 4) hx hb dL_asks_72 (by decide) ?_
        refine z_icmp_ne hx hb (by omega) (by omega) dL_asks_73 (tgt := 84) (by decide) (fun c_4 => ?_) (fun c_4 => ?_)
        · exfalso; omega
        · refine lv_aload_n hx hb dL_asks_76 rfl (lv_at hl 0 rfl) ?_
          refine lv_iload_n hx hb dL_asks_77 rfl (lv_at hl 2 rfl) ?_
          have hP5 : va_P G vwCl ((zHs cy a sg) ++ []) _ := z_P_perm (z_permT (ww := []) (wu := []) (wr := []) (tl := (zHs cy a sg)) (n := 0) [] [] rfl rfl rfl (by decide)) hP
          have hD5 : va_D A ((zHs cy a sg) ++ []) := z_D_perm (z_permT (ww := []) (wu := []) (wr := []) (tl := (zHs cy a sg)) (n := 0) [] [] rfl rfl rfl (by decide)) hD
          refine z_cxP (wc := (zHs cy a sg)) (wr := []) (vx_runV (As := [.int (nI k)]) (rest := []) ⟨hx, hb, hml, hown, hts⟩ (h_e3_object l hl9 G cy wd fo _ _ a sg k (hkn) (hk8) (hpt) (hT) (hc9)) (cwV 1 hts gL_asks_X10_object rfl rfl rfl (by decide +kernel) ⟨Nat.le_of_ble_eq_true rfl, Nat.le_of_ble_eq_true rfl⟩) (z_pVHP (ci := 11) hK hP5 hD5 hS hN hAN hWd hE rfl rfl 0 rfl) rfl rfl hl.1 rfl (lv_room (Nat.le_of_ble_eq_true rfl)) dL_asks_78 ⟨Nat.le_of_ble_eq_true rfl, Nat.le_of_ble_eq_true rfl⟩) hP5 hD5 hS hA (fun ce q9 H locs hP hD hS hce hcv hcl => ?_)
          replace hP : va_P G vwCl (zHs cy a sg) H := z_P_perm (List.Perm.symm (z_permT (ww := []) (wu := []) (wr := []) (tl := (zHs cy a sg)) (n := 0) [] [] rfl rfl rfl (by decide))) hP
          replace hD : va_D A (zHs cy a sg) := z_D_perm (List.Perm.symm (z_permT (ww := []) (wu := []) (wr := []) (tl := (zHs cy a sg)) (n := 0) [] [] rfl rfl rfl (by decide))) hD
          clear hP5 hD5
          refine vx_catch (own := RL) (name := zE 3) (E := zE 3) hown [⟨0, 147, 148, 46⟩, ⟨0, 147, 153, 49⟩] ⟨0, 147, 158, 52⟩ [] (htb.trans rfl) (List.forall_mem_cons.mpr ⟨Or.inr ⟨by decide, zE 1, hts _ (List.mem_of_getElem? (i := 1) (by decide +kernel)), hE.2.2.2.2.2 3 1 (by decide)⟩, (List.forall_mem_cons.mpr ⟨Or.inr ⟨by decide, zE 2, hts _ (List.mem_of_getElem? (i := 2) (by decide +kernel)), hE.2.2.2.2.2 3 2 (by decide)⟩, (fun z hz => nomatch hz)⟩)⟩) rfl (by decide) (hts _ (List.mem_of_getElem? (i := 3) (by decide +kernel))) (va_Nw.use rfl (hE.2.2.2.2.1 3)) hce hcv hcl ?_
          refine lv_astore (lv' := [(5, .ref q9), (0, .ref (a 0)), (1, .int (nI 4)), (2, .int (nI k)), (3, .int b8), (4, .int d9)]) hx hb dL_asks_158 hl (by decide) rfl (fun ls hl => ?_)
          refine lv_ldc (v := (-70008)) hx hb hown (hts _ (List.mem_of_getElem? (i := 6) (by decide +kernel))) dL_asks_160 ?_
          exact z_rMi hx hb hr hlk dL_asks_162 sg (⟨rfl, rfl⟩) hP hD hK hS (Nat.le_of_ble_eq_true rfl) (Nat.le_of_ble_eq_true rfl)
      · exfalso; omega
    · exfalso; omega
  · exfalso; omega
set_option maxHeartbeats 4000000 in
set_option maxRecDepth 100000 in
theorem k_c_object (l : Launch) (hl9 : l.stackTraces = false) (G : va_G) (cy : Nat → ClassId) (wd : Nat → Nat) (fo : Option Nat) (N0 sz0 : Nat) (a : Nat → Nat) (sg : zHo) (k : Nat) (hkn : k < s_np sg) (hk8 : k < 8) (hpt : (s_pt sg) k = some ((s_pa sg k) 0)) (hT : (s_T sg) ≤ 900) (hc9 : ¬ (q_td (s_P sg k)).toInt = -1) (b8 d9 : Int32) : Met l yL_asks wsL_asks ({ frames := 8, cells := 1, slots := 6, locals := 200 }) (zMH G cy wd fo N0 [.ref (a 0), .int (nI 4), .int (nI k), .int b8, .int d9] sz0 (zHs cy a sg)) (va_Qi (fun r s9 => r = (q_td (s_P sg k)) ∧ s9 = (s_nc sg, s_np sg, s_T sg, s_pt sg, s_g sg, s_w9 sg, s_p9 sg, s_q9 sg, s_tf sg, s_tb sg, s_tr sg, s_ic sg, s_fl sg, s_ru sg, s_rs sg, s_w4 sg, s_p4 sg, s_q4 sg, s_cd sg, zUp (s_P sg) k (q_kd (s_P sg k), q_fi (s_P sg k), q_la (s_P sg k), q_tk (s_P sg k), q_pc (s_P sg k), q_ds (s_P sg k), q_dd (s_P sg k), q_sz (s_P sg k), q_mu (s_P sg k), q_sh (s_P sg k), q_vo (s_P sg k), q_us (s_P sg k), q_ts (s_P sg k), (-1), q_md (s_P sg k), q_hg (s_P sg k), q_ow (s_P sg k), q_ce (s_P sg k), q_bi (s_P sg k)), s_pa sg)) (fun (u : zHo) t9 => zB G cy (va_A (zHs cy a sg) sz0) (zHs cy a u) t9) (va_A (zHs cy a sg) sz0)) 1 6 (va_A (zHs cy a sg) sz0) := by
  refine z_ofMH (cc := cL_asks) (maxL := 6) (ret := (some .int)) (Qc := (fun A => va_Qi (fun r s9 => r = (q_td (s_P sg k)) ∧ s9 = (s_nc sg, s_np sg, s_T sg, s_pt sg, s_g sg, s_w9 sg, s_p9 sg, s_q9 sg, s_tf sg, s_tb sg, s_tr sg, s_ic sg, s_fl sg, s_ru sg, s_rs sg, s_w4 sg, s_p4 sg, s_q4 sg, s_cd sg, zUp (s_P sg) k (q_kd (s_P sg k), q_fi (s_P sg k), q_la (s_P sg k), q_tk (s_P sg k), q_pc (s_P sg k), q_ds (s_P sg k), q_dd (s_P sg k), q_sz (s_P sg k), q_mu (s_P sg k), q_sh (s_P sg k), q_vo (s_P sg k), q_us (s_P sg k), q_ts (s_P sg k), (-1), q_md (s_P sg k), q_hg (s_P sg k), q_ow (s_P sg k), q_ce (s_P sg k), q_bi (s_P sg k)), s_pa sg)) (fun (u : zHo) t9 => zB G cy A (zHs cy a u) t9) A)) (by decide) rfl (Nat.le_of_ble_eq_true rfl) ?_
  intro p e s m below meth c ls A hx hb hml hr hts hown hlk hP hK hD hA hS hl hsz0 hN hAN hWd hE htb
  have hown : s.vm.findClass RL = some m.cls := hown
  have hl : lv_has ls 6 [(0, .ref (a 0)), (1, .int (nI 4)), (2, .int (nI k)), (3, .int b8), (4, .int d9)] := hl
  refine lv_iload_n hx hb dL_asks_0 rfl (lv_at hl 1 rfl) ?_
  refine lv_if_ne hx hb dL_asks_1 (tgt := 13) (by decide) (fun _ => ?_) (fun q => absurd q (by decide))
  refine lv_iload_n hx hb dL_asks_13 rfl (lv_at hl 1 rfl) ?_
  refine lv_iconst (v := nI 1) hx hb dL_asks_14 (by decide) ?_
  refine z_icmp_ne hx hb (by omega) (by omega) dL_asks_15 (tgt := 26) (by decide) (fun c_1 => ?_) (fun c_1 => ?_)
  · refine lv_iload_n hx hb dL_asks_26 rfl (lv_at hl 1 rfl) ?_
    refine lv_iconst (v := nI 2) hx hb dL_asks_27 (by decide) ?_
    refine z_icmp_ne hx hb (by omega) (by omega) dL_asks_28 (tgt := 55) (by decide) (fun c_2 => ?_) (fun c_2 => ?_)
    · refine lv_iload_n hx hb dL_asks_55 rfl (lv_at hl 1 rfl) ?_
      refine lv_iconst (v := nI 3) hx hb dL_asks_56 (by decide) ?_
      refine z_icmp_ne hx hb (by omega) (by omega) dL_asks_57 (tgt := 71) (by decide) (fun c_3 => ?_) (fun c_3 => ?_)
      · refine lv_iload_n hx hb dL_asks_71 rfl (lv_at hl 1 rfl) ?_
        refine lv_iconst (v := nI 4) hx hb dL_asks_72 (by decide) ?_
        refine z_icmp_ne hx hb (by omega) (by omega) dL_asks_73 (tgt := 84) (by decide) (fun c_4 => ?_) (fun c_4 => ?_)
        · exfalso; omega
        · refine lv_aload_n hx hb dL_asks_76 rfl (lv_at hl 0 rfl) ?_
          refine lv_iload_n hx hb dL_asks_77 rfl (lv_at hl 2 rfl) ?_
          have hP5 : va_P G vwCl ((zHs cy a sg) ++ []) _ := z_P_perm (z_permT (ww := []) (wu := []) (wr := []) (tl := (zHs cy a sg)) (n := 0) [] [] rfl rfl rfl (by decide)) hP
          have hD5 : va_D A ((zHs cy a sg) ++ []) := z_D_perm (z_permT (ww := []) (wu := []) (wr := []) (tl := (zHs cy a sg)) (n := 0) [] [] rfl rfl rfl (by decide)) hD
          refine z_ciP (wc := (zHs cy a sg)) (wr := []) (va_runV (As := [.int (nI k)]) (rest := []) ⟨hx, hb, hml, hown, hts⟩ (h_c_object l hl9 G cy wd fo _ _ a sg k (hkn) (hk8) (hpt) (hT) (hc9)) (cwV 1 hts gL_asks_X10_object rfl rfl rfl (by decide +kernel) ⟨Nat.le_of_ble_eq_true rfl, Nat.le_of_ble_eq_true rfl⟩) (z_pVHP (ci := 11) hK hP5 hD5 hS hN hAN hWd hE rfl rfl 0 rfl) rfl rfl hl.1 rfl (lv_room (Nat.le_of_ble_eq_true rfl)) dL_asks_78 ⟨Nat.le_of_ble_eq_true rfl, Nat.le_of_ble_eq_true rfl⟩) hP5 hD5 hS hA (fun r_5 u H locs hr_5 hQ hD hS hz => ?_)
          obtain ⟨s9_6, rfl⟩ : ∃ z, z = u := ⟨_, rfl⟩
          try dsimp only at hr_5
          have hP : va_P G vwCl (zHs cy a s9_6) H := z_P_perm (List.Perm.symm (z_permT (ww := []) (wu := []) (wr := []) (tl := (zHs cy a s9_6)) (n := 0) [] [] rfl rfl rfl (by decide))) hQ
          have hD : va_D A (zHs cy a s9_6) := z_D_perm (List.Perm.symm (z_permT (ww := []) (wu := []) (wr := []) (tl := (zHs cy a s9_6)) (n := 0) [] [] rfl rfl rfl (by decide))) hD
          clear hQ hP5 hD5
          refine lv_goto (tgt := 147) hx hb dL_asks_81 (by decide) ?_
          exact z_rMi hx hb hr hlk dL_asks_147 s9_6 (hr_5) hP hD hK hS (Nat.le_of_ble_eq_true rfl) (Nat.le_of_ble_eq_true rfl)
      · exfalso; omega
    · exfalso; omega
  · exfalso; omega
set_option maxHeartbeats 4000000 in
set_option maxRecDepth 100000 in
theorem k_e3_reverse (l : Launch) (hl9 : l.stackTraces = false) (G : va_G) (cy : Nat → ClassId) (wd : Nat → Nat) (fo : Option Nat) (N0 sz0 : Nat) (a : Nat → Nat) (sg : zHo) (k : Nat) (hkn : k < s_np sg) (hk8 : k < 8) (hpt : (s_pt sg) k = some ((s_pa sg k) 0)) (hT : (s_T sg) ≤ 900) (hc9 : ¬ (q_td (s_P sg k)).toInt = -1 ∨ (q_md (s_P sg k)) = -1) (b8 d9 : Int32) : Met l yL_asks wsL_asks ({ frames := 8, cells := 1, slots := 6, locals := 200 }) (zMH G cy wd fo N0 [.ref (a 0), .int (nI 5), .int (nI k), .int b8, .int d9] sz0 (zHs cy a sg)) (va_Qi (fun r s9 => r = (-70008) ∧ s9 = sg) (fun (u : zHo) t9 => zB G cy (va_A (zHs cy a sg) sz0) (zHs cy a u) t9) (va_A (zHs cy a sg) sz0)) 1 6 (va_A (zHs cy a sg) sz0) := by
  refine z_ofMH (cc := cL_asks) (maxL := 6) (ret := (some .int)) (Qc := (fun A => va_Qi (fun r s9 => r = (-70008) ∧ s9 = sg) (fun (u : zHo) t9 => zB G cy A (zHs cy a u) t9) A)) (by decide) rfl (Nat.le_of_ble_eq_true rfl) ?_
  intro p e s m below meth c ls A hx hb hml hr hts hown hlk hP hK hD hA hS hl hsz0 hN hAN hWd hE htb
  have hown : s.vm.findClass RL = some m.cls := hown
  have hl : lv_has ls 6 [(0, .ref (a 0)), (1, .int (nI 5)), (2, .int (nI k)), (3, .int b8), (4, .int d9)] := hl
  refine lv_iload_n hx hb dL_asks_0 rfl (lv_at hl 1 rfl) ?_
  refine lv_if_ne hx hb dL_asks_1 (tgt := 13) (by decide) (fun _ => ?_) (fun q => absurd q (by decide))
  refine lv_iload_n hx hb dL_asks_13 rfl (lv_at hl 1 rfl) ?_
  refine lv_iconst (v := nI 1) hx hb dL_asks_14 (by decide) ?_
  refine z_icmp_ne hx hb (by omega) (by omega) dL_asks_15 (tgt := 26) (by decide) (fun c_1 => ?_) (fun c_1 => ?_)
  · refine lv_iload_n hx hb dL_asks_26 rfl (lv_at hl 1 rfl) ?_
    refine lv_iconst (v := nI 2) hx hb dL_asks_27 (by decide) ?_
    refine z_icmp_ne hx hb (by omega) (by omega) dL_asks_28 (tgt := 55) (by decide) (fun c_2 => ?_) (fun c_2 => ?_)
    · refine lv_iload_n hx hb dL_asks_55 rfl (lv_at hl 1 rfl) ?_
      refine lv_iconst (v := nI 3) hx hb dL_asks_56 (by decide) ?_
      refine z_icmp_ne hx hb (by omega) (by omega) dL_asks_57 (tgt := 71) (by decide) (fun c_3 => ?_) (fun c_3 => ?_)
      · refine lv_iload_n hx hb dL_asks_71 rfl (lv_at hl 1 rfl) ?_
        refine lv_iconst (v := nI 4) hx hb dL_asks_72 (by decide) ?_
        refine z_icmp_ne hx hb (by omega) (by omega) dL_asks_73 (tgt := 84) (by decide) (fun c_4 => ?_) (fun c_4 => ?_)
        · refine lv_iload_n hx hb dL_asks_84 rfl (lv_at hl 1 rfl) ?_
          refine lv_iconst (v := nI 5) hx hb dL_asks_85 (by decide) ?_
          refine z_icmp_ne hx hb (by omega) (by omega) dL_asks_86 (tgt := 97) (by decide) (fun c_5 => ?_) (fun c_5 => ?_)
          · exfalso; omega
          · refine lv_aload_n hx hb dL_asks_89 rfl (lv_at hl 0 rfl) ?_
            refine lv_iload_n hx hb dL_asks_90 rfl (lv_at hl 2 rfl) ?_
            have hP5 : va_P G vwCl ((zHs cy a sg) ++ []) _ := z_P_perm (z_permT (ww := []) (wu := []) (wr := []) (tl := (zHs cy a sg)) (n := 0) [] [] rfl rfl rfl (by decide)) hP
            have hD5 : va_D A ((zHs cy a sg) ++ []) := z_D_perm (z_permT (ww := []) (wu := []) (wr := []) (tl := (zHs cy a sg)) (n := 0) [] [] rfl rfl rfl (by decide)) hD
            refine z_cxP (wc := (zHs cy a sg)) (wr := []) (vx_runV (As := [.int (nI k)]) (rest := []) ⟨hx, hb, hml, hown, hts⟩ (h_e3_reverse l hl9 G cy wd fo _ _ a sg k (hkn) (hk8) (hpt) (hT) (hc9)) (cwV 1 hts gL_asks_X10_reverse rfl rfl rfl (by decide +kernel) ⟨Nat.le_of_ble_eq_true rfl, Nat.le_of_ble_eq_true rfl⟩) (z_pVHP (ci := 11) hK hP5 hD5 hS hN hAN hWd hE rfl rfl 0 rfl) rfl rfl hl.1 rfl (lv_room (Nat.le_of_ble_eq_true rfl)) dL_asks_91 ⟨Nat.le_of_ble_eq_true rfl, Nat.le_of_ble_eq_true rfl⟩) hP5 hD5 hS hA (fun ce q9 H locs hP hD hS hce hcv hcl => ?_)
            replace hP : va_P G vwCl (zHs cy a sg) H := z_P_perm (List.Perm.symm (z_permT (ww := []) (wu := []) (wr := []) (tl := (zHs cy a sg)) (n := 0) [] [] rfl rfl rfl (by decide))) hP
            replace hD : va_D A (zHs cy a sg) := z_D_perm (List.Perm.symm (z_permT (ww := []) (wu := []) (wr := []) (tl := (zHs cy a sg)) (n := 0) [] [] rfl rfl rfl (by decide))) hD
            clear hP5 hD5
            refine vx_catch (own := RL) (name := zE 3) (E := zE 3) hown [⟨0, 147, 148, 46⟩, ⟨0, 147, 153, 49⟩] ⟨0, 147, 158, 52⟩ [] (htb.trans rfl) (List.forall_mem_cons.mpr ⟨Or.inr ⟨by decide, zE 1, hts _ (List.mem_of_getElem? (i := 1) (by decide +kernel)), hE.2.2.2.2.2 3 1 (by decide)⟩, (List.forall_mem_cons.mpr ⟨Or.inr ⟨by decide, zE 2, hts _ (List.mem_of_getElem? (i := 2) (by decide +kernel)), hE.2.2.2.2.2 3 2 (by decide)⟩, (fun z hz => nomatch hz)⟩)⟩) rfl (by decide) (hts _ (List.mem_of_getElem? (i := 3) (by decide +kernel))) (va_Nw.use rfl (hE.2.2.2.2.1 3)) hce hcv hcl ?_
            refine lv_astore (lv' := [(5, .ref q9), (0, .ref (a 0)), (1, .int (nI 5)), (2, .int (nI k)), (3, .int b8), (4, .int d9)]) hx hb dL_asks_158 hl (by decide) rfl (fun ls hl => ?_)
            refine lv_ldc (v := (-70008)) hx hb hown (hts _ (List.mem_of_getElem? (i := 6) (by decide +kernel))) dL_asks_160 ?_
            exact z_rMi hx hb hr hlk dL_asks_162 sg (⟨rfl, rfl⟩) hP hD hK hS (Nat.le_of_ble_eq_true rfl) (Nat.le_of_ble_eq_true rfl)
        · exfalso; omega
      · exfalso; omega
    · exfalso; omega
  · exfalso; omega
set_option maxHeartbeats 4000000 in
set_option maxRecDepth 100000 in
theorem k_c_reverse (l : Launch) (hl9 : l.stackTraces = false) (G : va_G) (cy : Nat → ClassId) (wd : Nat → Nat) (fo : Option Nat) (N0 sz0 : Nat) (a : Nat → Nat) (sg : zHo) (k : Nat) (hkn : k < s_np sg) (hk8 : k < 8) (hpt : (s_pt sg) k = some ((s_pa sg k) 0)) (hT : (s_T sg) ≤ 900) (dq : Nat) (hc9 : (q_td (s_P sg k)).toInt = -1) (hd0 : 0 < dq) (hdT : dq ≤ (s_T sg)) (e_dq : q_md (s_P sg k) = nI dq) (b8 d9 : Int32) : Met l yL_asks wsL_asks ({ frames := 8, cells := 1, slots := 6, locals := 200 }) (zMH G cy wd fo N0 [.ref (a 0), .int (nI 5), .int (nI k), .int b8, .int d9] sz0 (zHs cy a sg)) (va_Qi (fun r s9 => r = (nI ((s_T sg) - dq + 1)) ∧ s9 = (s_nc sg, s_np sg, s_T sg, s_pt sg, s_g sg, s_w9 sg, s_p9 sg, s_q9 sg, s_tf sg, s_tb sg, s_tr sg, s_ic sg, s_fl sg, s_ru sg, s_rs sg, s_w4 sg, s_p4 sg, s_q4 sg, s_cd sg, zUp (s_P sg) k (q_kd (s_P sg k), q_fi (s_P sg k), q_la (s_P sg k), q_tk (s_P sg k), q_pc (s_P sg k), q_ds (s_P sg k), q_dd (s_P sg k), q_sz (s_P sg k), q_mu (s_P sg k), q_sh (s_P sg k), q_vo (s_P sg k), q_us (s_P sg k), q_ts (s_P sg k), q_td (s_P sg k), (-1), (z_fill (q_hg (s_P sg k)) ((q_hg (s_P sg k)) (dq - 1)) dq ((s_T sg) + 1 - dq)), q_ow (s_P sg k), q_ce (s_P sg k), q_bi (s_P sg k)), s_pa sg)) (fun (u : zHo) t9 => zB G cy (va_A (zHs cy a sg) sz0) (zHs cy a u) t9) (va_A (zHs cy a sg) sz0)) 1 6 (va_A (zHs cy a sg) sz0) := by
  refine z_ofMH (cc := cL_asks) (maxL := 6) (ret := (some .int)) (Qc := (fun A => va_Qi (fun r s9 => r = (nI ((s_T sg) - dq + 1)) ∧ s9 = (s_nc sg, s_np sg, s_T sg, s_pt sg, s_g sg, s_w9 sg, s_p9 sg, s_q9 sg, s_tf sg, s_tb sg, s_tr sg, s_ic sg, s_fl sg, s_ru sg, s_rs sg, s_w4 sg, s_p4 sg, s_q4 sg, s_cd sg, zUp (s_P sg) k (q_kd (s_P sg k), q_fi (s_P sg k), q_la (s_P sg k), q_tk (s_P sg k), q_pc (s_P sg k), q_ds (s_P sg k), q_dd (s_P sg k), q_sz (s_P sg k), q_mu (s_P sg k), q_sh (s_P sg k), q_vo (s_P sg k), q_us (s_P sg k), q_ts (s_P sg k), q_td (s_P sg k), (-1), (z_fill (q_hg (s_P sg k)) ((q_hg (s_P sg k)) (dq - 1)) dq ((s_T sg) + 1 - dq)), q_ow (s_P sg k), q_ce (s_P sg k), q_bi (s_P sg k)), s_pa sg)) (fun (u : zHo) t9 => zB G cy A (zHs cy a u) t9) A)) (by decide) rfl (Nat.le_of_ble_eq_true rfl) ?_
  intro p e s m below meth c ls A hx hb hml hr hts hown hlk hP hK hD hA hS hl hsz0 hN hAN hWd hE htb
  have hown : s.vm.findClass RL = some m.cls := hown
  have hl : lv_has ls 6 [(0, .ref (a 0)), (1, .int (nI 5)), (2, .int (nI k)), (3, .int b8), (4, .int d9)] := hl
  refine lv_iload_n hx hb dL_asks_0 rfl (lv_at hl 1 rfl) ?_
  refine lv_if_ne hx hb dL_asks_1 (tgt := 13) (by decide) (fun _ => ?_) (fun q => absurd q (by decide))
  refine lv_iload_n hx hb dL_asks_13 rfl (lv_at hl 1 rfl) ?_
  refine lv_iconst (v := nI 1) hx hb dL_asks_14 (by decide) ?_
  refine z_icmp_ne hx hb (by omega) (by omega) dL_asks_15 (tgt := 26) (by decide) (fun c_1 => ?_) (fun c_1 => ?_)
  · refine lv_iload_n hx hb dL_asks_26 rfl (lv_at hl 1 rfl) ?_
    refine lv_iconst (v := nI 2) hx hb dL_asks_27 (by decide) ?_
    refine z_icmp_ne hx hb (by omega) (by omega) dL_asks_28 (tgt := 55) (by decide) (fun c_2 => ?_) (fun c_2 => ?_)
    · refine lv_iload_n hx hb dL_asks_55 rfl (lv_at hl 1 rfl) ?_
      refine lv_iconst (v := nI 3) hx hb dL_asks_56 (by decide) ?_
      refine z_icmp_ne hx hb (by omega) (by omega) dL_asks_57 (tgt := 71) (by decide) (fun c_3 => ?_) (fun c_3 => ?_)
      · refine lv_iload_n hx hb dL_asks_71 rfl (lv_at hl 1 rfl) ?_
        refine lv_iconst (v := nI 4) hx hb dL_asks_72 (by decide) ?_
        refine z_icmp_ne hx hb (by omega) (by omega) dL_asks_73 (tgt := 84) (by decide) (fun c_4 => ?_) (fun c_4 => ?_)
        · refine lv_iload_n hx hb dL_asks_84 rfl (lv_at hl 1 rfl) ?_
          refine lv_iconst (v := nI 5) hx hb dL_asks_85 (by decide) ?_
          refine z_icmp_ne hx hb (by omega) (by omega) dL_asks_86 (tgt := 97) (by decide) (fun c_5 => ?_) (fun c_5 => ?_)
          · exfalso; omega
          · refine lv_aload_n hx hb dL_asks_89 rfl (lv_at hl 0 rfl) ?_
            refine lv_iload_n hx hb dL_asks_90 rfl (lv_at hl 2 rfl) ?_
            have hP5 : va_P G vwCl ((zHs cy a sg) ++ []) _ := z_P_perm (z_permT (ww := []) (wu := []) (wr := []) (tl := (zHs cy a sg)) (n := 0) [] [] rfl rfl rfl (by decide)) hP
            have hD5 : va_D A ((zHs cy a sg) ++ []) := z_D_perm (z_permT (ww := []) (wu := []) (wr := []) (tl := (zHs cy a sg)) (n := 0) [] [] rfl rfl rfl (by decide)) hD
            refine z_ciP (wc := (zHs cy a sg)) (wr := []) (va_runV (As := [.int (nI k)]) (rest := []) ⟨hx, hb, hml, hown, hts⟩ (h_c_reverse l hl9 G cy wd fo _ _ a sg k (hkn) (hk8) (hpt) (hT) (dq) (hc9) (hd0) (hdT) (e_dq)) (cwV 1 hts gL_asks_X10_reverse rfl rfl rfl (by decide +kernel) ⟨Nat.le_of_ble_eq_true rfl, Nat.le_of_ble_eq_true rfl⟩) (z_pVHP (ci := 11) hK hP5 hD5 hS hN hAN hWd hE rfl rfl 0 rfl) rfl rfl hl.1 rfl (lv_room (Nat.le_of_ble_eq_true rfl)) dL_asks_91 ⟨Nat.le_of_ble_eq_true rfl, Nat.le_of_ble_eq_true rfl⟩) hP5 hD5 hS hA (fun r_6 u H locs hr_6 hQ hD hS hz => ?_)
            obtain ⟨s9_7, rfl⟩ : ∃ z, z = u := ⟨_, rfl⟩
            try dsimp only at hr_6
            have hP : va_P G vwCl (zHs cy a s9_7) H := z_P_perm (List.Perm.symm (z_permT (ww := []) (wu := []) (wr := []) (tl := (zHs cy a s9_7)) (n := 0) [] [] rfl rfl rfl (by decide))) hQ
            have hD : va_D A (zHs cy a s9_7) := z_D_perm (List.Perm.symm (z_permT (ww := []) (wu := []) (wr := []) (tl := (zHs cy a s9_7)) (n := 0) [] [] rfl rfl rfl (by decide))) hD
            clear hQ hP5 hD5
            refine lv_goto (tgt := 147) hx hb dL_asks_94 (by decide) ?_
            exact z_rMi hx hb hr hlk dL_asks_147 s9_7 (hr_6) hP hD hK hS (Nat.le_of_ble_eq_true rfl) (Nat.le_of_ble_eq_true rfl)
        · exfalso; omega
      · exfalso; omega
    · exfalso; omega
  · exfalso; omega
set_option maxHeartbeats 4000000 in
set_option maxRecDepth 100000 in
theorem k_e3_change (l : Launch) (hl9 : l.stackTraces = false) (G : va_G) (cy : Nat → ClassId) (wd : Nat → Nat) (fo : Option Nat) (N0 sz0 : Nat) (a : Nat → Nat) (sg : zHo) (k : Nat) (hkn : k < s_np sg) (hk8 : k < 8) (hpt : (s_pt sg) k = some ((s_pa sg k) 0)) (hT : (s_T sg) ≤ 900) (hh : ∀ d, (q_hg (s_P sg k)) d < 4) (sp : Nat) (d : Nat) (hsp : sp < 4) (hd0 : (s_T sg) < d) (hd : d < 1000) (hc9 : ¬ (q_td (s_P sg k)).toInt = -1 ∨ (q_hg (s_P sg k)) (s_T sg) = sp) : Met l yL_asks wsL_asks ({ frames := 8, cells := 1, slots := 6, locals := 200 }) (zMH G cy wd fo N0 [.ref (a 0), .int (nI 3), .int (nI k), .int (nI sp), .int (nI d)] sz0 (zHs cy a sg)) (va_Qi (fun r s9 => r = (-70008) ∧ s9 = sg) (fun (u : zHo) t9 => zB G cy (va_A (zHs cy a sg) sz0) (zHs cy a u) t9) (va_A (zHs cy a sg) sz0)) 1 6 (va_A (zHs cy a sg) sz0) := by
  refine z_ofMH (cc := cL_asks) (maxL := 6) (ret := (some .int)) (Qc := (fun A => va_Qi (fun r s9 => r = (-70008) ∧ s9 = sg) (fun (u : zHo) t9 => zB G cy A (zHs cy a u) t9) A)) (by decide) rfl (Nat.le_of_ble_eq_true rfl) ?_
  intro p e s m below meth c ls A hx hb hml hr hts hown hlk hP hK hD hA hS hl hsz0 hN hAN hWd hE htb
  have hown : s.vm.findClass RL = some m.cls := hown
  have hl : lv_has ls 6 [(0, .ref (a 0)), (1, .int (nI 3)), (2, .int (nI k)), (3, .int (nI sp)), (4, .int (nI d))] := hl
  refine lv_iload_n hx hb dL_asks_0 rfl (lv_at hl 1 rfl) ?_
  refine lv_if_ne hx hb dL_asks_1 (tgt := 13) (by decide) (fun _ => ?_) (fun q => absurd q (by decide))
  refine lv_iload_n hx hb dL_asks_13 rfl (lv_at hl 1 rfl) ?_
  refine lv_iconst (v := nI 1) hx hb dL_asks_14 (by decide) ?_
  refine z_icmp_ne hx hb (by omega) (by omega) dL_asks_15 (tgt := 26) (by decide) (fun c_1 => ?_) (fun c_1 => ?_)
  · refine lv_iload_n hx hb dL_asks_26 rfl (lv_at hl 1 rfl) ?_
    refine lv_iconst (v := nI 2) hx hb dL_asks_27 (by decide) ?_
    refine z_icmp_ne hx hb (by omega) (by omega) dL_asks_28 (tgt := 55) (by decide) (fun c_2 => ?_) (fun c_2 => ?_)
    · refine lv_iload_n hx hb dL_asks_55 rfl (lv_at hl 1 rfl) ?_
      refine lv_iconst (v := nI 3) hx hb dL_asks_56 (by decide) ?_
      refine z_icmp_ne hx hb (by omega) (by omega) dL_asks_57 (tgt := 71) (by decide) (fun c_3 => ?_) (fun c_3 => ?_)
      · exfalso; omega
      · refine lv_aload_n hx hb dL_asks_60 rfl (lv_at hl 0 rfl) ?_
        refine lv_iload_n hx hb dL_asks_61 rfl (lv_at hl 2 rfl) ?_
        refine lv_iload_n hx hb dL_asks_62 rfl (lv_at hl 3 rfl) ?_
        refine lv_iload hx hb dL_asks_63 (lv_at hl 4 rfl) ?_
        have hP5 : va_P G vwCl ((zHs cy a sg) ++ []) _ := z_P_perm (z_permT (ww := []) (wu := []) (wr := []) (tl := (zHs cy a sg)) (n := 0) [] [] rfl rfl rfl (by decide)) hP
        have hD5 : va_D A ((zHs cy a sg) ++ []) := z_D_perm (z_permT (ww := []) (wu := []) (wr := []) (tl := (zHs cy a sg)) (n := 0) [] [] rfl rfl rfl (by decide)) hD
        refine z_cxP (wc := (zHs cy a sg)) (wr := []) (vx_runV (As := [.int (nI k), .int (nI sp), .int (nI d)]) (rest := []) ⟨hx, hb, hml, hown, hts⟩ (h_e3_change l hl9 G cy wd fo _ _ a sg k (hkn) (hk8) (hpt) (hT) (hh) sp d (hsp) (hd0) (hd) (hc9)) (cwV 3 hts gL_asks_X10_change rfl rfl rfl (by decide +kernel) ⟨Nat.le_of_ble_eq_true rfl, Nat.le_of_ble_eq_true rfl⟩) (z_pVHP (ci := 11) hK hP5 hD5 hS hN hAN hWd hE rfl rfl 0 rfl) rfl rfl hl.1 rfl (lv_room (Nat.le_of_ble_eq_true rfl)) dL_asks_65 ⟨Nat.le_of_ble_eq_true rfl, Nat.le_of_ble_eq_true rfl⟩) hP5 hD5 hS hA (fun ce q9 H locs hP hD hS hce hcv hcl => ?_)
        replace hP : va_P G vwCl (zHs cy a sg) H := z_P_perm (List.Perm.symm (z_permT (ww := []) (wu := []) (wr := []) (tl := (zHs cy a sg)) (n := 0) [] [] rfl rfl rfl (by decide))) hP
        replace hD : va_D A (zHs cy a sg) := z_D_perm (List.Perm.symm (z_permT (ww := []) (wu := []) (wr := []) (tl := (zHs cy a sg)) (n := 0) [] [] rfl rfl rfl (by decide))) hD
        clear hP5 hD5
        refine vx_catch (own := RL) (name := zE 3) (E := zE 3) hown [⟨0, 147, 148, 46⟩, ⟨0, 147, 153, 49⟩] ⟨0, 147, 158, 52⟩ [] (htb.trans rfl) (List.forall_mem_cons.mpr ⟨Or.inr ⟨by decide, zE 1, hts _ (List.mem_of_getElem? (i := 1) (by decide +kernel)), hE.2.2.2.2.2 3 1 (by decide)⟩, (List.forall_mem_cons.mpr ⟨Or.inr ⟨by decide, zE 2, hts _ (List.mem_of_getElem? (i := 2) (by decide +kernel)), hE.2.2.2.2.2 3 2 (by decide)⟩, (fun z hz => nomatch hz)⟩)⟩) rfl (by decide) (hts _ (List.mem_of_getElem? (i := 3) (by decide +kernel))) (va_Nw.use rfl (hE.2.2.2.2.1 3)) hce hcv hcl ?_
        refine lv_astore (lv' := [(5, .ref q9), (0, .ref (a 0)), (1, .int (nI 3)), (2, .int (nI k)), (3, .int (nI sp)), (4, .int (nI d))]) hx hb dL_asks_158 hl (by decide) rfl (fun ls hl => ?_)
        refine lv_ldc (v := (-70008)) hx hb hown (hts _ (List.mem_of_getElem? (i := 6) (by decide +kernel))) dL_asks_160 ?_
        exact z_rMi hx hb hr hlk dL_asks_162 sg (⟨rfl, rfl⟩) hP hD hK hS (Nat.le_of_ble_eq_true rfl) (Nat.le_of_ble_eq_true rfl)
    · exfalso; omega
  · exfalso; omega
set_option maxHeartbeats 4000000 in
set_option maxRecDepth 100000 in
theorem k_c_change (l : Launch) (hl9 : l.stackTraces = false) (G : va_G) (cy : Nat → ClassId) (wd : Nat → Nat) (fo : Option Nat) (N0 sz0 : Nat) (a : Nat → Nat) (sg : zHo) (k : Nat) (hkn : k < s_np sg) (hk8 : k < 8) (hpt : (s_pt sg) k = some ((s_pa sg k) 0)) (hT : (s_T sg) ≤ 900) (hh : ∀ d, (q_hg (s_P sg k)) d < 4) (sp : Nat) (d : Nat) (hsp : sp < 4) (hd0 : (s_T sg) < d) (hd : d < 1000) (hc9 : (q_td (s_P sg k)).toInt = -1) (hc8 : ¬ (q_hg (s_P sg k)) (s_T sg) = sp) : Met l yL_asks wsL_asks ({ frames := 8, cells := 1, slots := 6, locals := 200 }) (zMH G cy wd fo N0 [.ref (a 0), .int (nI 3), .int (nI k), .int (nI sp), .int (nI d)] sz0 (zHs cy a sg)) (va_Qi (fun r s9 => r = (nI ((q_hg (s_P sg k)) (s_T sg))) ∧ s9 = (s_nc sg, s_np sg, s_T sg, s_pt sg, s_g sg, s_w9 sg, s_p9 sg, s_q9 sg, s_tf sg, s_tb sg, s_tr sg, s_ic sg, s_fl sg, s_ru sg, s_rs sg, s_w4 sg, s_p4 sg, s_q4 sg, s_cd sg, zUp (s_P sg) k (q_kd (s_P sg k), q_fi (s_P sg k), q_la (s_P sg k), q_tk (s_P sg k), q_pc (s_P sg k), q_ds (s_P sg k), q_dd (s_P sg k), q_sz (s_P sg k), q_mu (s_P sg k), q_sh (s_P sg k), q_vo (s_P sg k), q_us (s_P sg k), sp, (nI d), q_md (s_P sg k), q_hg (s_P sg k), q_ow (s_P sg k), q_ce (s_P sg k), q_bi (s_P sg k)), s_pa sg)) (fun (u : zHo) t9 => zB G cy (va_A (zHs cy a sg) sz0) (zHs cy a u) t9) (va_A (zHs cy a sg) sz0)) 1 6 (va_A (zHs cy a sg) sz0) := by
  refine z_ofMH (cc := cL_asks) (maxL := 6) (ret := (some .int)) (Qc := (fun A => va_Qi (fun r s9 => r = (nI ((q_hg (s_P sg k)) (s_T sg))) ∧ s9 = (s_nc sg, s_np sg, s_T sg, s_pt sg, s_g sg, s_w9 sg, s_p9 sg, s_q9 sg, s_tf sg, s_tb sg, s_tr sg, s_ic sg, s_fl sg, s_ru sg, s_rs sg, s_w4 sg, s_p4 sg, s_q4 sg, s_cd sg, zUp (s_P sg) k (q_kd (s_P sg k), q_fi (s_P sg k), q_la (s_P sg k), q_tk (s_P sg k), q_pc (s_P sg k), q_ds (s_P sg k), q_dd (s_P sg k), q_sz (s_P sg k), q_mu (s_P sg k), q_sh (s_P sg k), q_vo (s_P sg k), q_us (s_P sg k), sp, (nI d), q_md (s_P sg k), q_hg (s_P sg k), q_ow (s_P sg k), q_ce (s_P sg k), q_bi (s_P sg k)), s_pa sg)) (fun (u : zHo) t9 => zB G cy A (zHs cy a u) t9) A)) (by decide) rfl (Nat.le_of_ble_eq_true rfl) ?_
  intro p e s m below meth c ls A hx hb hml hr hts hown hlk hP hK hD hA hS hl hsz0 hN hAN hWd hE htb
  have hown : s.vm.findClass RL = some m.cls := hown
  have hl : lv_has ls 6 [(0, .ref (a 0)), (1, .int (nI 3)), (2, .int (nI k)), (3, .int (nI sp)), (4, .int (nI d))] := hl
  refine lv_iload_n hx hb dL_asks_0 rfl (lv_at hl 1 rfl) ?_
  refine lv_if_ne hx hb dL_asks_1 (tgt := 13) (by decide) (fun _ => ?_) (fun q => absurd q (by decide))
  refine lv_iload_n hx hb dL_asks_13 rfl (lv_at hl 1 rfl) ?_
  refine lv_iconst (v := nI 1) hx hb dL_asks_14 (by decide) ?_
  refine z_icmp_ne hx hb (by omega) (by omega) dL_asks_15 (tgt := 26) (by decide) (fun c_1 => ?_) (fun c_1 => ?_)
  · refine lv_iload_n hx hb dL_asks_26 rfl (lv_at hl 1 rfl) ?_
    refine lv_iconst (v := nI 2) hx hb dL_asks_27 (by decide) ?_
    refine z_icmp_ne hx hb (by omega) (by omega) dL_asks_28 (tgt := 55) (by decide) (fun c_2 => ?_) (fun c_2 => ?_)
    · refine lv_iload_n hx hb dL_asks_55 rfl (lv_at hl 1 rfl) ?_
      refine lv_iconst (v := nI 3) hx hb dL_asks_56 (by decide) ?_
      refine z_icmp_ne hx hb (by omega) (by omega) dL_asks_57 (tgt := 71) (by decide) (fun c_3 => ?_) (fun c_3 => ?_)
      · exfalso; omega
      · refine lv_aload_n hx hb dL_asks_60 rfl (lv_at hl 0 rfl) ?_
        refine lv_iload_n hx hb dL_asks_61 rfl (lv_at hl 2 rfl) ?_
        refine lv_iload_n hx hb dL_asks_62 rfl (lv_at hl 3 rfl) ?_
        refine lv_iload hx hb dL_asks_63 (lv_at hl 4 rfl) ?_
        have hP5 : va_P G vwCl ((zHs cy a sg) ++ []) _ := z_P_perm (z_permT (ww := []) (wu := []) (wr := []) (tl := (zHs cy a sg)) (n := 0) [] [] rfl rfl rfl (by decide)) hP
        have hD5 : va_D A ((zHs cy a sg) ++ []) := z_D_perm (z_permT (ww := []) (wu := []) (wr := []) (tl := (zHs cy a sg)) (n := 0) [] [] rfl rfl rfl (by decide)) hD
        refine z_ciP (wc := (zHs cy a sg)) (wr := []) (va_runV (As := [.int (nI k), .int (nI sp), .int (nI d)]) (rest := []) ⟨hx, hb, hml, hown, hts⟩ (h_c_change l hl9 G cy wd fo _ _ a sg k (hkn) (hk8) (hpt) (hT) (hh) sp d (hsp) (hd0) (hd) (hc9) (hc8)) (cwV 3 hts gL_asks_X10_change rfl rfl rfl (by decide +kernel) ⟨Nat.le_of_ble_eq_true rfl, Nat.le_of_ble_eq_true rfl⟩) (z_pVHP (ci := 11) hK hP5 hD5 hS hN hAN hWd hE rfl rfl 0 rfl) rfl rfl hl.1 rfl (lv_room (Nat.le_of_ble_eq_true rfl)) dL_asks_65 ⟨Nat.le_of_ble_eq_true rfl, Nat.le_of_ble_eq_true rfl⟩) hP5 hD5 hS hA (fun r_4 u H locs hr_4 hQ hD hS hz => ?_)
        obtain ⟨s9_5, rfl⟩ : ∃ z, z = u := ⟨_, rfl⟩
        try dsimp only at hr_4
        have hP : va_P G vwCl (zHs cy a s9_5) H := z_P_perm (List.Perm.symm (z_permT (ww := []) (wu := []) (wr := []) (tl := (zHs cy a s9_5)) (n := 0) [] [] rfl rfl rfl (by decide))) hQ
        have hD : va_D A (zHs cy a s9_5) := z_D_perm (List.Perm.symm (z_permT (ww := []) (wu := []) (wr := []) (tl := (zHs cy a s9_5)) (n := 0) [] [] rfl rfl rfl (by decide))) hD
        clear hQ hP5 hD5
        refine lv_goto (tgt := 147) hx hb dL_asks_68 (by decide) ?_
        exact z_rMi hx hb hr hlk dL_asks_147 s9_5 (hr_4) hP hD hK hS (Nat.le_of_ble_eq_true rfl) (Nat.le_of_ble_eq_true rfl)
    · exfalso; omega
  · exfalso; omega
set_option maxHeartbeats 4000000 in
set_option maxRecDepth 100000 in
theorem k_e2b_credit (l : Launch) (hl9 : l.stackTraces = false) (G : va_G) (cy : Nat → ClassId) (wd : Nat → Nat) (fo : Option Nat) (N0 sz0 : Nat) (a : Nat → Nat) (sg : zHo) (k : Nat) (hkn : k < s_np sg) (hk8 : k < 8) (hpt : (s_pt sg) k = some ((s_pa sg k) 0)) (hT : (s_T sg) ≤ 900) (co : Nat) (hco : co < 2 ^ 31) (hy9 : ¬ co % 97 = co / 97 % 97) (d9 : Int32) : Met l yL_asks wsL_asks ({ frames := 8, cells := 1, slots := 6, locals := 200 }) (zMH G cy wd fo N0 [.ref (a 0), .int (nI 6), .int (nI k), .int (nI co), .int d9] sz0 (zHs cy a sg)) (va_Qi (fun r s9 => r = (-70009) ∧ s9 = sg) (fun (u : zHo) t9 => zB G cy (va_A (zHs cy a sg) sz0) (zHs cy a u) t9) (va_A (zHs cy a sg) sz0)) 1 6 (va_A (zHs cy a sg) sz0) := by
  refine z_ofMH (cc := cL_asks) (maxL := 6) (ret := (some .int)) (Qc := (fun A => va_Qi (fun r s9 => r = (-70009) ∧ s9 = sg) (fun (u : zHo) t9 => zB G cy A (zHs cy a u) t9) A)) (by decide) rfl (Nat.le_of_ble_eq_true rfl) ?_
  intro p e s m below meth c ls A hx hb hml hr hts hown hlk hP hK hD hA hS hl hsz0 hN hAN hWd hE htb
  have hown : s.vm.findClass RL = some m.cls := hown
  have hl : lv_has ls 6 [(0, .ref (a 0)), (1, .int (nI 6)), (2, .int (nI k)), (3, .int (nI co)), (4, .int d9)] := hl
  refine lv_iload_n hx hb dL_asks_0 rfl (lv_at hl 1 rfl) ?_
  refine lv_if_ne hx hb dL_asks_1 (tgt := 13) (by decide) (fun _ => ?_) (fun q => absurd q (by decide))
  refine lv_iload_n hx hb dL_asks_13 rfl (lv_at hl 1 rfl) ?_
  refine lv_iconst (v := nI 1) hx hb dL_asks_14 (by decide) ?_
  refine z_icmp_ne hx hb (by omega) (by omega) dL_asks_15 (tgt := 26) (by decide) (fun c_1 => ?_) (fun c_1 => ?_)
  · refine lv_iload_n hx hb dL_asks_26 rfl (lv_at hl 1 rfl) ?_
    refine lv_iconst (v := nI 2) hx hb dL_asks_27 (by decide) ?_
    refine z_icmp_ne hx hb (by omega) (by omega) dL_asks_28 (tgt := 55) (by decide) (fun c_2 => ?_) (fun c_2 => ?_)
    · refine lv_iload_n hx hb dL_asks_55 rfl (lv_at hl 1 rfl) ?_
      refine lv_iconst (v := nI 3) hx hb dL_asks_56 (by decide) ?_
      refine z_icmp_ne hx hb (by omega) (by omega) dL_asks_57 (tgt := 71) (by decide) (fun c_3 => ?_) (fun c_3 => ?_)
      · refine lv_iload_n hx hb dL_asks_71 rfl (lv_at hl 1 rfl) ?_
        refine lv_iconst (v := nI 4) hx hb dL_asks_72 (by decide) ?_
        refine z_icmp_ne hx hb (by omega) (by omega) dL_asks_73 (tgt := 84) (by decide) (fun c_4 => ?_) (fun c_4 => ?_)
        · refine lv_iload_n hx hb dL_asks_84 rfl (lv_at hl 1 rfl) ?_
          refine lv_iconst (v := nI 5) hx hb dL_asks_85 (by decide) ?_
          refine z_icmp_ne hx hb (by omega) (by omega) dL_asks_86 (tgt := 97) (by decide) (fun c_5 => ?_) (fun c_5 => ?_)
          · refine lv_iload_n hx hb dL_asks_97 rfl (lv_at hl 1 rfl) ?_
            refine lv_bipush (v := nI 6) hx hb dL_asks_98 (by decide) ?_
            refine z_icmp_ne hx hb (by omega) (by omega) dL_asks_100 (tgt := 112) (by decide) (fun c_6 => ?_) (fun c_6 => ?_)
            · exfalso; omega
            · refine lv_aload_n hx hb dL_asks_103 rfl (lv_at hl 0 rfl) ?_
              refine lv_iload_n hx hb dL_asks_104 rfl (lv_at hl 2 rfl) ?_
              refine lv_iload_n hx hb dL_asks_105 rfl (lv_at hl 3 rfl) ?_
              have hP5 : va_P G vwCl ((zHs cy a sg) ++ []) _ := z_P_perm (z_permT (ww := []) (wu := []) (wr := []) (tl := (zHs cy a sg)) (n := 0) [] [] rfl rfl rfl (by decide)) hP
              have hD5 : va_D A ((zHs cy a sg) ++ []) := z_D_perm (z_permT (ww := []) (wu := []) (wr := []) (tl := (zHs cy a sg)) (n := 0) [] [] rfl rfl rfl (by decide)) hD
              refine z_cxP (wc := (zHs cy a sg)) (wr := []) (vx_runV (As := [.int (nI k), .int (nI co)]) (rest := []) ⟨hx, hb, hml, hown, hts⟩ (h_e2b_credit l hl9 G cy wd fo _ _ a sg k (hkn) (hk8) (hpt) (hT) co (hco) (hy9)) (cwV 2 hts gL_asks_X10_credit rfl rfl rfl (by decide +kernel) ⟨Nat.le_of_ble_eq_true rfl, Nat.le_of_ble_eq_true rfl⟩) (z_pVHP (ci := 11) hK hP5 hD5 hS hN hAN hWd hE rfl rfl 0 rfl) rfl rfl hl.1 rfl (lv_room (Nat.le_of_ble_eq_true rfl)) dL_asks_106 ⟨Nat.le_of_ble_eq_true rfl, Nat.le_of_ble_eq_true rfl⟩) hP5 hD5 hS hA (fun ce q9 H locs hP hD hS hce hcv hcl => ?_)
              replace hP : va_P G vwCl (zHs cy a sg) H := z_P_perm (List.Perm.symm (z_permT (ww := []) (wu := []) (wr := []) (tl := (zHs cy a sg)) (n := 0) [] [] rfl rfl rfl (by decide))) hP
              replace hD : va_D A (zHs cy a sg) := z_D_perm (List.Perm.symm (z_permT (ww := []) (wu := []) (wr := []) (tl := (zHs cy a sg)) (n := 0) [] [] rfl rfl rfl (by decide))) hD
              clear hP5 hD5
              refine vx_catch (own := RL) (name := zE 2) (E := zE 2) hown [⟨0, 147, 148, 46⟩] ⟨0, 147, 153, 49⟩ [⟨0, 147, 158, 52⟩] (htb.trans rfl) (List.forall_mem_cons.mpr ⟨Or.inr ⟨by decide, zE 1, hts _ (List.mem_of_getElem? (i := 1) (by decide +kernel)), hE.2.2.2.2.2 2 1 (by decide)⟩, (fun z hz => nomatch hz)⟩) rfl (by decide) (hts _ (List.mem_of_getElem? (i := 2) (by decide +kernel))) (va_Nw.use rfl (hE.2.2.2.2.1 2)) hce hcv hcl ?_
              refine lv_astore (lv' := [(5, .ref q9), (0, .ref (a 0)), (1, .int (nI 6)), (2, .int (nI k)), (3, .int (nI co)), (4, .int d9)]) hx hb dL_asks_153 hl (by decide) rfl (fun ls hl => ?_)
              refine lv_ldc (v := (-70009)) hx hb hown (hts _ (List.mem_of_getElem? (i := 5) (by decide +kernel))) dL_asks_155 ?_
              exact z_rMi hx hb hr hlk dL_asks_157 sg (⟨rfl, rfl⟩) hP hD hK hS (Nat.le_of_ble_eq_true rfl) (Nat.le_of_ble_eq_true rfl)
          · exfalso; omega
        · exfalso; omega
      · exfalso; omega
    · exfalso; omega
  · exfalso; omega
set_option maxHeartbeats 4000000 in
set_option maxRecDepth 100000 in
theorem k_e3_credit (l : Launch) (hl9 : l.stackTraces = false) (G : va_G) (cy : Nat → ClassId) (wd : Nat → Nat) (fo : Option Nat) (N0 sz0 : Nat) (a : Nat → Nat) (sg : zHo) (k : Nat) (hkn : k < s_np sg) (hk8 : k < 8) (hpt : (s_pt sg) k = some ((s_pa sg k) 0)) (hT : (s_T sg) ≤ 900) (co : Nat) (hco : co < 2 ^ 31) (hcd : ∀ i, (s_cd sg) i < 2 ^ 31) (hy9 : co % 97 = co / 97 % 97) (hnc : (s_nc sg) ≤ 512) (hc9 : zHas (s_cd sg) (s_nc sg) co ∨ (s_nc sg) = 512) (d9 : Int32) : Met l yL_asks wsL_asks ({ frames := 8, cells := 1, slots := 6, locals := 200 }) (zMH G cy wd fo N0 [.ref (a 0), .int (nI 6), .int (nI k), .int (nI co), .int d9] sz0 (zHs cy a sg)) (va_Qi (fun r s9 => r = (-70008) ∧ s9 = sg) (fun (u : zHo) t9 => zB G cy (va_A (zHs cy a sg) sz0) (zHs cy a u) t9) (va_A (zHs cy a sg) sz0)) 1 6 (va_A (zHs cy a sg) sz0) := by
  refine z_ofMH (cc := cL_asks) (maxL := 6) (ret := (some .int)) (Qc := (fun A => va_Qi (fun r s9 => r = (-70008) ∧ s9 = sg) (fun (u : zHo) t9 => zB G cy A (zHs cy a u) t9) A)) (by decide) rfl (Nat.le_of_ble_eq_true rfl) ?_
  intro p e s m below meth c ls A hx hb hml hr hts hown hlk hP hK hD hA hS hl hsz0 hN hAN hWd hE htb
  have hown : s.vm.findClass RL = some m.cls := hown
  have hl : lv_has ls 6 [(0, .ref (a 0)), (1, .int (nI 6)), (2, .int (nI k)), (3, .int (nI co)), (4, .int d9)] := hl
  refine lv_iload_n hx hb dL_asks_0 rfl (lv_at hl 1 rfl) ?_
  refine lv_if_ne hx hb dL_asks_1 (tgt := 13) (by decide) (fun _ => ?_) (fun q => absurd q (by decide))
  refine lv_iload_n hx hb dL_asks_13 rfl (lv_at hl 1 rfl) ?_
  refine lv_iconst (v := nI 1) hx hb dL_asks_14 (by decide) ?_
  refine z_icmp_ne hx hb (by omega) (by omega) dL_asks_15 (tgt := 26) (by decide) (fun c_1 => ?_) (fun c_1 => ?_)
  · refine lv_iload_n hx hb dL_asks_26 rfl (lv_at hl 1 rfl) ?_
    refine lv_iconst (v := nI 2) hx hb dL_asks_27 (by decide) ?_
    refine z_icmp_ne hx hb (by omega) (by omega) dL_asks_28 (tgt := 55) (by decide) (fun c_2 => ?_) (fun c_2 => ?_)
    · refine lv_iload_n hx hb dL_asks_55 rfl (lv_at hl 1 rfl) ?_
      refine lv_iconst (v := nI 3) hx hb dL_asks_56 (by decide) ?_
      refine z_icmp_ne hx hb (by omega) (by omega) dL_asks_57 (tgt := 71) (by decide) (fun c_3 => ?_) (fun c_3 => ?_)
      · refine lv_iload_n hx hb dL_asks_71 rfl (lv_at hl 1 rfl) ?_
        refine lv_iconst (v := nI 4) hx hb dL_asks_72 (by decide) ?_
        refine z_icmp_ne hx hb (by omega) (by omega) dL_asks_73 (tgt := 84) (by decide) (fun c_4 => ?_) (fun c_4 => ?_)
        · refine lv_iload_n hx hb dL_asks_84 rfl (lv_at hl 1 rfl) ?_
          refine lv_iconst (v := nI 5) hx hb dL_asks_85 (by decide) ?_
          refine z_icmp_ne hx hb (by omega) (by omega) dL_asks_86 (tgt := 97) (by decide) (fun c_5 => ?_) (fun c_5 => ?_)
          · refine lv_iload_n hx hb dL_asks_97 rfl (lv_at hl 1 rfl) ?_
            refine lv_bipush (v := nI 6) hx hb dL_asks_98 (by decide) ?_
            refine z_icmp_ne hx hb (by omega) (by omega) dL_asks_100 (tgt := 112) (by decide) (fun c_6 => ?_) (fun c_6 => ?_)
            · exfalso; omega
            · refine lv_aload_n hx hb dL_asks_103 rfl (lv_at hl 0 rfl) ?_
              refine lv_iload_n hx hb dL_asks_104 rfl (lv_at hl 2 rfl) ?_
              refine lv_iload_n hx hb dL_asks_105 rfl (lv_at hl 3 rfl) ?_
              have hP5 : va_P G vwCl ((zHs cy a sg) ++ []) _ := z_P_perm (z_permT (ww := []) (wu := []) (wr := []) (tl := (zHs cy a sg)) (n := 0) [] [] rfl rfl rfl (by decide)) hP
              have hD5 : va_D A ((zHs cy a sg) ++ []) := z_D_perm (z_permT (ww := []) (wu := []) (wr := []) (tl := (zHs cy a sg)) (n := 0) [] [] rfl rfl rfl (by decide)) hD
              refine z_cxP (wc := (zHs cy a sg)) (wr := []) (vx_runV (As := [.int (nI k), .int (nI co)]) (rest := []) ⟨hx, hb, hml, hown, hts⟩ (h_e3_credit l hl9 G cy wd fo _ _ a sg k (hkn) (hk8) (hpt) (hT) co (hco) (hcd) (hy9) (hnc) (hc9)) (cwV 2 hts gL_asks_X10_credit rfl rfl rfl (by decide +kernel) ⟨Nat.le_of_ble_eq_true rfl, Nat.le_of_ble_eq_true rfl⟩) (z_pVHP (ci := 11) hK hP5 hD5 hS hN hAN hWd hE rfl rfl 0 rfl) rfl rfl hl.1 rfl (lv_room (Nat.le_of_ble_eq_true rfl)) dL_asks_106 ⟨Nat.le_of_ble_eq_true rfl, Nat.le_of_ble_eq_true rfl⟩) hP5 hD5 hS hA (fun ce q9 H locs hP hD hS hce hcv hcl => ?_)
              replace hP : va_P G vwCl (zHs cy a sg) H := z_P_perm (List.Perm.symm (z_permT (ww := []) (wu := []) (wr := []) (tl := (zHs cy a sg)) (n := 0) [] [] rfl rfl rfl (by decide))) hP
              replace hD : va_D A (zHs cy a sg) := z_D_perm (List.Perm.symm (z_permT (ww := []) (wu := []) (wr := []) (tl := (zHs cy a sg)) (n := 0) [] [] rfl rfl rfl (by decide))) hD
              clear hP5 hD5
              refine vx_catch (own := RL) (name := zE 3) (E := zE 3) hown [⟨0, 147, 148, 46⟩, ⟨0, 147, 153, 49⟩] ⟨0, 147, 158, 52⟩ [] (htb.trans rfl) (List.forall_mem_cons.mpr ⟨Or.inr ⟨by decide, zE 1, hts _ (List.mem_of_getElem? (i := 1) (by decide +kernel)), hE.2.2.2.2.2 3 1 (by decide)⟩, (List.forall_mem_cons.mpr ⟨Or.inr ⟨by decide, zE 2, hts _ (List.mem_of_getElem? (i := 2) (by decide +kernel)), hE.2.2.2.2.2 3 2 (by decide)⟩, (fun z hz => nomatch hz)⟩)⟩) rfl (by decide) (hts _ (List.mem_of_getElem? (i := 3) (by decide +kernel))) (va_Nw.use rfl (hE.2.2.2.2.1 3)) hce hcv hcl ?_
              refine lv_astore (lv' := [(5, .ref q9), (0, .ref (a 0)), (1, .int (nI 6)), (2, .int (nI k)), (3, .int (nI co)), (4, .int d9)]) hx hb dL_asks_158 hl (by decide) rfl (fun ls hl => ?_)
              refine lv_ldc (v := (-70008)) hx hb hown (hts _ (List.mem_of_getElem? (i := 6) (by decide +kernel))) dL_asks_160 ?_
              exact z_rMi hx hb hr hlk dL_asks_162 sg (⟨rfl, rfl⟩) hP hD hK hS (Nat.le_of_ble_eq_true rfl) (Nat.le_of_ble_eq_true rfl)
          · exfalso; omega
        · exfalso; omega
      · exfalso; omega
    · exfalso; omega
  · exfalso; omega
set_option maxHeartbeats 4000000 in
set_option maxRecDepth 100000 in
theorem k_c_credit (l : Launch) (hl9 : l.stackTraces = false) (G : va_G) (cy : Nat → ClassId) (wd : Nat → Nat) (fo : Option Nat) (N0 sz0 : Nat) (a : Nat → Nat) (sg : zHo) (k : Nat) (hkn : k < s_np sg) (hk8 : k < 8) (hpt : (s_pt sg) k = some ((s_pa sg k) 0)) (hT : (s_T sg) ≤ 900) (co : Nat) (hco : co < 2 ^ 31) (hcd : ∀ i, (s_cd sg) i < 2 ^ 31) (hy9 : co % 97 = co / 97 % 97) (hnc : (s_nc sg) < 512) (hc9 : ¬ zHas (s_cd sg) (s_nc sg) co) (d9 : Int32) : Met l yL_asks wsL_asks ({ frames := 8, cells := 1, slots := 6, locals := 200 }) (zMH G cy wd fo N0 [.ref (a 0), .int (nI 6), .int (nI k), .int (nI co), .int d9] sz0 (zHs cy a sg)) (va_Qi (fun r s9 => r = (nI (co / 97 % 1000)) ∧ s9 = ((s_nc sg) + 1, s_np sg, s_T sg, s_pt sg, s_g sg, s_w9 sg, s_p9 sg, s_q9 sg, s_tf sg, s_tb sg, s_tr sg, s_ic sg, s_fl sg, s_ru sg, s_rs sg, s_w4 sg, s_p4 sg, s_q4 sg, (va_up (s_cd sg) (s_nc sg) co), zUp (s_P sg) k (q_kd (s_P sg k), q_fi (s_P sg k), q_la (s_P sg k), q_tk (s_P sg k), q_pc (s_P sg k), q_ds (s_P sg k), q_dd (s_P sg k), q_sz (s_P sg k), q_mu (s_P sg k), q_sh (s_P sg k), q_vo (s_P sg k), q_us (s_P sg k), q_ts (s_P sg k), q_td (s_P sg k), q_md (s_P sg k), q_hg (s_P sg k), (q_ow (s_P sg k)) + (-(nI (co / 97 % 1000))).toInt64, q_ce (s_P sg k), q_bi (s_P sg k)), s_pa sg)) (fun (u : zHo) t9 => zB G cy (va_A (zHs cy a sg) sz0) (zHs cy a u) t9) (va_A (zHs cy a sg) sz0)) 1 6 (va_A (zHs cy a sg) sz0) := by
  refine z_ofMH (cc := cL_asks) (maxL := 6) (ret := (some .int)) (Qc := (fun A => va_Qi (fun r s9 => r = (nI (co / 97 % 1000)) ∧ s9 = ((s_nc sg) + 1, s_np sg, s_T sg, s_pt sg, s_g sg, s_w9 sg, s_p9 sg, s_q9 sg, s_tf sg, s_tb sg, s_tr sg, s_ic sg, s_fl sg, s_ru sg, s_rs sg, s_w4 sg, s_p4 sg, s_q4 sg, (va_up (s_cd sg) (s_nc sg) co), zUp (s_P sg) k (q_kd (s_P sg k), q_fi (s_P sg k), q_la (s_P sg k), q_tk (s_P sg k), q_pc (s_P sg k), q_ds (s_P sg k), q_dd (s_P sg k), q_sz (s_P sg k), q_mu (s_P sg k), q_sh (s_P sg k), q_vo (s_P sg k), q_us (s_P sg k), q_ts (s_P sg k), q_td (s_P sg k), q_md (s_P sg k), q_hg (s_P sg k), (q_ow (s_P sg k)) + (-(nI (co / 97 % 1000))).toInt64, q_ce (s_P sg k), q_bi (s_P sg k)), s_pa sg)) (fun (u : zHo) t9 => zB G cy A (zHs cy a u) t9) A)) (by decide) rfl (Nat.le_of_ble_eq_true rfl) ?_
  intro p e s m below meth c ls A hx hb hml hr hts hown hlk hP hK hD hA hS hl hsz0 hN hAN hWd hE htb
  have hown : s.vm.findClass RL = some m.cls := hown
  have hl : lv_has ls 6 [(0, .ref (a 0)), (1, .int (nI 6)), (2, .int (nI k)), (3, .int (nI co)), (4, .int d9)] := hl
  refine lv_iload_n hx hb dL_asks_0 rfl (lv_at hl 1 rfl) ?_
  refine lv_if_ne hx hb dL_asks_1 (tgt := 13) (by decide) (fun _ => ?_) (fun q => absurd q (by decide))
  refine lv_iload_n hx hb dL_asks_13 rfl (lv_at hl 1 rfl) ?_
  refine lv_iconst (v := nI 1) hx hb dL_asks_14 (by decide) ?_
  refine z_icmp_ne hx hb (by omega) (by omega) dL_asks_15 (tgt := 26) (by decide) (fun c_1 => ?_) (fun c_1 => ?_)
  · refine lv_iload_n hx hb dL_asks_26 rfl (lv_at hl 1 rfl) ?_
    refine lv_iconst (v := nI 2) hx hb dL_asks_27 (by decide) ?_
    refine z_icmp_ne hx hb (by omega) (by omega) dL_asks_28 (tgt := 55) (by decide) (fun c_2 => ?_) (fun c_2 => ?_)
    · refine lv_iload_n hx hb dL_asks_55 rfl (lv_at hl 1 rfl) ?_
      refine lv_iconst (v := nI 3) hx hb dL_asks_56 (by decide) ?_
      refine z_icmp_ne hx hb (by omega) (by omega) dL_asks_57 (tgt := 71) (by decide) (fun c_3 => ?_) (fun c_3 => ?_)
      · refine lv_iload_n hx hb dL_asks_71 rfl (lv_at hl 1 rfl) ?_
        refine lv_iconst (v := nI 4) hx hb dL_asks_72 (by decide) ?_
        refine z_icmp_ne hx hb (by omega) (by omega) dL_asks_73 (tgt := 84) (by decide) (fun c_4 => ?_) (fun c_4 => ?_)
        · refine lv_iload_n hx hb dL_asks_84 rfl (lv_at hl 1 rfl) ?_
          refine lv_iconst (v := nI 5) hx hb dL_asks_85 (by decide) ?_
          refine z_icmp_ne hx hb (by omega) (by omega) dL_asks_86 (tgt := 97) (by decide) (fun c_5 => ?_) (fun c_5 => ?_)
          · refine lv_iload_n hx hb dL_asks_97 rfl (lv_at hl 1 rfl) ?_
            refine lv_bipush (v := nI 6) hx hb dL_asks_98 (by decide) ?_
            refine z_icmp_ne hx hb (by omega) (by omega) dL_asks_100 (tgt := 112) (by decide) (fun c_6 => ?_) (fun c_6 => ?_)
            · exfalso; omega
            · refine lv_aload_n hx hb dL_asks_103 rfl (lv_at hl 0 rfl) ?_
              refine lv_iload_n hx hb dL_asks_104 rfl (lv_at hl 2 rfl) ?_
              refine lv_iload_n hx hb dL_asks_105 rfl (lv_at hl 3 rfl) ?_
              have hP5 : va_P G vwCl ((zHs cy a sg) ++ []) _ := z_P_perm (z_permT (ww := []) (wu := []) (wr := []) (tl := (zHs cy a sg)) (n := 0) [] [] rfl rfl rfl (by decide)) hP
              have hD5 : va_D A ((zHs cy a sg) ++ []) := z_D_perm (z_permT (ww := []) (wu := []) (wr := []) (tl := (zHs cy a sg)) (n := 0) [] [] rfl rfl rfl (by decide)) hD
              refine z_ciP (wc := (zHs cy a sg)) (wr := []) (va_runV (As := [.int (nI k), .int (nI co)]) (rest := []) ⟨hx, hb, hml, hown, hts⟩ (h_c_credit l hl9 G cy wd fo _ _ a sg k (hkn) (hk8) (hpt) (hT) co (hco) (hcd) (hy9) (hnc) (hc9)) (cwV 2 hts gL_asks_X10_credit rfl rfl rfl (by decide +kernel) ⟨Nat.le_of_ble_eq_true rfl, Nat.le_of_ble_eq_true rfl⟩) (z_pVHP (ci := 11) hK hP5 hD5 hS hN hAN hWd hE rfl rfl 0 rfl) rfl rfl hl.1 rfl (lv_room (Nat.le_of_ble_eq_true rfl)) dL_asks_106 ⟨Nat.le_of_ble_eq_true rfl, Nat.le_of_ble_eq_true rfl⟩) hP5 hD5 hS hA (fun r_7 u H locs hr_7 hQ hD hS hz => ?_)
              obtain ⟨s9_8, rfl⟩ : ∃ z, z = u := ⟨_, rfl⟩
              try dsimp only at hr_7
              have hP : va_P G vwCl (zHs cy a s9_8) H := z_P_perm (List.Perm.symm (z_permT (ww := []) (wu := []) (wr := []) (tl := (zHs cy a s9_8)) (n := 0) [] [] rfl rfl rfl (by decide))) hQ
              have hD : va_D A (zHs cy a s9_8) := z_D_perm (List.Perm.symm (z_permT (ww := []) (wu := []) (wr := []) (tl := (zHs cy a s9_8)) (n := 0) [] [] rfl rfl rfl (by decide))) hD
              clear hQ hP5 hD5
              refine lv_goto (tgt := 147) hx hb dL_asks_109 (by decide) ?_
              exact z_rMi hx hb hr hlk dL_asks_147 s9_8 (hr_7) hP hD hK hS (Nat.le_of_ble_eq_true rfl) (Nat.le_of_ble_eq_true rfl)
          · exfalso; omega
        · exfalso; omega
      · exfalso; omega
    · exfalso; omega
  · exfalso; omega
set_option maxHeartbeats 4000000 in
set_option maxRecDepth 100000 in
theorem k_e1_settle (l : Launch) (hl9 : l.stackTraces = false) (G : va_G) (cy : Nat → ClassId) (wd : Nat → Nat) (fo : Option Nat) (N0 sz0 : Nat) (a : Nat → Nat) (sg : zHo) (hT : (s_T sg) ≤ 900) (x : Int32) (hx9 : ¬ (0 ≤ x.toInt ∧ x.toInt < ((s_T sg) : Int))) (b8 d9 : Int32) : Met l yL_asks wsL_asks ({ frames := 8, cells := 1, slots := 6, locals := 200 }) (zMH G cy wd fo N0 [.ref (a 0), .int (nI 7), .int x, .int b8, .int d9] sz0 (zHs cy a sg)) (va_Qi (fun r s9 => r = (-70007) ∧ s9 = sg) (fun (u : zHo) t9 => zB G cy (va_A (zHs cy a sg) sz0) (zHs cy a u) t9) (va_A (zHs cy a sg) sz0)) 1 6 (va_A (zHs cy a sg) sz0) := by
  refine z_ofMH (cc := cL_asks) (maxL := 6) (ret := (some .int)) (Qc := (fun A => va_Qi (fun r s9 => r = (-70007) ∧ s9 = sg) (fun (u : zHo) t9 => zB G cy A (zHs cy a u) t9) A)) (by decide) rfl (Nat.le_of_ble_eq_true rfl) ?_
  intro p e s m below meth c ls A hx hb hml hr hts hown hlk hP hK hD hA hS hl hsz0 hN hAN hWd hE htb
  have hown : s.vm.findClass RL = some m.cls := hown
  have hl : lv_has ls 6 [(0, .ref (a 0)), (1, .int (nI 7)), (2, .int x), (3, .int b8), (4, .int d9)] := hl
  refine lv_iload_n hx hb dL_asks_0 rfl (lv_at hl 1 rfl) ?_
  refine lv_if_ne hx hb dL_asks_1 (tgt := 13) (by decide) (fun _ => ?_) (fun q => absurd q (by decide))
  refine lv_iload_n hx hb dL_asks_13 rfl (lv_at hl 1 rfl) ?_
  refine lv_iconst (v := nI 1) hx hb dL_asks_14 (by decide) ?_
  refine z_icmp_ne hx hb (by omega) (by omega) dL_asks_15 (tgt := 26) (by decide) (fun c_1 => ?_) (fun c_1 => ?_)
  · refine lv_iload_n hx hb dL_asks_26 rfl (lv_at hl 1 rfl) ?_
    refine lv_iconst (v := nI 2) hx hb dL_asks_27 (by decide) ?_
    refine z_icmp_ne hx hb (by omega) (by omega) dL_asks_28 (tgt := 55) (by decide) (fun c_2 => ?_) (fun c_2 => ?_)
    · refine lv_iload_n hx hb dL_asks_55 rfl (lv_at hl 1 rfl) ?_
      refine lv_iconst (v := nI 3) hx hb dL_asks_56 (by decide) ?_
      refine z_icmp_ne hx hb (by omega) (by omega) dL_asks_57 (tgt := 71) (by decide) (fun c_3 => ?_) (fun c_3 => ?_)
      · refine lv_iload_n hx hb dL_asks_71 rfl (lv_at hl 1 rfl) ?_
        refine lv_iconst (v := nI 4) hx hb dL_asks_72 (by decide) ?_
        refine z_icmp_ne hx hb (by omega) (by omega) dL_asks_73 (tgt := 84) (by decide) (fun c_4 => ?_) (fun c_4 => ?_)
        · refine lv_iload_n hx hb dL_asks_84 rfl (lv_at hl 1 rfl) ?_
          refine lv_iconst (v := nI 5) hx hb dL_asks_85 (by decide) ?_
          refine z_icmp_ne hx hb (by omega) (by omega) dL_asks_86 (tgt := 97) (by decide) (fun c_5 => ?_) (fun c_5 => ?_)
          · refine lv_iload_n hx hb dL_asks_97 rfl (lv_at hl 1 rfl) ?_
            refine lv_bipush (v := nI 6) hx hb dL_asks_98 (by decide) ?_
            refine z_icmp_ne hx hb (by omega) (by omega) dL_asks_100 (tgt := 112) (by decide) (fun c_6 => ?_) (fun c_6 => ?_)
            · refine lv_iload_n hx hb dL_asks_112 rfl (lv_at hl 1 rfl) ?_
              refine lv_bipush (v := nI 7) hx hb dL_asks_113 (by decide) ?_
              refine z_icmp_ne hx hb (by omega) (by omega) dL_asks_115 (tgt := 126) (by decide) (fun c_7 => ?_) (fun c_7 => ?_)
              · exfalso; omega
              · refine lv_aload_n hx hb dL_asks_118 rfl (lv_at hl 0 rfl) ?_
                refine lv_iload_n hx hb dL_asks_119 rfl (lv_at hl 2 rfl) ?_
                have hP5 : va_P G vwCl ((zHs cy a sg) ++ []) _ := z_P_perm (z_permT (ww := []) (wu := []) (wr := []) (tl := (zHs cy a sg)) (n := 0) [] [] rfl rfl rfl (by decide)) hP
                have hD5 : va_D A ((zHs cy a sg) ++ []) := z_D_perm (z_permT (ww := []) (wu := []) (wr := []) (tl := (zHs cy a sg)) (n := 0) [] [] rfl rfl rfl (by decide)) hD
                refine z_cxP (wc := (zHs cy a sg)) (wr := []) (vx_runV (As := [.int x]) (rest := []) ⟨hx, hb, hml, hown, hts⟩ (h_e1_settle l hl9 G cy wd fo _ _ a sg (hT) x (hx9)) (cwV 1 hts gL_asks_X10_settle rfl rfl rfl (by decide +kernel) ⟨Nat.le_of_ble_eq_true rfl, Nat.le_of_ble_eq_true rfl⟩) (z_pVHP (ci := 11) hK hP5 hD5 hS hN hAN hWd hE rfl rfl 0 rfl) rfl rfl hl.1 rfl (lv_room (Nat.le_of_ble_eq_true rfl)) dL_asks_120 ⟨Nat.le_of_ble_eq_true rfl, Nat.le_of_ble_eq_true rfl⟩) hP5 hD5 hS hA (fun ce q9 H locs hP hD hS hce hcv hcl => ?_)
                replace hP : va_P G vwCl (zHs cy a sg) H := z_P_perm (List.Perm.symm (z_permT (ww := []) (wu := []) (wr := []) (tl := (zHs cy a sg)) (n := 0) [] [] rfl rfl rfl (by decide))) hP
                replace hD : va_D A (zHs cy a sg) := z_D_perm (List.Perm.symm (z_permT (ww := []) (wu := []) (wr := []) (tl := (zHs cy a sg)) (n := 0) [] [] rfl rfl rfl (by decide))) hD
                clear hP5 hD5
                refine vx_catch (own := RL) (name := zE 1) (E := zE 1) hown [] ⟨0, 147, 148, 46⟩ [⟨0, 147, 153, 49⟩, ⟨0, 147, 158, 52⟩] (htb.trans rfl) (fun z hz => nomatch hz) rfl (by decide) (hts _ (List.mem_of_getElem? (i := 1) (by decide +kernel))) (va_Nw.use rfl (hE.2.2.2.2.1 1)) hce hcv hcl ?_
                refine lv_astore (lv' := [(5, .ref q9), (0, .ref (a 0)), (1, .int (nI 7)), (2, .int x), (3, .int b8), (4, .int d9)]) hx hb dL_asks_148 hl (by decide) rfl (fun ls hl => ?_)
                refine lv_ldc (v := (-70007)) hx hb hown (hts _ (List.mem_of_getElem? (i := 4) (by decide +kernel))) dL_asks_150 ?_
                exact z_rMi hx hb hr hlk dL_asks_152 sg (⟨rfl, rfl⟩) hP hD hK hS (Nat.le_of_ble_eq_true rfl) (Nat.le_of_ble_eq_true rfl)
            · exfalso; omega
          · exfalso; omega
        · exfalso; omega
      · exfalso; omega
    · exfalso; omega
  · exfalso; omega
set_option maxHeartbeats 4000000 in
set_option maxRecDepth 100000 in
theorem k_e3_settle (l : Launch) (hl9 : l.stackTraces = false) (G : va_G) (cy : Nat → ClassId) (wd : Nat → Nat) (fo : Option Nat) (N0 sz0 : Nat) (a : Nat → Nat) (sg : zHo) (hT : (s_T sg) ≤ 900) (d : Nat) (hd : d < (s_T sg)) (hr9 : (s_ru sg) d = 3) (b8 d9 : Int32) : Met l yL_asks wsL_asks ({ frames := 8, cells := 1, slots := 6, locals := 200 }) (zMH G cy wd fo N0 [.ref (a 0), .int (nI 7), .int (nI d), .int b8, .int d9] sz0 (zHs cy a sg)) (va_Qi (fun r s9 => r = (-70008) ∧ s9 = sg) (fun (u : zHo) t9 => zB G cy (va_A (zHs cy a sg) sz0) (zHs cy a u) t9) (va_A (zHs cy a sg) sz0)) 1 6 (va_A (zHs cy a sg) sz0) := by
  refine z_ofMH (cc := cL_asks) (maxL := 6) (ret := (some .int)) (Qc := (fun A => va_Qi (fun r s9 => r = (-70008) ∧ s9 = sg) (fun (u : zHo) t9 => zB G cy A (zHs cy a u) t9) A)) (by decide) rfl (Nat.le_of_ble_eq_true rfl) ?_
  intro p e s m below meth c ls A hx hb hml hr hts hown hlk hP hK hD hA hS hl hsz0 hN hAN hWd hE htb
  have hown : s.vm.findClass RL = some m.cls := hown
  have hl : lv_has ls 6 [(0, .ref (a 0)), (1, .int (nI 7)), (2, .int (nI d)), (3, .int b8), (4, .int d9)] := hl
  refine lv_iload_n hx hb dL_asks_0 rfl (lv_at hl 1 rfl) ?_
  refine lv_if_ne hx hb dL_asks_1 (tgt := 13) (by decide) (fun _ => ?_) (fun q => absurd q (by decide))
  refine lv_iload_n hx hb dL_asks_13 rfl (lv_at hl 1 rfl) ?_
  refine lv_iconst (v := nI 1) hx hb dL_asks_14 (by decide) ?_
  refine z_icmp_ne hx hb (by omega) (by omega) dL_asks_15 (tgt := 26) (by decide) (fun c_1 => ?_) (fun c_1 => ?_)
  · refine lv_iload_n hx hb dL_asks_26 rfl (lv_at hl 1 rfl) ?_
    refine lv_iconst (v := nI 2) hx hb dL_asks_27 (by decide) ?_
    refine z_icmp_ne hx hb (by omega) (by omega) dL_asks_28 (tgt := 55) (by decide) (fun c_2 => ?_) (fun c_2 => ?_)
    · refine lv_iload_n hx hb dL_asks_55 rfl (lv_at hl 1 rfl) ?_
      refine lv_iconst (v := nI 3) hx hb dL_asks_56 (by decide) ?_
      refine z_icmp_ne hx hb (by omega) (by omega) dL_asks_57 (tgt := 71) (by decide) (fun c_3 => ?_) (fun c_3 => ?_)
      · refine lv_iload_n hx hb dL_asks_71 rfl (lv_at hl 1 rfl) ?_
        refine lv_iconst (v := nI 4) hx hb dL_asks_72 (by decide) ?_
        refine z_icmp_ne hx hb (by omega) (by omega) dL_asks_73 (tgt := 84) (by decide) (fun c_4 => ?_) (fun c_4 => ?_)
        · refine lv_iload_n hx hb dL_asks_84 rfl (lv_at hl 1 rfl) ?_
          refine lv_iconst (v := nI 5) hx hb dL_asks_85 (by decide) ?_
          refine z_icmp_ne hx hb (by omega) (by omega) dL_asks_86 (tgt := 97) (by decide) (fun c_5 => ?_) (fun c_5 => ?_)
          · refine lv_iload_n hx hb dL_asks_97 rfl (lv_at hl 1 rfl) ?_
            refine lv_bipush (v := nI 6) hx hb dL_asks_98 (by decide) ?_
            refine z_icmp_ne hx hb (by omega) (by omega) dL_asks_100 (tgt := 112) (by decide) (fun c_6 => ?_) (fun c_6 => ?_)
            · refine lv_iload_n hx hb dL_asks_112 rfl (lv_at hl 1 rfl) ?_
              refine lv_bipush (v := nI 7) hx hb dL_asks_113 (by decide) ?_
              refine z_icmp_ne hx hb (by omega) (by omega) dL_asks_115 (tgt := 126) (by decide) (fun c_7 => ?_) (fun c_7 => ?_)
              · exfalso; omega
              · refine lv_aload_n hx hb dL_asks_118 rfl (lv_at hl 0 rfl) ?_
                refine lv_iload_n hx hb dL_asks_119 rfl (lv_at hl 2 rfl) ?_
                have hP5 : va_P G vwCl ((zHs cy a sg) ++ []) _ := z_P_perm (z_permT (ww := []) (wu := []) (wr := []) (tl := (zHs cy a sg)) (n := 0) [] [] rfl rfl rfl (by decide)) hP
                have hD5 : va_D A ((zHs cy a sg) ++ []) := z_D_perm (z_permT (ww := []) (wu := []) (wr := []) (tl := (zHs cy a sg)) (n := 0) [] [] rfl rfl rfl (by decide)) hD
                refine z_cxP (wc := (zHs cy a sg)) (wr := []) (vx_runV (As := [.int (nI d)]) (rest := []) ⟨hx, hb, hml, hown, hts⟩ (h_e3_settle l hl9 G cy wd fo _ _ a sg (hT) d (hd) (hr9)) (cwV 1 hts gL_asks_X10_settle rfl rfl rfl (by decide +kernel) ⟨Nat.le_of_ble_eq_true rfl, Nat.le_of_ble_eq_true rfl⟩) (z_pVHP (ci := 11) hK hP5 hD5 hS hN hAN hWd hE rfl rfl 0 rfl) rfl rfl hl.1 rfl (lv_room (Nat.le_of_ble_eq_true rfl)) dL_asks_120 ⟨Nat.le_of_ble_eq_true rfl, Nat.le_of_ble_eq_true rfl⟩) hP5 hD5 hS hA (fun ce q9 H locs hP hD hS hce hcv hcl => ?_)
                replace hP : va_P G vwCl (zHs cy a sg) H := z_P_perm (List.Perm.symm (z_permT (ww := []) (wu := []) (wr := []) (tl := (zHs cy a sg)) (n := 0) [] [] rfl rfl rfl (by decide))) hP
                replace hD : va_D A (zHs cy a sg) := z_D_perm (List.Perm.symm (z_permT (ww := []) (wu := []) (wr := []) (tl := (zHs cy a sg)) (n := 0) [] [] rfl rfl rfl (by decide))) hD
                clear hP5 hD5
                refine vx_catch (own := RL) (name := zE 3) (E := zE 3) hown [⟨0, 147, 148, 46⟩, ⟨0, 147, 153, 49⟩] ⟨0, 147, 158, 52⟩ [] (htb.trans rfl) (List.forall_mem_cons.mpr ⟨Or.inr ⟨by decide, zE 1, hts _ (List.mem_of_getElem? (i := 1) (by decide +kernel)), hE.2.2.2.2.2 3 1 (by decide)⟩, (List.forall_mem_cons.mpr ⟨Or.inr ⟨by decide, zE 2, hts _ (List.mem_of_getElem? (i := 2) (by decide +kernel)), hE.2.2.2.2.2 3 2 (by decide)⟩, (fun z hz => nomatch hz)⟩)⟩) rfl (by decide) (hts _ (List.mem_of_getElem? (i := 3) (by decide +kernel))) (va_Nw.use rfl (hE.2.2.2.2.1 3)) hce hcv hcl ?_
                refine lv_astore (lv' := [(5, .ref q9), (0, .ref (a 0)), (1, .int (nI 7)), (2, .int (nI d)), (3, .int b8), (4, .int d9)]) hx hb dL_asks_158 hl (by decide) rfl (fun ls hl => ?_)
                refine lv_ldc (v := (-70008)) hx hb hown (hts _ (List.mem_of_getElem? (i := 6) (by decide +kernel))) dL_asks_160 ?_
                exact z_rMi hx hb hr hlk dL_asks_162 sg (⟨rfl, rfl⟩) hP hD hK hS (Nat.le_of_ble_eq_true rfl) (Nat.le_of_ble_eq_true rfl)
            · exfalso; omega
          · exfalso; omega
        · exfalso; omega
      · exfalso; omega
    · exfalso; omega
  · exfalso; omega
set_option maxHeartbeats 4000000 in
set_option maxRecDepth 100000 in
theorem k_c_settle (l : Launch) (hl9 : l.stackTraces = false) (G : va_G) (cy : Nat → ClassId) (wd : Nat → Nat) (fo : Option Nat) (N0 sz0 : Nat) (a : Nat → Nat) (sg : zHo) (hnp : (s_np sg) ≤ 8) (hpt : ∀ k, (s_pt sg) k = if k < (s_np sg) then some ((s_pa sg) k 0) else none) (hT : (s_T sg) ≤ 900) (d : Nat) (hd : d < (s_T sg)) (hg9 : ∀ d, (s_g sg) d ≤ 30) (hru : (s_ru sg) d < 3) (hfl : (s_fl sg) d ≤ 1000000000) (hX : ∀ k, k < (s_np sg) → q_kd ((s_P sg) k) < 3 ∧ q_hg ((s_P sg) k) d < 4 ∧ q_la ((s_P sg) k) < 1000 ∧ q_pc ((s_P sg) k) < 2 ^ 31 ∧ q_fi ((s_P sg) k) < 1000) (hw9 : z_sm (zVs (s_np sg) (s_P sg) (s_g sg) d (z_fill (s_w4 sg) 0 0 4) 8) 0 4 ≤ 1600000000) (b8 d9 : Int32) : Met l yL_asks wsL_asks ({ frames := 8, cells := 1, slots := 6, locals := 200 }) (zMH G cy wd fo N0 [.ref (a 0), .int (nI 7), .int (nI d), .int b8, .int d9] sz0 (zHs cy a sg)) (va_Qi (fun r s9 => r = (nI ((s_ru sg) d + 1)) ∧ ∃ (w5 : Nat → Nat) (p5 : Nat → Nat) (q5 : Nat → Nat), s9 = (s_nc sg, s_np sg, s_T sg, s_pt sg, s_g sg, s_w9 sg, s_p9 sg, s_q9 sg, s_tf sg, s_tb sg, s_tr sg, s_ic sg, s_fl sg, va_up (s_ru sg) d (s_ru sg d + 1), (zSt (s_fl sg) (zVs (s_np sg) (s_P sg) (s_g sg) d (z_fill (s_w4 sg) 0 0 4) 8) (s_rs sg) d), w5, p5, q5, s_cd sg, s_P sg, s_pa sg)) (fun (u : zHo) t9 => zB G cy (va_A (zHs cy a sg) sz0) (zHs cy a u) t9) (va_A (zHs cy a sg) sz0)) 1 6 (va_A (zHs cy a sg) sz0) := by
  refine z_ofMH (cc := cL_asks) (maxL := 6) (ret := (some .int)) (Qc := (fun A => va_Qi (fun r s9 => r = (nI ((s_ru sg) d + 1)) ∧ ∃ (w5 : Nat → Nat) (p5 : Nat → Nat) (q5 : Nat → Nat), s9 = (s_nc sg, s_np sg, s_T sg, s_pt sg, s_g sg, s_w9 sg, s_p9 sg, s_q9 sg, s_tf sg, s_tb sg, s_tr sg, s_ic sg, s_fl sg, va_up (s_ru sg) d (s_ru sg d + 1), (zSt (s_fl sg) (zVs (s_np sg) (s_P sg) (s_g sg) d (z_fill (s_w4 sg) 0 0 4) 8) (s_rs sg) d), w5, p5, q5, s_cd sg, s_P sg, s_pa sg)) (fun (u : zHo) t9 => zB G cy A (zHs cy a u) t9) A)) (by decide) rfl (Nat.le_of_ble_eq_true rfl) ?_
  intro p e s m below meth c ls A hx hb hml hr hts hown hlk hP hK hD hA hS hl hsz0 hN hAN hWd hE htb
  have hown : s.vm.findClass RL = some m.cls := hown
  have hl : lv_has ls 6 [(0, .ref (a 0)), (1, .int (nI 7)), (2, .int (nI d)), (3, .int b8), (4, .int d9)] := hl
  refine lv_iload_n hx hb dL_asks_0 rfl (lv_at hl 1 rfl) ?_
  refine lv_if_ne hx hb dL_asks_1 (tgt := 13) (by decide) (fun _ => ?_) (fun q => absurd q (by decide))
  refine lv_iload_n hx hb dL_asks_13 rfl (lv_at hl 1 rfl) ?_
  refine lv_iconst (v := nI 1) hx hb dL_asks_14 (by decide) ?_
  refine z_icmp_ne hx hb (by omega) (by omega) dL_asks_15 (tgt := 26) (by decide) (fun c_1 => ?_) (fun c_1 => ?_)
  · refine lv_iload_n hx hb dL_asks_26 rfl (lv_at hl 1 rfl) ?_
    refine lv_iconst (v := nI 2) hx hb dL_asks_27 (by decide) ?_
    refine z_icmp_ne hx hb (by omega) (by omega) dL_asks_28 (tgt := 55) (by decide) (fun c_2 => ?_) (fun c_2 => ?_)
    · refine lv_iload_n hx hb dL_asks_55 rfl (lv_at hl 1 rfl) ?_
      refine lv_iconst (v := nI 3) hx hb dL_asks_56 (by decide) ?_
      refine z_icmp_ne hx hb (by omega) (by omega) dL_asks_57 (tgt := 71) (by decide) (fun c_3 => ?_) (fun c_3 => ?_)
      · refine lv_iload_n hx hb dL_asks_71 rfl (lv_at hl 1 rfl) ?_
        refine lv_iconst (v := nI 4) hx hb dL_asks_72 (by decide) ?_
        refine z_icmp_ne hx hb (by omega) (by omega) dL_asks_73 (tgt := 84) (by decide) (fun c_4 => ?_) (fun c_4 => ?_)
        · refine lv_iload_n hx hb dL_asks_84 rfl (lv_at hl 1 rfl) ?_
          refine lv_iconst (v := nI 5) hx hb dL_asks_85 (by decide) ?_
          refine z_icmp_ne hx hb (by omega) (by omega) dL_asks_86 (tgt := 97) (by decide) (fun c_5 => ?_) (fun c_5 => ?_)
          · refine lv_iload_n hx hb dL_asks_97 rfl (lv_at hl 1 rfl) ?_
            refine lv_bipush (v := nI 6) hx hb dL_asks_98 (by decide) ?_
            refine z_icmp_ne hx hb (by omega) (by omega) dL_asks_100 (tgt := 112) (by decide) (fun c_6 => ?_) (fun c_6 => ?_)
            · refine lv_iload_n hx hb dL_asks_112 rfl (lv_at hl 1 rfl) ?_
              refine lv_bipush (v := nI 7) hx hb dL_asks_113 (by decide) ?_
              refine z_icmp_ne hx hb (by omega) (by omega) dL_asks_115 (tgt := 126) (by decide) (fun c_7 => ?_) (fun c_7 => ?_)
              · exfalso; omega
              · refine lv_aload_n hx hb dL_asks_118 rfl (lv_at hl 0 rfl) ?_
                refine lv_iload_n hx hb dL_asks_119 rfl (lv_at hl 2 rfl) ?_
                have hP5 : va_P G vwCl ((zHs cy a sg) ++ []) _ := z_P_perm (z_permT (ww := []) (wu := []) (wr := []) (tl := (zHs cy a sg)) (n := 0) [] [] rfl rfl rfl (by decide)) hP
                have hD5 : va_D A ((zHs cy a sg) ++ []) := z_D_perm (z_permT (ww := []) (wu := []) (wr := []) (tl := (zHs cy a sg)) (n := 0) [] [] rfl rfl rfl (by decide)) hD
                refine z_ciP (wc := (zHs cy a sg)) (wr := []) (va_runV (As := [.int (nI d)]) (rest := []) ⟨hx, hb, hml, hown, hts⟩ (h_c_settle l hl9 G cy wd fo _ _ a sg (hnp) (hpt) (hT) d (hd) (hg9) (hru) (hfl) (hX) (hw9)) (cwV 1 hts gL_asks_X10_settle rfl rfl rfl (by decide +kernel) ⟨Nat.le_of_ble_eq_true rfl, Nat.le_of_ble_eq_true rfl⟩) (z_pVHP (ci := 11) hK hP5 hD5 hS hN hAN hWd hE rfl rfl 0 rfl) rfl rfl hl.1 rfl (lv_room (Nat.le_of_ble_eq_true rfl)) dL_asks_120 ⟨Nat.le_of_ble_eq_true rfl, Nat.le_of_ble_eq_true rfl⟩) hP5 hD5 hS hA (fun r_8 u H locs hr_8 hQ hD hS hz => ?_)
                obtain ⟨s9_9, rfl⟩ : ∃ z, z = u := ⟨_, rfl⟩
                try dsimp only at hr_8
                have hP : va_P G vwCl (zHs cy a s9_9) H := z_P_perm (List.Perm.symm (z_permT (ww := []) (wu := []) (wr := []) (tl := (zHs cy a s9_9)) (n := 0) [] [] rfl rfl rfl (by decide))) hQ
                have hD : va_D A (zHs cy a s9_9) := z_D_perm (List.Perm.symm (z_permT (ww := []) (wu := []) (wr := []) (tl := (zHs cy a s9_9)) (n := 0) [] [] rfl rfl rfl (by decide))) hD
                clear hQ hP5 hD5
                refine lv_goto (tgt := 147) hx hb dL_asks_123 (by decide) ?_
                exact z_rMi hx hb hr hlk dL_asks_147 s9_9 (hr_8) hP hD hK hS (Nat.le_of_ble_eq_true rfl) (Nat.le_of_ble_eq_true rfl)
            · exfalso; omega
          · exfalso; omega
        · exfalso; omega
      · exfalso; omega
    · exfalso; omega
  · exfalso; omega
set_option maxHeartbeats 4000000 in
set_option maxRecDepth 100000 in
theorem k_e3_inflow (l : Launch) (hl9 : l.stackTraces = false) (G : va_G) (cy : Nat → ClassId) (wd : Nat → Nat) (fo : Option Nat) (N0 sz0 : Nat) (a : Nat → Nat) (sg : zHo) (hT : (s_T sg) ≤ 900) (d : Nat) (u9 : Nat) (hd : d < (s_T sg)) (hu : u9 ≤ 1000000000) (hr9 : 0 < (s_ru sg) d) (hr8 : (s_ru sg) d ≤ 3) (d9 : Int32) : Met l yL_asks wsL_asks ({ frames := 8, cells := 1, slots := 6, locals := 200 }) (zMH G cy wd fo N0 [.ref (a 0), .int (nI 8), .int (nI d), .int (nI u9), .int d9] sz0 (zHs cy a sg)) (va_Qi (fun r s9 => r = (-70008) ∧ s9 = sg) (fun (u : zHo) t9 => zB G cy (va_A (zHs cy a sg) sz0) (zHs cy a u) t9) (va_A (zHs cy a sg) sz0)) 1 6 (va_A (zHs cy a sg) sz0) := by
  refine z_ofMH (cc := cL_asks) (maxL := 6) (ret := (some .int)) (Qc := (fun A => va_Qi (fun r s9 => r = (-70008) ∧ s9 = sg) (fun (u : zHo) t9 => zB G cy A (zHs cy a u) t9) A)) (by decide) rfl (Nat.le_of_ble_eq_true rfl) ?_
  intro p e s m below meth c ls A hx hb hml hr hts hown hlk hP hK hD hA hS hl hsz0 hN hAN hWd hE htb
  have hown : s.vm.findClass RL = some m.cls := hown
  have hl : lv_has ls 6 [(0, .ref (a 0)), (1, .int (nI 8)), (2, .int (nI d)), (3, .int (nI u9)), (4, .int d9)] := hl
  refine lv_iload_n hx hb dL_asks_0 rfl (lv_at hl 1 rfl) ?_
  refine lv_if_ne hx hb dL_asks_1 (tgt := 13) (by decide) (fun _ => ?_) (fun q => absurd q (by decide))
  refine lv_iload_n hx hb dL_asks_13 rfl (lv_at hl 1 rfl) ?_
  refine lv_iconst (v := nI 1) hx hb dL_asks_14 (by decide) ?_
  refine z_icmp_ne hx hb (by omega) (by omega) dL_asks_15 (tgt := 26) (by decide) (fun c_1 => ?_) (fun c_1 => ?_)
  · refine lv_iload_n hx hb dL_asks_26 rfl (lv_at hl 1 rfl) ?_
    refine lv_iconst (v := nI 2) hx hb dL_asks_27 (by decide) ?_
    refine z_icmp_ne hx hb (by omega) (by omega) dL_asks_28 (tgt := 55) (by decide) (fun c_2 => ?_) (fun c_2 => ?_)
    · refine lv_iload_n hx hb dL_asks_55 rfl (lv_at hl 1 rfl) ?_
      refine lv_iconst (v := nI 3) hx hb dL_asks_56 (by decide) ?_
      refine z_icmp_ne hx hb (by omega) (by omega) dL_asks_57 (tgt := 71) (by decide) (fun c_3 => ?_) (fun c_3 => ?_)
      · refine lv_iload_n hx hb dL_asks_71 rfl (lv_at hl 1 rfl) ?_
        refine lv_iconst (v := nI 4) hx hb dL_asks_72 (by decide) ?_
        refine z_icmp_ne hx hb (by omega) (by omega) dL_asks_73 (tgt := 84) (by decide) (fun c_4 => ?_) (fun c_4 => ?_)
        · refine lv_iload_n hx hb dL_asks_84 rfl (lv_at hl 1 rfl) ?_
          refine lv_iconst (v := nI 5) hx hb dL_asks_85 (by decide) ?_
          refine z_icmp_ne hx hb (by omega) (by omega) dL_asks_86 (tgt := 97) (by decide) (fun c_5 => ?_) (fun c_5 => ?_)
          · refine lv_iload_n hx hb dL_asks_97 rfl (lv_at hl 1 rfl) ?_
            refine lv_bipush (v := nI 6) hx hb dL_asks_98 (by decide) ?_
            refine z_icmp_ne hx hb (by omega) (by omega) dL_asks_100 (tgt := 112) (by decide) (fun c_6 => ?_) (fun c_6 => ?_)
            · refine lv_iload_n hx hb dL_asks_112 rfl (lv_at hl 1 rfl) ?_
              refine lv_bipush (v := nI 7) hx hb dL_asks_113 (by decide) ?_
              refine z_icmp_ne hx hb (by omega) (by omega) dL_asks_115 (tgt := 126) (by decide) (fun c_7 => ?_) (fun c_7 => ?_)
              · refine lv_iload_n hx hb dL_asks_126 rfl (lv_at hl 1 rfl) ?_
                refine lv_bipush (v := nI 8) hx hb dL_asks_127 (by decide) ?_
                refine z_icmp_ne hx hb (by omega) (by omega) dL_asks_129 (tgt := 141) (by decide) (fun c_8 => ?_) (fun c_8 => ?_)
                · exfalso; omega
                · refine lv_aload_n hx hb dL_asks_132 rfl (lv_at hl 0 rfl) ?_
                  refine lv_iload_n hx hb dL_asks_133 rfl (lv_at hl 2 rfl) ?_
                  refine lv_iload_n hx hb dL_asks_134 rfl (lv_at hl 3 rfl) ?_
                  have hP5 : va_P G vwCl ((zHs cy a sg) ++ []) _ := z_P_perm (z_permT (ww := []) (wu := []) (wr := []) (tl := (zHs cy a sg)) (n := 0) [] [] rfl rfl rfl (by decide)) hP
                  have hD5 : va_D A ((zHs cy a sg) ++ []) := z_D_perm (z_permT (ww := []) (wu := []) (wr := []) (tl := (zHs cy a sg)) (n := 0) [] [] rfl rfl rfl (by decide)) hD
                  refine z_cxP (wc := (zHs cy a sg)) (wr := []) (vx_runV (As := [.int (nI d), .int (nI u9)]) (rest := []) ⟨hx, hb, hml, hown, hts⟩ (h_e3_inflow l hl9 G cy wd fo _ _ a sg (hT) d u9 (hd) (hu) (hr9) (hr8)) (cwV 2 hts gL_asks_X10_inflow rfl rfl rfl (by decide +kernel) ⟨Nat.le_of_ble_eq_true rfl, Nat.le_of_ble_eq_true rfl⟩) (z_pVHP (ci := 11) hK hP5 hD5 hS hN hAN hWd hE rfl rfl 0 rfl) rfl rfl hl.1 rfl (lv_room (Nat.le_of_ble_eq_true rfl)) dL_asks_135 ⟨Nat.le_of_ble_eq_true rfl, Nat.le_of_ble_eq_true rfl⟩) hP5 hD5 hS hA (fun ce q9 H locs hP hD hS hce hcv hcl => ?_)
                  replace hP : va_P G vwCl (zHs cy a sg) H := z_P_perm (List.Perm.symm (z_permT (ww := []) (wu := []) (wr := []) (tl := (zHs cy a sg)) (n := 0) [] [] rfl rfl rfl (by decide))) hP
                  replace hD : va_D A (zHs cy a sg) := z_D_perm (List.Perm.symm (z_permT (ww := []) (wu := []) (wr := []) (tl := (zHs cy a sg)) (n := 0) [] [] rfl rfl rfl (by decide))) hD
                  clear hP5 hD5
                  refine vx_catch (own := RL) (name := zE 3) (E := zE 3) hown [⟨0, 147, 148, 46⟩, ⟨0, 147, 153, 49⟩] ⟨0, 147, 158, 52⟩ [] (htb.trans rfl) (List.forall_mem_cons.mpr ⟨Or.inr ⟨by decide, zE 1, hts _ (List.mem_of_getElem? (i := 1) (by decide +kernel)), hE.2.2.2.2.2 3 1 (by decide)⟩, (List.forall_mem_cons.mpr ⟨Or.inr ⟨by decide, zE 2, hts _ (List.mem_of_getElem? (i := 2) (by decide +kernel)), hE.2.2.2.2.2 3 2 (by decide)⟩, (fun z hz => nomatch hz)⟩)⟩) rfl (by decide) (hts _ (List.mem_of_getElem? (i := 3) (by decide +kernel))) (va_Nw.use rfl (hE.2.2.2.2.1 3)) hce hcv hcl ?_
                  refine lv_astore (lv' := [(5, .ref q9), (0, .ref (a 0)), (1, .int (nI 8)), (2, .int (nI d)), (3, .int (nI u9)), (4, .int d9)]) hx hb dL_asks_158 hl (by decide) rfl (fun ls hl => ?_)
                  refine lv_ldc (v := (-70008)) hx hb hown (hts _ (List.mem_of_getElem? (i := 6) (by decide +kernel))) dL_asks_160 ?_
                  exact z_rMi hx hb hr hlk dL_asks_162 sg (⟨rfl, rfl⟩) hP hD hK hS (Nat.le_of_ble_eq_true rfl) (Nat.le_of_ble_eq_true rfl)
              · exfalso; omega
            · exfalso; omega
          · exfalso; omega
        · exfalso; omega
      · exfalso; omega
    · exfalso; omega
  · exfalso; omega
set_option maxHeartbeats 4000000 in
set_option maxRecDepth 100000 in
theorem k_c_inflow (l : Launch) (hl9 : l.stackTraces = false) (G : va_G) (cy : Nat → ClassId) (wd : Nat → Nat) (fo : Option Nat) (N0 sz0 : Nat) (a : Nat → Nat) (sg : zHo) (hT : (s_T sg) ≤ 900) (d : Nat) (u9 : Nat) (hd : d < (s_T sg)) (hu : u9 ≤ 1000000000) (hr9 : (s_ru sg) d = 0) (d9 : Int32) : Met l yL_asks wsL_asks ({ frames := 8, cells := 1, slots := 6, locals := 200 }) (zMH G cy wd fo N0 [.ref (a 0), .int (nI 8), .int (nI d), .int (nI u9), .int d9] sz0 (zHs cy a sg)) (va_Qi (fun r s9 => r = (nI ((s_fl sg) d)) ∧ s9 = (s_nc sg, s_np sg, s_T sg, s_pt sg, s_g sg, s_w9 sg, s_p9 sg, s_q9 sg, s_tf sg, s_tb sg, s_tr sg, s_ic sg, (va_up (s_fl sg) d u9), s_ru sg, s_rs sg, s_w4 sg, s_p4 sg, s_q4 sg, s_cd sg, s_P sg, s_pa sg)) (fun (u : zHo) t9 => zB G cy (va_A (zHs cy a sg) sz0) (zHs cy a u) t9) (va_A (zHs cy a sg) sz0)) 1 6 (va_A (zHs cy a sg) sz0) := by
  refine z_ofMH (cc := cL_asks) (maxL := 6) (ret := (some .int)) (Qc := (fun A => va_Qi (fun r s9 => r = (nI ((s_fl sg) d)) ∧ s9 = (s_nc sg, s_np sg, s_T sg, s_pt sg, s_g sg, s_w9 sg, s_p9 sg, s_q9 sg, s_tf sg, s_tb sg, s_tr sg, s_ic sg, (va_up (s_fl sg) d u9), s_ru sg, s_rs sg, s_w4 sg, s_p4 sg, s_q4 sg, s_cd sg, s_P sg, s_pa sg)) (fun (u : zHo) t9 => zB G cy A (zHs cy a u) t9) A)) (by decide) rfl (Nat.le_of_ble_eq_true rfl) ?_
  intro p e s m below meth c ls A hx hb hml hr hts hown hlk hP hK hD hA hS hl hsz0 hN hAN hWd hE htb
  have hown : s.vm.findClass RL = some m.cls := hown
  have hl : lv_has ls 6 [(0, .ref (a 0)), (1, .int (nI 8)), (2, .int (nI d)), (3, .int (nI u9)), (4, .int d9)] := hl
  refine lv_iload_n hx hb dL_asks_0 rfl (lv_at hl 1 rfl) ?_
  refine lv_if_ne hx hb dL_asks_1 (tgt := 13) (by decide) (fun _ => ?_) (fun q => absurd q (by decide))
  refine lv_iload_n hx hb dL_asks_13 rfl (lv_at hl 1 rfl) ?_
  refine lv_iconst (v := nI 1) hx hb dL_asks_14 (by decide) ?_
  refine z_icmp_ne hx hb (by omega) (by omega) dL_asks_15 (tgt := 26) (by decide) (fun c_1 => ?_) (fun c_1 => ?_)
  · refine lv_iload_n hx hb dL_asks_26 rfl (lv_at hl 1 rfl) ?_
    refine lv_iconst (v := nI 2) hx hb dL_asks_27 (by decide) ?_
    refine z_icmp_ne hx hb (by omega) (by omega) dL_asks_28 (tgt := 55) (by decide) (fun c_2 => ?_) (fun c_2 => ?_)
    · refine lv_iload_n hx hb dL_asks_55 rfl (lv_at hl 1 rfl) ?_
      refine lv_iconst (v := nI 3) hx hb dL_asks_56 (by decide) ?_
      refine z_icmp_ne hx hb (by omega) (by omega) dL_asks_57 (tgt := 71) (by decide) (fun c_3 => ?_) (fun c_3 => ?_)
      · refine lv_iload_n hx hb dL_asks_71 rfl (lv_at hl 1 rfl) ?_
        refine lv_iconst (v := nI 4) hx hb dL_asks_72 (by decide) ?_
        refine z_icmp_ne hx hb (by omega) (by omega) dL_asks_73 (tgt := 84) (by decide) (fun c_4 => ?_) (fun c_4 => ?_)
        · refine lv_iload_n hx hb dL_asks_84 rfl (lv_at hl 1 rfl) ?_
          refine lv_iconst (v := nI 5) hx hb dL_asks_85 (by decide) ?_
          refine z_icmp_ne hx hb (by omega) (by omega) dL_asks_86 (tgt := 97) (by decide) (fun c_5 => ?_) (fun c_5 => ?_)
          · refine lv_iload_n hx hb dL_asks_97 rfl (lv_at hl 1 rfl) ?_
            refine lv_bipush (v := nI 6) hx hb dL_asks_98 (by decide) ?_
            refine z_icmp_ne hx hb (by omega) (by omega) dL_asks_100 (tgt := 112) (by decide) (fun c_6 => ?_) (fun c_6 => ?_)
            · refine lv_iload_n hx hb dL_asks_112 rfl (lv_at hl 1 rfl) ?_
              refine lv_bipush (v := nI 7) hx hb dL_asks_113 (by decide) ?_
              refine z_icmp_ne hx hb (by omega) (by omega) dL_asks_115 (tgt := 126) (by decide) (fun c_7 => ?_) (fun c_7 => ?_)
              · refine lv_iload_n hx hb dL_asks_126 rfl (lv_at hl 1 rfl) ?_
                refine lv_bipush (v := nI 8) hx hb dL_asks_127 (by decide) ?_
                refine z_icmp_ne hx hb (by omega) (by omega) dL_asks_129 (tgt := 141) (by decide) (fun c_8 => ?_) (fun c_8 => ?_)
                · exfalso; omega
                · refine lv_aload_n hx hb dL_asks_132 rfl (lv_at hl 0 rfl) ?_
                  refine lv_iload_n hx hb dL_asks_133 rfl (lv_at hl 2 rfl) ?_
                  refine lv_iload_n hx hb dL_asks_134 rfl (lv_at hl 3 rfl) ?_
                  have hP5 : va_P G vwCl ((zHs cy a sg) ++ []) _ := z_P_perm (z_permT (ww := []) (wu := []) (wr := []) (tl := (zHs cy a sg)) (n := 0) [] [] rfl rfl rfl (by decide)) hP
                  have hD5 : va_D A ((zHs cy a sg) ++ []) := z_D_perm (z_permT (ww := []) (wu := []) (wr := []) (tl := (zHs cy a sg)) (n := 0) [] [] rfl rfl rfl (by decide)) hD
                  refine z_ciP (wc := (zHs cy a sg)) (wr := []) (va_runV (As := [.int (nI d), .int (nI u9)]) (rest := []) ⟨hx, hb, hml, hown, hts⟩ (h_c_inflow l hl9 G cy wd fo _ _ a sg (hT) d u9 (hd) (hu) (hr9)) (cwV 2 hts gL_asks_X10_inflow rfl rfl rfl (by decide +kernel) ⟨Nat.le_of_ble_eq_true rfl, Nat.le_of_ble_eq_true rfl⟩) (z_pVHP (ci := 11) hK hP5 hD5 hS hN hAN hWd hE rfl rfl 0 rfl) rfl rfl hl.1 rfl (lv_room (Nat.le_of_ble_eq_true rfl)) dL_asks_135 ⟨Nat.le_of_ble_eq_true rfl, Nat.le_of_ble_eq_true rfl⟩) hP5 hD5 hS hA (fun r_9 u H locs hr_9 hQ hD hS hz => ?_)
                  obtain ⟨s9_10, rfl⟩ : ∃ z, z = u := ⟨_, rfl⟩
                  try dsimp only at hr_9
                  have hP : va_P G vwCl (zHs cy a s9_10) H := z_P_perm (List.Perm.symm (z_permT (ww := []) (wu := []) (wr := []) (tl := (zHs cy a s9_10)) (n := 0) [] [] rfl rfl rfl (by decide))) hQ
                  have hD : va_D A (zHs cy a s9_10) := z_D_perm (List.Perm.symm (z_permT (ww := []) (wu := []) (wr := []) (tl := (zHs cy a s9_10)) (n := 0) [] [] rfl rfl rfl (by decide))) hD
                  clear hQ hP5 hD5
                  refine lv_goto (tgt := 147) hx hb dL_asks_138 (by decide) ?_
                  exact z_rMi hx hb hr hlk dL_asks_147 s9_10 (hr_9) hP hD hK hS (Nat.le_of_ble_eq_true rfl) (Nat.le_of_ble_eq_true rfl)
              · exfalso; omega
            · exfalso; omega
          · exfalso; omega
        · exfalso; omega
      · exfalso; omega
    · exfalso; omega
  · exfalso; omega
set_option maxHeartbeats 4000000 in
set_option maxRecDepth 100000 in
theorem k_e1b_volume (l : Launch) (hl9 : l.stackTraces = false) (G : va_G) (cy : Nat → ClassId) (wd : Nat → Nat) (fo : Option Nat) (N0 sz0 : Nat) (a : Nat → Nat) (sg : zHo) (k : Nat) (hkn : k < s_np sg) (hk8 : k < 8) (hpt : (s_pt sg) k = some ((s_pa sg k) 0)) (hT : (s_T sg) ≤ 900) (y : Int32) (hfi : (q_fi (s_P sg k)) < 1000) (hy9 : ¬ (((q_fi (s_P sg k)) : Int) ≤ y.toInt ∧ y.toInt < ((s_T sg) : Int))) (d9 : Int32) : Met l yL_asks wsL_asks ({ frames := 8, cells := 1, slots := 6, locals := 200 }) (zMH G cy wd fo N0 [.ref (a 0), .int (nI 9), .int (nI k), .int y, .int d9] sz0 (zHs cy a sg)) (va_Qi (fun r s9 => r = (-70007) ∧ s9 = sg) (fun (u : zHo) t9 => zB G cy (va_A (zHs cy a sg) sz0) (zHs cy a u) t9) (va_A (zHs cy a sg) sz0)) 1 6 (va_A (zHs cy a sg) sz0) := by
  refine z_ofMH (cc := cL_asks) (maxL := 6) (ret := (some .int)) (Qc := (fun A => va_Qi (fun r s9 => r = (-70007) ∧ s9 = sg) (fun (u : zHo) t9 => zB G cy A (zHs cy a u) t9) A)) (by decide) rfl (Nat.le_of_ble_eq_true rfl) ?_
  intro p e s m below meth c ls A hx hb hml hr hts hown hlk hP hK hD hA hS hl hsz0 hN hAN hWd hE htb
  have hown : s.vm.findClass RL = some m.cls := hown
  have hl : lv_has ls 6 [(0, .ref (a 0)), (1, .int (nI 9)), (2, .int (nI k)), (3, .int y), (4, .int d9)] := hl
  refine lv_iload_n hx hb dL_asks_0 rfl (lv_at hl 1 rfl) ?_
  refine lv_if_ne hx hb dL_asks_1 (tgt := 13) (by decide) (fun _ => ?_) (fun q => absurd q (by decide))
  refine lv_iload_n hx hb dL_asks_13 rfl (lv_at hl 1 rfl) ?_
  refine lv_iconst (v := nI 1) hx hb dL_asks_14 (by decide) ?_
  refine z_icmp_ne hx hb (by omega) (by omega) dL_asks_15 (tgt := 26) (by decide) (fun c_1 => ?_) (fun c_1 => ?_)
  · refine lv_iload_n hx hb dL_asks_26 rfl (lv_at hl 1 rfl) ?_
    refine lv_iconst (v := nI 2) hx hb dL_asks_27 (by decide) ?_
    refine z_icmp_ne hx hb (by omega) (by omega) dL_asks_28 (tgt := 55) (by decide) (fun c_2 => ?_) (fun c_2 => ?_)
    · refine lv_iload_n hx hb dL_asks_55 rfl (lv_at hl 1 rfl) ?_
      refine lv_iconst (v := nI 3) hx hb dL_asks_56 (by decide) ?_
      refine z_icmp_ne hx hb (by omega) (by omega) dL_asks_57 (tgt := 71) (by decide) (fun c_3 => ?_) (fun c_3 => ?_)
      · refine lv_iload_n hx hb dL_asks_71 rfl (lv_at hl 1 rfl) ?_
        refine lv_iconst (v := nI 4) hx hb dL_asks_72 (by decide) ?_
        refine z_icmp_ne hx hb (by omega) (by omega) dL_asks_73 (tgt := 84) (by decide) (fun c_4 => ?_) (fun c_4 => ?_)
        · refine lv_iload_n hx hb dL_asks_84 rfl (lv_at hl 1 rfl) ?_
          refine lv_iconst (v := nI 5) hx hb dL_asks_85 (by decide) ?_
          refine z_icmp_ne hx hb (by omega) (by omega) dL_asks_86 (tgt := 97) (by decide) (fun c_5 => ?_) (fun c_5 => ?_)
          · refine lv_iload_n hx hb dL_asks_97 rfl (lv_at hl 1 rfl) ?_
            refine lv_bipush (v := nI 6) hx hb dL_asks_98 (by decide) ?_
            refine z_icmp_ne hx hb (by omega) (by omega) dL_asks_100 (tgt := 112) (by decide) (fun c_6 => ?_) (fun c_6 => ?_)
            · refine lv_iload_n hx hb dL_asks_112 rfl (lv_at hl 1 rfl) ?_
              refine lv_bipush (v := nI 7) hx hb dL_asks_113 (by decide) ?_
              refine z_icmp_ne hx hb (by omega) (by omega) dL_asks_115 (tgt := 126) (by decide) (fun c_7 => ?_) (fun c_7 => ?_)
              · refine lv_iload_n hx hb dL_asks_126 rfl (lv_at hl 1 rfl) ?_
                refine lv_bipush (v := nI 8) hx hb dL_asks_127 (by decide) ?_
                refine z_icmp_ne hx hb (by omega) (by omega) dL_asks_129 (tgt := 141) (by decide) (fun c_8 => ?_) (fun c_8 => ?_)
                · refine lv_aload_n hx hb dL_asks_141 rfl (lv_at hl 0 rfl) ?_
                  refine lv_iload_n hx hb dL_asks_142 rfl (lv_at hl 2 rfl) ?_
                  refine lv_iload_n hx hb dL_asks_143 rfl (lv_at hl 3 rfl) ?_
                  have hP5 : va_P G vwCl ((zHs cy a sg) ++ []) _ := z_P_perm (z_permT (ww := []) (wu := []) (wr := []) (tl := (zHs cy a sg)) (n := 0) [] [] rfl rfl rfl (by decide)) hP
                  have hD5 : va_D A ((zHs cy a sg) ++ []) := z_D_perm (z_permT (ww := []) (wu := []) (wr := []) (tl := (zHs cy a sg)) (n := 0) [] [] rfl rfl rfl (by decide)) hD
                  refine z_cxP (wc := (zHs cy a sg)) (wr := []) (vx_runV (As := [.int (nI k), .int y]) (rest := []) ⟨hx, hb, hml, hown, hts⟩ (h_e1b_volume l hl9 G cy wd fo _ _ a sg k (hkn) (hk8) (hpt) (hT) y (hfi) (hy9)) (cwV 2 hts gL_asks_X10_volume rfl rfl rfl (by decide +kernel) ⟨Nat.le_of_ble_eq_true rfl, Nat.le_of_ble_eq_true rfl⟩) (z_pVHP (ci := 11) hK hP5 hD5 hS hN hAN hWd hE rfl rfl 0 rfl) rfl rfl hl.1 rfl (lv_room (Nat.le_of_ble_eq_true rfl)) dL_asks_144 ⟨Nat.le_of_ble_eq_true rfl, Nat.le_of_ble_eq_true rfl⟩) hP5 hD5 hS hA (fun ce q9 H locs hP hD hS hce hcv hcl => ?_)
                  replace hP : va_P G vwCl (zHs cy a sg) H := z_P_perm (List.Perm.symm (z_permT (ww := []) (wu := []) (wr := []) (tl := (zHs cy a sg)) (n := 0) [] [] rfl rfl rfl (by decide))) hP
                  replace hD : va_D A (zHs cy a sg) := z_D_perm (List.Perm.symm (z_permT (ww := []) (wu := []) (wr := []) (tl := (zHs cy a sg)) (n := 0) [] [] rfl rfl rfl (by decide))) hD
                  clear hP5 hD5
                  refine vx_catch (own := RL) (name := zE 1) (E := zE 1) hown [] ⟨0, 147, 148, 46⟩ [⟨0, 147, 153, 49⟩, ⟨0, 147, 158, 52⟩] (htb.trans rfl) (fun z hz => nomatch hz) rfl (by decide) (hts _ (List.mem_of_getElem? (i := 1) (by decide +kernel))) (va_Nw.use rfl (hE.2.2.2.2.1 1)) hce hcv hcl ?_
                  refine lv_astore (lv' := [(5, .ref q9), (0, .ref (a 0)), (1, .int (nI 9)), (2, .int (nI k)), (3, .int y), (4, .int d9)]) hx hb dL_asks_148 hl (by decide) rfl (fun ls hl => ?_)
                  refine lv_ldc (v := (-70007)) hx hb hown (hts _ (List.mem_of_getElem? (i := 4) (by decide +kernel))) dL_asks_150 ?_
                  exact z_rMi hx hb hr hlk dL_asks_152 sg (⟨rfl, rfl⟩) hP hD hK hS (Nat.le_of_ble_eq_true rfl) (Nat.le_of_ble_eq_true rfl)
                · exfalso; omega
              · exfalso; omega
            · exfalso; omega
          · exfalso; omega
        · exfalso; omega
      · exfalso; omega
    · exfalso; omega
  · exfalso; omega
