/-! settles -/
theorem zVl_s {σ : zHo} {d k : Nat} : zVl σ d (k + 1) = zVl σ d k + if q_fi (s_P σ k) ≤ d then z_un (q_la (s_P σ k)) (q_vo (s_P σ k)) (q_pc (s_P σ k)) (q_kd (s_P σ k)) (s_g σ) d else 0 := by
  show _ + (if q_fi (s_P σ (0 + k)) ≤ d then z_un (q_la (s_P σ (0 + k))) (q_vo (s_P σ (0 + k))) (q_pc (s_P σ (0 + k))) (q_kd (s_P σ (0 + k))) (s_g σ) d else 0) = _
  rw [Nat.zero_add]
  rfl
theorem zVl_lk {σ s9 : zHo} {d n : Nat} (h : zLk σ s9) : zVl s9 d n = zVl σ d n := by
  unfold zVl
  rw [h.2.2.2.2.2, h.2.2.2.1]
theorem zLk_rf {σ : zHo} (h : zOk σ) : zLk σ σ := ⟨h, rfl, rfl, rfl, rfl, rfl⟩
theorem zLk_tr {σ s8 s9 : zHo} (h : zLk σ s8) (h2 : zLk s8 s9) : zLk σ s9 := ⟨h2.1, h2.2.1.trans h.2.1, h2.2.2.1.trans h.2.2.1, h2.2.2.2.1.trans h.2.2.2.1, h2.2.2.2.2.1.trans h.2.2.2.2.1, h2.2.2.2.2.2.trans h.2.2.2.2.2⟩
set_option maxHeartbeats 4000000 in
set_option maxRecDepth 100000 in
theorem c_L_settles (l : Launch) (hl9 : l.stackTraces = false) (G : va_G) (cy : Nat → ClassId) (wd : Nat → Nat) (fo : Option Nat) (N0 sz0 : Nat) (a : Nat → Nat) (sg : zHo) (x y cA fA : Nat) (cc ff : Nat → Int32) (hO : zOk sg) (hx : x < 1073741824) (hy : y < 1073741824) (hc0 : cc 0 = nI (s_np sg)) (hc1 : cc 1 = nI (s_T sg)) (hf : ∀ k, k < s_np sg → ff k = nI (q_fi (s_P sg k))) : Met l yL_settles wsL_settles ({ frames := 10, cells := 3, slots := 18, locals := 250 }) (zMH G cy wd fo N0 [.ref (a 0), .int (nI x), .int (nI y), .ref cA, .ref fA] sz0 ([zI cy cA 3 cc, zI cy fA 8 ff] ++ (zHs cy a sg))) (va_Qi (fun r s9 => r = nI 1 ∧ zLk sg s9) (fun (u : zHo) t9 => zB G cy (va_A ([zI cy cA 3 cc, zI cy fA 8 ff] ++ (zHs cy a sg)) sz0) ([zI cy cA 3 cc, zI cy fA 8 ff] ++ (zHs cy a u)) t9) (va_A ([zI cy cA 3 cc, zI cy fA 8 ff] ++ (zHs cy a sg)) sz0)) 3 18 (va_A ([zI cy cA 3 cc, zI cy fA 8 ff] ++ (zHs cy a sg)) sz0) := by
  refine z_ofMN (cc := cL_settles) (maxL := 15) (ret := (some .boolean)) (Qc := (fun A => va_Qi (fun r s9 => r = nI 1 ∧ zLk sg s9) (fun (u : zHo) t9 => zB G cy A ([zI cy cA 3 cc, zI cy fA 8 ff] ++ (zHs cy a u)) t9) A)) (by decide) rfl (Nat.le_of_ble_eq_true rfl) ?_
  intro p e s m below meth c ls A hx hb hml hr hts hown hlk hP hK hD hA hS hl hsz0 hN hAN hWd hE
  have hown : s.vm.findClass RL = some m.cls := hown
  have hl : lv_has ls 15 [(0, .ref (a 0)), (1, .int (nI x)), (2, .int (nI y)), (3, .ref cA), (4, .ref fA)] := hl
  have hT9 := hO.1
  have hn9 := hO.2.1
  refine lv_aload_n hx hb dL_settles_0 rfl (lv_at hl 3 rfl) ?_
  refine lv_iconst (v := nI 1) hx hb dL_settles_1 (by decide) ?_
  refine z_iald (G := G) (v := (nI (s_T sg))) hx hb hK hP 0 rfl (by omega) (hc1) dL_settles_2 ?_
  refine z_if_ne hx hb (by omega) dL_settles_3 (tgt := 26) (by decide) (fun c_1 => ?_) (fun c_1 => ?_)
  · refine lv_aload_n hx hb dL_settles_26 rfl (lv_at hl 3 rfl) ?_
    refine lv_iconst (v := nI 1) hx hb dL_settles_27 (by decide) ?_
    refine z_iald (G := G) (v := (nI (s_T sg))) hx hb hK hP 0 rfl (by omega) (hc1) dL_settles_28 ?_
    refine lv_iconst (v := nI 1) hx hb dL_settles_29 (by decide) ?_
    refine z_isub hx hb (by omega) dL_settles_30 ?_
    refine lv_iload_n hx hb dL_settles_31 rfl (lv_at hl 1 rfl) ?_
    refine lv_aload_n hx hb dL_settles_32 rfl (lv_at hl 3 rfl) ?_
    refine lv_iconst (v := nI 1) hx hb dL_settles_33 (by decide) ?_
    refine z_iald (G := G) (v := (nI (s_T sg))) hx hb hK hP 0 rfl (by omega) (hc1) dL_settles_34 ?_
    refine z_irem hx hb (by omega) (by omega) (by omega) dL_settles_35 ?_
    refine lv_bipush (v := nI 12) hx hb dL_settles_36 (by decide) ?_
    refine z_irem hx hb (by have := Nat.mod_lt x (show 0 < s_T sg by omega); omega) (by omega) (by omega) dL_settles_38 ?_
    refine z_isub hx hb (by have := Nat.mod_lt x (show 0 < s_T sg by omega); have := Nat.mod_le (x % s_T sg) 12; omega) dL_settles_39 ?_
    obtain ⟨d, hdd⟩ : ∃ d, d = ((s_T sg) - 1) - ((x % (s_T sg)) % 12) := ⟨_, rfl⟩
    rw [← hdd]
    have hd : d < s_T sg := by omega
    have hfl := hO.2.2.2.2.1 d
    have hru := hO.2.2.2.2.2.1 d
    refine lv_istore (lv' := [(5, .int (nI d)), (0, .ref (a 0)), (1, .int (nI x)), (2, .int (nI y)), (3, .ref cA), (4, .ref fA)]) hx hb dL_settles_40 hl (by decide) rfl (fun ls hl => ?_)
    refine lv_iload_n hx hb dL_settles_42 rfl (lv_at hl 3 rfl) ?_
    refine lv_sipush (v := nI 3000) hx hb dL_settles_43 (by decide) ?_
    refine z_irem hx hb (by omega) (by omega) (by omega) dL_settles_46 ?_
    obtain ⟨u9, hud⟩ : ∃ u9, u9 = y % 3000 := ⟨_, rfl⟩
    rw [← hud]
    have hu3 : u9 < 3000 := by rw [hud]; exact Nat.mod_lt _ (by decide)
    refine lv_istore (lv' := [(6, .int (nI u9)), (5, .int (nI d)), (0, .ref (a 0)), (1, .int (nI x)), (2, .int (nI y)), (3, .ref cA), (4, .ref fA)]) hx hb dL_settles_47 hl (by decide) rfl (fun ls hl => ?_)
    refine lv_aload_n hx hb dL_settles_49 rfl (lv_at hl 2 rfl) ?_
    refine lv_bipush (v := nI 8) hx hb dL_settles_50 (by decide) ?_
    refine lv_iload hx hb dL_settles_52 (lv_at hl 1 rfl) ?_
    refine lv_iload hx hb dL_settles_54 (lv_at hl 0 rfl) ?_
    refine lv_iconst (v := nI 0) hx hb dL_settles_56 (by decide) ?_
    have hP5 : va_P G vwCl ((zHs cy a sg) ++ [zI cy cA 3 cc, zI cy fA 8 ff]) _ := z_P_perm (z_permT (ww := [zI cy cA 3 cc, zI cy fA 8 ff]) (wu := []) (wr := [zI cy cA 3 cc, zI cy fA 8 ff]) (tl := (zHs cy a sg)) (n := 2) [] [0, 1] rfl rfl rfl (by decide)) hP
    have hD5 : va_D A ((zHs cy a sg) ++ [zI cy cA 3 cc, zI cy fA 8 ff]) := z_D_perm (z_permT (ww := [zI cy cA 3 cc, zI cy fA 8 ff]) (wu := []) (wr := [zI cy cA 3 cc, zI cy fA 8 ff]) (tl := (zHs cy a sg)) (n := 2) [] [0, 1] rfl rfl rfl (by decide)) hD
    refine z_ciP (wc := (zHs cy a sg)) (wr := [zI cy cA 3 cc, zI cy fA 8 ff]) (vx_runSW (As := [.ref (a 0), .int (nI 8), .int (nI d), .int (nI u9), .int (nI 0)]) (rest := []) ⟨hx, hb, hml, hown, hts⟩ (q_inflow l hl9 G cy wd fo _ _ a sg (hO) d u9 (hd) (by omega) (nI 0)) (vx_cwSW 5 hts gL_settles_L_asks rfl rfl rfl (by decide +kernel) ⟨Nat.le_of_ble_eq_true rfl, Nat.le_of_ble_eq_true rfl⟩) (z_pHP hK hP5 hD5 hS hN hAN hWd hE) rfl rfl hl.1 rfl (lv_room (Nat.le_of_ble_eq_true rfl)) dL_settles_57 ⟨by show 0 + 1 ≤ 3; omega, by show 0 + 6 ≤ 18; omega⟩) hP5 hD5 hS hA (fun r_2 u H locs hr_2 hQ hD hS hz => ?_)
    obtain ⟨s9_3, rfl⟩ : ∃ z, z = u := ⟨_, rfl⟩
    try dsimp only at hr_2
    have hP : va_P G vwCl ([zI cy cA 3 cc, zI cy fA 8 ff] ++ (zHs cy a s9_3)) H := z_P_perm (List.Perm.symm (z_permT (ww := [zI cy cA 3 cc, zI cy fA 8 ff]) (wu := []) (wr := [zI cy cA 3 cc, zI cy fA 8 ff]) (tl := (zHs cy a s9_3)) (n := 2) [] [0, 1] rfl rfl rfl (by decide))) hQ
    have hD : va_D A ([zI cy cA 3 cc, zI cy fA 8 ff] ++ (zHs cy a s9_3)) := z_D_perm (List.Perm.symm (z_permT (ww := [zI cy cA 3 cc, zI cy fA 8 ff]) (wu := []) (wr := [zI cy cA 3 cc, zI cy fA 8 ff]) (tl := (zHs cy a s9_3)) (n := 2) [] [0, 1] rfl rfl rfl (by decide))) hD
    clear hQ hP5 hD5
    rcases hr_2 with ⟨i1, i2, i3⟩ | ⟨i1, i2, i3, i4, i5⟩
    · rw [i3] at hP hD
      obtain rfl : r_2 = -70008 := i2
      refine lv_istore (lv' := [(7, .int (-70008)), (6, .int (nI u9)), (5, .int (nI d)), (0, .ref (a 0)), (1, .int (nI x)), (2, .int (nI y)), (3, .ref cA), (4, .ref fA)]) hx hb dL_settles_60 hl (by decide) rfl (fun ls hl => ?_)
      refine lv_iload hx hb dL_settles_62 (lv_at hl 0 rfl) ?_
      refine lv_if_lt hx hb dL_settles_64 (tgt := 71) (by decide) (fun c_4 => ?_) (fun c_4 => ?_)
      · refine lv_iconst (v := nI 0) hx hb dL_settles_71 (by decide) ?_
        refine lv_istore (lv' := [(8, .int (nI 0)), (7, .int (-70008)), (6, .int (nI u9)), (5, .int (nI d)), (0, .ref (a 0)), (1, .int (nI x)), (2, .int (nI y)), (3, .ref cA), (4, .ref fA)]) hx hb dL_settles_72 hl (by decide) rfl (fun ls hl => ?_)
        refine lv_aload_n hx hb dL_settles_74 rfl (lv_at hl 4 rfl) ?_
        refine lv_bipush (v := nI 7) hx hb dL_settles_75 (by decide) ?_
        refine lv_iload hx hb dL_settles_77 (lv_at hl 3 rfl) ?_
        refine lv_iconst (v := nI 0) hx hb dL_settles_79 (by decide) ?_
        refine lv_iconst (v := nI 0) hx hb dL_settles_80 (by decide) ?_
        have hP5 : va_P G vwCl ((zHs cy a sg) ++ [zI cy cA 3 cc, zI cy fA 8 ff]) _ := z_P_perm (z_permT (ww := [zI cy cA 3 cc, zI cy fA 8 ff]) (wu := []) (wr := [zI cy cA 3 cc, zI cy fA 8 ff]) (tl := (zHs cy a sg)) (n := 2) [] [0, 1] rfl rfl rfl (by decide)) hP
        have hD5 : va_D A ((zHs cy a sg) ++ [zI cy cA 3 cc, zI cy fA 8 ff]) := z_D_perm (z_permT (ww := [zI cy cA 3 cc, zI cy fA 8 ff]) (wu := []) (wr := [zI cy cA 3 cc, zI cy fA 8 ff]) (tl := (zHs cy a sg)) (n := 2) [] [0, 1] rfl rfl rfl (by decide)) hD
        refine z_ciP (wc := (zHs cy a sg)) (wr := [zI cy cA 3 cc, zI cy fA 8 ff]) (vx_runSW (As := [.ref (a 0), .int (nI 7), .int (nI d), .int (nI 0), .int (nI 0)]) (rest := []) ⟨hx, hb, hml, hown, hts⟩ (q_settle l hl9 G cy wd fo _ _ a sg (hO) d (by rw [(zLk_rf hO).2.2.1]; exact hd) (nI 0) (nI 0)) (vx_cwSW 5 hts gL_settles_L_asks rfl rfl rfl (by decide +kernel) ⟨Nat.le_of_ble_eq_true rfl, Nat.le_of_ble_eq_true rfl⟩) (z_pHP hK hP5 hD5 hS hN hAN hWd hE) rfl rfl hl.1 rfl (lv_room (Nat.le_of_ble_eq_true rfl)) dL_settles_81 ⟨by show 1 + 1 ≤ 3; omega, by show 6 + 6 ≤ 18; omega⟩) hP5 hD5 hS hA (fun r_5 u H locs hr_5 hQ hD hS hz => ?_)
        obtain ⟨s9_6, rfl⟩ : ∃ z, z = u := ⟨_, rfl⟩
        try dsimp only at hr_5
        have hP : va_P G vwCl ([zI cy cA 3 cc, zI cy fA 8 ff] ++ (zHs cy a s9_6)) H := z_P_perm (List.Perm.symm (z_permT (ww := [zI cy cA 3 cc, zI cy fA 8 ff]) (wu := []) (wr := [zI cy cA 3 cc, zI cy fA 8 ff]) (tl := (zHs cy a s9_6)) (n := 2) [] [0, 1] rfl rfl rfl (by decide))) hQ
        have hD : va_D A ([zI cy cA 3 cc, zI cy fA 8 ff] ++ (zHs cy a s9_6)) := z_D_perm (List.Perm.symm (z_permT (ww := [zI cy cA 3 cc, zI cy fA 8 ff]) (wu := []) (wr := [zI cy cA 3 cc, zI cy fA 8 ff]) (tl := (zHs cy a s9_6)) (n := 2) [] [0, 1] rfl rfl rfl (by decide))) hD
        clear hQ hP5 hD5
        rcases hr_5 with ⟨j1, j2, j3⟩ | ⟨j1, j2, j3, j4, j5⟩
        · rw [j3] at hP hD
          obtain rfl : r_5 = -70008 := j2
          have l7 : zLk sg sg := zLk_rf hO
          refine lv_istore (lv' := [(9, .int (-70008)), (8, .int (nI 0)), (7, .int (-70008)), (6, .int (nI u9)), (5, .int (nI d)), (0, .ref (a 0)), (1, .int (nI x)), (2, .int (nI y)), (3, .ref cA), (4, .ref fA)]) hx hb dL_settles_84 hl (by decide) rfl (fun ls hl => ?_)
          refine lv_lconst (v := lN 0) hx hb dL_settles_86 rfl ?_
          refine lv_lstore (lv' := [(10, .long (lN 0)), (9, .int (-70008)), (8, .int (nI 0)), (7, .int (-70008)), (6, .int (nI u9)), (5, .int (nI d)), (0, .ref (a 0)), (1, .int (nI x)), (2, .int (nI y)), (3, .ref cA), (4, .ref fA)]) hx hb dL_settles_87 hl (by decide) rfl (fun ls hl => ?_)
          refine lv_lconst (v := lN 0) hx hb dL_settles_89 rfl ?_
          refine lv_lstore (lv' := [(12, .long (lN 0)), (10, .long (lN 0)), (9, .int (-70008)), (8, .int (nI 0)), (7, .int (-70008)), (6, .int (nI u9)), (5, .int (nI d)), (0, .ref (a 0)), (1, .int (nI x)), (2, .int (nI y)), (3, .ref cA), (4, .ref fA)]) hx hb dL_settles_90 hl (by decide) rfl (fun ls hl => ?_)
          refine lv_iconst (v := nI 0) hx hb dL_settles_92 (by decide) ?_
          refine lv_istore (lv' := [(14, .int (nI 0)), (12, .long (lN 0)), (10, .long (lN 0)), (9, .int (-70008)), (8, .int (nI 0)), (7, .int (-70008)), (6, .int (nI u9)), (5, .int (nI d)), (0, .ref (a 0)), (1, .int (nI x)), (2, .int (nI y)), (3, .ref cA), (4, .ref fA)]) hx hb dL_settles_93 hl (by decide) rfl (fun ls hl => ?_)
          have hloop95 : ∀ (fuel95 : Nat) (k : Nat) (sv : Nat), (k ≤ s_np sg) → (sv = zVl sg d k) → (s_np sg - k) < fuel95 → ∀ (H : Heap) (locs : List Loc), va_P G vwCl ([zI cy cA 3 cc, zI cy fA 8 ff] ++ (zHs cy a sg)) H → va_D A ([zI cy cA 3 cc, zI cy fA 8 ff] ++ (zHs cy a sg)) → va_S A s.heap H locs → ∀ (ls : Array Slot), lv_has ls 15 [(12, .long (lN 0)), (9, .int (-70008)), (8, .int (nI 0)), (7, .int (-70008)), (6, .int (nI u9)), (5, .int (nI d)), (0, .ref (a 0)), (1, .int (nI x)), (2, .int (nI y)), (3, .ref cA), (4, .ref fA), (10, .long (lN sv)), (14, .int (nI k))] → W p l e { frames := 10, cells := 3, slots := 18, locals := 250 } s m [.ref (a 0), .int (nI x), .int (nI y), .ref cA, .ref fA].toArray below meth c H locs 2 12 (MQ below (va_Qi (fun r s9 => r = nI 1 ∧ zLk sg s9) (fun (u : zHo) t9 => zB G cy A ([zI cy cA 3 cc, zI cy fA 8 ff] ++ (zHs cy a u)) t9) A) [.ref (a 0), .int (nI x), .int (nI y), .ref cA, .ref fA].toArray s 3 18 A) (F0 m 95 ls []) := by
            intro fuel95
            induction fuel95 with
            | zero =>
              intro k sv hi95_0 hi95_1 hfu95
              exact absurd hfu95 (Nat.not_lt_zero _)
            | succ fuel95 ih95 =>
              intro k sv hi95_0 hi95_1 hfu95 H locs hP hD hS ls hl
              refine lv_iload hx hb dL_settles_95 (lv_at hl 12 rfl) ?_
              refine lv_aload_n hx hb dL_settles_97 rfl (lv_at hl 9 rfl) ?_
              refine lv_iconst (v := nI 0) hx hb dL_settles_98 (by decide) ?_
              refine z_iald (G := G) (v := (nI (s_np sg))) hx hb hK hP 0 rfl (by omega) (hc0) dL_settles_99 ?_
              refine z_icmp_ge hx hb (by omega) (by omega) dL_settles_100 (tgt := 137) (by decide) (fun c_7 => ?_) (fun c_7 => ?_)
              · have ek : k = s_np sg := by omega
                rw [ek] at hi95_1
                refine lv_iconst (v := nI 0) hx hb dL_settles_137 (by decide) ?_
                refine lv_istore (lv' := [(14, .int (nI 0)), (12, .long (lN 0)), (9, .int (-70008)), (8, .int (nI 0)), (7, .int (-70008)), (6, .int (nI u9)), (5, .int (nI d)), (0, .ref (a 0)), (1, .int (nI x)), (2, .int (nI y)), (3, .ref cA), (4, .ref fA), (10, .long (lN sv))]) hx hb dL_settles_138 hl (by decide) rfl (fun ls hl => ?_)
                have hloop140 : ∀ (fuel140 : Nat) (t : Nat), (t ≤ 4) → (4 - t) < fuel140 → ∀ (H : Heap) (locs : List Loc), va_P G vwCl ([zI cy cA 3 cc, zI cy fA 8 ff] ++ (zHs cy a sg)) H → va_D A ([zI cy cA 3 cc, zI cy fA 8 ff] ++ (zHs cy a sg)) → va_S A s.heap H locs → ∀ (ls : Array Slot), lv_has ls 15 [(9, .int (-70008)), (8, .int (nI 0)), (7, .int (-70008)), (6, .int (nI u9)), (5, .int (nI d)), (0, .ref (a 0)), (1, .int (nI x)), (2, .int (nI y)), (3, .ref cA), (4, .ref fA), (10, .long (lN sv)), (12, .long (zS8 (fun s => (s_rs sg (s * 1000 + d)).toInt32.toInt64) t)), (14, .int (nI t))] → W p l e { frames := 10, cells := 3, slots := 18, locals := 250 } s m [.ref (a 0), .int (nI x), .int (nI y), .ref cA, .ref fA].toArray below meth c H locs 2 12 (MQ below (va_Qi (fun r s9 => r = nI 1 ∧ zLk sg s9) (fun (u : zHo) t9 => zB G cy A ([zI cy cA 3 cc, zI cy fA 8 ff] ++ (zHs cy a u)) t9) A) [.ref (a 0), .int (nI x), .int (nI y), .ref cA, .ref fA].toArray s 3 18 A) (F0 m 140 ls []) := by
                  intro fuel140
                  induction fuel140 with
                  | zero =>
                    intro t hi140_0 hfu140
                    exact absurd hfu140 (Nat.not_lt_zero _)
                  | succ fuel140 ih140 =>
                    intro t hi140_0 hfu140 H locs hP hD hS ls hl
                    refine lv_iload hx hb dL_settles_140 (lv_at hl 12 rfl) ?_
                    refine lv_iconst (v := nI 4) hx hb dL_settles_142 (by decide) ?_
                    refine z_icmp_ge hx hb (by omega) (by omega) dL_settles_143 (tgt := 166) (by decide) (fun c_8 => ?_) (fun c_8 => ?_)
                    · have et : t = 4 := by omega
                      subst et
                      refine lv_iload hx hb dL_settles_166 (lv_at hl 0 rfl) ?_
                      refine lv_ldc (v := (-70008)) hx hb hown (hts _ (List.mem_of_getElem? (i := 2) (by decide +kernel))) dL_settles_168 ?_
                      refine lv_icmp_ne hx hb dL_settles_170 (tgt := 186) (by decide) (fun c_9 => ?_) (fun c_9 => ?_)
                      · exact absurd rfl c_9
                      · refine lv_iload hx hb dL_settles_173 (lv_at hl 1 rfl) ?_
                        refine lv_if_ne hx hb dL_settles_175 (tgt := 182) (by decide) (fun q => absurd (by decide) q) (fun _ => ?_)
                        refine lv_iconst (v := nI 1) hx hb dL_settles_178 (by decide) ?_
                        refine lv_goto (tgt := 258) hx hb dL_settles_179 (by decide) ?_
                        exact z_rMz hx hb hr hlk (by rfl) dL_settles_258 sg (⟨rfl, l7⟩) hP hD hK hS (by omega) (by omega)
                    · refine lv_lload hx hb dL_settles_146 (lv_at hl 11 rfl) ?_
                      refine lv_aload_n hx hb dL_settles_148 rfl (lv_at hl 5 rfl) ?_
                      refine lv_iload hx hb dL_settles_149 (lv_at hl 4 rfl) ?_
                      refine lv_iload hx hb dL_settles_151 (lv_at hl 12 rfl) ?_
                      have hP5 : va_P G vwCl ((zHs cy a sg) ++ [zI cy cA 3 cc, zI cy fA 8 ff]) _ := z_P_perm (z_permT (ww := [zI cy cA 3 cc, zI cy fA 8 ff]) (wu := []) (wr := [zI cy cA 3 cc, zI cy fA 8 ff]) (tl := (zHs cy a sg)) (n := 2) [] [0, 1] rfl rfl rfl (by decide)) hP
                      have hD5 : va_D A ((zHs cy a sg) ++ [zI cy cA 3 cc, zI cy fA 8 ff]) := z_D_perm (z_permT (ww := [zI cy cA 3 cc, zI cy fA 8 ff]) (wu := []) (wr := [zI cy cA 3 cc, zI cy fA 8 ff]) (tl := (zHs cy a sg)) (n := 2) [] [0, 1] rfl rfl rfl (by decide)) hD
                      refine z_ciP (wc := (zHs cy a sg)) (wr := [zI cy cA 3 cc, zI cy fA 8 ff]) (va_runV (As := [.int (nI d), .int (nI t)]) (rest := [.long (zS8 (fun s => (s_rs sg (s * 1000 + d)).toInt32.toInt64) t)]) ⟨hx, hb, hml, hown, hts⟩ (h_c_settled l hl9 G cy wd fo _ _ a sg (l7.1.1) d t (by rw [l7.2.2.1]; exact hd) (by omega)) (cwV 2 hts gL_settles_X10_settled rfl rfl rfl (by decide +kernel) ⟨Nat.le_of_ble_eq_true rfl, Nat.le_of_ble_eq_true rfl⟩) (z_pVHP (ci := 11) hK hP5 hD5 hS hN hAN hWd hE rfl rfl 0 rfl) rfl rfl hl.1 rfl (lv_room (Nat.le_of_ble_eq_true rfl)) dL_settles_153 ⟨by show 2 + 0 ≤ 3; omega, by show 12 + 0 ≤ 18; omega⟩) hP5 hD5 hS hA (fun r_10 u H locs hr_10 hQ hD hS hz => ?_)
                      obtain ⟨s9_11, rfl⟩ : ∃ z, z = u := ⟨_, rfl⟩
                      try dsimp only at hr_10
                      have hP : va_P G vwCl ([zI cy cA 3 cc, zI cy fA 8 ff] ++ (zHs cy a s9_11)) H := z_P_perm (List.Perm.symm (z_permT (ww := [zI cy cA 3 cc, zI cy fA 8 ff]) (wu := []) (wr := [zI cy cA 3 cc, zI cy fA 8 ff]) (tl := (zHs cy a s9_11)) (n := 2) [] [0, 1] rfl rfl rfl (by decide))) hQ
                      have hD : va_D A ([zI cy cA 3 cc, zI cy fA 8 ff] ++ (zHs cy a s9_11)) := z_D_perm (List.Perm.symm (z_permT (ww := [zI cy cA 3 cc, zI cy fA 8 ff]) (wu := []) (wr := [zI cy cA 3 cc, zI cy fA 8 ff]) (tl := (zHs cy a s9_11)) (n := 2) [] [0, 1] rfl rfl rfl (by decide))) hD
                      clear hQ hP5 hD5
                      rw [hr_10.2] at hP hD
                      obtain rfl : r_10 = (((s_rs sg) (t * 1000 + d)).toInt32) := hr_10.1
                      refine lv_i2l (v := (((s_rs sg) (t * 1000 + d)).toInt32).toInt64) hx hb dL_settles_156 rfl ?_
                      refine lv_ladd hx hb dL_settles_157 ?_
                      refine lv_lstore (lv' := [(12, .long ((zS8 (fun s => (s_rs sg (s * 1000 + d)).toInt32.toInt64) t) + ((((s_rs sg) (t * 1000 + d)).toInt32).toInt64))), (9, .int (-70008)), (8, .int (nI 0)), (7, .int (-70008)), (6, .int (nI u9)), (5, .int (nI d)), (0, .ref (a 0)), (1, .int (nI x)), (2, .int (nI y)), (3, .ref cA), (4, .ref fA), (10, .long (lN sv)), (14, .int (nI t))]) hx hb dL_settles_158 hl (by decide) rfl (fun ls hl => ?_)
                      refine lv_iinc (v := (nI (t + 1))) (lv' := [(14, .int (nI (t + 1))), (12, .long ((zS8 (fun s => (s_rs sg (s * 1000 + d)).toInt32.toInt64) t) + ((((s_rs sg) (t * 1000 + d)).toInt32).toInt64))), (9, .int (-70008)), (8, .int (nI 0)), (7, .int (-70008)), (6, .int (nI u9)), (5, .int (nI d)), (0, .ref (a 0)), (1, .int (nI x)), (2, .int (nI y)), (3, .ref cA), (4, .ref fA), (10, .long (lN sv))]) hx hb dL_settles_160 hl (k := 12) rfl (nI_add _ _) (by decide) rfl (fun ls hl => ?_)
                      refine lv_goto (tgt := 140) hx hb dL_settles_163 (by decide) ?_
                      exact ih140 (t + 1) (by omega) (by omega) _ _ hP hD hS _ (lv_sub hl [2, 3, 4, 5, 6, 7, 8, 9, 10, 11, 12, 1, 0] rfl)
                exact hloop140 (4 - 0 + 1) 0 (by omega) (by omega) _ _ hP hD hS _ (lv_sub hl [2, 3, 4, 5, 6, 7, 8, 9, 10, 11, 12, 1, 0] rfl)
              · have hk6 : k < s_np sg := by omega
                have hp8 := zOk_P hO hk6
                have hf6 := zPk_con hp8
                have hl6 := zPk_la hp8
                refine lv_lload hx hb dL_settles_103 (lv_at hl 11 rfl) ?_
                refine lv_aload hx hb dL_settles_105 (lv_at hl 10 rfl) ?_
                refine lv_iload hx hb dL_settles_107 (lv_at hl 12 rfl) ?_
                refine z_iald (G := G) (v := (nI (q_fi (s_P sg k)))) hx hb hK hP 1 rfl (by omega) (hf k (by omega)) dL_settles_109 ?_
                refine lv_iload hx hb dL_settles_110 (lv_at hl 5 rfl) ?_
                refine z_icmp_gt hx hb (by omega) (by omega) dL_settles_112 (tgt := 127) (by decide) (fun c_12 => ?_) (fun c_12 => ?_)
                · refine lv_lconst (v := lN 0) hx hb dL_settles_127 rfl ?_
                  refine z_ladd hx hb dL_settles_128 ?_
                  refine lv_lstore (lv' := [(10, .long (lN (sv + 0))), (12, .long (lN 0)), (9, .int (-70008)), (8, .int (nI 0)), (7, .int (-70008)), (6, .int (nI u9)), (5, .int (nI d)), (0, .ref (a 0)), (1, .int (nI x)), (2, .int (nI y)), (3, .ref cA), (4, .ref fA), (14, .int (nI k))]) hx hb dL_settles_129 hl (by decide) rfl (fun ls hl => ?_)
                  refine lv_iinc (v := (nI (k + 1))) (lv' := [(14, .int (nI (k + 1))), (10, .long (lN (sv + 0))), (12, .long (lN 0)), (9, .int (-70008)), (8, .int (nI 0)), (7, .int (-70008)), (6, .int (nI u9)), (5, .int (nI d)), (0, .ref (a 0)), (1, .int (nI x)), (2, .int (nI y)), (3, .ref cA), (4, .ref fA)]) hx hb dL_settles_131 hl (k := 12) rfl (nI_add _ _) (by decide) rfl (fun ls hl => ?_)
                  refine lv_goto (tgt := 95) hx hb dL_settles_134 (by decide) ?_
                  exact ih95 (k + 1) (sv + 0) (by omega) (by rw [zVl_s, if_neg (by omega)]; exact congrArg (· + _) hi95_1) (by omega) _ _ hP hD hS _ (lv_sub hl [2, 3, 4, 5, 6, 7, 8, 9, 10, 11, 12, 1, 0] rfl)
                · have hk7 : k < s_np sg := by rw [l7.2.1]; omega
                  have hp7 := zOk_P l7.1 hk7
                  have hun : z_un (q_la (s_P sg k)) (q_vo (s_P sg k)) (q_pc (s_P sg k)) (q_kd (s_P sg k)) (s_g sg) d ≤ 190000000 := z_un_le (zPk_vo hp8 d) (zPk_pc hp8) (zOk_g hO d)
                  refine lv_aload_n hx hb dL_settles_115 rfl (lv_at hl 6 rfl) ?_
                  refine lv_iload hx hb dL_settles_116 (lv_at hl 12 rfl) ?_
                  refine lv_iload hx hb dL_settles_118 (lv_at hl 5 rfl) ?_
                  have hP5 : va_P G vwCl ((zHs cy a sg) ++ [zI cy cA 3 cc, zI cy fA 8 ff]) _ := z_P_perm (z_permT (ww := [zI cy cA 3 cc, zI cy fA 8 ff]) (wu := []) (wr := [zI cy cA 3 cc, zI cy fA 8 ff]) (tl := (zHs cy a sg)) (n := 2) [] [0, 1] rfl rfl rfl (by decide)) hP
                  have hD5 : va_D A ((zHs cy a sg) ++ [zI cy cA 3 cc, zI cy fA 8 ff]) := z_D_perm (z_permT (ww := [zI cy cA 3 cc, zI cy fA 8 ff]) (wu := []) (wr := [zI cy cA 3 cc, zI cy fA 8 ff]) (tl := (zHs cy a sg)) (n := 2) [] [0, 1] rfl rfl rfl (by decide)) hD
                  refine z_ciP (wc := (zHs cy a sg)) (wr := [zI cy cA 3 cc, zI cy fA 8 ff]) (va_runV (As := [.int (nI k), .int (nI d)]) (rest := [.long (lN sv)]) ⟨hx, hb, hml, hown, hts⟩ (h_c_volume l hl9 G cy wd fo _ _ a sg k (hk7) (zOk_k8 l7.1 hk7) (zOk_pt l7.1 hk7) (l7.1.1) d (zPk_kd hp7) (zOk_g l7.1) (by rw [l7.2.2.1]; exact hd) (by rw [l7.2.2.2.2.2]; omega) (by have := zPk_la hp7; have := l7.1.1; omega) (by have := zPk_pc hp7; omega)) (cwV 2 hts gL_settles_X10_volume rfl rfl rfl (by decide +kernel) ⟨Nat.le_of_ble_eq_true rfl, Nat.le_of_ble_eq_true rfl⟩) (z_pVHP (ci := 11) hK hP5 hD5 hS hN hAN hWd hE rfl rfl 0 rfl) rfl rfl hl.1 rfl (lv_room (Nat.le_of_ble_eq_true rfl)) dL_settles_120 ⟨by show 2 + 0 ≤ 3; omega, by show 12 + 0 ≤ 18; omega⟩) hP5 hD5 hS hA (fun r_13 u H locs hr_13 hQ hD hS hz => ?_)
                  obtain ⟨s9_14, rfl⟩ : ∃ z, z = u := ⟨_, rfl⟩
                  try dsimp only at hr_13
                  have hP : va_P G vwCl ([zI cy cA 3 cc, zI cy fA 8 ff] ++ (zHs cy a s9_14)) H := z_P_perm (List.Perm.symm (z_permT (ww := [zI cy cA 3 cc, zI cy fA 8 ff]) (wu := []) (wr := [zI cy cA 3 cc, zI cy fA 8 ff]) (tl := (zHs cy a s9_14)) (n := 2) [] [0, 1] rfl rfl rfl (by decide))) hQ
                  have hD : va_D A ([zI cy cA 3 cc, zI cy fA 8 ff] ++ (zHs cy a s9_14)) := z_D_perm (List.Perm.symm (z_permT (ww := [zI cy cA 3 cc, zI cy fA 8 ff]) (wu := []) (wr := [zI cy cA 3 cc, zI cy fA 8 ff]) (tl := (zHs cy a s9_14)) (n := 2) [] [0, 1] rfl rfl rfl (by decide))) hD
                  clear hQ hP5 hD5
                  rw [hr_13.2] at hP hD
                  have hvr_13 : (nI (z_un (q_la (s_P sg k)) (q_vo (s_P sg k)) (q_pc (s_P sg k)) (q_kd (s_P sg k)) (s_g sg) d)) = (nI (z_un (q_la (s_P sg k)) (q_vo (s_P sg k)) (q_pc (s_P sg k)) (q_kd (s_P sg k)) (s_g sg) d)) := by rw [l7.2.2.2.2.2, l7.2.2.2.1]
                  obtain rfl : r_13 = (nI (z_un (q_la (s_P sg k)) (q_vo (s_P sg k)) (q_pc (s_P sg k)) (q_kd (s_P sg k)) (s_g sg) d)) := hr_13.1.trans hvr_13
                  refine z_i2l hx hb (by omega) dL_settles_123 ?_
                  refine lv_goto (tgt := 128) hx hb dL_settles_124 (by decide) ?_
                  refine z_ladd hx hb dL_settles_128 ?_
                  refine lv_lstore (lv' := [(10, .long (lN (sv + (z_un (q_la (s_P sg k)) (q_vo (s_P sg k)) (q_pc (s_P sg k)) (q_kd (s_P sg k)) (s_g sg) d)))), (12, .long (lN 0)), (9, .int (-70008)), (8, .int (nI 0)), (7, .int (-70008)), (6, .int (nI u9)), (5, .int (nI d)), (0, .ref (a 0)), (1, .int (nI x)), (2, .int (nI y)), (3, .ref cA), (4, .ref fA), (14, .int (nI k))]) hx hb dL_settles_129 hl (by decide) rfl (fun ls hl => ?_)
                  refine lv_iinc (v := (nI (k + 1))) (lv' := [(14, .int (nI (k + 1))), (10, .long (lN (sv + (z_un (q_la (s_P sg k)) (q_vo (s_P sg k)) (q_pc (s_P sg k)) (q_kd (s_P sg k)) (s_g sg) d)))), (12, .long (lN 0)), (9, .int (-70008)), (8, .int (nI 0)), (7, .int (-70008)), (6, .int (nI u9)), (5, .int (nI d)), (0, .ref (a 0)), (1, .int (nI x)), (2, .int (nI y)), (3, .ref cA), (4, .ref fA)]) hx hb dL_settles_131 hl (k := 12) rfl (nI_add _ _) (by decide) rfl (fun ls hl => ?_)
                  refine lv_goto (tgt := 95) hx hb dL_settles_134 (by decide) ?_
                  exact ih95 (k + 1) (sv + (z_un (q_la (s_P sg k)) (q_vo (s_P sg k)) (q_pc (s_P sg k)) (q_kd (s_P sg k)) (s_g sg) d)) (by omega) (by rw [zVl_s, if_pos (by omega)]; exact congrArg (· + _) hi95_1) (by omega) _ _ hP hD hS _ (lv_sub hl [2, 3, 4, 5, 6, 7, 8, 9, 10, 11, 12, 1, 0] rfl)
          exact hloop95 (s_np sg - 0 + 1) 0 0 (by omega) (rfl) (by omega) _ _ hP hD hS _ (lv_sub hl [1, 3, 4, 5, 6, 7, 8, 9, 10, 11, 12, 2, 0] rfl)
        · obtain rfl : r_5 = nI (s_ru sg d + 1) := j2
          have l7 : zLk sg s9_6 := zLk_tr (zLk_rf hO) j3
          refine lv_istore (lv' := [(9, .int (nI (s_ru sg d + 1))), (8, .int (nI 0)), (7, .int (-70008)), (6, .int (nI u9)), (5, .int (nI d)), (0, .ref (a 0)), (1, .int (nI x)), (2, .int (nI y)), (3, .ref cA), (4, .ref fA)]) hx hb dL_settles_84 hl (by decide) rfl (fun ls hl => ?_)
          refine lv_lconst (v := lN 0) hx hb dL_settles_86 rfl ?_
          refine lv_lstore (lv' := [(10, .long (lN 0)), (9, .int (nI (s_ru sg d + 1))), (8, .int (nI 0)), (7, .int (-70008)), (6, .int (nI u9)), (5, .int (nI d)), (0, .ref (a 0)), (1, .int (nI x)), (2, .int (nI y)), (3, .ref cA), (4, .ref fA)]) hx hb dL_settles_87 hl (by decide) rfl (fun ls hl => ?_)
          refine lv_lconst (v := lN 0) hx hb dL_settles_89 rfl ?_
          refine lv_lstore (lv' := [(12, .long (lN 0)), (10, .long (lN 0)), (9, .int (nI (s_ru sg d + 1))), (8, .int (nI 0)), (7, .int (-70008)), (6, .int (nI u9)), (5, .int (nI d)), (0, .ref (a 0)), (1, .int (nI x)), (2, .int (nI y)), (3, .ref cA), (4, .ref fA)]) hx hb dL_settles_90 hl (by decide) rfl (fun ls hl => ?_)
          refine lv_iconst (v := nI 0) hx hb dL_settles_92 (by decide) ?_
          refine lv_istore (lv' := [(14, .int (nI 0)), (12, .long (lN 0)), (10, .long (lN 0)), (9, .int (nI (s_ru sg d + 1))), (8, .int (nI 0)), (7, .int (-70008)), (6, .int (nI u9)), (5, .int (nI d)), (0, .ref (a 0)), (1, .int (nI x)), (2, .int (nI y)), (3, .ref cA), (4, .ref fA)]) hx hb dL_settles_93 hl (by decide) rfl (fun ls hl => ?_)
          have hloop95 : ∀ (fuel95 : Nat) (k : Nat) (sv : Nat), (k ≤ s_np sg) → (sv = zVl sg d k) → (s_np sg - k) < fuel95 → ∀ (H : Heap) (locs : List Loc), va_P G vwCl ([zI cy cA 3 cc, zI cy fA 8 ff] ++ (zHs cy a s9_6)) H → va_D A ([zI cy cA 3 cc, zI cy fA 8 ff] ++ (zHs cy a s9_6)) → va_S A s.heap H locs → ∀ (ls : Array Slot), lv_has ls 15 [(12, .long (lN 0)), (9, .int (nI (s_ru sg d + 1))), (8, .int (nI 0)), (7, .int (-70008)), (6, .int (nI u9)), (5, .int (nI d)), (0, .ref (a 0)), (1, .int (nI x)), (2, .int (nI y)), (3, .ref cA), (4, .ref fA), (10, .long (lN sv)), (14, .int (nI k))] → W p l e { frames := 10, cells := 3, slots := 18, locals := 250 } s m [.ref (a 0), .int (nI x), .int (nI y), .ref cA, .ref fA].toArray below meth c H locs 2 12 (MQ below (va_Qi (fun r s9 => r = nI 1 ∧ zLk sg s9) (fun (u : zHo) t9 => zB G cy A ([zI cy cA 3 cc, zI cy fA 8 ff] ++ (zHs cy a u)) t9) A) [.ref (a 0), .int (nI x), .int (nI y), .ref cA, .ref fA].toArray s 3 18 A) (F0 m 95 ls []) := by
            intro fuel95
            induction fuel95 with
            | zero =>
              intro k sv hi95_0 hi95_1 hfu95
              exact absurd hfu95 (Nat.not_lt_zero _)
            | succ fuel95 ih95 =>
              intro k sv hi95_0 hi95_1 hfu95 H locs hP hD hS ls hl
              refine lv_iload hx hb dL_settles_95 (lv_at hl 12 rfl) ?_
              refine lv_aload_n hx hb dL_settles_97 rfl (lv_at hl 9 rfl) ?_
              refine lv_iconst (v := nI 0) hx hb dL_settles_98 (by decide) ?_
              refine z_iald (G := G) (v := (nI (s_np sg))) hx hb hK hP 0 rfl (by omega) (hc0) dL_settles_99 ?_
              refine z_icmp_ge hx hb (by omega) (by omega) dL_settles_100 (tgt := 137) (by decide) (fun c_15 => ?_) (fun c_15 => ?_)
              · have ek : k = s_np sg := by omega
                rw [ek] at hi95_1
                refine lv_iconst (v := nI 0) hx hb dL_settles_137 (by decide) ?_
                refine lv_istore (lv' := [(14, .int (nI 0)), (12, .long (lN 0)), (9, .int (nI (s_ru sg d + 1))), (8, .int (nI 0)), (7, .int (-70008)), (6, .int (nI u9)), (5, .int (nI d)), (0, .ref (a 0)), (1, .int (nI x)), (2, .int (nI y)), (3, .ref cA), (4, .ref fA), (10, .long (lN sv))]) hx hb dL_settles_138 hl (by decide) rfl (fun ls hl => ?_)
                have hloop140 : ∀ (fuel140 : Nat) (t : Nat), (t ≤ 4) → (4 - t) < fuel140 → ∀ (H : Heap) (locs : List Loc), va_P G vwCl ([zI cy cA 3 cc, zI cy fA 8 ff] ++ (zHs cy a s9_6)) H → va_D A ([zI cy cA 3 cc, zI cy fA 8 ff] ++ (zHs cy a s9_6)) → va_S A s.heap H locs → ∀ (ls : Array Slot), lv_has ls 15 [(9, .int (nI (s_ru sg d + 1))), (8, .int (nI 0)), (7, .int (-70008)), (6, .int (nI u9)), (5, .int (nI d)), (0, .ref (a 0)), (1, .int (nI x)), (2, .int (nI y)), (3, .ref cA), (4, .ref fA), (10, .long (lN sv)), (12, .long (zS8 (fun s => (s_rs s9_6 (s * 1000 + d)).toInt32.toInt64) t)), (14, .int (nI t))] → W p l e { frames := 10, cells := 3, slots := 18, locals := 250 } s m [.ref (a 0), .int (nI x), .int (nI y), .ref cA, .ref fA].toArray below meth c H locs 2 12 (MQ below (va_Qi (fun r s9 => r = nI 1 ∧ zLk sg s9) (fun (u : zHo) t9 => zB G cy A ([zI cy cA 3 cc, zI cy fA 8 ff] ++ (zHs cy a u)) t9) A) [.ref (a 0), .int (nI x), .int (nI y), .ref cA, .ref fA].toArray s 3 18 A) (F0 m 140 ls []) := by
                  intro fuel140
                  induction fuel140 with
                  | zero =>
                    intro t hi140_0 hfu140
                    exact absurd hfu140 (Nat.not_lt_zero _)
                  | succ fuel140 ih140 =>
                    intro t hi140_0 hfu140 H locs hP hD hS ls hl
                    refine lv_iload hx hb dL_settles_140 (lv_at hl 12 rfl) ?_
                    refine lv_iconst (v := nI 4) hx hb dL_settles_142 (by decide) ?_
                    refine z_icmp_ge hx hb (by omega) (by omega) dL_settles_143 (tgt := 166) (by decide) (fun c_16 => ?_) (fun c_16 => ?_)
                    · have et : t = 4 := by omega
                      subst et
                      refine lv_iload hx hb dL_settles_166 (lv_at hl 0 rfl) ?_
                      refine lv_ldc (v := (-70008)) hx hb hown (hts _ (List.mem_of_getElem? (i := 2) (by decide +kernel))) dL_settles_168 ?_
                      refine lv_icmp_ne hx hb dL_settles_170 (tgt := 186) (by decide) (fun c_17 => ?_) (fun c_17 => ?_)
                      · refine lv_iload hx hb dL_settles_186 (lv_at hl 0 rfl) ?_
                        refine z_jf_le hx hb (a := ((s_ru sg d + 1 : Nat) : Int)) (nI_toInt (by omega)) dL_settles_188 (tgt := 257) (by decide) (fun c_18 => ?_) (fun c_18 => ?_)
                        · exfalso; omega
                        · refine lv_iload hx hb dL_settles_191 (lv_at hl 0 rfl) ?_
                          refine lv_iconst (v := nI 4) hx hb dL_settles_193 (by decide) ?_
                          refine z_icmp_ge hx hb (by omega) (by omega) dL_settles_194 (tgt := 257) (by decide) (fun c_19 => ?_) (fun c_19 => ?_)
                          · exfalso; omega
                          · refine lv_iload hx hb dL_settles_197 (lv_at hl 1 rfl) ?_
                            refine lv_iload hx hb dL_settles_199 (lv_at hl 0 rfl) ?_
                            refine lv_iconst (v := nI 1) hx hb dL_settles_201 (by decide) ?_
                            refine z_icmp_ne hx hb (by omega) (by omega) dL_settles_202 (tgt := 209) (by decide) (fun c_20 => ?_) (fun c_20 => ?_)
                            · refine lv_iconst (v := nI 0) hx hb dL_settles_209 (by decide) ?_
                              refine z_icmp_ne hx hb (by omega) (by omega) dL_settles_210 (tgt := 257) (by decide) (fun c_21 => ?_) (fun c_21 => ?_)
                              · exfalso; omega
                              · refine lv_aload_n hx hb dL_settles_213 rfl (lv_at hl 5 rfl) ?_
                                refine lv_bipush (v := nI 8) hx hb dL_settles_214 (by decide) ?_
                                refine lv_iload hx hb dL_settles_216 (lv_at hl 4 rfl) ?_
                                refine lv_iconst (v := nI 5) hx hb dL_settles_218 (by decide) ?_
                                refine lv_iconst (v := nI 0) hx hb dL_settles_219 (by decide) ?_
                                have hP5 : va_P G vwCl ((zHs cy a s9_6) ++ [zI cy cA 3 cc, zI cy fA 8 ff]) _ := z_P_perm (z_permT (ww := [zI cy cA 3 cc, zI cy fA 8 ff]) (wu := []) (wr := [zI cy cA 3 cc, zI cy fA 8 ff]) (tl := (zHs cy a s9_6)) (n := 2) [] [0, 1] rfl rfl rfl (by decide)) hP
                                have hD5 : va_D A ((zHs cy a s9_6) ++ [zI cy cA 3 cc, zI cy fA 8 ff]) := z_D_perm (z_permT (ww := [zI cy cA 3 cc, zI cy fA 8 ff]) (wu := []) (wr := [zI cy cA 3 cc, zI cy fA 8 ff]) (tl := (zHs cy a s9_6)) (n := 2) [] [0, 1] rfl rfl rfl (by decide)) hD
                                refine z_ciP (wc := (zHs cy a s9_6)) (wr := [zI cy cA 3 cc, zI cy fA 8 ff]) (vx_runSW (As := [.ref (a 0), .int (nI 8), .int (nI d), .int (nI 5), .int (nI 0)]) (rest := []) ⟨hx, hb, hml, hown, hts⟩ (q_inflow l hl9 G cy wd fo _ _ a s9_6 (l7.1) d 5 (by rw [l7.2.2.1]; exact hd) (by omega) (nI 0)) (vx_cwSW 5 hts gL_settles_L_asks rfl rfl rfl (by decide +kernel) ⟨Nat.le_of_ble_eq_true rfl, Nat.le_of_ble_eq_true rfl⟩) (z_pHP hK hP5 hD5 hS hN hAN hWd hE) rfl rfl hl.1 rfl (lv_room (Nat.le_of_ble_eq_true rfl)) dL_settles_220 ⟨by show 2 + 1 ≤ 3; omega, by show 12 + 6 ≤ 18; omega⟩) hP5 hD5 hS hA (fun r_22 u H locs hr_22 hQ hD hS hz => ?_)
                                obtain ⟨s9_23, rfl⟩ : ∃ z, z = u := ⟨_, rfl⟩
                                try dsimp only at hr_22
                                have hP : va_P G vwCl ([zI cy cA 3 cc, zI cy fA 8 ff] ++ (zHs cy a s9_23)) H := z_P_perm (List.Perm.symm (z_permT (ww := [zI cy cA 3 cc, zI cy fA 8 ff]) (wu := []) (wr := [zI cy cA 3 cc, zI cy fA 8 ff]) (tl := (zHs cy a s9_23)) (n := 2) [] [0, 1] rfl rfl rfl (by decide))) hQ
                                have hD : va_D A ([zI cy cA 3 cc, zI cy fA 8 ff] ++ (zHs cy a s9_23)) := z_D_perm (List.Perm.symm (z_permT (ww := [zI cy cA 3 cc, zI cy fA 8 ff]) (wu := []) (wr := [zI cy cA 3 cc, zI cy fA 8 ff]) (tl := (zHs cy a s9_23)) (n := 2) [] [0, 1] rfl rfl rfl (by decide))) hD
                                clear hQ hP5 hD5
                                rcases hr_22 with ⟨-, p1, p2⟩ | ⟨p3, -⟩
                                · rw [p2] at hP hD
                                  obtain rfl : r_22 = -70008 := p1
                                  refine lv_ldc (v := (-70008)) hx hb hown (hts _ (List.mem_of_getElem? (i := 2) (by decide +kernel))) dL_settles_223 ?_
                                  refine lv_icmp_ne hx hb dL_settles_225 (tgt := 257) (by decide) (fun c_24 => ?_) (fun c_24 => ?_)
                                  · exact absurd rfl c_24
                                  · refine lv_iload hx hb dL_settles_228 (lv_at hl 1 rfl) ?_
                                    refine lv_if_eq hx hb dL_settles_230 (tgt := 253) (by decide) (fun _ => ?_) (fun q => absurd (by decide) q)
                                    refine lv_iconst (v := nI 1) hx hb dL_settles_253 (by decide) ?_
                                    refine lv_goto (tgt := 258) hx hb dL_settles_254 (by decide) ?_
                                    exact z_rMz hx hb hr hlk (by rfl) dL_settles_258 s9_6 (⟨rfl, l7⟩) hP hD hK hS (by omega) (by omega)
                                · exfalso; omega
                            · exfalso; omega
                      · exact absurd c_17 (z_n8 (by omega))
                    · refine lv_lload hx hb dL_settles_146 (lv_at hl 11 rfl) ?_
                      refine lv_aload_n hx hb dL_settles_148 rfl (lv_at hl 5 rfl) ?_
                      refine lv_iload hx hb dL_settles_149 (lv_at hl 4 rfl) ?_
                      refine lv_iload hx hb dL_settles_151 (lv_at hl 12 rfl) ?_
                      have hP5 : va_P G vwCl ((zHs cy a s9_6) ++ [zI cy cA 3 cc, zI cy fA 8 ff]) _ := z_P_perm (z_permT (ww := [zI cy cA 3 cc, zI cy fA 8 ff]) (wu := []) (wr := [zI cy cA 3 cc, zI cy fA 8 ff]) (tl := (zHs cy a s9_6)) (n := 2) [] [0, 1] rfl rfl rfl (by decide)) hP
                      have hD5 : va_D A ((zHs cy a s9_6) ++ [zI cy cA 3 cc, zI cy fA 8 ff]) := z_D_perm (z_permT (ww := [zI cy cA 3 cc, zI cy fA 8 ff]) (wu := []) (wr := [zI cy cA 3 cc, zI cy fA 8 ff]) (tl := (zHs cy a s9_6)) (n := 2) [] [0, 1] rfl rfl rfl (by decide)) hD
                      refine z_ciP (wc := (zHs cy a s9_6)) (wr := [zI cy cA 3 cc, zI cy fA 8 ff]) (va_runV (As := [.int (nI d), .int (nI t)]) (rest := [.long (zS8 (fun s => (s_rs s9_6 (s * 1000 + d)).toInt32.toInt64) t)]) ⟨hx, hb, hml, hown, hts⟩ (h_c_settled l hl9 G cy wd fo _ _ a s9_6 (l7.1.1) d t (by rw [l7.2.2.1]; exact hd) (by omega)) (cwV 2 hts gL_settles_X10_settled rfl rfl rfl (by decide +kernel) ⟨Nat.le_of_ble_eq_true rfl, Nat.le_of_ble_eq_true rfl⟩) (z_pVHP (ci := 11) hK hP5 hD5 hS hN hAN hWd hE rfl rfl 0 rfl) rfl rfl hl.1 rfl (lv_room (Nat.le_of_ble_eq_true rfl)) dL_settles_153 ⟨by show 2 + 0 ≤ 3; omega, by show 12 + 0 ≤ 18; omega⟩) hP5 hD5 hS hA (fun r_25 u H locs hr_25 hQ hD hS hz => ?_)
                      obtain ⟨s9_26, rfl⟩ : ∃ z, z = u := ⟨_, rfl⟩
                      try dsimp only at hr_25
                      have hP : va_P G vwCl ([zI cy cA 3 cc, zI cy fA 8 ff] ++ (zHs cy a s9_26)) H := z_P_perm (List.Perm.symm (z_permT (ww := [zI cy cA 3 cc, zI cy fA 8 ff]) (wu := []) (wr := [zI cy cA 3 cc, zI cy fA 8 ff]) (tl := (zHs cy a s9_26)) (n := 2) [] [0, 1] rfl rfl rfl (by decide))) hQ
                      have hD : va_D A ([zI cy cA 3 cc, zI cy fA 8 ff] ++ (zHs cy a s9_26)) := z_D_perm (List.Perm.symm (z_permT (ww := [zI cy cA 3 cc, zI cy fA 8 ff]) (wu := []) (wr := [zI cy cA 3 cc, zI cy fA 8 ff]) (tl := (zHs cy a s9_26)) (n := 2) [] [0, 1] rfl rfl rfl (by decide))) hD
                      clear hQ hP5 hD5
                      rw [hr_25.2] at hP hD
                      obtain rfl : r_25 = (((s_rs s9_6) (t * 1000 + d)).toInt32) := hr_25.1
                      refine lv_i2l (v := (((s_rs s9_6) (t * 1000 + d)).toInt32).toInt64) hx hb dL_settles_156 rfl ?_
                      refine lv_ladd hx hb dL_settles_157 ?_
                      refine lv_lstore (lv' := [(12, .long ((zS8 (fun s => (s_rs s9_6 (s * 1000 + d)).toInt32.toInt64) t) + ((((s_rs s9_6) (t * 1000 + d)).toInt32).toInt64))), (9, .int (nI (s_ru sg d + 1))), (8, .int (nI 0)), (7, .int (-70008)), (6, .int (nI u9)), (5, .int (nI d)), (0, .ref (a 0)), (1, .int (nI x)), (2, .int (nI y)), (3, .ref cA), (4, .ref fA), (10, .long (lN sv)), (14, .int (nI t))]) hx hb dL_settles_158 hl (by decide) rfl (fun ls hl => ?_)
                      refine lv_iinc (v := (nI (t + 1))) (lv' := [(14, .int (nI (t + 1))), (12, .long ((zS8 (fun s => (s_rs s9_6 (s * 1000 + d)).toInt32.toInt64) t) + ((((s_rs s9_6) (t * 1000 + d)).toInt32).toInt64))), (9, .int (nI (s_ru sg d + 1))), (8, .int (nI 0)), (7, .int (-70008)), (6, .int (nI u9)), (5, .int (nI d)), (0, .ref (a 0)), (1, .int (nI x)), (2, .int (nI y)), (3, .ref cA), (4, .ref fA), (10, .long (lN sv))]) hx hb dL_settles_160 hl (k := 12) rfl (nI_add _ _) (by decide) rfl (fun ls hl => ?_)
                      refine lv_goto (tgt := 140) hx hb dL_settles_163 (by decide) ?_
                      exact ih140 (t + 1) (by omega) (by omega) _ _ hP hD hS _ (lv_sub hl [2, 3, 4, 5, 6, 7, 8, 9, 10, 11, 12, 1, 0] rfl)
                exact hloop140 (4 - 0 + 1) 0 (by omega) (by omega) _ _ hP hD hS _ (lv_sub hl [2, 3, 4, 5, 6, 7, 8, 9, 10, 11, 12, 1, 0] rfl)
              · have hk6 : k < s_np sg := by omega
                have hp8 := zOk_P hO hk6
                have hf6 := zPk_con hp8
                have hl6 := zPk_la hp8
                refine lv_lload hx hb dL_settles_103 (lv_at hl 11 rfl) ?_
                refine lv_aload hx hb dL_settles_105 (lv_at hl 10 rfl) ?_
                refine lv_iload hx hb dL_settles_107 (lv_at hl 12 rfl) ?_
                refine z_iald (G := G) (v := (nI (q_fi (s_P sg k)))) hx hb hK hP 1 rfl (by omega) (hf k (by omega)) dL_settles_109 ?_
                refine lv_iload hx hb dL_settles_110 (lv_at hl 5 rfl) ?_
                refine z_icmp_gt hx hb (by omega) (by omega) dL_settles_112 (tgt := 127) (by decide) (fun c_27 => ?_) (fun c_27 => ?_)
                · refine lv_lconst (v := lN 0) hx hb dL_settles_127 rfl ?_
                  refine z_ladd hx hb dL_settles_128 ?_
                  refine lv_lstore (lv' := [(10, .long (lN (sv + 0))), (12, .long (lN 0)), (9, .int (nI (s_ru sg d + 1))), (8, .int (nI 0)), (7, .int (-70008)), (6, .int (nI u9)), (5, .int (nI d)), (0, .ref (a 0)), (1, .int (nI x)), (2, .int (nI y)), (3, .ref cA), (4, .ref fA), (14, .int (nI k))]) hx hb dL_settles_129 hl (by decide) rfl (fun ls hl => ?_)
                  refine lv_iinc (v := (nI (k + 1))) (lv' := [(14, .int (nI (k + 1))), (10, .long (lN (sv + 0))), (12, .long (lN 0)), (9, .int (nI (s_ru sg d + 1))), (8, .int (nI 0)), (7, .int (-70008)), (6, .int (nI u9)), (5, .int (nI d)), (0, .ref (a 0)), (1, .int (nI x)), (2, .int (nI y)), (3, .ref cA), (4, .ref fA)]) hx hb dL_settles_131 hl (k := 12) rfl (nI_add _ _) (by decide) rfl (fun ls hl => ?_)
                  refine lv_goto (tgt := 95) hx hb dL_settles_134 (by decide) ?_
                  exact ih95 (k + 1) (sv + 0) (by omega) (by rw [zVl_s, if_neg (by omega)]; exact congrArg (· + _) hi95_1) (by omega) _ _ hP hD hS _ (lv_sub hl [2, 3, 4, 5, 6, 7, 8, 9, 10, 11, 12, 1, 0] rfl)
                · have hk7 : k < s_np s9_6 := by rw [l7.2.1]; omega
                  have hp7 := zOk_P l7.1 hk7
                  have hun : z_un (q_la (s_P sg k)) (q_vo (s_P sg k)) (q_pc (s_P sg k)) (q_kd (s_P sg k)) (s_g sg) d ≤ 190000000 := z_un_le (zPk_vo hp8 d) (zPk_pc hp8) (zOk_g hO d)
                  refine lv_aload_n hx hb dL_settles_115 rfl (lv_at hl 6 rfl) ?_
                  refine lv_iload hx hb dL_settles_116 (lv_at hl 12 rfl) ?_
                  refine lv_iload hx hb dL_settles_118 (lv_at hl 5 rfl) ?_
                  have hP5 : va_P G vwCl ((zHs cy a s9_6) ++ [zI cy cA 3 cc, zI cy fA 8 ff]) _ := z_P_perm (z_permT (ww := [zI cy cA 3 cc, zI cy fA 8 ff]) (wu := []) (wr := [zI cy cA 3 cc, zI cy fA 8 ff]) (tl := (zHs cy a s9_6)) (n := 2) [] [0, 1] rfl rfl rfl (by decide)) hP
                  have hD5 : va_D A ((zHs cy a s9_6) ++ [zI cy cA 3 cc, zI cy fA 8 ff]) := z_D_perm (z_permT (ww := [zI cy cA 3 cc, zI cy fA 8 ff]) (wu := []) (wr := [zI cy cA 3 cc, zI cy fA 8 ff]) (tl := (zHs cy a s9_6)) (n := 2) [] [0, 1] rfl rfl rfl (by decide)) hD
                  refine z_ciP (wc := (zHs cy a s9_6)) (wr := [zI cy cA 3 cc, zI cy fA 8 ff]) (va_runV (As := [.int (nI k), .int (nI d)]) (rest := [.long (lN sv)]) ⟨hx, hb, hml, hown, hts⟩ (h_c_volume l hl9 G cy wd fo _ _ a s9_6 k (hk7) (zOk_k8 l7.1 hk7) (zOk_pt l7.1 hk7) (l7.1.1) d (zPk_kd hp7) (zOk_g l7.1) (by rw [l7.2.2.1]; exact hd) (by rw [l7.2.2.2.2.2]; omega) (by have := zPk_la hp7; have := l7.1.1; omega) (by have := zPk_pc hp7; omega)) (cwV 2 hts gL_settles_X10_volume rfl rfl rfl (by decide +kernel) ⟨Nat.le_of_ble_eq_true rfl, Nat.le_of_ble_eq_true rfl⟩) (z_pVHP (ci := 11) hK hP5 hD5 hS hN hAN hWd hE rfl rfl 0 rfl) rfl rfl hl.1 rfl (lv_room (Nat.le_of_ble_eq_true rfl)) dL_settles_120 ⟨by show 2 + 0 ≤ 3; omega, by show 12 + 0 ≤ 18; omega⟩) hP5 hD5 hS hA (fun r_28 u H locs hr_28 hQ hD hS hz => ?_)
                  obtain ⟨s9_29, rfl⟩ : ∃ z, z = u := ⟨_, rfl⟩
                  try dsimp only at hr_28
                  have hP : va_P G vwCl ([zI cy cA 3 cc, zI cy fA 8 ff] ++ (zHs cy a s9_29)) H := z_P_perm (List.Perm.symm (z_permT (ww := [zI cy cA 3 cc, zI cy fA 8 ff]) (wu := []) (wr := [zI cy cA 3 cc, zI cy fA 8 ff]) (tl := (zHs cy a s9_29)) (n := 2) [] [0, 1] rfl rfl rfl (by decide))) hQ
                  have hD : va_D A ([zI cy cA 3 cc, zI cy fA 8 ff] ++ (zHs cy a s9_29)) := z_D_perm (List.Perm.symm (z_permT (ww := [zI cy cA 3 cc, zI cy fA 8 ff]) (wu := []) (wr := [zI cy cA 3 cc, zI cy fA 8 ff]) (tl := (zHs cy a s9_29)) (n := 2) [] [0, 1] rfl rfl rfl (by decide))) hD
                  clear hQ hP5 hD5
                  rw [hr_28.2] at hP hD
                  have hvr_28 : (nI (z_un (q_la (s_P s9_6 k)) (q_vo (s_P s9_6 k)) (q_pc (s_P s9_6 k)) (q_kd (s_P s9_6 k)) (s_g s9_6) d)) = (nI (z_un (q_la (s_P sg k)) (q_vo (s_P sg k)) (q_pc (s_P sg k)) (q_kd (s_P sg k)) (s_g sg) d)) := by rw [l7.2.2.2.2.2, l7.2.2.2.1]
                  obtain rfl : r_28 = (nI (z_un (q_la (s_P sg k)) (q_vo (s_P sg k)) (q_pc (s_P sg k)) (q_kd (s_P sg k)) (s_g sg) d)) := hr_28.1.trans hvr_28
                  refine z_i2l hx hb (by omega) dL_settles_123 ?_
                  refine lv_goto (tgt := 128) hx hb dL_settles_124 (by decide) ?_
                  refine z_ladd hx hb dL_settles_128 ?_
                  refine lv_lstore (lv' := [(10, .long (lN (sv + (z_un (q_la (s_P sg k)) (q_vo (s_P sg k)) (q_pc (s_P sg k)) (q_kd (s_P sg k)) (s_g sg) d)))), (12, .long (lN 0)), (9, .int (nI (s_ru sg d + 1))), (8, .int (nI 0)), (7, .int (-70008)), (6, .int (nI u9)), (5, .int (nI d)), (0, .ref (a 0)), (1, .int (nI x)), (2, .int (nI y)), (3, .ref cA), (4, .ref fA), (14, .int (nI k))]) hx hb dL_settles_129 hl (by decide) rfl (fun ls hl => ?_)
                  refine lv_iinc (v := (nI (k + 1))) (lv' := [(14, .int (nI (k + 1))), (10, .long (lN (sv + (z_un (q_la (s_P sg k)) (q_vo (s_P sg k)) (q_pc (s_P sg k)) (q_kd (s_P sg k)) (s_g sg) d)))), (12, .long (lN 0)), (9, .int (nI (s_ru sg d + 1))), (8, .int (nI 0)), (7, .int (-70008)), (6, .int (nI u9)), (5, .int (nI d)), (0, .ref (a 0)), (1, .int (nI x)), (2, .int (nI y)), (3, .ref cA), (4, .ref fA)]) hx hb dL_settles_131 hl (k := 12) rfl (nI_add _ _) (by decide) rfl (fun ls hl => ?_)
                  refine lv_goto (tgt := 95) hx hb dL_settles_134 (by decide) ?_
                  exact ih95 (k + 1) (sv + (z_un (q_la (s_P sg k)) (q_vo (s_P sg k)) (q_pc (s_P sg k)) (q_kd (s_P sg k)) (s_g sg) d)) (by omega) (by rw [zVl_s, if_pos (by omega)]; exact congrArg (· + _) hi95_1) (by omega) _ _ hP hD hS _ (lv_sub hl [2, 3, 4, 5, 6, 7, 8, 9, 10, 11, 12, 1, 0] rfl)
          exact hloop95 (s_np sg - 0 + 1) 0 0 (by omega) (rfl) (by omega) _ _ hP hD hS _ (lv_sub hl [1, 3, 4, 5, 6, 7, 8, 9, 10, 11, 12, 2, 0] rfl)
      · exact absurd (by decide) c_4
    · obtain rfl : r_2 = nI (s_fl sg d) := i2
      refine lv_istore (lv' := [(7, .int (nI (s_fl sg d))), (6, .int (nI u9)), (5, .int (nI d)), (0, .ref (a 0)), (1, .int (nI x)), (2, .int (nI y)), (3, .ref cA), (4, .ref fA)]) hx hb dL_settles_60 hl (by decide) rfl (fun ls hl => ?_)
      refine lv_iload hx hb dL_settles_62 (lv_at hl 0 rfl) ?_
      refine z_if_lt hx hb (by omega) dL_settles_64 (tgt := 71) (by decide) ?_
      refine lv_iconst (v := nI 1) hx hb dL_settles_67 (by decide) ?_
      refine lv_goto (tgt := 72) hx hb dL_settles_68 (by decide) ?_
      refine lv_istore (lv' := [(8, .int (nI 1)), (7, .int (nI (s_fl sg d))), (6, .int (nI u9)), (5, .int (nI d)), (0, .ref (a 0)), (1, .int (nI x)), (2, .int (nI y)), (3, .ref cA), (4, .ref fA)]) hx hb dL_settles_72 hl (by decide) rfl (fun ls hl => ?_)
      refine lv_aload_n hx hb dL_settles_74 rfl (lv_at hl 4 rfl) ?_
      refine lv_bipush (v := nI 7) hx hb dL_settles_75 (by decide) ?_
      refine lv_iload hx hb dL_settles_77 (lv_at hl 3 rfl) ?_
      refine lv_iconst (v := nI 0) hx hb dL_settles_79 (by decide) ?_
      refine lv_iconst (v := nI 0) hx hb dL_settles_80 (by decide) ?_
      have hP5 : va_P G vwCl ((zHs cy a s9_3) ++ [zI cy cA 3 cc, zI cy fA 8 ff]) _ := z_P_perm (z_permT (ww := [zI cy cA 3 cc, zI cy fA 8 ff]) (wu := []) (wr := [zI cy cA 3 cc, zI cy fA 8 ff]) (tl := (zHs cy a s9_3)) (n := 2) [] [0, 1] rfl rfl rfl (by decide)) hP
      have hD5 : va_D A ((zHs cy a s9_3) ++ [zI cy cA 3 cc, zI cy fA 8 ff]) := z_D_perm (z_permT (ww := [zI cy cA 3 cc, zI cy fA 8 ff]) (wu := []) (wr := [zI cy cA 3 cc, zI cy fA 8 ff]) (tl := (zHs cy a s9_3)) (n := 2) [] [0, 1] rfl rfl rfl (by decide)) hD
      refine z_ciP (wc := (zHs cy a s9_3)) (wr := [zI cy cA 3 cc, zI cy fA 8 ff]) (vx_runSW (As := [.ref (a 0), .int (nI 7), .int (nI d), .int (nI 0), .int (nI 0)]) (rest := []) ⟨hx, hb, hml, hown, hts⟩ (q_settle l hl9 G cy wd fo _ _ a s9_3 ((i3).1) d (by rw [(i3).2.2.1]; exact hd) (nI 0) (nI 0)) (vx_cwSW 5 hts gL_settles_L_asks rfl rfl rfl (by decide +kernel) ⟨Nat.le_of_ble_eq_true rfl, Nat.le_of_ble_eq_true rfl⟩) (z_pHP hK hP5 hD5 hS hN hAN hWd hE) rfl rfl hl.1 rfl (lv_room (Nat.le_of_ble_eq_true rfl)) dL_settles_81 ⟨by show 1 + 1 ≤ 3; omega, by show 6 + 6 ≤ 18; omega⟩) hP5 hD5 hS hA (fun r_31 u H locs hr_31 hQ hD hS hz => ?_)
      obtain ⟨s9_32, rfl⟩ : ∃ z, z = u := ⟨_, rfl⟩
      try dsimp only at hr_31
      have hP : va_P G vwCl ([zI cy cA 3 cc, zI cy fA 8 ff] ++ (zHs cy a s9_32)) H := z_P_perm (List.Perm.symm (z_permT (ww := [zI cy cA 3 cc, zI cy fA 8 ff]) (wu := []) (wr := [zI cy cA 3 cc, zI cy fA 8 ff]) (tl := (zHs cy a s9_32)) (n := 2) [] [0, 1] rfl rfl rfl (by decide))) hQ
      have hD : va_D A ([zI cy cA 3 cc, zI cy fA 8 ff] ++ (zHs cy a s9_32)) := z_D_perm (List.Perm.symm (z_permT (ww := [zI cy cA 3 cc, zI cy fA 8 ff]) (wu := []) (wr := [zI cy cA 3 cc, zI cy fA 8 ff]) (tl := (zHs cy a s9_32)) (n := 2) [] [0, 1] rfl rfl rfl (by decide))) hD
      clear hQ hP5 hD5
      rcases hr_31 with ⟨j1, j2, j3⟩ | ⟨j1, j2, j3, j4, j5⟩
      · exfalso; omega
      · obtain rfl : r_31 = nI (s_ru s9_3 d + 1) := j2
        have l7 : zLk sg s9_32 := zLk_tr (i3) j3
        refine lv_istore (lv' := [(9, .int (nI (s_ru s9_3 d + 1))), (8, .int (nI 1)), (7, .int (nI (s_fl sg d))), (6, .int (nI u9)), (5, .int (nI d)), (0, .ref (a 0)), (1, .int (nI x)), (2, .int (nI y)), (3, .ref cA), (4, .ref fA)]) hx hb dL_settles_84 hl (by decide) rfl (fun ls hl => ?_)
        refine lv_lconst (v := lN 0) hx hb dL_settles_86 rfl ?_
        refine lv_lstore (lv' := [(10, .long (lN 0)), (9, .int (nI (s_ru s9_3 d + 1))), (8, .int (nI 1)), (7, .int (nI (s_fl sg d))), (6, .int (nI u9)), (5, .int (nI d)), (0, .ref (a 0)), (1, .int (nI x)), (2, .int (nI y)), (3, .ref cA), (4, .ref fA)]) hx hb dL_settles_87 hl (by decide) rfl (fun ls hl => ?_)
        refine lv_lconst (v := lN 0) hx hb dL_settles_89 rfl ?_
        refine lv_lstore (lv' := [(12, .long (lN 0)), (10, .long (lN 0)), (9, .int (nI (s_ru s9_3 d + 1))), (8, .int (nI 1)), (7, .int (nI (s_fl sg d))), (6, .int (nI u9)), (5, .int (nI d)), (0, .ref (a 0)), (1, .int (nI x)), (2, .int (nI y)), (3, .ref cA), (4, .ref fA)]) hx hb dL_settles_90 hl (by decide) rfl (fun ls hl => ?_)
        refine lv_iconst (v := nI 0) hx hb dL_settles_92 (by decide) ?_
        refine lv_istore (lv' := [(14, .int (nI 0)), (12, .long (lN 0)), (10, .long (lN 0)), (9, .int (nI (s_ru s9_3 d + 1))), (8, .int (nI 1)), (7, .int (nI (s_fl sg d))), (6, .int (nI u9)), (5, .int (nI d)), (0, .ref (a 0)), (1, .int (nI x)), (2, .int (nI y)), (3, .ref cA), (4, .ref fA)]) hx hb dL_settles_93 hl (by decide) rfl (fun ls hl => ?_)
        have hloop95 : ∀ (fuel95 : Nat) (k : Nat) (sv : Nat), (k ≤ s_np sg) → (sv = zVl sg d k) → (s_np sg - k) < fuel95 → ∀ (H : Heap) (locs : List Loc), va_P G vwCl ([zI cy cA 3 cc, zI cy fA 8 ff] ++ (zHs cy a s9_32)) H → va_D A ([zI cy cA 3 cc, zI cy fA 8 ff] ++ (zHs cy a s9_32)) → va_S A s.heap H locs → ∀ (ls : Array Slot), lv_has ls 15 [(12, .long (lN 0)), (9, .int (nI (s_ru s9_3 d + 1))), (8, .int (nI 1)), (7, .int (nI (s_fl sg d))), (6, .int (nI u9)), (5, .int (nI d)), (0, .ref (a 0)), (1, .int (nI x)), (2, .int (nI y)), (3, .ref cA), (4, .ref fA), (10, .long (lN sv)), (14, .int (nI k))] → W p l e { frames := 10, cells := 3, slots := 18, locals := 250 } s m [.ref (a 0), .int (nI x), .int (nI y), .ref cA, .ref fA].toArray below meth c H locs 2 12 (MQ below (va_Qi (fun r s9 => r = nI 1 ∧ zLk sg s9) (fun (u : zHo) t9 => zB G cy A ([zI cy cA 3 cc, zI cy fA 8 ff] ++ (zHs cy a u)) t9) A) [.ref (a 0), .int (nI x), .int (nI y), .ref cA, .ref fA].toArray s 3 18 A) (F0 m 95 ls []) := by
          intro fuel95
          induction fuel95 with
          | zero =>
            intro k sv hi95_0 hi95_1 hfu95
            exact absurd hfu95 (Nat.not_lt_zero _)
          | succ fuel95 ih95 =>
            intro k sv hi95_0 hi95_1 hfu95 H locs hP hD hS ls hl
            refine lv_iload hx hb dL_settles_95 (lv_at hl 12 rfl) ?_
            refine lv_aload_n hx hb dL_settles_97 rfl (lv_at hl 9 rfl) ?_
            refine lv_iconst (v := nI 0) hx hb dL_settles_98 (by decide) ?_
            refine z_iald (G := G) (v := (nI (s_np sg))) hx hb hK hP 0 rfl (by omega) (hc0) dL_settles_99 ?_
            refine z_icmp_ge hx hb (by omega) (by omega) dL_settles_100 (tgt := 137) (by decide) (fun c_33 => ?_) (fun c_33 => ?_)
            · have ek : k = s_np sg := by omega
              rw [ek] at hi95_1
              refine lv_iconst (v := nI 0) hx hb dL_settles_137 (by decide) ?_
              refine lv_istore (lv' := [(14, .int (nI 0)), (12, .long (lN 0)), (9, .int (nI (s_ru s9_3 d + 1))), (8, .int (nI 1)), (7, .int (nI (s_fl sg d))), (6, .int (nI u9)), (5, .int (nI d)), (0, .ref (a 0)), (1, .int (nI x)), (2, .int (nI y)), (3, .ref cA), (4, .ref fA), (10, .long (lN sv))]) hx hb dL_settles_138 hl (by decide) rfl (fun ls hl => ?_)
              have hloop140 : ∀ (fuel140 : Nat) (t : Nat), (t ≤ 4) → (4 - t) < fuel140 → ∀ (H : Heap) (locs : List Loc), va_P G vwCl ([zI cy cA 3 cc, zI cy fA 8 ff] ++ (zHs cy a s9_32)) H → va_D A ([zI cy cA 3 cc, zI cy fA 8 ff] ++ (zHs cy a s9_32)) → va_S A s.heap H locs → ∀ (ls : Array Slot), lv_has ls 15 [(9, .int (nI (s_ru s9_3 d + 1))), (8, .int (nI 1)), (7, .int (nI (s_fl sg d))), (6, .int (nI u9)), (5, .int (nI d)), (0, .ref (a 0)), (1, .int (nI x)), (2, .int (nI y)), (3, .ref cA), (4, .ref fA), (10, .long (lN sv)), (12, .long (zS8 (fun s => (s_rs s9_32 (s * 1000 + d)).toInt32.toInt64) t)), (14, .int (nI t))] → W p l e { frames := 10, cells := 3, slots := 18, locals := 250 } s m [.ref (a 0), .int (nI x), .int (nI y), .ref cA, .ref fA].toArray below meth c H locs 2 12 (MQ below (va_Qi (fun r s9 => r = nI 1 ∧ zLk sg s9) (fun (u : zHo) t9 => zB G cy A ([zI cy cA 3 cc, zI cy fA 8 ff] ++ (zHs cy a u)) t9) A) [.ref (a 0), .int (nI x), .int (nI y), .ref cA, .ref fA].toArray s 3 18 A) (F0 m 140 ls []) := by
                intro fuel140
                induction fuel140 with
                | zero =>
                  intro t hi140_0 hfu140
                  exact absurd hfu140 (Nat.not_lt_zero _)
                | succ fuel140 ih140 =>
                  intro t hi140_0 hfu140 H locs hP hD hS ls hl
                  refine lv_iload hx hb dL_settles_140 (lv_at hl 12 rfl) ?_
                  refine lv_iconst (v := nI 4) hx hb dL_settles_142 (by decide) ?_
                  refine z_icmp_ge hx hb (by omega) (by omega) dL_settles_143 (tgt := 166) (by decide) (fun c_34 => ?_) (fun c_34 => ?_)
                  · have et : t = 4 := by omega
                    subst et
                    refine lv_iload hx hb dL_settles_166 (lv_at hl 0 rfl) ?_
                    refine lv_ldc (v := (-70008)) hx hb hown (hts _ (List.mem_of_getElem? (i := 2) (by decide +kernel))) dL_settles_168 ?_
                    refine lv_icmp_ne hx hb dL_settles_170 (tgt := 186) (by decide) (fun c_35 => ?_) (fun c_35 => ?_)
                    · refine lv_iload hx hb dL_settles_186 (lv_at hl 0 rfl) ?_
                      refine z_jf_le hx hb (a := ((s_ru s9_3 d + 1 : Nat) : Int)) (nI_toInt (by omega)) dL_settles_188 (tgt := 257) (by decide) (fun c_36 => ?_) (fun c_36 => ?_)
                      · exfalso; omega
                      · refine lv_iload hx hb dL_settles_191 (lv_at hl 0 rfl) ?_
                        refine lv_iconst (v := nI 4) hx hb dL_settles_193 (by decide) ?_
                        refine z_icmp_ge hx hb (by omega) (by omega) dL_settles_194 (tgt := 257) (by decide) (fun c_37 => ?_) (fun c_37 => ?_)
                        · exfalso; omega
                        · refine lv_iload hx hb dL_settles_197 (lv_at hl 1 rfl) ?_
                          refine lv_iload hx hb dL_settles_199 (lv_at hl 0 rfl) ?_
                          refine lv_iconst (v := nI 1) hx hb dL_settles_201 (by decide) ?_
                          refine z_icmp_ne hx hb (by omega) (by omega) dL_settles_202 (tgt := 209) (by decide) (fun c_38 => ?_) (fun c_38 => ?_)
                          · exfalso; omega
                          · refine lv_iconst (v := nI 1) hx hb dL_settles_205 (by decide) ?_
                            refine lv_goto (tgt := 210) hx hb dL_settles_206 (by decide) ?_
                            refine z_icmp_ne hx hb (by omega) (by omega) dL_settles_210 (tgt := 257) (by decide) (fun c_39 => ?_) (fun c_39 => ?_)
                            · exfalso; omega
                            · refine lv_aload_n hx hb dL_settles_213 rfl (lv_at hl 5 rfl) ?_
                              refine lv_bipush (v := nI 8) hx hb dL_settles_214 (by decide) ?_
                              refine lv_iload hx hb dL_settles_216 (lv_at hl 4 rfl) ?_
                              refine lv_iconst (v := nI 5) hx hb dL_settles_218 (by decide) ?_
                              refine lv_iconst (v := nI 0) hx hb dL_settles_219 (by decide) ?_
                              have hP5 : va_P G vwCl ((zHs cy a s9_32) ++ [zI cy cA 3 cc, zI cy fA 8 ff]) _ := z_P_perm (z_permT (ww := [zI cy cA 3 cc, zI cy fA 8 ff]) (wu := []) (wr := [zI cy cA 3 cc, zI cy fA 8 ff]) (tl := (zHs cy a s9_32)) (n := 2) [] [0, 1] rfl rfl rfl (by decide)) hP
                              have hD5 : va_D A ((zHs cy a s9_32) ++ [zI cy cA 3 cc, zI cy fA 8 ff]) := z_D_perm (z_permT (ww := [zI cy cA 3 cc, zI cy fA 8 ff]) (wu := []) (wr := [zI cy cA 3 cc, zI cy fA 8 ff]) (tl := (zHs cy a s9_32)) (n := 2) [] [0, 1] rfl rfl rfl (by decide)) hD
                              refine z_ciP (wc := (zHs cy a s9_32)) (wr := [zI cy cA 3 cc, zI cy fA 8 ff]) (vx_runSW (As := [.ref (a 0), .int (nI 8), .int (nI d), .int (nI 5), .int (nI 0)]) (rest := []) ⟨hx, hb, hml, hown, hts⟩ (q_inflow l hl9 G cy wd fo _ _ a s9_32 (l7.1) d 5 (by rw [l7.2.2.1]; exact hd) (by omega) (nI 0)) (vx_cwSW 5 hts gL_settles_L_asks rfl rfl rfl (by decide +kernel) ⟨Nat.le_of_ble_eq_true rfl, Nat.le_of_ble_eq_true rfl⟩) (z_pHP hK hP5 hD5 hS hN hAN hWd hE) rfl rfl hl.1 rfl (lv_room (Nat.le_of_ble_eq_true rfl)) dL_settles_220 ⟨by show 2 + 1 ≤ 3; omega, by show 12 + 6 ≤ 18; omega⟩) hP5 hD5 hS hA (fun r_40 u H locs hr_40 hQ hD hS hz => ?_)
                              obtain ⟨s9_41, rfl⟩ : ∃ z, z = u := ⟨_, rfl⟩
                              try dsimp only at hr_40
                              have hP : va_P G vwCl ([zI cy cA 3 cc, zI cy fA 8 ff] ++ (zHs cy a s9_41)) H := z_P_perm (List.Perm.symm (z_permT (ww := [zI cy cA 3 cc, zI cy fA 8 ff]) (wu := []) (wr := [zI cy cA 3 cc, zI cy fA 8 ff]) (tl := (zHs cy a s9_41)) (n := 2) [] [0, 1] rfl rfl rfl (by decide))) hQ
                              have hD : va_D A ([zI cy cA 3 cc, zI cy fA 8 ff] ++ (zHs cy a s9_41)) := z_D_perm (List.Perm.symm (z_permT (ww := [zI cy cA 3 cc, zI cy fA 8 ff]) (wu := []) (wr := [zI cy cA 3 cc, zI cy fA 8 ff]) (tl := (zHs cy a s9_41)) (n := 2) [] [0, 1] rfl rfl rfl (by decide))) hD
                              clear hQ hP5 hD5
                              rcases hr_40 with ⟨-, p1, p2⟩ | ⟨p3, -⟩
                              · rw [p2] at hP hD
                                obtain rfl : r_40 = -70008 := p1
                                refine lv_ldc (v := (-70008)) hx hb hown (hts _ (List.mem_of_getElem? (i := 2) (by decide +kernel))) dL_settles_223 ?_
                                refine lv_icmp_ne hx hb dL_settles_225 (tgt := 257) (by decide) (fun c_42 => ?_) (fun c_42 => ?_)
                                · exact absurd rfl c_42
                                · refine lv_iload hx hb dL_settles_228 (lv_at hl 1 rfl) ?_
                                  refine lv_if_eq hx hb dL_settles_230 (tgt := 253) (by decide) (fun q => absurd q (by decide)) (fun _ => ?_)
                                  refine lv_lload hx hb dL_settles_233 (lv_at hl 11 rfl) ?_
                                  refine lv_lload hx hb dL_settles_235 (lv_at hl 10 rfl) ?_
                                  refine lv_lconst (v := lN 0) hx hb dL_settles_237 rfl ?_
                                  refine z_lcN_ne hx hb (by rw [hi95_1]; have := zVl_le (d := d) hO (Nat.le_refl _); omega) (by decide) dL_settles_238 dL_settles_239 (tgt := 246) (by decide) (fun c_43 => ?_) (fun c_43 => ?_)
                                  · refine lv_iload hx hb dL_settles_246 (lv_at hl 3 rfl) ?_
                                    refine z_i2l hx hb (by omega) dL_settles_248 ?_
                                    refine z_lc_ne hx hb dL_settles_249 dL_settles_250 (tgt := 257) (by decide) (fun c_44 => ?_) (fun c_44 => ?_)
                                    · exact (c_44 (by rw [j5, zVl_lk i3, i3.2.1, ← hi95_1, if_neg c_43, i5])).elim
                                    · refine lv_iconst (v := nI 1) hx hb dL_settles_253 (by decide) ?_
                                      refine lv_goto (tgt := 258) hx hb dL_settles_254 (by decide) ?_
                                      exact z_rMz hx hb hr hlk (by rfl) dL_settles_258 s9_32 (⟨rfl, l7⟩) hP hD hK hS (by omega) (by omega)
                                  · refine lv_lconst (v := lN 0) hx hb dL_settles_242 rfl ?_
                                    refine lv_goto (tgt := 249) hx hb dL_settles_243 (by decide) ?_
                                    refine z_lc_ne hx hb dL_settles_249 dL_settles_250 (tgt := 257) (by decide) (fun c_45 => ?_) (fun c_45 => ?_)
                                    · exact (c_45 (by rw [j5, zVl_lk i3, i3.2.1, ← hi95_1, if_pos c_43])).elim
                                    · refine lv_iconst (v := nI 1) hx hb dL_settles_253 (by decide) ?_
                                      refine lv_goto (tgt := 258) hx hb dL_settles_254 (by decide) ?_
                                      exact z_rMz hx hb hr hlk (by rfl) dL_settles_258 s9_32 (⟨rfl, l7⟩) hP hD hK hS (by omega) (by omega)
                              · exfalso; omega
                    · exact absurd c_35 (z_n8 (by omega))
                  · refine lv_lload hx hb dL_settles_146 (lv_at hl 11 rfl) ?_
                    refine lv_aload_n hx hb dL_settles_148 rfl (lv_at hl 5 rfl) ?_
                    refine lv_iload hx hb dL_settles_149 (lv_at hl 4 rfl) ?_
                    refine lv_iload hx hb dL_settles_151 (lv_at hl 12 rfl) ?_
                    have hP5 : va_P G vwCl ((zHs cy a s9_32) ++ [zI cy cA 3 cc, zI cy fA 8 ff]) _ := z_P_perm (z_permT (ww := [zI cy cA 3 cc, zI cy fA 8 ff]) (wu := []) (wr := [zI cy cA 3 cc, zI cy fA 8 ff]) (tl := (zHs cy a s9_32)) (n := 2) [] [0, 1] rfl rfl rfl (by decide)) hP
                    have hD5 : va_D A ((zHs cy a s9_32) ++ [zI cy cA 3 cc, zI cy fA 8 ff]) := z_D_perm (z_permT (ww := [zI cy cA 3 cc, zI cy fA 8 ff]) (wu := []) (wr := [zI cy cA 3 cc, zI cy fA 8 ff]) (tl := (zHs cy a s9_32)) (n := 2) [] [0, 1] rfl rfl rfl (by decide)) hD
                    refine z_ciP (wc := (zHs cy a s9_32)) (wr := [zI cy cA 3 cc, zI cy fA 8 ff]) (va_runV (As := [.int (nI d), .int (nI t)]) (rest := [.long (zS8 (fun s => (s_rs s9_32 (s * 1000 + d)).toInt32.toInt64) t)]) ⟨hx, hb, hml, hown, hts⟩ (h_c_settled l hl9 G cy wd fo _ _ a s9_32 (l7.1.1) d t (by rw [l7.2.2.1]; exact hd) (by omega)) (cwV 2 hts gL_settles_X10_settled rfl rfl rfl (by decide +kernel) ⟨Nat.le_of_ble_eq_true rfl, Nat.le_of_ble_eq_true rfl⟩) (z_pVHP (ci := 11) hK hP5 hD5 hS hN hAN hWd hE rfl rfl 0 rfl) rfl rfl hl.1 rfl (lv_room (Nat.le_of_ble_eq_true rfl)) dL_settles_153 ⟨by show 2 + 0 ≤ 3; omega, by show 12 + 0 ≤ 18; omega⟩) hP5 hD5 hS hA (fun r_46 u H locs hr_46 hQ hD hS hz => ?_)
                    obtain ⟨s9_47, rfl⟩ : ∃ z, z = u := ⟨_, rfl⟩
                    try dsimp only at hr_46
                    have hP : va_P G vwCl ([zI cy cA 3 cc, zI cy fA 8 ff] ++ (zHs cy a s9_47)) H := z_P_perm (List.Perm.symm (z_permT (ww := [zI cy cA 3 cc, zI cy fA 8 ff]) (wu := []) (wr := [zI cy cA 3 cc, zI cy fA 8 ff]) (tl := (zHs cy a s9_47)) (n := 2) [] [0, 1] rfl rfl rfl (by decide))) hQ
                    have hD : va_D A ([zI cy cA 3 cc, zI cy fA 8 ff] ++ (zHs cy a s9_47)) := z_D_perm (List.Perm.symm (z_permT (ww := [zI cy cA 3 cc, zI cy fA 8 ff]) (wu := []) (wr := [zI cy cA 3 cc, zI cy fA 8 ff]) (tl := (zHs cy a s9_47)) (n := 2) [] [0, 1] rfl rfl rfl (by decide))) hD
                    clear hQ hP5 hD5
                    rw [hr_46.2] at hP hD
                    obtain rfl : r_46 = (((s_rs s9_32) (t * 1000 + d)).toInt32) := hr_46.1
                    refine lv_i2l (v := (((s_rs s9_32) (t * 1000 + d)).toInt32).toInt64) hx hb dL_settles_156 rfl ?_
                    refine lv_ladd hx hb dL_settles_157 ?_
                    refine lv_lstore (lv' := [(12, .long ((zS8 (fun s => (s_rs s9_32 (s * 1000 + d)).toInt32.toInt64) t) + ((((s_rs s9_32) (t * 1000 + d)).toInt32).toInt64))), (9, .int (nI (s_ru s9_3 d + 1))), (8, .int (nI 1)), (7, .int (nI (s_fl sg d))), (6, .int (nI u9)), (5, .int (nI d)), (0, .ref (a 0)), (1, .int (nI x)), (2, .int (nI y)), (3, .ref cA), (4, .ref fA), (10, .long (lN sv)), (14, .int (nI t))]) hx hb dL_settles_158 hl (by decide) rfl (fun ls hl => ?_)
                    refine lv_iinc (v := (nI (t + 1))) (lv' := [(14, .int (nI (t + 1))), (12, .long ((zS8 (fun s => (s_rs s9_32 (s * 1000 + d)).toInt32.toInt64) t) + ((((s_rs s9_32) (t * 1000 + d)).toInt32).toInt64))), (9, .int (nI (s_ru s9_3 d + 1))), (8, .int (nI 1)), (7, .int (nI (s_fl sg d))), (6, .int (nI u9)), (5, .int (nI d)), (0, .ref (a 0)), (1, .int (nI x)), (2, .int (nI y)), (3, .ref cA), (4, .ref fA), (10, .long (lN sv))]) hx hb dL_settles_160 hl (k := 12) rfl (nI_add _ _) (by decide) rfl (fun ls hl => ?_)
                    refine lv_goto (tgt := 140) hx hb dL_settles_163 (by decide) ?_
                    exact ih140 (t + 1) (by omega) (by omega) _ _ hP hD hS _ (lv_sub hl [2, 3, 4, 5, 6, 7, 8, 9, 10, 11, 12, 1, 0] rfl)
              exact hloop140 (4 - 0 + 1) 0 (by omega) (by omega) _ _ hP hD hS _ (lv_sub hl [2, 3, 4, 5, 6, 7, 8, 9, 10, 11, 12, 1, 0] rfl)
            · have hk6 : k < s_np sg := by omega
              have hp8 := zOk_P hO hk6
              have hf6 := zPk_con hp8
              have hl6 := zPk_la hp8
              refine lv_lload hx hb dL_settles_103 (lv_at hl 11 rfl) ?_
              refine lv_aload hx hb dL_settles_105 (lv_at hl 10 rfl) ?_
              refine lv_iload hx hb dL_settles_107 (lv_at hl 12 rfl) ?_
              refine z_iald (G := G) (v := (nI (q_fi (s_P sg k)))) hx hb hK hP 1 rfl (by omega) (hf k (by omega)) dL_settles_109 ?_
              refine lv_iload hx hb dL_settles_110 (lv_at hl 5 rfl) ?_
              refine z_icmp_gt hx hb (by omega) (by omega) dL_settles_112 (tgt := 127) (by decide) (fun c_48 => ?_) (fun c_48 => ?_)
              · refine lv_lconst (v := lN 0) hx hb dL_settles_127 rfl ?_
                refine z_ladd hx hb dL_settles_128 ?_
                refine lv_lstore (lv' := [(10, .long (lN (sv + 0))), (12, .long (lN 0)), (9, .int (nI (s_ru s9_3 d + 1))), (8, .int (nI 1)), (7, .int (nI (s_fl sg d))), (6, .int (nI u9)), (5, .int (nI d)), (0, .ref (a 0)), (1, .int (nI x)), (2, .int (nI y)), (3, .ref cA), (4, .ref fA), (14, .int (nI k))]) hx hb dL_settles_129 hl (by decide) rfl (fun ls hl => ?_)
                refine lv_iinc (v := (nI (k + 1))) (lv' := [(14, .int (nI (k + 1))), (10, .long (lN (sv + 0))), (12, .long (lN 0)), (9, .int (nI (s_ru s9_3 d + 1))), (8, .int (nI 1)), (7, .int (nI (s_fl sg d))), (6, .int (nI u9)), (5, .int (nI d)), (0, .ref (a 0)), (1, .int (nI x)), (2, .int (nI y)), (3, .ref cA), (4, .ref fA)]) hx hb dL_settles_131 hl (k := 12) rfl (nI_add _ _) (by decide) rfl (fun ls hl => ?_)
                refine lv_goto (tgt := 95) hx hb dL_settles_134 (by decide) ?_
                exact ih95 (k + 1) (sv + 0) (by omega) (by rw [zVl_s, if_neg (by omega)]; exact congrArg (· + _) hi95_1) (by omega) _ _ hP hD hS _ (lv_sub hl [2, 3, 4, 5, 6, 7, 8, 9, 10, 11, 12, 1, 0] rfl)
              · have hk7 : k < s_np s9_32 := by rw [l7.2.1]; omega
                have hp7 := zOk_P l7.1 hk7
                have hun : z_un (q_la (s_P sg k)) (q_vo (s_P sg k)) (q_pc (s_P sg k)) (q_kd (s_P sg k)) (s_g sg) d ≤ 190000000 := z_un_le (zPk_vo hp8 d) (zPk_pc hp8) (zOk_g hO d)
                refine lv_aload_n hx hb dL_settles_115 rfl (lv_at hl 6 rfl) ?_
                refine lv_iload hx hb dL_settles_116 (lv_at hl 12 rfl) ?_
                refine lv_iload hx hb dL_settles_118 (lv_at hl 5 rfl) ?_
                have hP5 : va_P G vwCl ((zHs cy a s9_32) ++ [zI cy cA 3 cc, zI cy fA 8 ff]) _ := z_P_perm (z_permT (ww := [zI cy cA 3 cc, zI cy fA 8 ff]) (wu := []) (wr := [zI cy cA 3 cc, zI cy fA 8 ff]) (tl := (zHs cy a s9_32)) (n := 2) [] [0, 1] rfl rfl rfl (by decide)) hP
                have hD5 : va_D A ((zHs cy a s9_32) ++ [zI cy cA 3 cc, zI cy fA 8 ff]) := z_D_perm (z_permT (ww := [zI cy cA 3 cc, zI cy fA 8 ff]) (wu := []) (wr := [zI cy cA 3 cc, zI cy fA 8 ff]) (tl := (zHs cy a s9_32)) (n := 2) [] [0, 1] rfl rfl rfl (by decide)) hD
                refine z_ciP (wc := (zHs cy a s9_32)) (wr := [zI cy cA 3 cc, zI cy fA 8 ff]) (va_runV (As := [.int (nI k), .int (nI d)]) (rest := [.long (lN sv)]) ⟨hx, hb, hml, hown, hts⟩ (h_c_volume l hl9 G cy wd fo _ _ a s9_32 k (hk7) (zOk_k8 l7.1 hk7) (zOk_pt l7.1 hk7) (l7.1.1) d (zPk_kd hp7) (zOk_g l7.1) (by rw [l7.2.2.1]; exact hd) (by rw [l7.2.2.2.2.2]; omega) (by have := zPk_la hp7; have := l7.1.1; omega) (by have := zPk_pc hp7; omega)) (cwV 2 hts gL_settles_X10_volume rfl rfl rfl (by decide +kernel) ⟨Nat.le_of_ble_eq_true rfl, Nat.le_of_ble_eq_true rfl⟩) (z_pVHP (ci := 11) hK hP5 hD5 hS hN hAN hWd hE rfl rfl 0 rfl) rfl rfl hl.1 rfl (lv_room (Nat.le_of_ble_eq_true rfl)) dL_settles_120 ⟨by show 2 + 0 ≤ 3; omega, by show 12 + 0 ≤ 18; omega⟩) hP5 hD5 hS hA (fun r_49 u H locs hr_49 hQ hD hS hz => ?_)
                obtain ⟨s9_50, rfl⟩ : ∃ z, z = u := ⟨_, rfl⟩
                try dsimp only at hr_49
                have hP : va_P G vwCl ([zI cy cA 3 cc, zI cy fA 8 ff] ++ (zHs cy a s9_50)) H := z_P_perm (List.Perm.symm (z_permT (ww := [zI cy cA 3 cc, zI cy fA 8 ff]) (wu := []) (wr := [zI cy cA 3 cc, zI cy fA 8 ff]) (tl := (zHs cy a s9_50)) (n := 2) [] [0, 1] rfl rfl rfl (by decide))) hQ
                have hD : va_D A ([zI cy cA 3 cc, zI cy fA 8 ff] ++ (zHs cy a s9_50)) := z_D_perm (List.Perm.symm (z_permT (ww := [zI cy cA 3 cc, zI cy fA 8 ff]) (wu := []) (wr := [zI cy cA 3 cc, zI cy fA 8 ff]) (tl := (zHs cy a s9_50)) (n := 2) [] [0, 1] rfl rfl rfl (by decide))) hD
                clear hQ hP5 hD5
                rw [hr_49.2] at hP hD
                have hvr_49 : (nI (z_un (q_la (s_P s9_32 k)) (q_vo (s_P s9_32 k)) (q_pc (s_P s9_32 k)) (q_kd (s_P s9_32 k)) (s_g s9_32) d)) = (nI (z_un (q_la (s_P sg k)) (q_vo (s_P sg k)) (q_pc (s_P sg k)) (q_kd (s_P sg k)) (s_g sg) d)) := by rw [l7.2.2.2.2.2, l7.2.2.2.1]
                obtain rfl : r_49 = (nI (z_un (q_la (s_P sg k)) (q_vo (s_P sg k)) (q_pc (s_P sg k)) (q_kd (s_P sg k)) (s_g sg) d)) := hr_49.1.trans hvr_49
                refine z_i2l hx hb (by omega) dL_settles_123 ?_
                refine lv_goto (tgt := 128) hx hb dL_settles_124 (by decide) ?_
                refine z_ladd hx hb dL_settles_128 ?_
                refine lv_lstore (lv' := [(10, .long (lN (sv + (z_un (q_la (s_P sg k)) (q_vo (s_P sg k)) (q_pc (s_P sg k)) (q_kd (s_P sg k)) (s_g sg) d)))), (12, .long (lN 0)), (9, .int (nI (s_ru s9_3 d + 1))), (8, .int (nI 1)), (7, .int (nI (s_fl sg d))), (6, .int (nI u9)), (5, .int (nI d)), (0, .ref (a 0)), (1, .int (nI x)), (2, .int (nI y)), (3, .ref cA), (4, .ref fA), (14, .int (nI k))]) hx hb dL_settles_129 hl (by decide) rfl (fun ls hl => ?_)
                refine lv_iinc (v := (nI (k + 1))) (lv' := [(14, .int (nI (k + 1))), (10, .long (lN (sv + (z_un (q_la (s_P sg k)) (q_vo (s_P sg k)) (q_pc (s_P sg k)) (q_kd (s_P sg k)) (s_g sg) d)))), (12, .long (lN 0)), (9, .int (nI (s_ru s9_3 d + 1))), (8, .int (nI 1)), (7, .int (nI (s_fl sg d))), (6, .int (nI u9)), (5, .int (nI d)), (0, .ref (a 0)), (1, .int (nI x)), (2, .int (nI y)), (3, .ref cA), (4, .ref fA)]) hx hb dL_settles_131 hl (k := 12) rfl (nI_add _ _) (by decide) rfl (fun ls hl => ?_)
                refine lv_goto (tgt := 95) hx hb dL_settles_134 (by decide) ?_
                exact ih95 (k + 1) (sv + (z_un (q_la (s_P sg k)) (q_vo (s_P sg k)) (q_pc (s_P sg k)) (q_kd (s_P sg k)) (s_g sg) d)) (by omega) (by rw [zVl_s, if_pos (by omega)]; exact congrArg (· + _) hi95_1) (by omega) _ _ hP hD hS _ (lv_sub hl [2, 3, 4, 5, 6, 7, 8, 9, 10, 11, 12, 1, 0] rfl)
        exact hloop95 (s_np sg - 0 + 1) 0 0 (by omega) (rfl) (by omega) _ _ hP hD hS _ (lv_sub hl [1, 3, 4, 5, 6, 7, 8, 9, 10, 11, 12, 2, 0] rfl)
  · refine lv_aload_n hx hb dL_settles_6 rfl (lv_at hl 0 rfl) ?_
    refine lv_bipush (v := nI 7) hx hb dL_settles_7 (by decide) ?_
    refine lv_iconst (v := nI 0) hx hb dL_settles_9 (by decide) ?_
    refine lv_iconst (v := nI 0) hx hb dL_settles_10 (by decide) ?_
    refine lv_iconst (v := nI 0) hx hb dL_settles_11 (by decide) ?_
    have hP5 : va_P G vwCl ((zHs cy a sg) ++ [zI cy cA 3 cc, zI cy fA 8 ff]) _ := z_P_perm (z_permT (ww := [zI cy cA 3 cc, zI cy fA 8 ff]) (wu := []) (wr := [zI cy cA 3 cc, zI cy fA 8 ff]) (tl := (zHs cy a sg)) (n := 2) [] [0, 1] rfl rfl rfl (by decide)) hP
    have hD5 : va_D A ((zHs cy a sg) ++ [zI cy cA 3 cc, zI cy fA 8 ff]) := z_D_perm (z_permT (ww := [zI cy cA 3 cc, zI cy fA 8 ff]) (wu := []) (wr := [zI cy cA 3 cc, zI cy fA 8 ff]) (tl := (zHs cy a sg)) (n := 2) [] [0, 1] rfl rfl rfl (by decide)) hD
    refine z_ciP (wc := (zHs cy a sg)) (wr := [zI cy cA 3 cc, zI cy fA 8 ff]) (vx_runSW (As := [.ref (a 0), .int (nI 7), .int (nI 0), .int (nI 0), .int (nI 0)]) (rest := []) ⟨hx, hb, hml, hown, hts⟩ (k_e1_settle l hl9 G cy wd fo _ _ a sg (hO.1) (nI 0) (by rw [nI_toInt (by decide)]; omega) (nI 0) (nI 0)) (vx_cwSW 5 hts gL_settles_L_asks rfl rfl rfl (by decide +kernel) ⟨Nat.le_of_ble_eq_true rfl, Nat.le_of_ble_eq_true rfl⟩) (z_pHP hK hP5 hD5 hS hN hAN hWd hE) rfl rfl hl.1 rfl (lv_room (Nat.le_of_ble_eq_true rfl)) dL_settles_12 ⟨by show 0 + 1 ≤ 3; omega, by show 0 + 6 ≤ 18; omega⟩) hP5 hD5 hS hA (fun r_51 u H locs hr_51 hQ hD hS hz => ?_)
    obtain ⟨s9_52, rfl⟩ : ∃ z, z = u := ⟨_, rfl⟩
    try dsimp only at hr_51
    have hP : va_P G vwCl ([zI cy cA 3 cc, zI cy fA 8 ff] ++ (zHs cy a s9_52)) H := z_P_perm (List.Perm.symm (z_permT (ww := [zI cy cA 3 cc, zI cy fA 8 ff]) (wu := []) (wr := [zI cy cA 3 cc, zI cy fA 8 ff]) (tl := (zHs cy a s9_52)) (n := 2) [] [0, 1] rfl rfl rfl (by decide))) hQ
    have hD : va_D A ([zI cy cA 3 cc, zI cy fA 8 ff] ++ (zHs cy a s9_52)) := z_D_perm (List.Perm.symm (z_permT (ww := [zI cy cA 3 cc, zI cy fA 8 ff]) (wu := []) (wr := [zI cy cA 3 cc, zI cy fA 8 ff]) (tl := (zHs cy a s9_52)) (n := 2) [] [0, 1] rfl rfl rfl (by decide))) hD
    clear hQ hP5 hD5
    rw [hr_51.2] at hP hD
    obtain rfl : r_51 = (-70007) := hr_51.1
    refine lv_ldc (v := (-70007)) hx hb hown (hts _ (List.mem_of_getElem? (i := 1) (by decide +kernel))) dL_settles_15 ?_
    refine lv_icmp_ne hx hb dL_settles_17 (tgt := 24) (by decide) (fun c_53 => ?_) (fun c_53 => ?_)
    · exact absurd rfl c_53
    · refine lv_iconst (v := nI 1) hx hb dL_settles_20 (by decide) ?_
      refine lv_goto (tgt := 25) hx hb dL_settles_21 (by decide) ?_
      exact z_rMz hx hb hr hlk (by rfl) dL_settles_25 sg (⟨rfl, zLk_rf hO⟩) hP hD hK hS (by omega) (by omega)
