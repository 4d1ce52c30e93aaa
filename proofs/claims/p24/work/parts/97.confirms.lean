/-! confirms -/
set_option maxHeartbeats 4000000 in
set_option maxRecDepth 100000 in
theorem c_L_confirms (l : Launch) (hl9 : l.stackTraces = false) (G : va_G) (cy : Nat → ClassId) (wd : Nat → Nat) (fo : Option Nat) (N0 sz0 : Nat) (a : Nat → Nat) (sg : zHo) (x cA uA : Nat) (cc uu : Nat → Int32) (hO : zOk sg) (hn : 0 < s_np sg) (hx : x < 1073741824) (hc0 : cc 0 = nI (s_np sg)) (hu : zUk sg uu) : Met l yL_confirms wsL_confirms ({ frames := 12, cells := 1802, slots := 18012, locals := 290 }) (zMH G cy wd fo N0 [.ref (a 0), .int (nI x), .ref cA, .ref uA] sz0 ([zI cy cA 3 cc, zI cy uA 48 uu] ++ (zHs cy a sg))) (va_Qi (fun (r : Int32) (u : (Nat → Int32) × zHo) => r = nI 1 ∧ zKp sg u.2 ∧ zUk u.2 u.1) (fun (u : (Nat → Int32) × zHo) t9 => zB G cy (va_A ([zI cy cA 3 cc, zI cy uA 48 uu] ++ (zHs cy a sg)) sz0) ([zI cy cA 3 cc, zI cy uA 48 u.1] ++ (zHs cy a u.2)) t9) (va_A ([zI cy cA 3 cc, zI cy uA 48 uu] ++ (zHs cy a sg)) sz0)) 1802 18012 (va_A ([zI cy cA 3 cc, zI cy uA 48 uu] ++ (zHs cy a sg)) sz0) := by
  refine z_ofMN (cc := cL_confirms) (maxL := 8) (ret := (some .boolean)) (Qc := (fun A => va_Qi (fun (r : Int32) (u : (Nat → Int32) × zHo) => r = nI 1 ∧ zKp sg u.2 ∧ zUk u.2 u.1) (fun (u : (Nat → Int32) × zHo) t9 => zB G cy A ([zI cy cA 3 cc, zI cy uA 48 u.1] ++ (zHs cy a u.2)) t9) A)) (by decide) rfl (Nat.le_of_ble_eq_true rfl) ?_
  intro p e s m below meth c ls A hx hb hml hr hts hown hlk hP hK hD hA hS hl hsz0 hN hAN hWd hE
  have hown : s.vm.findClass RL = some m.cls := hown
  have hl : lv_has ls 8 [(0, .ref (a 0)), (1, .int (nI x)), (2, .ref cA), (3, .ref uA)] := hl
  have hn9 := hO.2.1
  refine lv_iload_n hx hb dL_confirms_0 rfl (lv_at hl 1 rfl) ?_
  refine lv_aload_n hx hb dL_confirms_1 rfl (lv_at hl 2 rfl) ?_
  refine lv_iconst (v := nI 0) hx hb dL_confirms_2 (by decide) ?_
  refine z_iald (G := G) (v := (nI (s_np sg))) hx hb hK hP 0 rfl (by omega) (hc0) dL_confirms_3 ?_
  refine z_irem hx hb (by omega) (by omega) (by omega) dL_confirms_4 ?_
  obtain ⟨k, hkd⟩ : ∃ k, k = x % s_np sg := ⟨_, rfl⟩
  rw [← hkd]
  have hkn : k < s_np sg := by rw [hkd]; exact Nat.mod_lt _ hn
  have hp := zOk_P hO hkn
  have hT9 := hO.1
  have hl9a := zPk_la hp
  have hf9a := zPk_con hp
  have hn9 := hO.2.1
  have hk8 := zOk_k8 hO hkn
  have hz9 := zPk_sz hp
  have hs9 := zPk_sh hp
  have hm9 := zPk_mu hp
  have hm1 := zPk_mu1 hp
  have hg9 := zDg_p hp
  refine lv_istore (lv' := [(4, .int (nI k)), (0, .ref (a 0)), (1, .int (nI x)), (2, .ref cA), (3, .ref uA)]) hx hb dL_confirms_5 hl (by decide) rfl (fun ls hl => ?_)
  refine lv_aload_n hx hb dL_confirms_7 rfl (lv_at hl 4 rfl) ?_
  refine lv_bipush (v := nI 6) hx hb dL_confirms_8 (by decide) ?_
  refine lv_iload hx hb dL_confirms_10 (lv_at hl 0 rfl) ?_
  refine z_imul hx hb dL_confirms_12 ?_
  refine lv_iconst (v := nI 5) hx hb dL_confirms_13 (by decide) ?_
  refine z_iadd hx hb dL_confirms_14 ?_
  refine z_iald (G := G) (v := (if q_dd (s_P sg k) ≤ nI (q_la (s_P sg k)) then (-1) else q_dd (s_P sg k))) hx hb hK hP 1 rfl (by omega) (hu k hkn 5 (by decide)) dL_confirms_15 ?_
  refine lv_istore (lv' := [(5, .int (if q_dd (s_P sg k) ≤ nI (q_la (s_P sg k)) then (-1) else q_dd (s_P sg k))), (4, .int (nI k)), (0, .ref (a 0)), (1, .int (nI x)), (2, .ref cA), (3, .ref uA)]) hx hb dL_confirms_16 hl (by decide) rfl (fun ls hl => ?_)
  refine lv_aload_n hx hb dL_confirms_18 rfl (lv_at hl 5 rfl) ?_
  refine lv_bipush (v := nI 6) hx hb dL_confirms_19 (by decide) ?_
  refine lv_iload hx hb dL_confirms_21 (lv_at hl 1 rfl) ?_
  refine z_imul hx hb dL_confirms_23 ?_
  refine z_iald (G := G) (v := (nI (q_la (s_P sg k)))) hx hb hK hP 1 rfl (by omega) (hu k hkn 0 (by decide)) dL_confirms_24 ?_
  refine lv_istore (lv' := [(6, .int (nI (q_la (s_P sg k)))), (5, .int (if q_dd (s_P sg k) ≤ nI (q_la (s_P sg k)) then (-1) else q_dd (s_P sg k))), (4, .int (nI k)), (0, .ref (a 0)), (1, .int (nI x)), (2, .ref cA), (3, .ref uA)]) hx hb dL_confirms_25 hl (by decide) rfl (fun ls hl => ?_)
  refine lv_aload_n hx hb dL_confirms_27 rfl (lv_at hl 3 rfl) ?_
  refine lv_iconst (v := nI 1) hx hb dL_confirms_28 (by decide) ?_
  refine lv_iload hx hb dL_confirms_29 (lv_at hl 2 rfl) ?_
  refine lv_iconst (v := nI 0) hx hb dL_confirms_31 (by decide) ?_
  refine lv_iconst (v := nI 0) hx hb dL_confirms_32 (by decide) ?_
  have hP5 : va_P G vwCl ((zHs cy a sg) ++ [zI cy cA 3 cc, zI cy uA 48 uu]) _ := z_P_perm (z_permT (ww := [zI cy cA 3 cc, zI cy uA 48 uu]) (wu := []) (wr := [zI cy cA 3 cc, zI cy uA 48 uu]) (tl := (zHs cy a sg)) (n := 2) [] [0, 1] rfl rfl rfl (by decide)) hP
  have hD5 : va_D A ((zHs cy a sg) ++ [zI cy cA 3 cc, zI cy uA 48 uu]) := z_D_perm (z_permT (ww := [zI cy cA 3 cc, zI cy uA 48 uu]) (wu := []) (wr := [zI cy cA 3 cc, zI cy uA 48 uu]) (tl := (zHs cy a sg)) (n := 2) [] [0, 1] rfl rfl rfl (by decide)) hD
  refine z_ciP (wc := (zHs cy a sg)) (wr := [zI cy cA 3 cc, zI cy uA 48 uu]) (vx_runSW (As := [.ref (a 0), .int (nI 1), .int (nI k), .int (nI 0), .int (nI 0)]) (rest := []) ⟨hx, hb, hml, hown, hts⟩ (q_confirm l hl9 G cy wd fo _ _ a sg (by omega) k (hkn) (nI 0) (nI 0)) (vx_cwSW 5 hts gL_confirms_L_asks rfl rfl rfl (by decide +kernel) ⟨Nat.le_of_ble_eq_true rfl, Nat.le_of_ble_eq_true rfl⟩) (z_pHP hK hP5 hD5 hS hN hAN hWd hE) rfl rfl hl.1 rfl (lv_room (Nat.le_of_ble_eq_true rfl)) dL_confirms_33 ⟨by show 0 + 1 ≤ 1802; omega, by show 0 + 6 ≤ 18012; omega⟩) hP5 hD5 hS hA (fun r_1 u H locs hr_1 hQ hD hS hz => ?_)
  obtain ⟨s9_2, rfl⟩ : ∃ z, z = u := ⟨_, rfl⟩
  try dsimp only at hr_1
  have hP : va_P G vwCl ([zI cy cA 3 cc, zI cy uA 48 uu] ++ (zHs cy a s9_2)) H := z_P_perm (List.Perm.symm (z_permT (ww := [zI cy cA 3 cc, zI cy uA 48 uu]) (wu := []) (wr := [zI cy cA 3 cc, zI cy uA 48 uu]) (tl := (zHs cy a s9_2)) (n := 2) [] [0, 1] rfl rfl rfl (by decide))) hQ
  have hD : va_D A ([zI cy cA 3 cc, zI cy uA 48 uu] ++ (zHs cy a s9_2)) := z_D_perm (List.Perm.symm (z_permT (ww := [zI cy cA 3 cc, zI cy uA 48 uu]) (wu := []) (wr := [zI cy cA 3 cc, zI cy uA 48 uu]) (tl := (zHs cy a s9_2)) (n := 2) [] [0, 1] rfl rfl rfl (by decide))) hD
  clear hQ hP5 hD5
  rcases hr_1 with ⟨q1, q2, q3⟩ | ⟨dq, q1, q4, q5, q6, q2, q3⟩
  · rw [q3] at hP hD
    obtain rfl : r_1 = -70008 := q2
    rw [if_pos q1] at hl
    refine lv_istore (lv' := [(7, .int (-70008)), (6, .int (nI (q_la (s_P sg k)))), (5, .int (-1)), (4, .int (nI k)), (0, .ref (a 0)), (1, .int (nI x)), (2, .ref cA), (3, .ref uA)]) hx hb dL_confirms_36 hl (by decide) rfl (fun ls hl => ?_)
    refine lv_iload hx hb dL_confirms_38 (lv_at hl 2 rfl) ?_
    refine lv_if_ge hx hb dL_confirms_40 (tgt := 56) (by decide) (fun c_3 => ?_) (fun c_3 => ?_)
    · exact absurd c_3 (by decide)
    · refine lv_iload hx hb dL_confirms_43 (lv_at hl 0 rfl) ?_
      refine lv_ldc (v := (-70008)) hx hb hown (hts _ (List.mem_of_getElem? (i := 1) (by decide +kernel))) dL_confirms_45 ?_
      refine lv_icmp_ne hx hb dL_confirms_47 (tgt := 54) (by decide) (fun c_4 => ?_) (fun c_4 => ?_)
      · exact absurd rfl c_4
      · refine lv_iconst (v := nI 1) hx hb dL_confirms_50 (by decide) ?_
        refine lv_goto (tgt := 55) hx hb dL_confirms_51 (by decide) ?_
        exact z_rMz hx hb hr hlk (by rfl) dL_confirms_55 (uu, sg) (⟨rfl, zKp_rf hO, hu⟩) hP hD hK hS (by omega) (by omega)
  · obtain ⟨U, hUd⟩ : ∃ U, U = z_use (q_sz (s_P sg k)) (q_mu (s_P sg k)) (q_sh (s_P sg k)) (q_ds (s_P sg k)) := ⟨_, rfl⟩
    have hU7 : U ≤ 10000000 := by rw [hUd]; exact z_use_le hz9 hm9 hs9 q6
    rw [← hUd] at q2
    obtain rfl : r_1 = nI U := q2
    rw [show (if q_dd (s_P sg k) ≤ nI (q_la (s_P sg k)) then (-1) else q_dd (s_P sg k)) = nI dq from by rw [q1]; exact z_dds (by omega) q4] at hl
    have hk9 : k < s_np s9_2 := by rw [q3.2.1]; exact hkn
    have hP9 := zAt_k q3
    have hp9 := zOk_P q3.1 hk9
    have hU6 : z_sm (q_vo (s_P s9_2 k)) (q_la (s_P sg k)) (dq - q_la (s_P sg k)) = U := by rw [hP9, hUd]; exact z_take_sum q4
    have hl8 : q_la (s_P s9_2 k) = dq := by rw [hP9]; rfl
    have hf8 : q_fi (s_P s9_2 k) = q_fi (s_P sg k) := by rw [hP9]; rfl
    have hd8 : q_dd (s_P s9_2 k) = nI dq := by rw [hP9]; exact q1
    refine lv_istore (lv' := [(7, .int (nI U)), (6, .int (nI (q_la (s_P sg k)))), (5, .int (nI dq)), (4, .int (nI k)), (0, .ref (a 0)), (1, .int (nI x)), (2, .ref cA), (3, .ref uA)]) hx hb dL_confirms_36 hl (by decide) rfl (fun ls hl => ?_)
    refine lv_iload hx hb dL_confirms_38 (lv_at hl 2 rfl) ?_
    refine z_if_ge hx hb (by omega) dL_confirms_40 (tgt := 56) (by decide) ?_
    refine lv_aload_n hx hb dL_confirms_56 rfl (lv_at hl 7 rfl) ?_
    refine lv_bipush (v := nI 6) hx hb dL_confirms_57 (by decide) ?_
    refine lv_iload hx hb dL_confirms_59 (lv_at hl 3 rfl) ?_
    refine z_imul hx hb dL_confirms_61 ?_
    refine lv_iload hx hb dL_confirms_62 (lv_at hl 2 rfl) ?_
    refine z_iast (G := G) hx hb hK hP hD hS 1 rfl (by omega) dL_confirms_64 (fun H locs hP hD hS => ?_)
    have hP : va_P G vwCl ([zI cy cA 3 cc, zI cy uA 48 (upd uu (6 * k) (nI dq))] ++ (zHs cy a s9_2)) H := hP
    have hD : va_D A ([zI cy cA 3 cc, zI cy uA 48 (upd uu (6 * k) (nI dq))] ++ (zHs cy a s9_2)) := hD
    refine lv_aload_n hx hb dL_confirms_65 rfl (lv_at hl 7 rfl) ?_
    refine lv_bipush (v := nI 6) hx hb dL_confirms_66 (by decide) ?_
    refine lv_iload hx hb dL_confirms_68 (lv_at hl 3 rfl) ?_
    refine z_imul hx hb dL_confirms_70 ?_
    refine lv_iconst (v := nI 1) hx hb dL_confirms_71 (by decide) ?_
    refine z_iadd hx hb dL_confirms_72 ?_
    refine lv_aload_n hx hb dL_confirms_73 rfl (lv_at hl 7 rfl) ?_
    refine lv_bipush (v := nI 6) hx hb dL_confirms_74 (by decide) ?_
    refine lv_iload hx hb dL_confirms_76 (lv_at hl 3 rfl) ?_
    refine z_imul hx hb dL_confirms_78 ?_
    refine lv_iconst (v := nI 1) hx hb dL_confirms_79 (by decide) ?_
    refine z_iadd hx hb dL_confirms_80 ?_
    refine z_iald (G := G) (v := (nI (q_sh (s_P sg k)))) hx hb hK hP 1 rfl (by omega) ((by (repeat rw [z_updj (by omega)]); exact hu k hkn 1 (by decide))) dL_confirms_81 ?_
    refine lv_iload hx hb dL_confirms_82 (lv_at hl 0 rfl) ?_
    refine lv_aload_n hx hb dL_confirms_84 rfl (lv_at hl 7 rfl) ?_
    refine lv_bipush (v := nI 6) hx hb dL_confirms_85 (by decide) ?_
    refine lv_iload hx hb dL_confirms_87 (lv_at hl 3 rfl) ?_
    refine z_imul hx hb dL_confirms_89 ?_
    refine lv_iconst (v := nI 3) hx hb dL_confirms_90 (by decide) ?_
    refine z_iadd hx hb dL_confirms_91 ?_
    refine z_iald (G := G) (v := (nI (q_mu (s_P sg k)))) hx hb hK hP 1 rfl (by omega) ((by (repeat rw [z_updj (by omega)]); exact hu k hkn 3 (by decide))) dL_confirms_92 ?_
    refine z_idiv hx hb (by omega) (by omega) (by omega) dL_confirms_93 ?_
    refine z_iadd hx hb dL_confirms_94 ?_
    refine lv_aload_n hx hb dL_confirms_95 rfl (lv_at hl 7 rfl) ?_
    refine lv_bipush (v := nI 6) hx hb dL_confirms_96 (by decide) ?_
    refine lv_iload hx hb dL_confirms_98 (lv_at hl 3 rfl) ?_
    refine z_imul hx hb dL_confirms_100 ?_
    refine lv_iconst (v := nI 2) hx hb dL_confirms_101 (by decide) ?_
    refine z_iadd hx hb dL_confirms_102 ?_
    refine z_iald (G := G) (v := (nI (zDg (q_sz (s_P sg k))))) hx hb hK hP 1 rfl (by omega) ((by (repeat rw [z_updj (by omega)]); exact hu k hkn 2 (by decide))) dL_confirms_103 ?_
    refine vp_callSi (va_runS (As := [.int (nI (zDg (q_sz (s_P sg k))))]) (rest := [.int (nI ((q_sh (s_P sg k)) + (U / (q_mu (s_P sg k))))), .int (nI ((6 * k) + 1)), .ref uA]) ⟨hx, hb, hml, hown, hts⟩ (c_L_shows l G cy (zDg (q_sz (s_P sg k))) (hg9.1) (hg9.2.1)) (va_cwS 1 hts gL_confirms_L_shows rfl rfl rfl (by decide +kernel) ⟨Nat.le_of_ble_eq_true rfl, Nat.le_of_ble_eq_true rfl⟩) (z_pS hK hP [] rfl) rfl rfl hl.1 rfl (lv_room (Nat.le_of_ble_eq_true rfl)) dL_confirms_104 ⟨by show 1 + 0 ≤ 1802; omega, by show 6 + 0 ≤ 18012; omega⟩).run (fun r_6 hr_6 => ?_)
    replace hr_6 : r_6 = (nI (q_sz (s_P sg k))) := Eq.trans hr_6 (by rw [hg9.2.2])
    obtain rfl : r_6 = (nI (q_sz (s_P sg k))) := hr_6
    refine z_irem hx hb (by have := Nat.div_le_self U (q_mu (s_P sg k)); omega) (by omega) (by omega) dL_confirms_107 ?_
    rw [show (q_sh (s_P sg k) + U / q_mu (s_P sg k)) % q_sz (s_P sg k) = q_ds (s_P sg k) from by rw [hUd]; exact z_use_div hs9 q6 hm1]
    refine z_iast (G := G) hx hb hK hP hD hS 1 rfl (by omega) dL_confirms_108 (fun H locs hP hD hS => ?_)
    have hP : va_P G vwCl ([zI cy cA 3 cc, zI cy uA 48 (upd (upd uu (6 * k) (nI dq)) ((6 * k) + 1) (nI (q_ds (s_P sg k))))] ++ (zHs cy a s9_2)) H := hP
    have hD : va_D A ([zI cy cA 3 cc, zI cy uA 48 (upd (upd uu (6 * k) (nI dq)) ((6 * k) + 1) (nI (q_ds (s_P sg k))))] ++ (zHs cy a s9_2)) := hD
    refine lv_aload_n hx hb dL_confirms_109 rfl (lv_at hl 7 rfl) ?_
    refine lv_bipush (v := nI 6) hx hb dL_confirms_110 (by decide) ?_
    refine lv_iload hx hb dL_confirms_112 (lv_at hl 3 rfl) ?_
    refine z_imul hx hb dL_confirms_114 ?_
    refine lv_iconst (v := nI 4) hx hb dL_confirms_115 (by decide) ?_
    refine z_iadd hx hb dL_confirms_116 ?_
    refine lv_dup2_11 hx hb dL_confirms_117 rfl rfl ?_
    refine z_iald (G := G) (v := (nI (q_tk (s_P sg k)))) hx hb hK hP 1 rfl (by omega) ((by (repeat rw [z_updj (by omega)]); exact hu k hkn 4 (by decide))) dL_confirms_118 ?_
    refine lv_iconst (v := nI 1) hx hb dL_confirms_119 (by decide) ?_
    refine z_iadd hx hb dL_confirms_120 ?_
    refine z_iast (G := G) hx hb hK hP hD hS 1 rfl (by omega) dL_confirms_121 (fun H locs hP hD hS => ?_)
    have hP : va_P G vwCl ([zI cy cA 3 cc, zI cy uA 48 (upd (upd (upd uu (6 * k) (nI dq)) ((6 * k) + 1) (nI (q_ds (s_P sg k)))) ((6 * k) + 4) (nI ((q_tk (s_P sg k)) + 1)))] ++ (zHs cy a s9_2)) H := hP
    have hD : va_D A ([zI cy cA 3 cc, zI cy uA 48 (upd (upd (upd uu (6 * k) (nI dq)) ((6 * k) + 1) (nI (q_ds (s_P sg k)))) ((6 * k) + 4) (nI ((q_tk (s_P sg k)) + 1)))] ++ (zHs cy a s9_2)) := hD
    refine lv_aload_n hx hb dL_confirms_122 rfl (lv_at hl 7 rfl) ?_
    refine lv_bipush (v := nI 6) hx hb dL_confirms_123 (by decide) ?_
    refine lv_iload hx hb dL_confirms_125 (lv_at hl 3 rfl) ?_
    refine z_imul hx hb dL_confirms_127 ?_
    refine lv_iconst (v := nI 5) hx hb dL_confirms_128 (by decide) ?_
    refine z_iadd hx hb dL_confirms_129 ?_
    refine lv_iconst (v := (-1)) hx hb dL_confirms_130 (by decide) ?_
    refine z_iast (G := G) hx hb hK hP hD hS 1 rfl (by omega) dL_confirms_131 (fun H locs hP hD hS => ?_)
    have hP : va_P G vwCl ([zI cy cA 3 cc, zI cy uA 48 (upd (upd (upd (upd uu (6 * k) (nI dq)) ((6 * k) + 1) (nI (q_ds (s_P sg k)))) ((6 * k) + 4) (nI ((q_tk (s_P sg k)) + 1))) ((6 * k) + 5) (-1))] ++ (zHs cy a s9_2)) H := hP
    have hD : va_D A ([zI cy cA 3 cc, zI cy uA 48 (upd (upd (upd (upd uu (6 * k) (nI dq)) ((6 * k) + 1) (nI (q_ds (s_P sg k)))) ((6 * k) + 4) (nI ((q_tk (s_P sg k)) + 1))) ((6 * k) + 5) (-1))] ++ (zHs cy a s9_2)) := hD
    refine lv_iload hx hb dL_confirms_132 (lv_at hl 0 rfl) ?_
    refine z_if_lt hx hb (by omega) dL_confirms_134 (tgt := 170) (by decide) ?_
    refine lv_aload_n hx hb dL_confirms_137 rfl (lv_at hl 4 rfl) ?_
    refine lv_iload hx hb dL_confirms_138 (lv_at hl 3 rfl) ?_
    refine lv_iload hx hb dL_confirms_140 (lv_at hl 1 rfl) ?_
    refine lv_iload hx hb dL_confirms_142 (lv_at hl 2 rfl) ?_
    refine lv_iload hx hb dL_confirms_144 (lv_at hl 0 rfl) ?_
    have hP5 : va_P G vwCl ((zHs cy a s9_2) ++ [zI cy cA 3 cc, zI cy uA 48 (upd (upd (upd (upd uu (6 * k) (nI dq)) ((6 * k) + 1) (nI (q_ds (s_P sg k)))) ((6 * k) + 4) (nI ((q_tk (s_P sg k)) + 1))) ((6 * k) + 5) (-1))]) _ := z_P_perm (z_permT (ww := [zI cy cA 3 cc, zI cy uA 48 (upd (upd (upd (upd uu (6 * k) (nI dq)) ((6 * k) + 1) (nI (q_ds (s_P sg k)))) ((6 * k) + 4) (nI ((q_tk (s_P sg k)) + 1))) ((6 * k) + 5) (-1))]) (wu := []) (wr := [zI cy cA 3 cc, zI cy uA 48 (upd (upd (upd (upd uu (6 * k) (nI dq)) ((6 * k) + 1) (nI (q_ds (s_P sg k)))) ((6 * k) + 4) (nI ((q_tk (s_P sg k)) + 1))) ((6 * k) + 5) (-1))]) (tl := (zHs cy a s9_2)) (n := 2) [] [0, 1] rfl rfl rfl (by decide)) hP
    have hD5 : va_D A ((zHs cy a s9_2) ++ [zI cy cA 3 cc, zI cy uA 48 (upd (upd (upd (upd uu (6 * k) (nI dq)) ((6 * k) + 1) (nI (q_ds (s_P sg k)))) ((6 * k) + 4) (nI ((q_tk (s_P sg k)) + 1))) ((6 * k) + 5) (-1))]) := z_D_perm (z_permT (ww := [zI cy cA 3 cc, zI cy uA 48 (upd (upd (upd (upd uu (6 * k) (nI dq)) ((6 * k) + 1) (nI (q_ds (s_P sg k)))) ((6 * k) + 4) (nI ((q_tk (s_P sg k)) + 1))) ((6 * k) + 5) (-1))]) (wu := []) (wr := [zI cy cA 3 cc, zI cy uA 48 (upd (upd (upd (upd uu (6 * k) (nI dq)) ((6 * k) + 1) (nI (q_ds (s_P sg k)))) ((6 * k) + 4) (nI ((q_tk (s_P sg k)) + 1))) ((6 * k) + 5) (-1))]) (tl := (zHs cy a s9_2)) (n := 2) [] [0, 1] rfl rfl rfl (by decide)) hD
    refine z_ciP (wc := (zHs cy a s9_2)) (wr := [zI cy cA 3 cc, zI cy uA 48 (upd (upd (upd (upd uu (6 * k) (nI dq)) ((6 * k) + 1) (nI (q_ds (s_P sg k)))) ((6 * k) + 4) (nI ((q_tk (s_P sg k)) + 1))) ((6 * k) + 5) (-1))]) (va_runS (As := [.ref (a 0), .int (nI k), .int (nI (q_la (s_P sg k))), .int (nI dq), .int (nI U)]) (rest := []) ⟨hx, hb, hml, hown, hts⟩ (c_L_isSpread l hl9 G cy wd fo _ _ a s9_2 k (q_la (s_P sg k)) dq U (q3.1) (hk9) (by rw [hf8]; exact hf9a) (by omega) (by omega) (hU6) (by omega)) (va_cwS 5 hts gL_confirms_L_isSpread rfl rfl rfl (by decide +kernel) ⟨Nat.le_of_ble_eq_true rfl, Nat.le_of_ble_eq_true rfl⟩) (z_pHP hK hP5 hD5 hS hN hAN hWd hE) rfl rfl hl.1 rfl (lv_room (Nat.le_of_ble_eq_true rfl)) dL_confirms_146 ⟨by show 1 + 1800 ≤ 1802; omega, by show 6 + 18000 ≤ 18012; omega⟩) hP5 hD5 hS hA (fun r_8 u H locs hr_8 hQ hD hS hz => ?_)
    obtain ⟨s9_9, rfl⟩ : ∃ z, z = u := ⟨_, rfl⟩
    try dsimp only at hr_8
    have hP : va_P G vwCl ([zI cy cA 3 cc, zI cy uA 48 (upd (upd (upd (upd uu (6 * k) (nI dq)) ((6 * k) + 1) (nI (q_ds (s_P sg k)))) ((6 * k) + 4) (nI ((q_tk (s_P sg k)) + 1))) ((6 * k) + 5) (-1))] ++ (zHs cy a s9_9)) H := z_P_perm (List.Perm.symm (z_permT (ww := [zI cy cA 3 cc, zI cy uA 48 (upd (upd (upd (upd uu (6 * k) (nI dq)) ((6 * k) + 1) (nI (q_ds (s_P sg k)))) ((6 * k) + 4) (nI ((q_tk (s_P sg k)) + 1))) ((6 * k) + 5) (-1))]) (wu := []) (wr := [zI cy cA 3 cc, zI cy uA 48 (upd (upd (upd (upd uu (6 * k) (nI dq)) ((6 * k) + 1) (nI (q_ds (s_P sg k)))) ((6 * k) + 4) (nI ((q_tk (s_P sg k)) + 1))) ((6 * k) + 5) (-1))]) (tl := (zHs cy a s9_9)) (n := 2) [] [0, 1] rfl rfl rfl (by decide))) hQ
    have hD : va_D A ([zI cy cA 3 cc, zI cy uA 48 (upd (upd (upd (upd uu (6 * k) (nI dq)) ((6 * k) + 1) (nI (q_ds (s_P sg k)))) ((6 * k) + 4) (nI ((q_tk (s_P sg k)) + 1))) ((6 * k) + 5) (-1))] ++ (zHs cy a s9_9)) := z_D_perm (List.Perm.symm (z_permT (ww := [zI cy cA 3 cc, zI cy uA 48 (upd (upd (upd (upd uu (6 * k) (nI dq)) ((6 * k) + 1) (nI (q_ds (s_P sg k)))) ((6 * k) + 4) (nI ((q_tk (s_P sg k)) + 1))) ((6 * k) + 5) (-1))]) (wu := []) (wr := [zI cy cA 3 cc, zI cy uA 48 (upd (upd (upd (upd uu (6 * k) (nI dq)) ((6 * k) + 1) (nI (q_ds (s_P sg k)))) ((6 * k) + 4) (nI ((q_tk (s_P sg k)) + 1))) ((6 * k) + 5) (-1))]) (tl := (zHs cy a s9_9)) (n := 2) [] [0, 1] rfl rfl rfl (by decide))) hD
    clear hQ hP5 hD5
    rw [hr_8.2] at hP hD
    obtain rfl : r_8 = (nI 1) := hr_8.1
    refine lv_if_eq hx hb dL_confirms_149 (tgt := 170) (by decide) (fun q => absurd q (by decide)) (fun _ => ?_)
    refine lv_aload_n hx hb dL_confirms_152 rfl (lv_at hl 4 rfl) ?_
    refine lv_iconst (v := nI 1) hx hb dL_confirms_153 (by decide) ?_
    refine lv_iload hx hb dL_confirms_154 (lv_at hl 3 rfl) ?_
    refine lv_iconst (v := nI 0) hx hb dL_confirms_156 (by decide) ?_
    refine lv_iconst (v := nI 0) hx hb dL_confirms_157 (by decide) ?_
    have hP5 : va_P G vwCl ((zHs cy a s9_2) ++ [zI cy cA 3 cc, zI cy uA 48 (upd (upd (upd (upd uu (6 * k) (nI dq)) ((6 * k) + 1) (nI (q_ds (s_P sg k)))) ((6 * k) + 4) (nI ((q_tk (s_P sg k)) + 1))) ((6 * k) + 5) (-1))]) _ := z_P_perm (z_permT (ww := [zI cy cA 3 cc, zI cy uA 48 (upd (upd (upd (upd uu (6 * k) (nI dq)) ((6 * k) + 1) (nI (q_ds (s_P sg k)))) ((6 * k) + 4) (nI ((q_tk (s_P sg k)) + 1))) ((6 * k) + 5) (-1))]) (wu := []) (wr := [zI cy cA 3 cc, zI cy uA 48 (upd (upd (upd (upd uu (6 * k) (nI dq)) ((6 * k) + 1) (nI (q_ds (s_P sg k)))) ((6 * k) + 4) (nI ((q_tk (s_P sg k)) + 1))) ((6 * k) + 5) (-1))]) (tl := (zHs cy a s9_2)) (n := 2) [] [0, 1] rfl rfl rfl (by decide)) hP
    have hD5 : va_D A ((zHs cy a s9_2) ++ [zI cy cA 3 cc, zI cy uA 48 (upd (upd (upd (upd uu (6 * k) (nI dq)) ((6 * k) + 1) (nI (q_ds (s_P sg k)))) ((6 * k) + 4) (nI ((q_tk (s_P sg k)) + 1))) ((6 * k) + 5) (-1))]) := z_D_perm (z_permT (ww := [zI cy cA 3 cc, zI cy uA 48 (upd (upd (upd (upd uu (6 * k) (nI dq)) ((6 * k) + 1) (nI (q_ds (s_P sg k)))) ((6 * k) + 4) (nI ((q_tk (s_P sg k)) + 1))) ((6 * k) + 5) (-1))]) (wu := []) (wr := [zI cy cA 3 cc, zI cy uA 48 (upd (upd (upd (upd uu (6 * k) (nI dq)) ((6 * k) + 1) (nI (q_ds (s_P sg k)))) ((6 * k) + 4) (nI ((q_tk (s_P sg k)) + 1))) ((6 * k) + 5) (-1))]) (tl := (zHs cy a s9_2)) (n := 2) [] [0, 1] rfl rfl rfl (by decide)) hD
    refine z_ciP (wc := (zHs cy a s9_2)) (wr := [zI cy cA 3 cc, zI cy uA 48 (upd (upd (upd (upd uu (6 * k) (nI dq)) ((6 * k) + 1) (nI (q_ds (s_P sg k)))) ((6 * k) + 4) (nI ((q_tk (s_P sg k)) + 1))) ((6 * k) + 5) (-1))]) (vx_runSW (As := [.ref (a 0), .int (nI 1), .int (nI k), .int (nI 0), .int (nI 0)]) (rest := []) ⟨hx, hb, hml, hown, hts⟩ (q_confirm l hl9 G cy wd fo _ _ a s9_2 (q3.1) k (hk9) (nI 0) (nI 0)) (vx_cwSW 5 hts gL_confirms_L_asks rfl rfl rfl (by decide +kernel) ⟨Nat.le_of_ble_eq_true rfl, Nat.le_of_ble_eq_true rfl⟩) (z_pHP hK hP5 hD5 hS hN hAN hWd hE) rfl rfl hl.1 rfl (lv_room (Nat.le_of_ble_eq_true rfl)) dL_confirms_158 ⟨by show 1801 + 1 ≤ 1802; omega, by show 18006 + 6 ≤ 18012; omega⟩) hP5 hD5 hS hA (fun r_10 u H locs hr_10 hQ hD hS hz => ?_)
    obtain ⟨s9_11, rfl⟩ : ∃ z, z = u := ⟨_, rfl⟩
    try dsimp only at hr_10
    have hP : va_P G vwCl ([zI cy cA 3 cc, zI cy uA 48 (upd (upd (upd (upd uu (6 * k) (nI dq)) ((6 * k) + 1) (nI (q_ds (s_P sg k)))) ((6 * k) + 4) (nI ((q_tk (s_P sg k)) + 1))) ((6 * k) + 5) (-1))] ++ (zHs cy a s9_11)) H := z_P_perm (List.Perm.symm (z_permT (ww := [zI cy cA 3 cc, zI cy uA 48 (upd (upd (upd (upd uu (6 * k) (nI dq)) ((6 * k) + 1) (nI (q_ds (s_P sg k)))) ((6 * k) + 4) (nI ((q_tk (s_P sg k)) + 1))) ((6 * k) + 5) (-1))]) (wu := []) (wr := [zI cy cA 3 cc, zI cy uA 48 (upd (upd (upd (upd uu (6 * k) (nI dq)) ((6 * k) + 1) (nI (q_ds (s_P sg k)))) ((6 * k) + 4) (nI ((q_tk (s_P sg k)) + 1))) ((6 * k) + 5) (-1))]) (tl := (zHs cy a s9_11)) (n := 2) [] [0, 1] rfl rfl rfl (by decide))) hQ
    have hD : va_D A ([zI cy cA 3 cc, zI cy uA 48 (upd (upd (upd (upd uu (6 * k) (nI dq)) ((6 * k) + 1) (nI (q_ds (s_P sg k)))) ((6 * k) + 4) (nI ((q_tk (s_P sg k)) + 1))) ((6 * k) + 5) (-1))] ++ (zHs cy a s9_11)) := z_D_perm (List.Perm.symm (z_permT (ww := [zI cy cA 3 cc, zI cy uA 48 (upd (upd (upd (upd uu (6 * k) (nI dq)) ((6 * k) + 1) (nI (q_ds (s_P sg k)))) ((6 * k) + 4) (nI ((q_tk (s_P sg k)) + 1))) ((6 * k) + 5) (-1))]) (wu := []) (wr := [zI cy cA 3 cc, zI cy uA 48 (upd (upd (upd (upd uu (6 * k) (nI dq)) ((6 * k) + 1) (nI (q_ds (s_P sg k)))) ((6 * k) + 4) (nI ((q_tk (s_P sg k)) + 1))) ((6 * k) + 5) (-1))]) (tl := (zHs cy a s9_11)) (n := 2) [] [0, 1] rfl rfl rfl (by decide))) hD
    clear hQ hP5 hD5
    rcases hr_10 with ⟨q7, q8, q9⟩ | ⟨d7, q7, q8, q9, -⟩
    · rw [q9] at hP hD
      obtain rfl : r_10 = -70008 := q8
      refine lv_ldc (v := (-70008)) hx hb hown (hts _ (List.mem_of_getElem? (i := 1) (by decide +kernel))) dL_confirms_161 ?_
      refine lv_icmp_ne hx hb dL_confirms_163 (tgt := 170) (by decide) (fun c_12 => ?_) (fun c_12 => ?_)
      · exact absurd rfl c_12
      · refine lv_iconst (v := nI 1) hx hb dL_confirms_166 (by decide) ?_
        refine lv_goto (tgt := 171) hx hb dL_confirms_167 (by decide) ?_
        exact z_rMz hx hb hr hlk (by rfl) dL_confirms_171 ((upd (upd (upd (upd uu (6 * k) (nI dq)) ((6 * k) + 1) (nI (q_ds (s_P sg k)))) ((6 * k) + 4) (nI ((q_tk (s_P sg k)) + 1))) ((6 * k) + 5) (-1)), s9_2) (⟨rfl, zKp_at q3 rfl rfl, zUk_tk hu hkn q3 (Or.inl (by rw [q1]; exact (nI_leI (by omega) (by omega)).mpr (Nat.le_refl _)))⟩) hP hD hK hS (by omega) (by omega)
    · have h6 := q3.2.2.1
      have h7 := z_nIj (hd8.symm.trans q7) (by omega) (by omega)
      omega
