/-! reads -/
set_option maxHeartbeats 4000000 in
set_option maxRecDepth 100000 in
theorem c_L_reads (l : Launch) (hl9 : l.stackTraces = false) (G : va_G) (cy : Nat → ClassId) (wd : Nat → Nat) (fo : Option Nat) (N0 sz0 : Nat) (a : Nat → Nat) (sg : zHo) (x y cA uA : Nat) (cc uu : Nat → Int32) (hO : zOk sg) (hn : 0 < s_np sg) (hx : x < 1073741824) (hy : y < 1073741824) (hc0 : cc 0 = nI (s_np sg)) (hc1 : cc 1 = nI (s_T sg)) (hu : zUk sg uu) : Met l yL_reads wsL_reads ({ frames := 12, cells := 1801, slots := 18006, locals := 290 }) (zMH G cy wd fo N0 [.ref (a 0), .int (nI x), .int (nI y), .ref cA, .ref uA] sz0 ([zI cy cA 3 cc, zI cy uA 48 uu] ++ (zHs cy a sg))) (va_Qi (fun (r : Int32) (u : (Nat → Int32) × zHo) => r = nI 1 ∧ zKp sg u.2 ∧ zUk u.2 u.1) (fun (u : (Nat → Int32) × zHo) t9 => zB G cy (va_A ([zI cy cA 3 cc, zI cy uA 48 uu] ++ (zHs cy a sg)) sz0) ([zI cy cA 3 cc, zI cy uA 48 u.1] ++ (zHs cy a u.2)) t9) (va_A ([zI cy cA 3 cc, zI cy uA 48 uu] ++ (zHs cy a sg)) sz0)) 1801 18006 (va_A ([zI cy cA 3 cc, zI cy uA 48 uu] ++ (zHs cy a sg)) sz0) := by
  refine z_ofMN (cc := cL_reads) (maxL := 16) (ret := (some .boolean)) (Qc := (fun A => va_Qi (fun (r : Int32) (u : (Nat → Int32) × zHo) => r = nI 1 ∧ zKp sg u.2 ∧ zUk u.2 u.1) (fun (u : (Nat → Int32) × zHo) t9 => zB G cy A ([zI cy cA 3 cc, zI cy uA 48 u.1] ++ (zHs cy a u.2)) t9) A)) (by decide) rfl (Nat.le_of_ble_eq_true rfl) ?_
  intro p e s m below meth c ls A hx hb hml hr hts hown hlk hP hK hD hA hS hl hsz0 hN hAN hWd hE
  have hown : s.vm.findClass RL = some m.cls := hown
  have hl : lv_has ls 16 [(0, .ref (a 0)), (1, .int (nI x)), (2, .int (nI y)), (3, .ref cA), (4, .ref uA)] := hl
  have hn9 := hO.2.1
  refine lv_iload_n hx hb dL_reads_0 rfl (lv_at hl 1 rfl) ?_
  refine lv_aload_n hx hb dL_reads_1 rfl (lv_at hl 3 rfl) ?_
  refine lv_iconst (v := nI 0) hx hb dL_reads_2 (by decide) ?_
  refine z_iald (G := G) (v := (nI (s_np sg))) hx hb hK hP 0 rfl (by omega) (hc0) dL_reads_3 ?_
  refine z_irem hx hb (by omega) (by omega) (by omega) dL_reads_4 ?_
  obtain ⟨k, hkd⟩ : ∃ k, k = x % s_np sg := ⟨_, rfl⟩
  rw [← hkd]
  have hkn : k < s_np sg := by rw [hkd]; exact Nat.mod_lt _ hn
  have hp := zOk_P hO hkn
  have hT9 := hO.1
  have hl9a := zPk_la hp
  have hf9a := zPk_con hp
  have hn9 := hO.2.1
  have hz9 := zPk_sz hp
  have hs9 := zPk_sh hp
  have hm9 := zPk_mu hp
  have hm1 := zPk_mu1 hp
  have hg9 := zDg_p hp
  have hk8 := zOk_k8 hO hkn
  refine lv_istore (lv' := [(5, .int (nI k)), (0, .ref (a 0)), (1, .int (nI x)), (2, .int (nI y)), (3, .ref cA), (4, .ref uA)]) hx hb dL_reads_5 hl (by decide) rfl (fun ls hl => ?_)
  refine lv_bipush (v := nI 6) hx hb dL_reads_7 (by decide) ?_
  refine lv_iload hx hb dL_reads_9 (lv_at hl 0 rfl) ?_
  refine z_imul hx hb dL_reads_11 ?_
  refine lv_istore (lv' := [(6, .int (nI (6 * k))), (5, .int (nI k)), (0, .ref (a 0)), (1, .int (nI x)), (2, .int (nI y)), (3, .ref cA), (4, .ref uA)]) hx hb dL_reads_12 hl (by decide) rfl (fun ls hl => ?_)
  refine lv_aload hx hb dL_reads_14 (lv_at hl 6 rfl) ?_
  refine lv_iload hx hb dL_reads_16 (lv_at hl 0 rfl) ?_
  refine lv_iconst (v := nI 2) hx hb dL_reads_18 (by decide) ?_
  refine z_iadd hx hb dL_reads_19 ?_
  refine z_iald (G := G) (v := (nI (zDg (q_sz (s_P sg k))))) hx hb hK hP 1 rfl (by omega) (hu k hkn 2 (by decide)) dL_reads_20 ?_
  refine vp_callSi (va_runS (As := [.int (nI (zDg (q_sz (s_P sg k))))]) (rest := []) ⟨hx, hb, hml, hown, hts⟩ (c_L_shows l G cy (zDg (q_sz (s_P sg k))) (hg9.1) (hg9.2.1)) (va_cwS 1 hts gL_reads_L_shows rfl rfl rfl (by decide +kernel) ⟨Nat.le_of_ble_eq_true rfl, Nat.le_of_ble_eq_true rfl⟩) (z_pS hK hP [] rfl) rfl rfl hl.1 rfl (lv_room (Nat.le_of_ble_eq_true rfl)) dL_reads_21 ⟨by show 0 + 0 ≤ 1801; omega, by show 0 + 0 ≤ 18006; omega⟩).run (fun r_1 hr_1 => ?_)
  replace hr_1 : r_1 = (nI (q_sz (s_P sg k))) := Eq.trans hr_1 (by rw [hg9.2.2])
  obtain rfl : r_1 = (nI (q_sz (s_P sg k))) := hr_1
  refine lv_istore (lv' := [(7, .int (nI (q_sz (s_P sg k)))), (6, .int (nI (6 * k))), (5, .int (nI k)), (0, .ref (a 0)), (1, .int (nI x)), (2, .int (nI y)), (3, .ref cA), (4, .ref uA)]) hx hb dL_reads_24 hl (by decide) rfl (fun ls hl => ?_)
  refine lv_aload_n hx hb dL_reads_26 rfl (lv_at hl 6 rfl) ?_
  refine lv_iconst (v := nI 1) hx hb dL_reads_27 (by decide) ?_
  refine z_iald (G := G) (v := (nI (s_T sg))) hx hb hK hP 0 rfl (by omega) (hc1) dL_reads_28 ?_
  refine lv_aload hx hb dL_reads_29 (lv_at hl 7 rfl) ?_
  refine lv_iload hx hb dL_reads_31 (lv_at hl 1 rfl) ?_
  refine z_iald (G := G) (v := (nI (q_la (s_P sg k)))) hx hb hK hP 1 rfl (by omega) (hu k hkn 0 (by decide)) dL_reads_33 ?_
  refine z_isub hx hb (by omega) dL_reads_34 ?_
  refine lv_istore (lv' := [(8, .int (nI ((s_T sg) - (q_la (s_P sg k))))), (7, .int (nI (q_sz (s_P sg k)))), (6, .int (nI (6 * k))), (5, .int (nI k)), (0, .ref (a 0)), (1, .int (nI x)), (2, .int (nI y)), (3, .ref cA), (4, .ref uA)]) hx hb dL_reads_35 hl (by decide) rfl (fun ls hl => ?_)
  have hjoin76 : ∀ (nb : Nat), (nb < q_sz (s_P sg k)) → ∀ (ls : Array Slot), lv_has ls 16 [(0, .ref (a 0)), (1, .int (nI x)), (2, .int (nI y)), (3, .ref cA), (4, .ref uA), (5, .int (nI k)), (6, .int (nI (6 * k))), (7, .int (nI (q_sz (s_P sg k)))), (8, .int (nI (s_T sg - q_la (s_P sg k)))), (9, .int (nI nb))] → W p l e { frames := 12, cells := 1801, slots := 18006, locals := 290 } s m [.ref (a 0), .int (nI x), .int (nI y), .ref cA, .ref uA].toArray below meth c s.heap [] 0 0 (MQ below (va_Qi (fun (r : Int32) (u : (Nat → Int32) × zHo) => r = nI 1 ∧ zKp sg u.2 ∧ zUk u.2 u.1) (fun (u : (Nat → Int32) × zHo) t9 => zB G cy A ([zI cy cA 3 cc, zI cy uA 48 u.1] ++ (zHs cy a u.2)) t9) A) [.ref (a 0), .int (nI x), .int (nI y), .ref cA, .ref uA].toArray s 1801 18006 A) (F0 m 76 ls []) := by
    intro nb hj76_0 ls hl
    refine lv_iload hx hb dL_reads_76 (lv_at hl 9 rfl) ?_
    refine lv_aload hx hb dL_reads_78 (lv_at hl 4 rfl) ?_
    refine lv_iload hx hb dL_reads_80 (lv_at hl 6 rfl) ?_
    refine lv_iconst (v := nI 1) hx hb dL_reads_82 (by decide) ?_
    refine z_iadd hx hb dL_reads_83 ?_
    refine z_iald (G := G) (v := (nI (q_sh (s_P sg k)))) hx hb hK hP 1 rfl (by omega) (hu k hkn 1 (by decide)) dL_reads_84 ?_
    refine lv_isub hx hb dL_reads_85 ?_
    refine lv_iload hx hb dL_reads_86 (lv_at hl 7 rfl) ?_
    refine lv_iadd hx hb dL_reads_88 ?_
    rw [z_raw9 (nb := nb) (sh := q_sh (s_P sg k)) (sz := q_sz (s_P sg k)) (by omega)]
    refine lv_iload hx hb dL_reads_89 (lv_at hl 7 rfl) ?_
    refine z_irem hx hb (by omega) (by omega) (by omega) dL_reads_91 ?_
    refine lv_aload hx hb dL_reads_92 (lv_at hl 4 rfl) ?_
    refine lv_iload hx hb dL_reads_94 (lv_at hl 6 rfl) ?_
    refine lv_iconst (v := nI 3) hx hb dL_reads_96 (by decide) ?_
    refine z_iadd hx hb dL_reads_97 ?_
    refine z_iald (G := G) (v := (nI (q_mu (s_P sg k)))) hx hb hK hP 1 rfl (by omega) (hu k hkn 3 (by decide)) dL_reads_98 ?_
    refine z_imul hx hb dL_reads_99 ?_
    rw [z_use_mod hs9 hj76_0]
    obtain ⟨U, hUd⟩ : ∃ U, U = z_use (q_sz (s_P sg k)) (q_mu (s_P sg k)) (q_sh (s_P sg k)) nb := ⟨_, rfl⟩
    have hU7 : U ≤ 10000000 := by rw [hUd]; exact z_use_le hz9 hm9 hs9 hj76_0
    rw [← hUd]
    refine lv_istore (lv' := [(10, .int (nI U)), (0, .ref (a 0)), (1, .int (nI x)), (2, .int (nI y)), (3, .ref cA), (4, .ref uA), (5, .int (nI k)), (6, .int (nI (6 * k))), (7, .int (nI (q_sz (s_P sg k)))), (8, .int (nI (s_T sg - q_la (s_P sg k)))), (9, .int (nI nb))]) hx hb dL_reads_100 hl (by decide) rfl (fun ls hl => ?_)
    refine lv_iload hx hb dL_reads_102 (lv_at hl 9 rfl) ?_
    refine z_jf_le hx hb (a := ((s_T sg - q_la (s_P sg k) : Nat) : Int)) (nI_toInt (by omega)) dL_reads_104 (tgt := 111) (by decide) (fun c_2 => ?_) (fun c_2 => ?_)
    · refine lv_iconst (v := nI 0) hx hb dL_reads_111 (by decide) ?_
      refine lv_istore (lv' := [(11, .int (nI 0)), (10, .int (nI U)), (0, .ref (a 0)), (1, .int (nI x)), (2, .int (nI y)), (3, .ref cA), (4, .ref uA), (5, .int (nI k)), (6, .int (nI (6 * k))), (7, .int (nI (q_sz (s_P sg k)))), (8, .int (nI (s_T sg - q_la (s_P sg k)))), (9, .int (nI nb))]) hx hb dL_reads_112 hl (by decide) rfl (fun ls hl => ?_)
      refine lv_iload_n hx hb dL_reads_114 rfl (lv_at hl 3 rfl) ?_
      refine lv_bipush (v := nI 8) hx hb dL_reads_115 (by decide) ?_
      refine z_idiv hx hb (by omega) (by omega) (by omega) dL_reads_117 ?_
      refine lv_iconst (v := nI 4) hx hb dL_reads_118 (by decide) ?_
      refine z_irem hx hb (by omega) (by omega) (by omega) dL_reads_119 ?_
      refine z_if_ne hx hb (by omega) dL_reads_120 (tgt := 296) (by decide) (fun c_3 => ?_) (fun c_3 => ?_)
      · refine lv_aload_n hx hb dL_reads_296 rfl (lv_at hl 2 rfl) ?_
        refine lv_iconst (v := nI 0) hx hb dL_reads_297 (by decide) ?_
        refine lv_iload hx hb dL_reads_298 (lv_at hl 7 rfl) ?_
        refine lv_iload hx hb dL_reads_300 (lv_at hl 11 rfl) ?_
        refine lv_iconst (v := nI 0) hx hb dL_reads_302 (by decide) ?_
        have hP5 : va_P G vwCl ((zHs cy a sg) ++ [zI cy cA 3 cc, zI cy uA 48 uu]) _ := z_P_perm (z_permT (ww := [zI cy cA 3 cc, zI cy uA 48 uu]) (wu := []) (wr := [zI cy cA 3 cc, zI cy uA 48 uu]) (tl := (zHs cy a sg)) (n := 2) [] [0, 1] rfl rfl rfl (by decide)) hP
        have hD5 : va_D A ((zHs cy a sg) ++ [zI cy cA 3 cc, zI cy uA 48 uu]) := z_D_perm (z_permT (ww := [zI cy cA 3 cc, zI cy uA 48 uu]) (wu := []) (wr := [zI cy cA 3 cc, zI cy uA 48 uu]) (tl := (zHs cy a sg)) (n := 2) [] [0, 1] rfl rfl rfl (by decide)) hD
        refine z_ciP (wc := (zHs cy a sg)) (wr := [zI cy cA 3 cc, zI cy uA 48 uu]) (vx_runSW (As := [.ref (a 0), .int (nI 0), .int (nI k), .int (nI nb), .int (nI 0)]) (rest := []) ⟨hx, hb, hml, hown, hts⟩ (q_read l hl9 G cy wd fo _ _ a sg (by omega) k (hkn) nb (hj76_0) (nI 0)) (vx_cwSW 5 hts gL_reads_L_asks rfl rfl rfl (by decide +kernel) ⟨Nat.le_of_ble_eq_true rfl, Nat.le_of_ble_eq_true rfl⟩) (z_pHP hK hP5 hD5 hS hN hAN hWd hE) rfl rfl hl.1 rfl (lv_room (Nat.le_of_ble_eq_true rfl)) dL_reads_303 ⟨by show 0 + 1 ≤ 1801; omega, by show 0 + 6 ≤ 18006; omega⟩) hP5 hD5 hS hA (fun r_4 u H locs hr_4 hQ hD hS hz => ?_)
        obtain ⟨s9_5, rfl⟩ : ∃ z, z = u := ⟨_, rfl⟩
        try dsimp only at hr_4
        have hP : va_P G vwCl ([zI cy cA 3 cc, zI cy uA 48 uu] ++ (zHs cy a s9_5)) H := z_P_perm (List.Perm.symm (z_permT (ww := [zI cy cA 3 cc, zI cy uA 48 uu]) (wu := []) (wr := [zI cy cA 3 cc, zI cy uA 48 uu]) (tl := (zHs cy a s9_5)) (n := 2) [] [0, 1] rfl rfl rfl (by decide))) hQ
        have hD : va_D A ([zI cy cA 3 cc, zI cy uA 48 uu] ++ (zHs cy a s9_5)) := z_D_perm (List.Perm.symm (z_permT (ww := [zI cy cA 3 cc, zI cy uA 48 uu]) (wu := []) (wr := [zI cy cA 3 cc, zI cy uA 48 uu]) (tl := (zHs cy a s9_5)) (n := 2) [] [0, 1] rfl rfl rfl (by decide))) hD
        clear hQ hP5 hD5
        rcases hr_4 with ⟨q1, q2, q3⟩ | ⟨q1, q4, q2, q3⟩ | ⟨q1, q4, q2, q3⟩
        · rw [q3] at hP hD
          obtain rfl : r_4 = -70008 := q2
          refine lv_istore (lv' := [(12, .int (-70008)), (11, .int (nI 0)), (10, .int (nI U)), (0, .ref (a 0)), (1, .int (nI x)), (2, .int (nI y)), (3, .ref cA), (4, .ref uA), (5, .int (nI k)), (6, .int (nI (6 * k))), (7, .int (nI (q_sz (s_P sg k)))), (8, .int (nI (s_T sg - q_la (s_P sg k)))), (9, .int (nI nb))]) hx hb dL_reads_306 hl (by decide) rfl (fun ls hl => ?_)
          refine lv_iload hx hb dL_reads_308 (lv_at hl 1 rfl) ?_
          refine lv_if_ne hx hb dL_reads_310 (tgt := 326) (by decide) (fun q => absurd (by decide) q) (fun _ => ?_)
          refine lv_iload hx hb dL_reads_313 (lv_at hl 0 rfl) ?_
          refine lv_ldc (v := (-70008)) hx hb hown (hts _ (List.mem_of_getElem? (i := 1) (by decide +kernel))) dL_reads_315 ?_
          refine lv_icmp_ne hx hb dL_reads_317 (tgt := 324) (by decide) (fun c_6 => ?_) (fun c_6 => ?_)
          · exact absurd rfl c_6
          · refine lv_iconst (v := nI 1) hx hb dL_reads_320 (by decide) ?_
            refine lv_goto (tgt := 325) hx hb dL_reads_321 (by decide) ?_
            exact z_rMz hx hb hr hlk (by rfl) dL_reads_325 (uu, sg) (⟨rfl, zKp_rf hO, hu⟩) hP hD hK hS (by omega) (by omega)
        · exfalso; omega
        · exfalso; omega
      · refine lv_iconst (v := nI 3) hx hb dL_reads_123 (by decide) ?_
        refine lv_iload_n hx hb dL_reads_124 rfl (lv_at hl 4 rfl) ?_
        refine lv_bipush (v := nI 16) hx hb dL_reads_125 (by decide) ?_
        refine z_idiv hx hb (by omega) (by omega) (by omega) dL_reads_127 ?_
        refine lv_iconst (v := nI 4) hx hb dL_reads_128 (by decide) ?_
        refine z_irem hx hb (by omega) (by omega) (by omega) dL_reads_129 ?_
        refine z_iadd hx hb dL_reads_130 ?_
        refine lv_istore (lv' := [(12, .int (nI (3 + ((y / 16) % 4)))), (11, .int (nI 0)), (10, .int (nI U)), (0, .ref (a 0)), (1, .int (nI x)), (2, .int (nI y)), (3, .ref cA), (4, .ref uA), (5, .int (nI k)), (6, .int (nI (6 * k))), (7, .int (nI (q_sz (s_P sg k)))), (8, .int (nI (s_T sg - q_la (s_P sg k)))), (9, .int (nI nb))]) hx hb dL_reads_131 hl (by decide) rfl (fun ls hl => ?_)
        refine lv_iconst (v := nI 1) hx hb dL_reads_133 (by decide) ?_
        refine lv_iload_n hx hb dL_reads_134 rfl (lv_at hl 5 rfl) ?_
        refine lv_bipush (v := nI 64) hx hb dL_reads_135 (by decide) ?_
        refine z_idiv hx hb (by omega) (by omega) (by omega) dL_reads_137 ?_
        refine lv_bipush (v := nI 10) hx hb dL_reads_138 (by decide) ?_
        refine z_irem hx hb (by omega) (by omega) (by omega) dL_reads_140 ?_
        refine z_iadd hx hb dL_reads_141 ?_
        refine lv_istore (lv' := [(13, .int (nI (1 + ((y / 64) % 10)))), (12, .int (nI (3 + ((y / 16) % 4)))), (11, .int (nI 0)), (10, .int (nI U)), (0, .ref (a 0)), (1, .int (nI x)), (2, .int (nI y)), (3, .ref cA), (4, .ref uA), (5, .int (nI k)), (6, .int (nI (6 * k))), (7, .int (nI (q_sz (s_P sg k)))), (8, .int (nI (s_T sg - q_la (s_P sg k)))), (9, .int (nI nb))]) hx hb dL_reads_142 hl (by decide) rfl (fun ls hl => ?_)
        refine lv_aload_n hx hb dL_reads_144 rfl (lv_at hl 4 rfl) ?_
        refine lv_iconst (v := nI 2) hx hb dL_reads_145 (by decide) ?_
        refine lv_iload hx hb dL_reads_146 (lv_at hl 9 rfl) ?_
        refine lv_iload hx hb dL_reads_148 (lv_at hl 13 rfl) ?_
        refine lv_iload_n hx hb dL_reads_150 rfl (lv_at hl 6 rfl) ?_
        refine lv_bipush (v := nI 16) hx hb dL_reads_151 (by decide) ?_
        refine z_idiv hx hb (by omega) (by omega) (by omega) dL_reads_153 ?_
        refine lv_iconst (v := nI 4) hx hb dL_reads_154 (by decide) ?_
        refine z_irem hx hb (by omega) (by omega) (by omega) dL_reads_155 ?_
        refine lv_iconst (v := nI 4) hx hb dL_reads_156 (by decide) ?_
        refine lv_iload hx hb dL_reads_157 (lv_at hl 0 rfl) ?_
        refine lv_iconst (v := nI 1) hx hb dL_reads_159 (by decide) ?_
        refine z_isub hx hb (by omega) dL_reads_160 ?_
        refine z_imul hx hb dL_reads_161 ?_
        refine z_iadd hx hb dL_reads_162 ?_
        have hP5 : va_P G vwCl ((zHs cy a sg) ++ [zI cy cA 3 cc, zI cy uA 48 uu]) _ := z_P_perm (z_permT (ww := [zI cy cA 3 cc, zI cy uA 48 uu]) (wu := []) (wr := [zI cy cA 3 cc, zI cy uA 48 uu]) (tl := (zHs cy a sg)) (n := 2) [] [0, 1] rfl rfl rfl (by decide)) hP
        have hD5 : va_D A ((zHs cy a sg) ++ [zI cy cA 3 cc, zI cy uA 48 uu]) := z_D_perm (z_permT (ww := [zI cy cA 3 cc, zI cy uA 48 uu]) (wu := []) (wr := [zI cy cA 3 cc, zI cy uA 48 uu]) (tl := (zHs cy a sg)) (n := 2) [] [0, 1] rfl rfl rfl (by decide)) hD
        refine z_ciP (wc := (zHs cy a sg)) (wr := [zI cy cA 3 cc, zI cy uA 48 uu]) (vx_runSW (As := [.ref (a 0), .int (nI 2), .int (nI k), .int (nI nb), .int (nI (((y / 16) % 4) + (4 * ((1 + ((y / 64) % 10)) - 1))))]) (rest := []) ⟨hx, hb, hml, hown, hts⟩ (q_exchange l hl9 G cy wd fo _ _ a sg (by omega) k (hkn) nb (hj76_0) (((y / 16) % 4) + (4 * ((1 + ((y / 64) % 10)) - 1))) (by omega)) (vx_cwSW 5 hts gL_reads_L_asks rfl rfl rfl (by decide +kernel) ⟨Nat.le_of_ble_eq_true rfl, Nat.le_of_ble_eq_true rfl⟩) (z_pHP hK hP5 hD5 hS hN hAN hWd hE) rfl rfl hl.1 rfl (lv_room (Nat.le_of_ble_eq_true rfl)) dL_reads_163 ⟨by show 0 + 1 ≤ 1801; omega, by show 0 + 6 ≤ 18006; omega⟩) hP5 hD5 hS hA (fun r_7 u H locs hr_7 hQ hD hS hz => ?_)
        obtain ⟨s9_8, rfl⟩ : ∃ z, z = u := ⟨_, rfl⟩
        try dsimp only at hr_7
        have hP : va_P G vwCl ([zI cy cA 3 cc, zI cy uA 48 uu] ++ (zHs cy a s9_8)) H := z_P_perm (List.Perm.symm (z_permT (ww := [zI cy cA 3 cc, zI cy uA 48 uu]) (wu := []) (wr := [zI cy cA 3 cc, zI cy uA 48 uu]) (tl := (zHs cy a s9_8)) (n := 2) [] [0, 1] rfl rfl rfl (by decide))) hQ
        have hD : va_D A ([zI cy cA 3 cc, zI cy uA 48 uu] ++ (zHs cy a s9_8)) := z_D_perm (List.Perm.symm (z_permT (ww := [zI cy cA 3 cc, zI cy uA 48 uu]) (wu := []) (wr := [zI cy cA 3 cc, zI cy uA 48 uu]) (tl := (zHs cy a s9_8)) (n := 2) [] [0, 1] rfl rfl rfl (by decide))) hD
        clear hQ hP5 hD5
        rcases hr_7 with ⟨q1, q2, q3⟩ | ⟨q1, q2, q3⟩
        · rw [q3] at hP hD
          obtain rfl : r_7 = -70008 := q2
          refine lv_istore (lv' := [(14, .int (-70008)), (13, .int (nI (1 + ((y / 64) % 10)))), (12, .int (nI (3 + ((y / 16) % 4)))), (11, .int (nI 0)), (10, .int (nI U)), (0, .ref (a 0)), (1, .int (nI x)), (2, .int (nI y)), (3, .ref cA), (4, .ref uA), (5, .int (nI k)), (6, .int (nI (6 * k))), (7, .int (nI (q_sz (s_P sg k)))), (8, .int (nI (s_T sg - q_la (s_P sg k)))), (9, .int (nI nb))]) hx hb dL_reads_166 hl (by decide) rfl (fun ls hl => ?_)
          refine lv_iload hx hb dL_reads_168 (lv_at hl 3 rfl) ?_
          refine lv_if_ne hx hb dL_reads_170 (tgt := 186) (by decide) (fun q => absurd (by decide) q) (fun _ => ?_)
          refine lv_iload hx hb dL_reads_173 (lv_at hl 0 rfl) ?_
          refine lv_ldc (v := (-70008)) hx hb hown (hts _ (List.mem_of_getElem? (i := 1) (by decide +kernel))) dL_reads_175 ?_
          refine lv_icmp_ne hx hb dL_reads_177 (tgt := 184) (by decide) (fun c_9 => ?_) (fun c_9 => ?_)
          · exact absurd rfl c_9
          · refine lv_iconst (v := nI 1) hx hb dL_reads_180 (by decide) ?_
            refine lv_goto (tgt := 185) hx hb dL_reads_181 (by decide) ?_
            exact z_rMz hx hb hr hlk (by rfl) dL_reads_185 (uu, sg) (⟨rfl, zKp_rf hO, hu⟩) hP hD hK hS (by omega) (by omega)
        · exfalso; omega
    · refine lv_iconst (v := nI 1) hx hb dL_reads_107 (by decide) ?_
      refine lv_goto (tgt := 112) hx hb dL_reads_108 (by decide) ?_
      refine lv_istore (lv' := [(11, .int (nI 1)), (10, .int (nI U)), (0, .ref (a 0)), (1, .int (nI x)), (2, .int (nI y)), (3, .ref cA), (4, .ref uA), (5, .int (nI k)), (6, .int (nI (6 * k))), (7, .int (nI (q_sz (s_P sg k)))), (8, .int (nI (s_T sg - q_la (s_P sg k)))), (9, .int (nI nb))]) hx hb dL_reads_112 hl (by decide) rfl (fun ls hl => ?_)
      refine lv_iload_n hx hb dL_reads_114 rfl (lv_at hl 3 rfl) ?_
      refine lv_bipush (v := nI 8) hx hb dL_reads_115 (by decide) ?_
      refine z_idiv hx hb (by omega) (by omega) (by omega) dL_reads_117 ?_
      refine lv_iconst (v := nI 4) hx hb dL_reads_118 (by decide) ?_
      refine z_irem hx hb (by omega) (by omega) (by omega) dL_reads_119 ?_
      refine z_if_ne hx hb (by omega) dL_reads_120 (tgt := 296) (by decide) (fun c_10 => ?_) (fun c_10 => ?_)
      · refine lv_aload_n hx hb dL_reads_296 rfl (lv_at hl 2 rfl) ?_
        refine lv_iconst (v := nI 0) hx hb dL_reads_297 (by decide) ?_
        refine lv_iload hx hb dL_reads_298 (lv_at hl 7 rfl) ?_
        refine lv_iload hx hb dL_reads_300 (lv_at hl 11 rfl) ?_
        refine lv_iconst (v := nI 0) hx hb dL_reads_302 (by decide) ?_
        have hP5 : va_P G vwCl ((zHs cy a sg) ++ [zI cy cA 3 cc, zI cy uA 48 uu]) _ := z_P_perm (z_permT (ww := [zI cy cA 3 cc, zI cy uA 48 uu]) (wu := []) (wr := [zI cy cA 3 cc, zI cy uA 48 uu]) (tl := (zHs cy a sg)) (n := 2) [] [0, 1] rfl rfl rfl (by decide)) hP
        have hD5 : va_D A ((zHs cy a sg) ++ [zI cy cA 3 cc, zI cy uA 48 uu]) := z_D_perm (z_permT (ww := [zI cy cA 3 cc, zI cy uA 48 uu]) (wu := []) (wr := [zI cy cA 3 cc, zI cy uA 48 uu]) (tl := (zHs cy a sg)) (n := 2) [] [0, 1] rfl rfl rfl (by decide)) hD
        refine z_ciP (wc := (zHs cy a sg)) (wr := [zI cy cA 3 cc, zI cy uA 48 uu]) (vx_runSW (As := [.ref (a 0), .int (nI 0), .int (nI k), .int (nI nb), .int (nI 0)]) (rest := []) ⟨hx, hb, hml, hown, hts⟩ (q_read l hl9 G cy wd fo _ _ a sg (by omega) k (hkn) nb (hj76_0) (nI 0)) (vx_cwSW 5 hts gL_reads_L_asks rfl rfl rfl (by decide +kernel) ⟨Nat.le_of_ble_eq_true rfl, Nat.le_of_ble_eq_true rfl⟩) (z_pHP hK hP5 hD5 hS hN hAN hWd hE) rfl rfl hl.1 rfl (lv_room (Nat.le_of_ble_eq_true rfl)) dL_reads_303 ⟨by show 0 + 1 ≤ 1801; omega, by show 0 + 6 ≤ 18006; omega⟩) hP5 hD5 hS hA (fun r_11 u H locs hr_11 hQ hD hS hz => ?_)
        obtain ⟨s9_12, rfl⟩ : ∃ z, z = u := ⟨_, rfl⟩
        try dsimp only at hr_11
        have hP : va_P G vwCl ([zI cy cA 3 cc, zI cy uA 48 uu] ++ (zHs cy a s9_12)) H := z_P_perm (List.Perm.symm (z_permT (ww := [zI cy cA 3 cc, zI cy uA 48 uu]) (wu := []) (wr := [zI cy cA 3 cc, zI cy uA 48 uu]) (tl := (zHs cy a s9_12)) (n := 2) [] [0, 1] rfl rfl rfl (by decide))) hQ
        have hD : va_D A ([zI cy cA 3 cc, zI cy uA 48 uu] ++ (zHs cy a s9_12)) := z_D_perm (List.Perm.symm (z_permT (ww := [zI cy cA 3 cc, zI cy uA 48 uu]) (wu := []) (wr := [zI cy cA 3 cc, zI cy uA 48 uu]) (tl := (zHs cy a s9_12)) (n := 2) [] [0, 1] rfl rfl rfl (by decide))) hD
        clear hQ hP5 hD5
        rcases hr_11 with ⟨q1, q2, q3⟩ | ⟨q1, q4, q2, q3⟩ | ⟨q1, q4, q2, q3⟩
        · exfalso; omega
        · obtain rfl : r_11 = -1 := q2
          have hw5 := z_sm5 (kd := q_kd (s_P sg k)) (a := q_la (s_P sg k)) (n := s_T sg - q_la (s_P sg k)) (g := s_g sg)
          rw [← hUd] at q4
          refine lv_istore (lv' := [(12, .int (-1)), (11, .int (nI 1)), (10, .int (nI U)), (0, .ref (a 0)), (1, .int (nI x)), (2, .int (nI y)), (3, .ref cA), (4, .ref uA), (5, .int (nI k)), (6, .int (nI (6 * k))), (7, .int (nI (q_sz (s_P sg k)))), (8, .int (nI (s_T sg - q_la (s_P sg k)))), (9, .int (nI nb))]) hx hb dL_reads_306 hl (by decide) rfl (fun ls hl => ?_)
          refine lv_iload hx hb dL_reads_308 (lv_at hl 1 rfl) ?_
          refine lv_if_ne hx hb dL_reads_310 (tgt := 326) (by decide) (fun _ => ?_) (fun q => absurd q (by decide))
          refine lv_iload hx hb dL_reads_326 (lv_at hl 0 rfl) ?_
          refine lv_iconst (v := (-1)) hx hb dL_reads_328 (by decide) ?_
          refine lv_icmp_ne hx hb dL_reads_329 (tgt := 358) (by decide) (fun c_13 => ?_) (fun c_13 => ?_)
          · exact absurd rfl c_13
          · refine lv_aload hx hb dL_reads_332 (lv_at hl 7 rfl) ?_
            refine lv_iload hx hb dL_reads_334 (lv_at hl 9 rfl) ?_
            refine lv_iconst (v := nI 5) hx hb dL_reads_336 (by decide) ?_
            refine z_iadd hx hb dL_reads_337 ?_
            refine lv_aload_n hx hb dL_reads_338 rfl (lv_at hl 6 rfl) ?_
            refine lv_iconst (v := nI 1) hx hb dL_reads_339 (by decide) ?_
            refine z_iald (G := G) (v := (nI (s_T sg))) hx hb hK hP 0 rfl (by omega) (hc1) dL_reads_340 ?_
            refine z_iast (G := G) hx hb hK hP hD hS 1 rfl (by omega) dL_reads_341 (fun H locs hP hD hS => ?_)
            have hP : va_P G vwCl ([zI cy cA 3 cc, zI cy uA 48 (upd uu ((6 * k) + 5) (nI (s_T sg)))] ++ (zHs cy a s9_12)) H := hP
            have hD : va_D A ([zI cy cA 3 cc, zI cy uA 48 (upd uu ((6 * k) + 5) (nI (s_T sg)))] ++ (zHs cy a s9_12)) := hD
            refine lv_iload hx hb dL_reads_342 (lv_at hl 2 rfl) ?_
            refine lv_bipush (v := nI 100) hx hb dL_reads_344 (by decide) ?_
            refine lv_iload hx hb dL_reads_346 (lv_at hl 11 rfl) ?_
            refine z_imul hx hb dL_reads_348 ?_
            refine z_icmp_le hx hb (by omega) (by omega) dL_reads_349 (tgt := 356) (by decide) (fun c_14 => ?_) (fun c_14 => ?_)
            · exfalso; omega
            · refine lv_iconst (v := nI 1) hx hb dL_reads_352 (by decide) ?_
              refine lv_goto (tgt := 357) hx hb dL_reads_353 (by decide) ?_
              exact z_rMz hx hb hr hlk (by rfl) dL_reads_357 ((upd uu ((6 * k) + 5) (nI (s_T sg))), s9_12) (⟨rfl, zKp_at q3 rfl rfl, zUk_db hu hkn hT9 q3 q1⟩) hP hD hK hS (by omega) (by omega)
        · rw [← hUd] at q2
          obtain rfl : r_11 = nI U := q2
          have hw95 := z_sm95 (kd := q_kd (s_P sg k)) (a := q_la (s_P sg k)) (n := s_T sg - q_la (s_P sg k)) (zOk_g hO)
          rw [← hUd] at q4
          have hk9 : k < s_np s9_12 := by rw [q3.2.1]; exact hkn
          have hP9 := zAt_k q3
          have hp9 := zOk_P q3.1 hk9
          have hU6 : z_sm (q_vo (s_P s9_12 k)) (q_la (s_P sg k)) (s_T sg - q_la (s_P sg k)) = U := by rw [hP9, hUd]; exact z_take_sum q1
          have hl8 : q_la (s_P s9_12 k) = s_T sg := by rw [hP9]; rfl
          have hf8 : q_fi (s_P s9_12 k) = q_fi (s_P sg k) := by rw [hP9]; rfl
          refine lv_istore (lv' := [(12, .int (nI U)), (11, .int (nI 1)), (10, .int (nI U)), (0, .ref (a 0)), (1, .int (nI x)), (2, .int (nI y)), (3, .ref cA), (4, .ref uA), (5, .int (nI k)), (6, .int (nI (6 * k))), (7, .int (nI (q_sz (s_P sg k)))), (8, .int (nI (s_T sg - q_la (s_P sg k)))), (9, .int (nI nb))]) hx hb dL_reads_306 hl (by decide) rfl (fun ls hl => ?_)
          refine lv_iload hx hb dL_reads_308 (lv_at hl 1 rfl) ?_
          refine lv_if_ne hx hb dL_reads_310 (tgt := 326) (by decide) (fun _ => ?_) (fun q => absurd q (by decide))
          refine lv_iload hx hb dL_reads_326 (lv_at hl 0 rfl) ?_
          refine lv_iconst (v := (-1)) hx hb dL_reads_328 (by decide) ?_
          refine lv_icmp_ne hx hb dL_reads_329 (tgt := 358) (by decide) (fun c_15 => ?_) (fun c_15 => ?_)
          · refine lv_iload hx hb dL_reads_358 (lv_at hl 0 rfl) ?_
            refine lv_iload hx hb dL_reads_360 (lv_at hl 2 rfl) ?_
            refine z_icmp_ne hx hb (by omega) (by omega) dL_reads_362 (tgt := 399) (by decide) (fun c_16 => ?_) (fun c_16 => ?_)
            · exfalso; omega
            · refine lv_iload hx hb dL_reads_365 (lv_at hl 2 rfl) ?_
              refine lv_sipush (v := nI 1900) hx hb dL_reads_367 (by decide) ?_
              refine lv_iload hx hb dL_reads_370 (lv_at hl 11 rfl) ?_
              refine z_imul hx hb dL_reads_372 ?_
              refine z_icmp_gt hx hb (by omega) (by omega) dL_reads_373 (tgt := 399) (by decide) (fun c_17 => ?_) (fun c_17 => ?_)
              · exfalso; omega
              · refine lv_aload_n hx hb dL_reads_376 rfl (lv_at hl 3 rfl) ?_
                refine lv_iload hx hb dL_reads_377 (lv_at hl 8 rfl) ?_
                refine lv_aload hx hb dL_reads_379 (lv_at hl 7 rfl) ?_
                refine lv_iload hx hb dL_reads_381 (lv_at hl 9 rfl) ?_
                refine z_iald (G := G) (v := (nI (q_la (s_P sg k)))) hx hb hK hP 1 rfl (by omega) (hu k hkn 0 (by decide)) dL_reads_383 ?_
                refine lv_aload_n hx hb dL_reads_384 rfl (lv_at hl 6 rfl) ?_
                refine lv_iconst (v := nI 1) hx hb dL_reads_385 (by decide) ?_
                refine z_iald (G := G) (v := (nI (s_T sg))) hx hb hK hP 0 rfl (by omega) (hc1) dL_reads_386 ?_
                refine lv_iload hx hb dL_reads_387 (lv_at hl 2 rfl) ?_
                have hP5 : va_P G vwCl ((zHs cy a s9_12) ++ [zI cy cA 3 cc, zI cy uA 48 uu]) _ := z_P_perm (z_permT (ww := [zI cy cA 3 cc, zI cy uA 48 uu]) (wu := []) (wr := [zI cy cA 3 cc, zI cy uA 48 uu]) (tl := (zHs cy a s9_12)) (n := 2) [] [0, 1] rfl rfl rfl (by decide)) hP
                have hD5 : va_D A ((zHs cy a s9_12) ++ [zI cy cA 3 cc, zI cy uA 48 uu]) := z_D_perm (z_permT (ww := [zI cy cA 3 cc, zI cy uA 48 uu]) (wu := []) (wr := [zI cy cA 3 cc, zI cy uA 48 uu]) (tl := (zHs cy a s9_12)) (n := 2) [] [0, 1] rfl rfl rfl (by decide)) hD
                refine z_ciP (wc := (zHs cy a s9_12)) (wr := [zI cy cA 3 cc, zI cy uA 48 uu]) (va_runS (As := [.ref (a 0), .int (nI k), .int (nI (q_la (s_P sg k))), .int (nI (s_T sg)), .int (nI U)]) (rest := []) ⟨hx, hb, hml, hown, hts⟩ (c_L_isSpread l hl9 G cy wd fo _ _ a s9_12 k (q_la (s_P sg k)) (s_T sg) U (q3.1) (hk9) (by rw [hf8]; exact hf9a) (by omega) (by omega) (hU6) (by omega)) (va_cwS 5 hts gL_reads_L_isSpread rfl rfl rfl (by decide +kernel) ⟨Nat.le_of_ble_eq_true rfl, Nat.le_of_ble_eq_true rfl⟩) (z_pHP hK hP5 hD5 hS hN hAN hWd hE) rfl rfl hl.1 rfl (lv_room (Nat.le_of_ble_eq_true rfl)) dL_reads_389 ⟨by show 1 + 1800 ≤ 1801; omega, by show 6 + 18000 ≤ 18006; omega⟩) hP5 hD5 hS hA (fun r_18 u H locs hr_18 hQ hD hS hz => ?_)
                obtain ⟨s9_19, rfl⟩ : ∃ z, z = u := ⟨_, rfl⟩
                try dsimp only at hr_18
                have hP : va_P G vwCl ([zI cy cA 3 cc, zI cy uA 48 uu] ++ (zHs cy a s9_19)) H := z_P_perm (List.Perm.symm (z_permT (ww := [zI cy cA 3 cc, zI cy uA 48 uu]) (wu := []) (wr := [zI cy cA 3 cc, zI cy uA 48 uu]) (tl := (zHs cy a s9_19)) (n := 2) [] [0, 1] rfl rfl rfl (by decide))) hQ
                have hD : va_D A ([zI cy cA 3 cc, zI cy uA 48 uu] ++ (zHs cy a s9_19)) := z_D_perm (List.Perm.symm (z_permT (ww := [zI cy cA 3 cc, zI cy uA 48 uu]) (wu := []) (wr := [zI cy cA 3 cc, zI cy uA 48 uu]) (tl := (zHs cy a s9_19)) (n := 2) [] [0, 1] rfl rfl rfl (by decide))) hD
                clear hQ hP5 hD5
                rw [hr_18.2] at hP hD
                obtain rfl : r_18 = (nI 1) := hr_18.1
                refine lv_if_eq hx hb dL_reads_392 (tgt := 399) (by decide) (fun q => absurd q (by decide)) (fun _ => ?_)
                refine lv_iconst (v := nI 1) hx hb dL_reads_395 (by decide) ?_
                refine lv_goto (tgt := 400) hx hb dL_reads_396 (by decide) ?_
                refine lv_istore (lv' := [(13, .int (nI 1)), (12, .int (nI U)), (11, .int (nI 1)), (10, .int (nI U)), (0, .ref (a 0)), (1, .int (nI x)), (2, .int (nI y)), (3, .ref cA), (4, .ref uA), (5, .int (nI k)), (6, .int (nI (6 * k))), (7, .int (nI (q_sz (s_P sg k)))), (8, .int (nI (s_T sg - q_la (s_P sg k)))), (9, .int (nI nb))]) hx hb dL_reads_400 hl (by decide) rfl (fun ls hl => ?_)
                refine lv_aload hx hb dL_reads_402 (lv_at hl 8 rfl) ?_
                refine lv_iload hx hb dL_reads_404 (lv_at hl 10 rfl) ?_
                refine lv_aload_n hx hb dL_reads_406 rfl (lv_at hl 7 rfl) ?_
                refine lv_iconst (v := nI 1) hx hb dL_reads_407 (by decide) ?_
                refine z_iald (G := G) (v := (nI (s_T sg))) hx hb hK hP 0 rfl (by omega) (hc1) dL_reads_408 ?_
                refine z_iast (G := G) hx hb hK hP hD hS 1 rfl (by omega) dL_reads_409 (fun H locs hP hD hS => ?_)
                have hP : va_P G vwCl ([zI cy cA 3 cc, zI cy uA 48 (upd uu (6 * k) (nI (s_T sg)))] ++ (zHs cy a s9_12)) H := hP
                have hD : va_D A ([zI cy cA 3 cc, zI cy uA 48 (upd uu (6 * k) (nI (s_T sg)))] ++ (zHs cy a s9_12)) := hD
                refine lv_aload hx hb dL_reads_410 (lv_at hl 8 rfl) ?_
                refine lv_iload hx hb dL_reads_412 (lv_at hl 10 rfl) ?_
                refine lv_iconst (v := nI 1) hx hb dL_reads_414 (by decide) ?_
                refine z_iadd hx hb dL_reads_415 ?_
                refine lv_iload hx hb dL_reads_416 (lv_at hl 13 rfl) ?_
                refine z_iast (G := G) hx hb hK hP hD hS 1 rfl (by omega) dL_reads_418 (fun H locs hP hD hS => ?_)
                have hP : va_P G vwCl ([zI cy cA 3 cc, zI cy uA 48 (upd (upd uu (6 * k) (nI (s_T sg))) ((6 * k) + 1) (nI nb))] ++ (zHs cy a s9_12)) H := hP
                have hD : va_D A ([zI cy cA 3 cc, zI cy uA 48 (upd (upd uu (6 * k) (nI (s_T sg))) ((6 * k) + 1) (nI nb))] ++ (zHs cy a s9_12)) := hD
                refine lv_aload hx hb dL_reads_419 (lv_at hl 8 rfl) ?_
                refine lv_iload hx hb dL_reads_421 (lv_at hl 10 rfl) ?_
                refine lv_iconst (v := nI 4) hx hb dL_reads_423 (by decide) ?_
                refine z_iadd hx hb dL_reads_424 ?_
                refine lv_dup2_11 hx hb dL_reads_425 rfl rfl ?_
                refine z_iald (G := G) (v := (nI (q_tk (s_P sg k)))) hx hb hK hP 1 rfl (by omega) (by (repeat rw [z_updj (by omega)]); exact hu k hkn 4 (by decide)) dL_reads_426 ?_
                refine lv_iconst (v := nI 1) hx hb dL_reads_427 (by decide) ?_
                refine z_iadd hx hb dL_reads_428 ?_
                refine z_iast (G := G) hx hb hK hP hD hS 1 rfl (by omega) dL_reads_429 (fun H locs hP hD hS => ?_)
                have hP : va_P G vwCl ([zI cy cA 3 cc, zI cy uA 48 (upd (upd (upd uu (6 * k) (nI (s_T sg))) ((6 * k) + 1) (nI nb)) ((6 * k) + 4) (nI ((q_tk (s_P sg k)) + 1)))] ++ (zHs cy a s9_12)) H := hP
                have hD : va_D A ([zI cy cA 3 cc, zI cy uA 48 (upd (upd (upd uu (6 * k) (nI (s_T sg))) ((6 * k) + 1) (nI nb)) ((6 * k) + 4) (nI ((q_tk (s_P sg k)) + 1)))] ++ (zHs cy a s9_12)) := hD
                refine lv_aload hx hb dL_reads_430 (lv_at hl 8 rfl) ?_
                refine lv_iload hx hb dL_reads_432 (lv_at hl 10 rfl) ?_
                refine lv_iconst (v := nI 5) hx hb dL_reads_434 (by decide) ?_
                refine z_iadd hx hb dL_reads_435 ?_
                refine lv_iconst (v := (-1)) hx hb dL_reads_436 (by decide) ?_
                refine z_iast (G := G) hx hb hK hP hD hS 1 rfl (by omega) dL_reads_437 (fun H locs hP hD hS => ?_)
                have hP : va_P G vwCl ([zI cy cA 3 cc, zI cy uA 48 (upd (upd (upd (upd uu (6 * k) (nI (s_T sg))) ((6 * k) + 1) (nI nb)) ((6 * k) + 4) (nI ((q_tk (s_P sg k)) + 1))) ((6 * k) + 5) (-1))] ++ (zHs cy a s9_12)) H := hP
                have hD : va_D A ([zI cy cA 3 cc, zI cy uA 48 (upd (upd (upd (upd uu (6 * k) (nI (s_T sg))) ((6 * k) + 1) (nI nb)) ((6 * k) + 4) (nI ((q_tk (s_P sg k)) + 1))) ((6 * k) + 5) (-1))] ++ (zHs cy a s9_12)) := hD
                refine lv_iload hx hb dL_reads_438 (lv_at hl 0 rfl) ?_
                exact z_rMz hx hb hr hlk (by rfl) dL_reads_440 ((upd (upd (upd (upd uu (6 * k) (nI (s_T sg))) ((6 * k) + 1) (nI nb)) ((6 * k) + 4) (nI ((q_tk (s_P sg k)) + 1))) ((6 * k) + 5) (-1)), s9_12) (⟨rfl, zKp_at q3 rfl rfl, zUk_tk hu hkn q3 (z_dd_le hp (Nat.le_refl _) (by omega))⟩) hP hD hK hS (by omega) (by omega)
          · exact absurd c_15 (z_nm1 (by omega))
      · refine lv_iconst (v := nI 3) hx hb dL_reads_123 (by decide) ?_
        refine lv_iload_n hx hb dL_reads_124 rfl (lv_at hl 4 rfl) ?_
        refine lv_bipush (v := nI 16) hx hb dL_reads_125 (by decide) ?_
        refine z_idiv hx hb (by omega) (by omega) (by omega) dL_reads_127 ?_
        refine lv_iconst (v := nI 4) hx hb dL_reads_128 (by decide) ?_
        refine z_irem hx hb (by omega) (by omega) (by omega) dL_reads_129 ?_
        refine z_iadd hx hb dL_reads_130 ?_
        refine lv_istore (lv' := [(12, .int (nI (3 + ((y / 16) % 4)))), (11, .int (nI 1)), (10, .int (nI U)), (0, .ref (a 0)), (1, .int (nI x)), (2, .int (nI y)), (3, .ref cA), (4, .ref uA), (5, .int (nI k)), (6, .int (nI (6 * k))), (7, .int (nI (q_sz (s_P sg k)))), (8, .int (nI (s_T sg - q_la (s_P sg k)))), (9, .int (nI nb))]) hx hb dL_reads_131 hl (by decide) rfl (fun ls hl => ?_)
        refine lv_iconst (v := nI 1) hx hb dL_reads_133 (by decide) ?_
        refine lv_iload_n hx hb dL_reads_134 rfl (lv_at hl 5 rfl) ?_
        refine lv_bipush (v := nI 64) hx hb dL_reads_135 (by decide) ?_
        refine z_idiv hx hb (by omega) (by omega) (by omega) dL_reads_137 ?_
        refine lv_bipush (v := nI 10) hx hb dL_reads_138 (by decide) ?_
        refine z_irem hx hb (by omega) (by omega) (by omega) dL_reads_140 ?_
        refine z_iadd hx hb dL_reads_141 ?_
        refine lv_istore (lv' := [(13, .int (nI (1 + ((y / 64) % 10)))), (12, .int (nI (3 + ((y / 16) % 4)))), (11, .int (nI 1)), (10, .int (nI U)), (0, .ref (a 0)), (1, .int (nI x)), (2, .int (nI y)), (3, .ref cA), (4, .ref uA), (5, .int (nI k)), (6, .int (nI (6 * k))), (7, .int (nI (q_sz (s_P sg k)))), (8, .int (nI (s_T sg - q_la (s_P sg k)))), (9, .int (nI nb))]) hx hb dL_reads_142 hl (by decide) rfl (fun ls hl => ?_)
        refine lv_aload_n hx hb dL_reads_144 rfl (lv_at hl 4 rfl) ?_
        refine lv_iconst (v := nI 2) hx hb dL_reads_145 (by decide) ?_
        refine lv_iload hx hb dL_reads_146 (lv_at hl 9 rfl) ?_
        refine lv_iload hx hb dL_reads_148 (lv_at hl 13 rfl) ?_
        refine lv_iload_n hx hb dL_reads_150 rfl (lv_at hl 6 rfl) ?_
        refine lv_bipush (v := nI 16) hx hb dL_reads_151 (by decide) ?_
        refine z_idiv hx hb (by omega) (by omega) (by omega) dL_reads_153 ?_
        refine lv_iconst (v := nI 4) hx hb dL_reads_154 (by decide) ?_
        refine z_irem hx hb (by omega) (by omega) (by omega) dL_reads_155 ?_
        refine lv_iconst (v := nI 4) hx hb dL_reads_156 (by decide) ?_
        refine lv_iload hx hb dL_reads_157 (lv_at hl 0 rfl) ?_
        refine lv_iconst (v := nI 1) hx hb dL_reads_159 (by decide) ?_
        refine z_isub hx hb (by omega) dL_reads_160 ?_
        refine z_imul hx hb dL_reads_161 ?_
        refine z_iadd hx hb dL_reads_162 ?_
        have hP5 : va_P G vwCl ((zHs cy a sg) ++ [zI cy cA 3 cc, zI cy uA 48 uu]) _ := z_P_perm (z_permT (ww := [zI cy cA 3 cc, zI cy uA 48 uu]) (wu := []) (wr := [zI cy cA 3 cc, zI cy uA 48 uu]) (tl := (zHs cy a sg)) (n := 2) [] [0, 1] rfl rfl rfl (by decide)) hP
        have hD5 : va_D A ((zHs cy a sg) ++ [zI cy cA 3 cc, zI cy uA 48 uu]) := z_D_perm (z_permT (ww := [zI cy cA 3 cc, zI cy uA 48 uu]) (wu := []) (wr := [zI cy cA 3 cc, zI cy uA 48 uu]) (tl := (zHs cy a sg)) (n := 2) [] [0, 1] rfl rfl rfl (by decide)) hD
        refine z_ciP (wc := (zHs cy a sg)) (wr := [zI cy cA 3 cc, zI cy uA 48 uu]) (vx_runSW (As := [.ref (a 0), .int (nI 2), .int (nI k), .int (nI nb), .int (nI (((y / 16) % 4) + (4 * ((1 + ((y / 64) % 10)) - 1))))]) (rest := []) ⟨hx, hb, hml, hown, hts⟩ (q_exchange l hl9 G cy wd fo _ _ a sg (by omega) k (hkn) nb (hj76_0) (((y / 16) % 4) + (4 * ((1 + ((y / 64) % 10)) - 1))) (by omega)) (vx_cwSW 5 hts gL_reads_L_asks rfl rfl rfl (by decide +kernel) ⟨Nat.le_of_ble_eq_true rfl, Nat.le_of_ble_eq_true rfl⟩) (z_pHP hK hP5 hD5 hS hN hAN hWd hE) rfl rfl hl.1 rfl (lv_room (Nat.le_of_ble_eq_true rfl)) dL_reads_163 ⟨by show 0 + 1 ≤ 1801; omega, by show 0 + 6 ≤ 18006; omega⟩) hP5 hD5 hS hA (fun r_20 u H locs hr_20 hQ hD hS hz => ?_)
        obtain ⟨s9_21, rfl⟩ : ∃ z, z = u := ⟨_, rfl⟩
        try dsimp only at hr_20
        have hP : va_P G vwCl ([zI cy cA 3 cc, zI cy uA 48 uu] ++ (zHs cy a s9_21)) H := z_P_perm (List.Perm.symm (z_permT (ww := [zI cy cA 3 cc, zI cy uA 48 uu]) (wu := []) (wr := [zI cy cA 3 cc, zI cy uA 48 uu]) (tl := (zHs cy a s9_21)) (n := 2) [] [0, 1] rfl rfl rfl (by decide))) hQ
        have hD : va_D A ([zI cy cA 3 cc, zI cy uA 48 uu] ++ (zHs cy a s9_21)) := z_D_perm (List.Perm.symm (z_permT (ww := [zI cy cA 3 cc, zI cy uA 48 uu]) (wu := []) (wr := [zI cy cA 3 cc, zI cy uA 48 uu]) (tl := (zHs cy a s9_21)) (n := 2) [] [0, 1] rfl rfl rfl (by decide))) hD
        clear hQ hP5 hD5
        rcases hr_20 with ⟨q1, q2, q3⟩ | ⟨q1, q2, q3⟩
        · exfalso; omega
        · rw [← hUd] at q2
          obtain rfl : r_20 = nI U := q2
          have hk9 : k < s_np s9_21 := by rw [q3.2.1]; exact hkn
          have hP9 := zAt_k q3
          have hp9 := zOk_P q3.1 hk9
          have hU6 : z_sm (q_vo (s_P s9_21 k)) (q_la (s_P sg k)) (s_T sg - q_la (s_P sg k)) = U := by rw [hP9, hUd]; exact z_take_sum q1
          have hl8 : q_la (s_P s9_21 k) = s_T sg := by rw [hP9]; rfl
          have hf8 : q_fi (s_P s9_21 k) = q_fi (s_P sg k) := by rw [hP9]; rfl
          refine lv_istore (lv' := [(14, .int (nI U)), (13, .int (nI (1 + ((y / 64) % 10)))), (12, .int (nI (3 + ((y / 16) % 4)))), (11, .int (nI 1)), (10, .int (nI U)), (0, .ref (a 0)), (1, .int (nI x)), (2, .int (nI y)), (3, .ref cA), (4, .ref uA), (5, .int (nI k)), (6, .int (nI (6 * k))), (7, .int (nI (q_sz (s_P sg k)))), (8, .int (nI (s_T sg - q_la (s_P sg k)))), (9, .int (nI nb))]) hx hb dL_reads_166 hl (by decide) rfl (fun ls hl => ?_)
          refine lv_iload hx hb dL_reads_168 (lv_at hl 3 rfl) ?_
          refine lv_if_ne hx hb dL_reads_170 (tgt := 186) (by decide) (fun _ => ?_) (fun q => absurd q (by decide))
          refine lv_iload hx hb dL_reads_186 (lv_at hl 0 rfl) ?_
          refine lv_iload hx hb dL_reads_188 (lv_at hl 4 rfl) ?_
          refine z_icmp_ne hx hb (by omega) (by omega) dL_reads_190 (tgt := 216) (by decide) (fun c_22 => ?_) (fun c_22 => ?_)
          · exfalso; omega
          · refine lv_aload_n hx hb dL_reads_193 rfl (lv_at hl 5 rfl) ?_
            refine lv_iload hx hb dL_reads_194 (lv_at hl 10 rfl) ?_
            refine lv_aload hx hb dL_reads_196 (lv_at hl 9 rfl) ?_
            refine lv_iload hx hb dL_reads_198 (lv_at hl 11 rfl) ?_
            refine z_iald (G := G) (v := (nI (q_la (s_P sg k)))) hx hb hK hP 1 rfl (by omega) (hu k hkn 0 (by decide)) dL_reads_200 ?_
            refine lv_aload_n hx hb dL_reads_201 rfl (lv_at hl 8 rfl) ?_
            refine lv_iconst (v := nI 1) hx hb dL_reads_202 (by decide) ?_
            refine z_iald (G := G) (v := (nI (s_T sg))) hx hb hK hP 0 rfl (by omega) (hc1) dL_reads_203 ?_
            refine lv_iload hx hb dL_reads_204 (lv_at hl 4 rfl) ?_
            have hP5 : va_P G vwCl ((zHs cy a s9_21) ++ [zI cy cA 3 cc, zI cy uA 48 uu]) _ := z_P_perm (z_permT (ww := [zI cy cA 3 cc, zI cy uA 48 uu]) (wu := []) (wr := [zI cy cA 3 cc, zI cy uA 48 uu]) (tl := (zHs cy a s9_21)) (n := 2) [] [0, 1] rfl rfl rfl (by decide)) hP
            have hD5 : va_D A ((zHs cy a s9_21) ++ [zI cy cA 3 cc, zI cy uA 48 uu]) := z_D_perm (z_permT (ww := [zI cy cA 3 cc, zI cy uA 48 uu]) (wu := []) (wr := [zI cy cA 3 cc, zI cy uA 48 uu]) (tl := (zHs cy a s9_21)) (n := 2) [] [0, 1] rfl rfl rfl (by decide)) hD
            refine z_ciP (wc := (zHs cy a s9_21)) (wr := [zI cy cA 3 cc, zI cy uA 48 uu]) (va_runS (As := [.ref (a 0), .int (nI k), .int (nI (q_la (s_P sg k))), .int (nI (s_T sg)), .int (nI U)]) (rest := []) ⟨hx, hb, hml, hown, hts⟩ (c_L_isSpread l hl9 G cy wd fo _ _ a s9_21 k (q_la (s_P sg k)) (s_T sg) U (q3.1) (hk9) (by rw [hf8]; exact hf9a) (by omega) (by omega) (hU6) (by omega)) (va_cwS 5 hts gL_reads_L_isSpread rfl rfl rfl (by decide +kernel) ⟨Nat.le_of_ble_eq_true rfl, Nat.le_of_ble_eq_true rfl⟩) (z_pHP hK hP5 hD5 hS hN hAN hWd hE) rfl rfl hl.1 rfl (lv_room (Nat.le_of_ble_eq_true rfl)) dL_reads_206 ⟨by show 1 + 1800 ≤ 1801; omega, by show 6 + 18000 ≤ 18006; omega⟩) hP5 hD5 hS hA (fun r_23 u H locs hr_23 hQ hD hS hz => ?_)
            obtain ⟨s9_24, rfl⟩ : ∃ z, z = u := ⟨_, rfl⟩
            try dsimp only at hr_23
            have hP : va_P G vwCl ([zI cy cA 3 cc, zI cy uA 48 uu] ++ (zHs cy a s9_24)) H := z_P_perm (List.Perm.symm (z_permT (ww := [zI cy cA 3 cc, zI cy uA 48 uu]) (wu := []) (wr := [zI cy cA 3 cc, zI cy uA 48 uu]) (tl := (zHs cy a s9_24)) (n := 2) [] [0, 1] rfl rfl rfl (by decide))) hQ
            have hD : va_D A ([zI cy cA 3 cc, zI cy uA 48 uu] ++ (zHs cy a s9_24)) := z_D_perm (List.Perm.symm (z_permT (ww := [zI cy cA 3 cc, zI cy uA 48 uu]) (wu := []) (wr := [zI cy cA 3 cc, zI cy uA 48 uu]) (tl := (zHs cy a s9_24)) (n := 2) [] [0, 1] rfl rfl rfl (by decide))) hD
            clear hQ hP5 hD5
            rw [hr_23.2] at hP hD
            obtain rfl : r_23 = (nI 1) := hr_23.1
            refine lv_if_eq hx hb dL_reads_209 (tgt := 216) (by decide) (fun q => absurd q (by decide)) (fun _ => ?_)
            refine lv_iconst (v := nI 1) hx hb dL_reads_212 (by decide) ?_
            refine lv_goto (tgt := 217) hx hb dL_reads_213 (by decide) ?_
            refine lv_istore (lv' := [(15, .int (nI 1)), (14, .int (nI U)), (13, .int (nI (1 + ((y / 64) % 10)))), (12, .int (nI (3 + ((y / 16) % 4)))), (11, .int (nI 1)), (10, .int (nI U)), (0, .ref (a 0)), (1, .int (nI x)), (2, .int (nI y)), (3, .ref cA), (4, .ref uA), (5, .int (nI k)), (6, .int (nI (6 * k))), (7, .int (nI (q_sz (s_P sg k)))), (8, .int (nI (s_T sg - q_la (s_P sg k)))), (9, .int (nI nb))]) hx hb dL_reads_217 hl (by decide) rfl (fun ls hl => ?_)
            refine lv_aload hx hb dL_reads_219 (lv_at hl 10 rfl) ?_
            refine lv_iload hx hb dL_reads_221 (lv_at hl 12 rfl) ?_
            refine lv_aload_n hx hb dL_reads_223 rfl (lv_at hl 9 rfl) ?_
            refine lv_iconst (v := nI 1) hx hb dL_reads_224 (by decide) ?_
            refine z_iald (G := G) (v := (nI (s_T sg))) hx hb hK hP 0 rfl (by omega) (hc1) dL_reads_225 ?_
            refine z_iast (G := G) hx hb hK hP hD hS 1 rfl (by omega) dL_reads_226 (fun H locs hP hD hS => ?_)
            have hP : va_P G vwCl ([zI cy cA 3 cc, zI cy uA 48 (upd uu (6 * k) (nI (s_T sg)))] ++ (zHs cy a s9_21)) H := hP
            have hD : va_D A ([zI cy cA 3 cc, zI cy uA 48 (upd uu (6 * k) (nI (s_T sg)))] ++ (zHs cy a s9_21)) := hD
            refine lv_aload hx hb dL_reads_227 (lv_at hl 10 rfl) ?_
            refine lv_iload hx hb dL_reads_229 (lv_at hl 12 rfl) ?_
            refine lv_iconst (v := nI 1) hx hb dL_reads_231 (by decide) ?_
            refine z_iadd hx hb dL_reads_232 ?_
            refine lv_iconst (v := nI 0) hx hb dL_reads_233 (by decide) ?_
            refine z_iast (G := G) hx hb hK hP hD hS 1 rfl (by omega) dL_reads_234 (fun H locs hP hD hS => ?_)
            have hP : va_P G vwCl ([zI cy cA 3 cc, zI cy uA 48 (upd (upd uu (6 * k) (nI (s_T sg))) ((6 * k) + 1) (nI 0))] ++ (zHs cy a s9_21)) H := hP
            have hD : va_D A ([zI cy cA 3 cc, zI cy uA 48 (upd (upd uu (6 * k) (nI (s_T sg))) ((6 * k) + 1) (nI 0))] ++ (zHs cy a s9_21)) := hD
            refine lv_aload hx hb dL_reads_235 (lv_at hl 10 rfl) ?_
            refine lv_iload hx hb dL_reads_237 (lv_at hl 12 rfl) ?_
            refine lv_iconst (v := nI 2) hx hb dL_reads_239 (by decide) ?_
            refine z_iadd hx hb dL_reads_240 ?_
            refine lv_iload hx hb dL_reads_241 (lv_at hl 3 rfl) ?_
            refine z_iast (G := G) hx hb hK hP hD hS 1 rfl (by omega) dL_reads_243 (fun H locs hP hD hS => ?_)
            have hP : va_P G vwCl ([zI cy cA 3 cc, zI cy uA 48 (upd (upd (upd uu (6 * k) (nI (s_T sg))) ((6 * k) + 1) (nI 0)) ((6 * k) + 2) (nI (3 + ((y / 16) % 4))))] ++ (zHs cy a s9_21)) H := hP
            have hD : va_D A ([zI cy cA 3 cc, zI cy uA 48 (upd (upd (upd uu (6 * k) (nI (s_T sg))) ((6 * k) + 1) (nI 0)) ((6 * k) + 2) (nI (3 + ((y / 16) % 4))))] ++ (zHs cy a s9_21)) := hD
            refine lv_aload hx hb dL_reads_244 (lv_at hl 10 rfl) ?_
            refine lv_iload hx hb dL_reads_246 (lv_at hl 12 rfl) ?_
            refine lv_iconst (v := nI 3) hx hb dL_reads_248 (by decide) ?_
            refine z_iadd hx hb dL_reads_249 ?_
            refine lv_iload hx hb dL_reads_250 (lv_at hl 2 rfl) ?_
            refine z_iast (G := G) hx hb hK hP hD hS 1 rfl (by omega) dL_reads_252 (fun H locs hP hD hS => ?_)
            have hP : va_P G vwCl ([zI cy cA 3 cc, zI cy uA 48 (upd (upd (upd (upd uu (6 * k) (nI (s_T sg))) ((6 * k) + 1) (nI 0)) ((6 * k) + 2) (nI (3 + ((y / 16) % 4)))) ((6 * k) + 3) (nI (1 + ((y / 64) % 10))))] ++ (zHs cy a s9_21)) H := hP
            have hD : va_D A ([zI cy cA 3 cc, zI cy uA 48 (upd (upd (upd (upd uu (6 * k) (nI (s_T sg))) ((6 * k) + 1) (nI 0)) ((6 * k) + 2) (nI (3 + ((y / 16) % 4)))) ((6 * k) + 3) (nI (1 + ((y / 64) % 10))))] ++ (zHs cy a s9_21)) := hD
            refine lv_aload hx hb dL_reads_253 (lv_at hl 10 rfl) ?_
            refine lv_iload hx hb dL_reads_255 (lv_at hl 12 rfl) ?_
            refine lv_iconst (v := nI 4) hx hb dL_reads_257 (by decide) ?_
            refine z_iadd hx hb dL_reads_258 ?_
            refine lv_dup2_11 hx hb dL_reads_259 rfl rfl ?_
            refine z_iald (G := G) (v := (nI (q_tk (s_P sg k)))) hx hb hK hP 1 rfl (by omega) (by (repeat rw [z_updj (by omega)]); exact hu k hkn 4 (by decide)) dL_reads_260 ?_
            refine lv_iconst (v := nI 1) hx hb dL_reads_261 (by decide) ?_
            refine z_iadd hx hb dL_reads_262 ?_
            refine z_iast (G := G) hx hb hK hP hD hS 1 rfl (by omega) dL_reads_263 (fun H locs hP hD hS => ?_)
            have hP : va_P G vwCl ([zI cy cA 3 cc, zI cy uA 48 (upd (upd (upd (upd (upd uu (6 * k) (nI (s_T sg))) ((6 * k) + 1) (nI 0)) ((6 * k) + 2) (nI (3 + ((y / 16) % 4)))) ((6 * k) + 3) (nI (1 + ((y / 64) % 10)))) ((6 * k) + 4) (nI ((q_tk (s_P sg k)) + 1)))] ++ (zHs cy a s9_21)) H := hP
            have hD : va_D A ([zI cy cA 3 cc, zI cy uA 48 (upd (upd (upd (upd (upd uu (6 * k) (nI (s_T sg))) ((6 * k) + 1) (nI 0)) ((6 * k) + 2) (nI (3 + ((y / 16) % 4)))) ((6 * k) + 3) (nI (1 + ((y / 64) % 10)))) ((6 * k) + 4) (nI ((q_tk (s_P sg k)) + 1)))] ++ (zHs cy a s9_21)) := hD
            refine lv_aload hx hb dL_reads_264 (lv_at hl 10 rfl) ?_
            refine lv_iload hx hb dL_reads_266 (lv_at hl 12 rfl) ?_
            refine lv_iconst (v := nI 5) hx hb dL_reads_268 (by decide) ?_
            refine z_iadd hx hb dL_reads_269 ?_
            refine lv_iconst (v := (-1)) hx hb dL_reads_270 (by decide) ?_
            refine z_iast (G := G) hx hb hK hP hD hS 1 rfl (by omega) dL_reads_271 (fun H locs hP hD hS => ?_)
            have hP : va_P G vwCl ([zI cy cA 3 cc, zI cy uA 48 (upd (upd (upd (upd (upd (upd uu (6 * k) (nI (s_T sg))) ((6 * k) + 1) (nI 0)) ((6 * k) + 2) (nI (3 + ((y / 16) % 4)))) ((6 * k) + 3) (nI (1 + ((y / 64) % 10)))) ((6 * k) + 4) (nI ((q_tk (s_P sg k)) + 1))) ((6 * k) + 5) (-1))] ++ (zHs cy a s9_21)) H := hP
            have hD : va_D A ([zI cy cA 3 cc, zI cy uA 48 (upd (upd (upd (upd (upd (upd uu (6 * k) (nI (s_T sg))) ((6 * k) + 1) (nI 0)) ((6 * k) + 2) (nI (3 + ((y / 16) % 4)))) ((6 * k) + 3) (nI (1 + ((y / 64) % 10)))) ((6 * k) + 4) (nI ((q_tk (s_P sg k)) + 1))) ((6 * k) + 5) (-1))] ++ (zHs cy a s9_21)) := hD
            refine lv_iload hx hb dL_reads_272 (lv_at hl 0 rfl) ?_
            refine lv_if_eq hx hb dL_reads_274 (tgt := 294) (by decide) (fun q => absurd q (by decide)) (fun _ => ?_)
            refine lv_aload_n hx hb dL_reads_277 rfl (lv_at hl 6 rfl) ?_
            refine lv_iload hx hb dL_reads_278 (lv_at hl 11 rfl) ?_
            refine lv_iconst (v := nI 1) hx hb dL_reads_280 (by decide) ?_
            have hP5 : va_P G vwCl ((zHs cy a s9_21) ++ [zI cy cA 3 cc, zI cy uA 48 (upd (upd (upd (upd (upd (upd uu (6 * k) (nI (s_T sg))) ((6 * k) + 1) (nI 0)) ((6 * k) + 2) (nI (3 + ((y / 16) % 4)))) ((6 * k) + 3) (nI (1 + ((y / 64) % 10)))) ((6 * k) + 4) (nI ((q_tk (s_P sg k)) + 1))) ((6 * k) + 5) (-1))]) _ := z_P_perm (z_permT (ww := [zI cy cA 3 cc, zI cy uA 48 (upd (upd (upd (upd (upd (upd uu (6 * k) (nI (s_T sg))) ((6 * k) + 1) (nI 0)) ((6 * k) + 2) (nI (3 + ((y / 16) % 4)))) ((6 * k) + 3) (nI (1 + ((y / 64) % 10)))) ((6 * k) + 4) (nI ((q_tk (s_P sg k)) + 1))) ((6 * k) + 5) (-1))]) (wu := []) (wr := [zI cy cA 3 cc, zI cy uA 48 (upd (upd (upd (upd (upd (upd uu (6 * k) (nI (s_T sg))) ((6 * k) + 1) (nI 0)) ((6 * k) + 2) (nI (3 + ((y / 16) % 4)))) ((6 * k) + 3) (nI (1 + ((y / 64) % 10)))) ((6 * k) + 4) (nI ((q_tk (s_P sg k)) + 1))) ((6 * k) + 5) (-1))]) (tl := (zHs cy a s9_21)) (n := 2) [] [0, 1] rfl rfl rfl (by decide)) hP
            have hD5 : va_D A ((zHs cy a s9_21) ++ [zI cy cA 3 cc, zI cy uA 48 (upd (upd (upd (upd (upd (upd uu (6 * k) (nI (s_T sg))) ((6 * k) + 1) (nI 0)) ((6 * k) + 2) (nI (3 + ((y / 16) % 4)))) ((6 * k) + 3) (nI (1 + ((y / 64) % 10)))) ((6 * k) + 4) (nI ((q_tk (s_P sg k)) + 1))) ((6 * k) + 5) (-1))]) := z_D_perm (z_permT (ww := [zI cy cA 3 cc, zI cy uA 48 (upd (upd (upd (upd (upd (upd uu (6 * k) (nI (s_T sg))) ((6 * k) + 1) (nI 0)) ((6 * k) + 2) (nI (3 + ((y / 16) % 4)))) ((6 * k) + 3) (nI (1 + ((y / 64) % 10)))) ((6 * k) + 4) (nI ((q_tk (s_P sg k)) + 1))) ((6 * k) + 5) (-1))]) (wu := []) (wr := [zI cy cA 3 cc, zI cy uA 48 (upd (upd (upd (upd (upd (upd uu (6 * k) (nI (s_T sg))) ((6 * k) + 1) (nI 0)) ((6 * k) + 2) (nI (3 + ((y / 16) % 4)))) ((6 * k) + 3) (nI (1 + ((y / 64) % 10)))) ((6 * k) + 4) (nI ((q_tk (s_P sg k)) + 1))) ((6 * k) + 5) (-1))]) (tl := (zHs cy a s9_21)) (n := 2) [] [0, 1] rfl rfl rfl (by decide)) hD
            refine z_ciP (wc := (zHs cy a s9_21)) (wr := [zI cy cA 3 cc, zI cy uA 48 (upd (upd (upd (upd (upd (upd uu (6 * k) (nI (s_T sg))) ((6 * k) + 1) (nI 0)) ((6 * k) + 2) (nI (3 + ((y / 16) % 4)))) ((6 * k) + 3) (nI (1 + ((y / 64) % 10)))) ((6 * k) + 4) (nI ((q_tk (s_P sg k)) + 1))) ((6 * k) + 5) (-1))]) (va_runV (As := [.int (nI k), .int (nI 1)]) (rest := []) ⟨hx, hb, hml, hown, hts⟩ (h_c1_of l hl9 G cy wd fo _ _ a s9_21 k (hk9) (hk8) (zOk_pt q3.1 hk9) (q3.1.1)) (cwV 2 hts gL_reads_X10_of rfl rfl rfl (by decide +kernel) ⟨Nat.le_of_ble_eq_true rfl, Nat.le_of_ble_eq_true rfl⟩) (z_pVHP (ci := 11) hK hP5 hD5 hS hN hAN hWd hE rfl rfl 0 rfl) rfl rfl hl.1 rfl (lv_room (Nat.le_of_ble_eq_true rfl)) dL_reads_281 ⟨by show 1801 + 0 ≤ 1801; omega, by show 18006 + 0 ≤ 18006; omega⟩) hP5 hD5 hS hA (fun r_25 u H locs hr_25 hQ hD hS hz => ?_)
            obtain ⟨s9_26, rfl⟩ : ∃ z, z = u := ⟨_, rfl⟩
            try dsimp only at hr_25
            have hP : va_P G vwCl ([zI cy cA 3 cc, zI cy uA 48 (upd (upd (upd (upd (upd (upd uu (6 * k) (nI (s_T sg))) ((6 * k) + 1) (nI 0)) ((6 * k) + 2) (nI (3 + ((y / 16) % 4)))) ((6 * k) + 3) (nI (1 + ((y / 64) % 10)))) ((6 * k) + 4) (nI ((q_tk (s_P sg k)) + 1))) ((6 * k) + 5) (-1))] ++ (zHs cy a s9_26)) H := z_P_perm (List.Perm.symm (z_permT (ww := [zI cy cA 3 cc, zI cy uA 48 (upd (upd (upd (upd (upd (upd uu (6 * k) (nI (s_T sg))) ((6 * k) + 1) (nI 0)) ((6 * k) + 2) (nI (3 + ((y / 16) % 4)))) ((6 * k) + 3) (nI (1 + ((y / 64) % 10)))) ((6 * k) + 4) (nI ((q_tk (s_P sg k)) + 1))) ((6 * k) + 5) (-1))]) (wu := []) (wr := [zI cy cA 3 cc, zI cy uA 48 (upd (upd (upd (upd (upd (upd uu (6 * k) (nI (s_T sg))) ((6 * k) + 1) (nI 0)) ((6 * k) + 2) (nI (3 + ((y / 16) % 4)))) ((6 * k) + 3) (nI (1 + ((y / 64) % 10)))) ((6 * k) + 4) (nI ((q_tk (s_P sg k)) + 1))) ((6 * k) + 5) (-1))]) (tl := (zHs cy a s9_26)) (n := 2) [] [0, 1] rfl rfl rfl (by decide))) hQ
            have hD : va_D A ([zI cy cA 3 cc, zI cy uA 48 (upd (upd (upd (upd (upd (upd uu (6 * k) (nI (s_T sg))) ((6 * k) + 1) (nI 0)) ((6 * k) + 2) (nI (3 + ((y / 16) % 4)))) ((6 * k) + 3) (nI (1 + ((y / 64) % 10)))) ((6 * k) + 4) (nI ((q_tk (s_P sg k)) + 1))) ((6 * k) + 5) (-1))] ++ (zHs cy a s9_26)) := z_D_perm (List.Perm.symm (z_permT (ww := [zI cy cA 3 cc, zI cy uA 48 (upd (upd (upd (upd (upd (upd uu (6 * k) (nI (s_T sg))) ((6 * k) + 1) (nI 0)) ((6 * k) + 2) (nI (3 + ((y / 16) % 4)))) ((6 * k) + 3) (nI (1 + ((y / 64) % 10)))) ((6 * k) + 4) (nI ((q_tk (s_P sg k)) + 1))) ((6 * k) + 5) (-1))]) (wu := []) (wr := [zI cy cA 3 cc, zI cy uA 48 (upd (upd (upd (upd (upd (upd uu (6 * k) (nI (s_T sg))) ((6 * k) + 1) (nI 0)) ((6 * k) + 2) (nI (3 + ((y / 16) % 4)))) ((6 * k) + 3) (nI (1 + ((y / 64) % 10)))) ((6 * k) + 4) (nI ((q_tk (s_P sg k)) + 1))) ((6 * k) + 5) (-1))]) (tl := (zHs cy a s9_26)) (n := 2) [] [0, 1] rfl rfl rfl (by decide))) hD
            clear hQ hP5 hD5
            rw [hr_25.2] at hP hD
            have hvr_25 : (nI (q_la (s_P s9_21 k))) = (nI (s_T sg)) := by rw [hl8]
            obtain rfl : r_25 = (nI (s_T sg)) := hr_25.1.trans hvr_25
            refine lv_aload_n hx hb dL_reads_284 rfl (lv_at hl 9 rfl) ?_
            refine lv_iconst (v := nI 1) hx hb dL_reads_285 (by decide) ?_
            refine z_iald (G := G) (v := (nI (s_T sg))) hx hb hK hP 0 rfl (by omega) (hc1) dL_reads_286 ?_
            refine z_icmp_ne hx hb (by omega) (by omega) dL_reads_287 (tgt := 294) (by decide) (fun c_27 => ?_) (fun c_27 => ?_)
            · exfalso; omega
            · refine lv_iconst (v := nI 1) hx hb dL_reads_290 (by decide) ?_
              refine lv_goto (tgt := 295) hx hb dL_reads_291 (by decide) ?_
              have e1 : 3 + (y / 16 % 4 + 4 * (1 + y / 64 % 10 - 1)) % 4 = 3 + y / 16 % 4 := by omega
              have e2 : 1 + (y / 16 % 4 + 4 * (1 + y / 64 % 10 - 1)) / 4 % 10 = 1 + y / 64 % 10 := by omega
              rw [e1, e2] at q3
              exact z_rMz hx hb hr hlk (by rfl) dL_reads_295 ((upd (upd (upd (upd (upd (upd uu (6 * k) (nI (s_T sg))) ((6 * k) + 1) (nI 0)) ((6 * k) + 2) (nI (3 + ((y / 16) % 4)))) ((6 * k) + 3) (nI (1 + ((y / 64) % 10)))) ((6 * k) + 4) (nI ((q_tk (s_P sg k)) + 1))) ((6 * k) + 5) (-1)), s9_21) (⟨rfl, zKp_at q3 rfl rfl, zUk_xg hu q3 (by omega) (by omega) (z_dd_le hp (Nat.le_refl _) (by omega))⟩) hP hD hK hS (by omega) (by omega)
  refine lv_iload_n hx hb dL_reads_37 rfl (lv_at hl 6 rfl) ?_
  refine lv_iconst (v := nI 4) hx hb dL_reads_38 (by decide) ?_
  refine z_irem hx hb (by omega) (by omega) (by omega) dL_reads_39 ?_
  refine z_if_ne hx hb (by omega) dL_reads_40 (tgt := 52) (by decide) (fun c_28 => ?_) (fun c_28 => ?_)
  · refine lv_aload hx hb dL_reads_52 (lv_at hl 8 rfl) ?_
    refine lv_iload hx hb dL_reads_54 (lv_at hl 2 rfl) ?_
    refine lv_iconst (v := nI 1) hx hb dL_reads_56 (by decide) ?_
    refine z_iadd hx hb dL_reads_57 ?_
    refine z_iald (G := G) (v := (nI (q_sh (s_P sg k)))) hx hb hK hP 1 rfl (by omega) (hu k hkn 1 (by decide)) dL_reads_58 ?_
    refine lv_iload_n hx hb dL_reads_59 rfl (lv_at hl 6 rfl) ?_
    refine lv_iconst (v := nI 4) hx hb dL_reads_60 (by decide) ?_
    refine z_idiv hx hb (by omega) (by omega) (by omega) dL_reads_61 ?_
    refine lv_iconst (v := nI 1) hx hb dL_reads_62 (by decide) ?_
    refine lv_bipush (v := nI 20) hx hb dL_reads_63 (by decide) ?_
    refine lv_iload hx hb dL_reads_65 (lv_at hl 0 rfl) ?_
    refine z_imul hx hb dL_reads_67 ?_
    refine z_iadd hx hb dL_reads_68 ?_
    refine z_irem hx hb (by omega) (by omega) (by omega) dL_reads_69 ?_
    refine z_iadd hx hb dL_reads_70 ?_
    refine lv_iload hx hb dL_reads_71 (lv_at hl 1 rfl) ?_
    refine z_irem hx hb (by have := Nat.mod_le (y / 4) (1 + 20 * (s_T sg - q_la (s_P sg k))); omega) (by omega) (by omega) dL_reads_73 ?_
    refine lv_istore (lv' := [(9, .int (nI (((q_sh (s_P sg k)) + ((y / 4) % (1 + (20 * ((s_T sg) - (q_la (s_P sg k))))))) % (q_sz (s_P sg k))))), (8, .int (nI ((s_T sg) - (q_la (s_P sg k))))), (7, .int (nI (q_sz (s_P sg k)))), (6, .int (nI (6 * k))), (5, .int (nI k)), (0, .ref (a 0)), (1, .int (nI x)), (2, .int (nI y)), (3, .ref cA), (4, .ref uA)]) hx hb dL_reads_74 hl (by decide) rfl (fun ls hl => ?_)
    exact hjoin76 (((q_sh (s_P sg k)) + ((y / 4) % (1 + (20 * ((s_T sg) - (q_la (s_P sg k))))))) % (q_sz (s_P sg k))) (Nat.mod_lt _ (by omega)) _ (lv_sub hl [5, 6, 7, 8, 9, 4, 3, 2, 1, 0] rfl)
  · refine lv_iload_n hx hb dL_reads_43 rfl (lv_at hl 6 rfl) ?_
    refine lv_iconst (v := nI 4) hx hb dL_reads_44 (by decide) ?_
    refine z_idiv hx hb (by omega) (by omega) (by omega) dL_reads_45 ?_
    refine lv_iload hx hb dL_reads_46 (lv_at hl 1 rfl) ?_
    refine z_irem hx hb (by omega) (by omega) (by omega) dL_reads_48 ?_
    refine lv_goto (tgt := 74) hx hb dL_reads_49 (by decide) ?_
    refine lv_istore (lv' := [(9, .int (nI ((y / 4) % (q_sz (s_P sg k))))), (8, .int (nI ((s_T sg) - (q_la (s_P sg k))))), (7, .int (nI (q_sz (s_P sg k)))), (6, .int (nI (6 * k))), (5, .int (nI k)), (0, .ref (a 0)), (1, .int (nI x)), (2, .int (nI y)), (3, .ref cA), (4, .ref uA)]) hx hb dL_reads_74 hl (by decide) rfl (fun ls hl => ?_)
    exact hjoin76 ((y / 4) % (q_sz (s_P sg k))) (Nat.mod_lt _ (by omega)) _ (lv_sub hl [5, 6, 7, 8, 9, 4, 3, 2, 1, 0] rfl)
