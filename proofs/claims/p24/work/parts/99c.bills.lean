/-! bills: what is the same behind one -/
theorem zUv_ext {S S9 : zPt} (h0 : q_la S9 = q_la S) (h1 : q_sh S9 = q_sh S) (h2 : q_sz S9 = q_sz S) (h3 : q_mu S9 = q_mu S) (h4 : q_tk S9 = q_tk S) (h5 : q_dd S9 = q_dd S) : zUv S9 = zUv S := by
  funext j
  match j with
  | 0 => show nI (q_la S9) = nI (q_la S); rw [h0]
  | 1 => show nI (q_sh S9) = nI (q_sh S); rw [h1]
  | 2 => show nI (zDg (q_sz S9)) = nI (zDg (q_sz S)); rw [h2]
  | 3 => show nI (q_mu S9) = nI (q_mu S); rw [h3]
  | 4 => show nI (q_tk S9) = nI (q_tk S); rw [h4]
  | n + 5 => show (if q_dd S9 ≤ nI (q_la S9) then (-1 : Int32) else q_dd S9) = if q_dd S ≤ nI (q_la S) then -1 else q_dd S; rw [h5, h0]
theorem zUv_bll {S : zPt} {o : Int64} {ce : Nat → Int64} {bi : Nat → Nat} : zUv (zBll S o ce bi) = zUv S := zUv_ext rfl rfl rfl rfl rfl rfl
def zBp (σ : zHo) (cc : Nat → Int32) (cn : Nat) (u1 : Nat → Int32) (s9 : zHo) : Prop := zOk s9 ∧ s_np s9 = s_np σ ∧ s_T s9 = s_T σ ∧ (∀ j, zUv (s_P s9 j) = zUv (s_P σ j) ∧ q_fi (s_P s9 j) = q_fi (s_P σ j)) ∧ (∃ c9, u1 2 = nI c9 ∧ c9 ≤ cn + 999 ∧ zSum s9 c9) ∧ u1 0 = cc 0 ∧ u1 1 = cc 1
theorem zBl_pt {σ s9 : zHo} {k : Nat} {o : Int64} {ce : Nat → Int64} {bi : Nat → Nat} (h : s_P s9 = zUp (s_P σ) k (zBll (s_P σ k) o ce bi)) : ∀ j, zUv (s_P s9 j) = zUv (s_P σ j) ∧ q_fi (s_P s9 j) = q_fi (s_P σ j) := fun j => by
  rw [h]
  by_cases e : j = k
  · subst e
    rw [zUp_at]
    exact ⟨zUv_bll, rfl⟩
  · rw [zUp_ne e]
    exact ⟨rfl, rfl⟩
theorem zBp_no {σ : zHo} {cc : Nat → Int32} {cn c9 : Nat} (hO : zOk σ) (hs : zSum σ cn) (h : c9 = cn) : zBp σ cc cn (upd cc 2 (nI c9)) σ := ⟨hO, rfl, rfl, fun _ => ⟨rfl, rfl⟩, ⟨cn, by rw [h, z_updk], by omega, hs⟩, z_updj (by decide), z_updj (by decide)⟩
theorem zBp_cr {σ s9 : zHo} {cc : Nat → Int32} {k cn m c9 : Nat} (hO : zOk s9) (hk : k < s_np σ) (hn : s_np s9 = s_np σ) (hT : s_T s9 = s_T σ) (hi : s_ic s9 = s_ic σ) (hP : s_P s9 = zUp (s_P σ) k (zBll (s_P σ k) (q_ow (s_P σ k) + -(lN m)) (q_ce (s_P σ k)) (q_bi (s_P σ k)))) (hs : zSum σ cn) (hm : m < 1000) (h : c9 = cn + m) : zBp σ cc cn (upd cc 2 (nI c9)) s9 := by
  refine ⟨hO, hn, hT, zBl_pt hP, ⟨cn + m, by rw [h, z_updk], by omega, zSum_up hs hk hn hP ?_⟩, z_updj (by decide), z_updj (by decide)⟩
  rw [hi]
  show zS8 (s_ic σ) 4 = zS8 (s_ic σ) 4 + (lN (cn + m) - lN cn) + (q_ow (s_P σ k) + -(lN m) - q_ow (s_P σ k))
  rw [← lN_add]
  grind
theorem zBp_bi {σ s9 s8 : zHo} {cc : Nat → Int32} {k cn : Nat} {r : Int64} (hk : k < s_np σ) (h : zBi σ k r s9) (h8 : zBi s9 k (lN 0) s8) (hs : zSum σ cn) (hc : cc 2 = nI cn) : zBp σ cc cn cc s8 := by
  obtain ⟨a1, a2, a3, a4, ⟨ce, bi, a5⟩, a6⟩ := h
  obtain ⟨b1, b2, b3, b4, ⟨ce2, bi2, b5⟩, b6⟩ := h8
  have s1 : zSum s9 cn := zSum_up hs hk a2 a5 (by
    rw [a4]
    show zS8 (s_ic σ) 4 + r = zS8 (s_ic σ) 4 + (lN cn - lN cn) + (q_ow (s_P σ k) + r - q_ow (s_P σ k))
    grind)
  have s2 : zSum s8 cn := zSum_up s1 (by rw [a2]; exact hk) b2 b5 (by
    rw [b4]
    show zS8 (s_ic s9) 4 + lN 0 = zS8 (s_ic s9) 4 + (lN cn - lN cn) + (q_ow (s_P s9 k) + lN 0 - q_ow (s_P s9 k))
    grind)
  refine ⟨b1, b2.trans a2, b3.trans a3, fun j => ?_, ⟨cn, hc, by omega, s2⟩, rfl, rfl⟩
  have e1 := zBl_pt a5 j
  have e2 := zBl_pt b5 j
  exact ⟨e2.1.trans e1.1, e2.2.trans e1.2⟩
theorem z_co2 {n : Nat} : ¬ (97 * n + (n + 1) % 97) % 97 = (97 * n + (n + 1) % 97) / 97 % 97 := by
  have h1 : (97 * n + (n + 1) % 97) / 97 = n := by omega
  have h2 : (97 * n + (n + 1) % 97) % 97 = (n + 1) % 97 := by omega
  rw [h1, h2]
  omega
theorem z_co1 {n : Nat} : (97 * n + n % 97) / 97 = n := by omega
theorem z_co3 {n : Nat} : (97 * n + n % 97) % 97 = (97 * n + n % 97) / 97 % 97 := by
  rw [z_co1]
  omega
set_option maxHeartbeats 4000000 in
set_option maxRecDepth 100000 in
theorem c_L_bills (l : Launch) (hl9 : l.stackTraces = false) (G : va_G) (cy : Nat → ClassId) (wd : Nat → Nat) (fo : Option Nat) (N0 sz0 : Nat) (a : Nat → Nat) (sg : zHo) (x y cA cn : Nat) (cc : Nat → Int32) (hO : zOk sg) (hn : 0 < s_np sg) (hx : x < 1073741824) (hy : y < 1073741824) (hc0 : cc 0 = nI (s_np sg)) (hc2 : cc 2 = nI cn) (hcn : cn ≤ 1000000) (hs : zSum sg cn) : Met l yL_bills wsL_bills ({ frames := 10, cells := 3, slots := 18, locals := 250 }) (zMH G cy wd fo N0 [.ref (a 0), .int (nI x), .int (nI y), .ref cA] sz0 ([zI cy cA 3 cc] ++ (zHs cy a sg))) (va_Qi (fun (r : Int32) (u : (Nat → Int32) × zHo) => r = nI 1 ∧ zBp sg cc cn u.1 u.2) (fun (u : (Nat → Int32) × zHo) t9 => zB G cy (va_A ([zI cy cA 3 cc] ++ (zHs cy a sg)) sz0) ([zI cy cA 3 u.1] ++ (zHs cy a u.2)) t9) (va_A ([zI cy cA 3 cc] ++ (zHs cy a sg)) sz0)) 3 18 (va_A ([zI cy cA 3 cc] ++ (zHs cy a sg)) sz0) := by
  refine z_ofMN (cc := cL_bills) (maxL := 10) (ret := (some .boolean)) (Qc := (fun A => va_Qi (fun (r : Int32) (u : (Nat → Int32) × zHo) => r = nI 1 ∧ zBp sg cc cn u.1 u.2) (fun (u : (Nat → Int32) × zHo) t9 => zB G cy A ([zI cy cA 3 u.1] ++ (zHs cy a u.2)) t9) A)) (by decide) rfl (Nat.le_of_ble_eq_true rfl) ?_
  intro p e s m below meth c ls A hx hb hml hr hts hown hlk hP hK hD hA hS hl hsz0 hN hAN hWd hE
  have hown : s.vm.findClass RL = some m.cls := hown
  have hl : lv_has ls 10 [(0, .ref (a 0)), (1, .int (nI x)), (2, .int (nI y)), (3, .ref cA)] := hl
  have hn9 := hO.2.1
  refine lv_iload_n hx hb dL_bills_0 rfl (lv_at hl 1 rfl) ?_
  refine lv_aload_n hx hb dL_bills_1 rfl (lv_at hl 3 rfl) ?_
  refine lv_iconst (v := nI 0) hx hb dL_bills_2 (by decide) ?_
  refine z_iald (G := G) (v := (nI (s_np sg))) hx hb hK hP 0 rfl (by omega) (hc0) dL_bills_3 ?_
  refine z_irem hx hb (by omega) (by omega) (by omega) dL_bills_4 ?_
  obtain ⟨k, hkd⟩ : ∃ k, k = x % s_np sg := ⟨_, rfl⟩
  rw [← hkd]
  have hkn : k < s_np sg := by rw [hkd]; exact Nat.mod_lt _ hn
  have hp := zOk_P hO hkn
  have hT9 := hO.1
  have hl9a := zPk_la hp
  have hf9a := zPk_con hp
  have hn9 := hO.2.1
  have hk8 := zOk_k8 hO hkn
  refine lv_istore (lv' := [(4, .int (nI k)), (0, .ref (a 0)), (1, .int (nI x)), (2, .int (nI y)), (3, .ref cA)]) hx hb dL_bills_5 hl (by decide) rfl (fun ls hl => ?_)
  refine lv_aload_n hx hb dL_bills_7 rfl (lv_at hl 1 rfl) ?_
  refine lv_iload hx hb dL_bills_8 (lv_at hl 0 rfl) ?_
  have hP5 : va_P G vwCl ((zHs cy a sg) ++ [zI cy cA 3 cc]) _ := z_P_perm (z_permT (ww := [zI cy cA 3 cc]) (wu := []) (wr := [zI cy cA 3 cc]) (tl := (zHs cy a sg)) (n := 1) [] [0] rfl rfl rfl (by decide)) hP
  have hD5 : va_D A ((zHs cy a sg) ++ [zI cy cA 3 cc]) := z_D_perm (z_permT (ww := [zI cy cA 3 cc]) (wu := []) (wr := [zI cy cA 3 cc]) (tl := (zHs cy a sg)) (n := 1) [] [0] rfl rfl rfl (by decide)) hD
  refine z_clP (wc := (zHs cy a sg)) (wr := [zI cy cA 3 cc]) (va_runV (As := [.int (nI k)]) (rest := []) ⟨hx, hb, hml, hown, hts⟩ (h_c_account l hl9 G cy wd fo _ _ a sg k (hkn) (zOk_k8 hO hkn) (zOk_pt hO hkn) (hO.1)) (cwV 1 hts gL_bills_X10_account rfl rfl rfl (by decide +kernel) ⟨Nat.le_of_ble_eq_true rfl, Nat.le_of_ble_eq_true rfl⟩) (z_pVHP (ci := 11) hK hP5 hD5 hS hN hAN hWd hE rfl rfl 0 rfl) rfl rfl hl.1 rfl (lv_room (Nat.le_of_ble_eq_true rfl)) dL_bills_10 ⟨by show 0 + 0 ≤ 3; omega, by show 0 + 0 ≤ 18; omega⟩) hP5 hD5 hS hA (fun r_1 u H locs hr_1 hQ hD hS hz => ?_)
  obtain ⟨s9_2, rfl⟩ : ∃ z, z = u := ⟨_, rfl⟩
  try dsimp only at hr_1
  have hP : va_P G vwCl ([zI cy cA 3 cc] ++ (zHs cy a s9_2)) H := z_P_perm (List.Perm.symm (z_permT (ww := [zI cy cA 3 cc]) (wu := []) (wr := [zI cy cA 3 cc]) (tl := (zHs cy a s9_2)) (n := 1) [] [0] rfl rfl rfl (by decide))) hQ
  have hD : va_D A ([zI cy cA 3 cc] ++ (zHs cy a s9_2)) := z_D_perm (List.Perm.symm (z_permT (ww := [zI cy cA 3 cc]) (wu := []) (wr := [zI cy cA 3 cc]) (tl := (zHs cy a s9_2)) (n := 1) [] [0] rfl rfl rfl (by decide))) hD
  clear hQ hP5 hD5
  rw [hr_1.2] at hP hD
  obtain rfl : r_1 = (q_ow (s_P sg k)) := hr_1.1
  refine lv_lstore (lv' := [(5, .long (q_ow (s_P sg k))), (4, .int (nI k)), (0, .ref (a 0)), (1, .int (nI x)), (2, .int (nI y)), (3, .ref cA)]) hx hb dL_bills_13 hl (by decide) rfl (fun ls hl => ?_)
  refine lv_iload_n hx hb dL_bills_15 rfl (lv_at hl 3 rfl) ?_
  refine lv_bipush (v := nI 8) hx hb dL_bills_16 (by decide) ?_
  refine z_idiv hx hb (by omega) (by omega) (by omega) dL_bills_18 ?_
  refine lv_iconst (v := nI 3) hx hb dL_bills_19 (by decide) ?_
  refine z_irem hx hb (by omega) (by omega) (by omega) dL_bills_20 ?_
  refine z_if_ne hx hb (by omega) dL_bills_21 (tgt := 189) (by decide) (fun c_3 => ?_) (fun c_3 => ?_)
  · refine lv_aload_n hx hb dL_bills_189 rfl (lv_at hl 2 rfl) ?_
    refine lv_iload hx hb dL_bills_190 (lv_at hl 1 rfl) ?_
    have hP5 : va_P G vwCl ((zHs cy a sg) ++ [zI cy cA 3 cc]) _ := z_P_perm (z_permT (ww := [zI cy cA 3 cc]) (wu := []) (wr := [zI cy cA 3 cc]) (tl := (zHs cy a sg)) (n := 1) [] [0] rfl rfl rfl (by decide)) hP
    have hD5 : va_D A ((zHs cy a sg) ++ [zI cy cA 3 cc]) := z_D_perm (z_permT (ww := [zI cy cA 3 cc]) (wu := []) (wr := [zI cy cA 3 cc]) (tl := (zHs cy a sg)) (n := 1) [] [0] rfl rfl rfl (by decide)) hD
    refine z_clP (wc := (zHs cy a sg)) (wr := [zI cy cA 3 cc]) (va_runV (As := [.int (nI k)]) (rest := []) ⟨hx, hb, hml, hown, hts⟩ (q_bill l hl9 G cy wd fo _ _ a sg (hO) k (hkn)) (cwV 1 hts gL_bills_X10_bill rfl rfl rfl (by decide +kernel) ⟨Nat.le_of_ble_eq_true rfl, Nat.le_of_ble_eq_true rfl⟩) (z_pVHP (ci := 11) hK hP5 hD5 hS hN hAN hWd hE rfl rfl 0 rfl) rfl rfl hl.1 rfl (lv_room (Nat.le_of_ble_eq_true rfl)) dL_bills_192 ⟨by show 0 + 0 ≤ 3; omega, by show 0 + 0 ≤ 18; omega⟩) hP5 hD5 hS hA (fun r_4 u H locs hr_4 hQ hD hS hz => ?_)
    obtain ⟨s9_5, rfl⟩ : ∃ z, z = u := ⟨_, rfl⟩
    try dsimp only at hr_4
    have hP : va_P G vwCl ([zI cy cA 3 cc] ++ (zHs cy a s9_5)) H := z_P_perm (List.Perm.symm (z_permT (ww := [zI cy cA 3 cc]) (wu := []) (wr := [zI cy cA 3 cc]) (tl := (zHs cy a s9_5)) (n := 1) [] [0] rfl rfl rfl (by decide))) hQ
    have hD : va_D A ([zI cy cA 3 cc] ++ (zHs cy a s9_5)) := z_D_perm (List.Perm.symm (z_permT (ww := [zI cy cA 3 cc]) (wu := []) (wr := [zI cy cA 3 cc]) (tl := (zHs cy a s9_5)) (n := 1) [] [0] rfl rfl rfl (by decide))) hD
    clear hQ hP5 hD5
    obtain ⟨hbi, -⟩ := hr_4
    obtain ⟨b1, b2, b3, b4, ⟨ce9, bi9, b5⟩, b6⟩ := id hbi
    have hk9 : k < s_np s9_5 := by rw [b2]; exact hkn
    refine lv_lstore (lv' := [(7, .long r_4), (5, .long (q_ow (s_P sg k))), (4, .int (nI k)), (0, .ref (a 0)), (1, .int (nI x)), (2, .int (nI y)), (3, .ref cA)]) hx hb dL_bills_195 hl (by decide) rfl (fun ls hl => ?_)
    refine lv_aload_n hx hb dL_bills_197 rfl (lv_at hl 3 rfl) ?_
    refine lv_iload hx hb dL_bills_198 (lv_at hl 2 rfl) ?_
    have hP5 : va_P G vwCl ((zHs cy a s9_5) ++ [zI cy cA 3 cc]) _ := z_P_perm (z_permT (ww := [zI cy cA 3 cc]) (wu := []) (wr := [zI cy cA 3 cc]) (tl := (zHs cy a s9_5)) (n := 1) [] [0] rfl rfl rfl (by decide)) hP
    have hD5 : va_D A ((zHs cy a s9_5) ++ [zI cy cA 3 cc]) := z_D_perm (z_permT (ww := [zI cy cA 3 cc]) (wu := []) (wr := [zI cy cA 3 cc]) (tl := (zHs cy a s9_5)) (n := 1) [] [0] rfl rfl rfl (by decide)) hD
    refine z_clP (wc := (zHs cy a s9_5)) (wr := [zI cy cA 3 cc]) (va_runV (As := [.int (nI k)]) (rest := []) ⟨hx, hb, hml, hown, hts⟩ (h_c_account l hl9 G cy wd fo _ _ a s9_5 k (hk9) (hk8) (zOk_pt b1 hk9) (b1.1)) (cwV 1 hts gL_bills_X10_account rfl rfl rfl (by decide +kernel) ⟨Nat.le_of_ble_eq_true rfl, Nat.le_of_ble_eq_true rfl⟩) (z_pVHP (ci := 11) hK hP5 hD5 hS hN hAN hWd hE rfl rfl 0 rfl) rfl rfl hl.1 rfl (lv_room (Nat.le_of_ble_eq_true rfl)) dL_bills_200 ⟨by show 0 + 0 ≤ 3; omega, by show 0 + 0 ≤ 18; omega⟩) hP5 hD5 hS hA (fun r_6 u H locs hr_6 hQ hD hS hz => ?_)
    obtain ⟨s9_7, rfl⟩ : ∃ z, z = u := ⟨_, rfl⟩
    try dsimp only at hr_6
    have hP : va_P G vwCl ([zI cy cA 3 cc] ++ (zHs cy a s9_7)) H := z_P_perm (List.Perm.symm (z_permT (ww := [zI cy cA 3 cc]) (wu := []) (wr := [zI cy cA 3 cc]) (tl := (zHs cy a s9_7)) (n := 1) [] [0] rfl rfl rfl (by decide))) hQ
    have hD : va_D A ([zI cy cA 3 cc] ++ (zHs cy a s9_7)) := z_D_perm (List.Perm.symm (z_permT (ww := [zI cy cA 3 cc]) (wu := []) (wr := [zI cy cA 3 cc]) (tl := (zHs cy a s9_7)) (n := 1) [] [0] rfl rfl rfl (by decide))) hD
    clear hQ hP5 hD5
    rw [hr_6.2] at hP hD
    have hvr_6 : (q_ow (s_P s9_5 k)) = (q_ow (s_P sg k) + r_4) := by rw [b5, zUp_at]; rfl
    obtain rfl : r_6 = (q_ow (s_P sg k) + r_4) := hr_6.1.trans hvr_6
    refine lv_lload hx hb dL_bills_203 (lv_at hl 1 rfl) ?_
    refine lv_lload hx hb dL_bills_205 (lv_at hl 0 rfl) ?_
    refine lv_ladd hx hb dL_bills_207 ?_
    refine z_lc_ne hx hb dL_bills_208 dL_bills_209 (tgt := 227) (by decide) (fun c_8 => ?_) (fun c_8 => ?_)
    · exact absurd rfl c_8
    · refine lv_aload_n hx hb dL_bills_212 rfl (lv_at hl 3 rfl) ?_
      refine lv_iload hx hb dL_bills_213 (lv_at hl 2 rfl) ?_
      have hP5 : va_P G vwCl ((zHs cy a s9_5) ++ [zI cy cA 3 cc]) _ := z_P_perm (z_permT (ww := [zI cy cA 3 cc]) (wu := []) (wr := [zI cy cA 3 cc]) (tl := (zHs cy a s9_5)) (n := 1) [] [0] rfl rfl rfl (by decide)) hP
      have hD5 : va_D A ((zHs cy a s9_5) ++ [zI cy cA 3 cc]) := z_D_perm (z_permT (ww := [zI cy cA 3 cc]) (wu := []) (wr := [zI cy cA 3 cc]) (tl := (zHs cy a s9_5)) (n := 1) [] [0] rfl rfl rfl (by decide)) hD
      refine z_clP (wc := (zHs cy a s9_5)) (wr := [zI cy cA 3 cc]) (va_runV (As := [.int (nI k)]) (rest := []) ⟨hx, hb, hml, hown, hts⟩ (q_bill l hl9 G cy wd fo _ _ a s9_5 (b1) k (hk9)) (cwV 1 hts gL_bills_X10_bill rfl rfl rfl (by decide +kernel) ⟨Nat.le_of_ble_eq_true rfl, Nat.le_of_ble_eq_true rfl⟩) (z_pVHP (ci := 11) hK hP5 hD5 hS hN hAN hWd hE rfl rfl 0 rfl) rfl rfl hl.1 rfl (lv_room (Nat.le_of_ble_eq_true rfl)) dL_bills_215 ⟨by show 0 + 0 ≤ 3; omega, by show 0 + 0 ≤ 18; omega⟩) hP5 hD5 hS hA (fun r_9 u H locs hr_9 hQ hD hS hz => ?_)
      obtain ⟨s9_10, rfl⟩ : ∃ z, z = u := ⟨_, rfl⟩
      try dsimp only at hr_9
      have hP : va_P G vwCl ([zI cy cA 3 cc] ++ (zHs cy a s9_10)) H := z_P_perm (List.Perm.symm (z_permT (ww := [zI cy cA 3 cc]) (wu := []) (wr := [zI cy cA 3 cc]) (tl := (zHs cy a s9_10)) (n := 1) [] [0] rfl rfl rfl (by decide))) hQ
      have hD : va_D A ([zI cy cA 3 cc] ++ (zHs cy a s9_10)) := z_D_perm (List.Perm.symm (z_permT (ww := [zI cy cA 3 cc]) (wu := []) (wr := [zI cy cA 3 cc]) (tl := (zHs cy a s9_10)) (n := 1) [] [0] rfl rfl rfl (by decide))) hD
      clear hQ hP5 hD5
      obtain ⟨hbj, hbz⟩ := hr_9
      obtain rfl : r_9 = lN 0 := hbz b6
      refine lv_lconst (v := lN 0) hx hb dL_bills_218 rfl ?_
      refine z_lcN_ne hx hb (by omega) (by omega) dL_bills_219 dL_bills_220 (tgt := 227) (by decide) (fun c_11 => ?_) (fun c_11 => ?_)
      · exfalso; omega
      · refine lv_iconst (v := nI 1) hx hb dL_bills_223 (by decide) ?_
        refine lv_goto (tgt := 228) hx hb dL_bills_224 (by decide) ?_
        exact z_rMz hx hb hr hlk (by rfl) dL_bills_228 (cc, s9_10) (⟨rfl, zBp_bi hkn hbi hbj hs hc2⟩) hP hD hK hS (by omega) (by omega)
  · refine lv_iload_n hx hb dL_bills_24 rfl (lv_at hl 4 rfl) ?_
    refine lv_sipush (v := nI 3000) hx hb dL_bills_25 (by decide) ?_
    refine z_irem hx hb (by omega) (by omega) (by omega) dL_bills_28 ?_
    obtain ⟨n9, hnd⟩ : ∃ n9, n9 = y % 3000 := ⟨_, rfl⟩
    rw [← hnd]
    have hn3 : n9 < 3000 := by rw [hnd]; exact Nat.mod_lt _ (by decide)
    refine lv_istore (lv' := [(7, .int (nI n9)), (5, .long (q_ow (s_P sg k))), (4, .int (nI k)), (0, .ref (a 0)), (1, .int (nI x)), (2, .int (nI y)), (3, .ref cA)]) hx hb dL_bills_29 hl (by decide) rfl (fun ls hl => ?_)
    refine lv_aload_n hx hb dL_bills_31 rfl (lv_at hl 3 rfl) ?_
    refine lv_bipush (v := nI 6) hx hb dL_bills_32 (by decide) ?_
    refine lv_iload hx hb dL_bills_34 (lv_at hl 2 rfl) ?_
    refine lv_bipush (v := nI 97) hx hb dL_bills_36 (by decide) ?_
    refine lv_iload hx hb dL_bills_38 (lv_at hl 0 rfl) ?_
    refine z_imul hx hb dL_bills_40 ?_
    refine lv_iload hx hb dL_bills_41 (lv_at hl 0 rfl) ?_
    refine lv_bipush (v := nI 97) hx hb dL_bills_43 (by decide) ?_
    refine z_irem hx hb (by omega) (by omega) (by omega) dL_bills_45 ?_
    refine z_iadd hx hb dL_bills_46 ?_
    refine lv_iconst (v := nI 0) hx hb dL_bills_47 (by decide) ?_
    have hP5 : va_P G vwCl ((zHs cy a sg) ++ [zI cy cA 3 cc]) _ := z_P_perm (z_permT (ww := [zI cy cA 3 cc]) (wu := []) (wr := [zI cy cA 3 cc]) (tl := (zHs cy a sg)) (n := 1) [] [0] rfl rfl rfl (by decide)) hP
    have hD5 : va_D A ((zHs cy a sg) ++ [zI cy cA 3 cc]) := z_D_perm (z_permT (ww := [zI cy cA 3 cc]) (wu := []) (wr := [zI cy cA 3 cc]) (tl := (zHs cy a sg)) (n := 1) [] [0] rfl rfl rfl (by decide)) hD
    refine z_ciP (wc := (zHs cy a sg)) (wr := [zI cy cA 3 cc]) (vx_runSW (As := [.ref (a 0), .int (nI 6), .int (nI k), .int (nI ((97 * n9) + (n9 % 97))), .int (nI 0)]) (rest := []) ⟨hx, hb, hml, hown, hts⟩ (q_credit l hl9 G cy wd fo _ _ a sg (hO) k (hkn) ((97 * n9) + (n9 % 97)) (by omega) (z_co3) (nI 0)) (vx_cwSW 5 hts gL_bills_L_asks rfl rfl rfl (by decide +kernel) ⟨Nat.le_of_ble_eq_true rfl, Nat.le_of_ble_eq_true rfl⟩) (z_pHP hK hP5 hD5 hS hN hAN hWd hE) rfl rfl hl.1 rfl (lv_room (Nat.le_of_ble_eq_true rfl)) dL_bills_48 ⟨by show 0 + 1 ≤ 3; omega, by show 0 + 6 ≤ 18; omega⟩) hP5 hD5 hS hA (fun r_12 u H locs hr_12 hQ hD hS hz => ?_)
    obtain ⟨s9_13, rfl⟩ : ∃ z, z = u := ⟨_, rfl⟩
    try dsimp only at hr_12
    have hP : va_P G vwCl ([zI cy cA 3 cc] ++ (zHs cy a s9_13)) H := z_P_perm (List.Perm.symm (z_permT (ww := [zI cy cA 3 cc]) (wu := []) (wr := [zI cy cA 3 cc]) (tl := (zHs cy a s9_13)) (n := 1) [] [0] rfl rfl rfl (by decide))) hQ
    have hD : va_D A ([zI cy cA 3 cc] ++ (zHs cy a s9_13)) := z_D_perm (List.Perm.symm (z_permT (ww := [zI cy cA 3 cc]) (wu := []) (wr := [zI cy cA 3 cc]) (tl := (zHs cy a s9_13)) (n := 1) [] [0] rfl rfl rfl (by decide))) hD
    clear hQ hP5 hD5
    rcases hr_12 with ⟨q1, q2, q3⟩ | ⟨q1, q9, q2, q3, q4, q5, q6, q7⟩
    · rw [q2] at hP hD
      obtain rfl : r_12 = -70008 := q1
      refine lv_istore (lv' := [(8, .int (-70008)), (7, .int (nI n9)), (5, .long (q_ow (s_P sg k))), (4, .int (nI k)), (0, .ref (a 0)), (1, .int (nI x)), (2, .int (nI y)), (3, .ref cA)]) hx hb dL_bills_51 hl (by decide) rfl (fun ls hl => ?_)
      refine lv_aload_n hx hb dL_bills_53 rfl (lv_at hl 4 rfl) ?_
      refine lv_bipush (v := nI 6) hx hb dL_bills_54 (by decide) ?_
      refine lv_iload hx hb dL_bills_56 (lv_at hl 3 rfl) ?_
      refine lv_bipush (v := nI 97) hx hb dL_bills_58 (by decide) ?_
      refine lv_iload hx hb dL_bills_60 (lv_at hl 1 rfl) ?_
      refine z_imul hx hb dL_bills_62 ?_
      refine lv_iload hx hb dL_bills_63 (lv_at hl 1 rfl) ?_
      refine lv_bipush (v := nI 97) hx hb dL_bills_65 (by decide) ?_
      refine z_irem hx hb (by omega) (by omega) (by omega) dL_bills_67 ?_
      refine z_iadd hx hb dL_bills_68 ?_
      refine lv_iconst (v := nI 0) hx hb dL_bills_69 (by decide) ?_
      have hP5 : va_P G vwCl ((zHs cy a sg) ++ [zI cy cA 3 cc]) _ := z_P_perm (z_permT (ww := [zI cy cA 3 cc]) (wu := []) (wr := [zI cy cA 3 cc]) (tl := (zHs cy a sg)) (n := 1) [] [0] rfl rfl rfl (by decide)) hP
      have hD5 : va_D A ((zHs cy a sg) ++ [zI cy cA 3 cc]) := z_D_perm (z_permT (ww := [zI cy cA 3 cc]) (wu := []) (wr := [zI cy cA 3 cc]) (tl := (zHs cy a sg)) (n := 1) [] [0] rfl rfl rfl (by decide)) hD
      refine z_ciP (wc := (zHs cy a sg)) (wr := [zI cy cA 3 cc]) (vx_runSW (As := [.ref (a 0), .int (nI 6), .int (nI k), .int (nI ((97 * n9) + (n9 % 97))), .int (nI 0)]) (rest := []) ⟨hx, hb, hml, hown, hts⟩ (q_credit l hl9 G cy wd fo _ _ a sg (hO) k (hkn) ((97 * n9) + (n9 % 97)) (by omega) (z_co3) (nI 0)) (vx_cwSW 5 hts gL_bills_L_asks rfl rfl rfl (by decide +kernel) ⟨Nat.le_of_ble_eq_true rfl, Nat.le_of_ble_eq_true rfl⟩) (z_pHP hK hP5 hD5 hS hN hAN hWd hE) rfl rfl hl.1 rfl (lv_room (Nat.le_of_ble_eq_true rfl)) dL_bills_70 ⟨by show 1 + 1 ≤ 3; omega, by show 6 + 6 ≤ 18; omega⟩) hP5 hD5 hS hA (fun r_14 u H locs hr_14 hQ hD hS hz => ?_)
      obtain ⟨s9_15, rfl⟩ : ∃ z, z = u := ⟨_, rfl⟩
      try dsimp only at hr_14
      have hP : va_P G vwCl ([zI cy cA 3 cc] ++ (zHs cy a s9_15)) H := z_P_perm (List.Perm.symm (z_permT (ww := [zI cy cA 3 cc]) (wu := []) (wr := [zI cy cA 3 cc]) (tl := (zHs cy a s9_15)) (n := 1) [] [0] rfl rfl rfl (by decide))) hQ
      have hD : va_D A ([zI cy cA 3 cc] ++ (zHs cy a s9_15)) := z_D_perm (List.Perm.symm (z_permT (ww := [zI cy cA 3 cc]) (wu := []) (wr := [zI cy cA 3 cc]) (tl := (zHs cy a s9_15)) (n := 1) [] [0] rfl rfl rfl (by decide))) hD
      clear hQ hP5 hD5
      rcases hr_14 with ⟨p1, p2, -⟩ | ⟨-, p9, -⟩
      · rw [p2] at hP hD
        obtain rfl : r_14 = -70008 := p1
        refine lv_ldc (v := (-70008)) hx hb hown (hts _ (List.mem_of_getElem? (i := 1) (by decide +kernel))) dL_bills_73 ?_
        refine lv_icmp_ne hx hb dL_bills_75 (tgt := 109) (by decide) (fun c_16 => ?_) (fun c_16 => ?_)
        · exact absurd rfl c_16
        · refine lv_aload_n hx hb dL_bills_78 rfl (lv_at hl 4 rfl) ?_
          refine lv_bipush (v := nI 6) hx hb dL_bills_79 (by decide) ?_
          refine lv_iload hx hb dL_bills_81 (lv_at hl 3 rfl) ?_
          refine lv_bipush (v := nI 97) hx hb dL_bills_83 (by decide) ?_
          refine lv_iload hx hb dL_bills_85 (lv_at hl 1 rfl) ?_
          refine z_imul hx hb dL_bills_87 ?_
          refine lv_iload hx hb dL_bills_88 (lv_at hl 1 rfl) ?_
          refine lv_iconst (v := nI 1) hx hb dL_bills_90 (by decide) ?_
          refine z_iadd hx hb dL_bills_91 ?_
          refine lv_bipush (v := nI 97) hx hb dL_bills_92 (by decide) ?_
          refine z_irem hx hb (by omega) (by omega) (by omega) dL_bills_94 ?_
          refine z_iadd hx hb dL_bills_95 ?_
          refine lv_iconst (v := nI 0) hx hb dL_bills_96 (by decide) ?_
          have hP5 : va_P G vwCl ((zHs cy a sg) ++ [zI cy cA 3 cc]) _ := z_P_perm (z_permT (ww := [zI cy cA 3 cc]) (wu := []) (wr := [zI cy cA 3 cc]) (tl := (zHs cy a sg)) (n := 1) [] [0] rfl rfl rfl (by decide)) hP
          have hD5 : va_D A ((zHs cy a sg) ++ [zI cy cA 3 cc]) := z_D_perm (z_permT (ww := [zI cy cA 3 cc]) (wu := []) (wr := [zI cy cA 3 cc]) (tl := (zHs cy a sg)) (n := 1) [] [0] rfl rfl rfl (by decide)) hD
          refine z_ciP (wc := (zHs cy a sg)) (wr := [zI cy cA 3 cc]) (vx_runSW (As := [.ref (a 0), .int (nI 6), .int (nI k), .int (nI ((97 * n9) + ((n9 + 1) % 97))), .int (nI 0)]) (rest := []) ⟨hx, hb, hml, hown, hts⟩ (k_e2b_credit l hl9 G cy wd fo _ _ a sg k (hkn) (zOk_k8 hO hkn) (zOk_pt hO hkn) (hO.1) ((97 * n9) + ((n9 + 1) % 97)) (by omega) (z_co2) (nI 0)) (vx_cwSW 5 hts gL_bills_L_asks rfl rfl rfl (by decide +kernel) ⟨Nat.le_of_ble_eq_true rfl, Nat.le_of_ble_eq_true rfl⟩) (z_pHP hK hP5 hD5 hS hN hAN hWd hE) rfl rfl hl.1 rfl (lv_room (Nat.le_of_ble_eq_true rfl)) dL_bills_97 ⟨by show 2 + 1 ≤ 3; omega, by show 12 + 6 ≤ 18; omega⟩) hP5 hD5 hS hA (fun r_17 u H locs hr_17 hQ hD hS hz => ?_)
          obtain ⟨s9_18, rfl⟩ : ∃ z, z = u := ⟨_, rfl⟩
          try dsimp only at hr_17
          have hP : va_P G vwCl ([zI cy cA 3 cc] ++ (zHs cy a s9_18)) H := z_P_perm (List.Perm.symm (z_permT (ww := [zI cy cA 3 cc]) (wu := []) (wr := [zI cy cA 3 cc]) (tl := (zHs cy a s9_18)) (n := 1) [] [0] rfl rfl rfl (by decide))) hQ
          have hD : va_D A ([zI cy cA 3 cc] ++ (zHs cy a s9_18)) := z_D_perm (List.Perm.symm (z_permT (ww := [zI cy cA 3 cc]) (wu := []) (wr := [zI cy cA 3 cc]) (tl := (zHs cy a s9_18)) (n := 1) [] [0] rfl rfl rfl (by decide))) hD
          clear hQ hP5 hD5
          rw [hr_17.2] at hP hD
          obtain rfl : r_17 = (-70009) := hr_17.1
          refine lv_ldc (v := (-70009)) hx hb hown (hts _ (List.mem_of_getElem? (i := 2) (by decide +kernel))) dL_bills_100 ?_
          refine lv_icmp_ne hx hb dL_bills_102 (tgt := 109) (by decide) (fun c_19 => ?_) (fun c_19 => ?_)
          · exact absurd rfl c_19
          · refine lv_iconst (v := nI 1) hx hb dL_bills_105 (by decide) ?_
            refine lv_goto (tgt := 110) hx hb dL_bills_106 (by decide) ?_
            refine lv_istore (lv' := [(9, .int (nI 1)), (8, .int (-70008)), (7, .int (nI n9)), (5, .long (q_ow (s_P sg k))), (4, .int (nI k)), (0, .ref (a 0)), (1, .int (nI x)), (2, .int (nI y)), (3, .ref cA)]) hx hb dL_bills_110 hl (by decide) rfl (fun ls hl => ?_)
            refine lv_aload_n hx hb dL_bills_112 rfl (lv_at hl 8 rfl) ?_
            refine lv_iconst (v := nI 2) hx hb dL_bills_113 (by decide) ?_
            refine lv_dup2_11 hx hb dL_bills_114 rfl rfl ?_
            refine z_iald (G := G) (v := (nI cn)) hx hb hK hP 0 rfl (by omega) (hc2) dL_bills_115 ?_
            refine lv_iload hx hb dL_bills_116 (lv_at hl 1 rfl) ?_
            refine lv_if_le hx hb dL_bills_118 (tgt := 126) (by decide) (fun c_20 => ?_) (fun c_20 => ?_)
            · refine lv_iconst (v := nI 0) hx hb dL_bills_126 (by decide) ?_
              refine z_iadd hx hb dL_bills_127 ?_
              refine z_iast (G := G) hx hb hK hP hD hS 0 rfl (by omega) dL_bills_128 (fun H locs hP hD hS => ?_)
              have hP : va_P G vwCl ([zI cy cA 3 (upd cc 2 (nI (cn + 0)))] ++ (zHs cy a sg)) H := hP
              have hD : va_D A ([zI cy cA 3 (upd cc 2 (nI (cn + 0)))] ++ (zHs cy a sg)) := hD
              refine lv_iload hx hb dL_bills_129 (lv_at hl 0 rfl) ?_
              refine lv_if_eq hx hb dL_bills_131 (tgt := 187) (by decide) (fun q => absurd q (by decide)) (fun _ => ?_)
              refine lv_iload hx hb dL_bills_134 (lv_at hl 1 rfl) ?_
              refine lv_ldc (v := (-70008)) hx hb hown (hts _ (List.mem_of_getElem? (i := 1) (by decide +kernel))) dL_bills_136 ?_
              refine lv_icmp_ne hx hb dL_bills_138 (tgt := 156) (by decide) (fun c_21 => ?_) (fun c_21 => ?_)
              · exact absurd rfl c_21
              · refine lv_aload_n hx hb dL_bills_141 rfl (lv_at hl 5 rfl) ?_
                refine lv_iload hx hb dL_bills_142 (lv_at hl 4 rfl) ?_
                have hP5 : va_P G vwCl ((zHs cy a sg) ++ [zI cy cA 3 (upd cc 2 (nI (cn + 0)))]) _ := z_P_perm (z_permT (ww := [zI cy cA 3 (upd cc 2 (nI (cn + 0)))]) (wu := []) (wr := [zI cy cA 3 (upd cc 2 (nI (cn + 0)))]) (tl := (zHs cy a sg)) (n := 1) [] [0] rfl rfl rfl (by decide)) hP
                have hD5 : va_D A ((zHs cy a sg) ++ [zI cy cA 3 (upd cc 2 (nI (cn + 0)))]) := z_D_perm (z_permT (ww := [zI cy cA 3 (upd cc 2 (nI (cn + 0)))]) (wu := []) (wr := [zI cy cA 3 (upd cc 2 (nI (cn + 0)))]) (tl := (zHs cy a sg)) (n := 1) [] [0] rfl rfl rfl (by decide)) hD
                refine z_clP (wc := (zHs cy a sg)) (wr := [zI cy cA 3 (upd cc 2 (nI (cn + 0)))]) (va_runV (As := [.int (nI k)]) (rest := []) ⟨hx, hb, hml, hown, hts⟩ (h_c_account l hl9 G cy wd fo _ _ a sg k (hkn) (zOk_k8 hO hkn) (zOk_pt hO hkn) (hO.1)) (cwV 1 hts gL_bills_X10_account rfl rfl rfl (by decide +kernel) ⟨Nat.le_of_ble_eq_true rfl, Nat.le_of_ble_eq_true rfl⟩) (z_pVHP (ci := 11) hK hP5 hD5 hS hN hAN hWd hE rfl rfl 0 rfl) rfl rfl hl.1 rfl (lv_room (Nat.le_of_ble_eq_true rfl)) dL_bills_144 ⟨by show 3 + 0 ≤ 3; omega, by show 18 + 0 ≤ 18; omega⟩) hP5 hD5 hS hA (fun r_22 u H locs hr_22 hQ hD hS hz => ?_)
                obtain ⟨s9_23, rfl⟩ : ∃ z, z = u := ⟨_, rfl⟩
                try dsimp only at hr_22
                have hP : va_P G vwCl ([zI cy cA 3 (upd cc 2 (nI (cn + 0)))] ++ (zHs cy a s9_23)) H := z_P_perm (List.Perm.symm (z_permT (ww := [zI cy cA 3 (upd cc 2 (nI (cn + 0)))]) (wu := []) (wr := [zI cy cA 3 (upd cc 2 (nI (cn + 0)))]) (tl := (zHs cy a s9_23)) (n := 1) [] [0] rfl rfl rfl (by decide))) hQ
                have hD : va_D A ([zI cy cA 3 (upd cc 2 (nI (cn + 0)))] ++ (zHs cy a s9_23)) := z_D_perm (List.Perm.symm (z_permT (ww := [zI cy cA 3 (upd cc 2 (nI (cn + 0)))]) (wu := []) (wr := [zI cy cA 3 (upd cc 2 (nI (cn + 0)))]) (tl := (zHs cy a s9_23)) (n := 1) [] [0] rfl rfl rfl (by decide))) hD
                clear hQ hP5 hD5
                rw [hr_22.2] at hP hD
                obtain rfl : r_22 = (q_ow (s_P sg k)) := hr_22.1
                refine lv_lload hx hb dL_bills_147 (lv_at hl 3 rfl) ?_
                refine z_lc_ne hx hb dL_bills_149 dL_bills_150 (tgt := 187) (by decide) (fun c_24 => ?_) (fun c_24 => ?_)
                · exact absurd rfl c_24
                · refine lv_goto (tgt := 183) hx hb dL_bills_153 (by decide) ?_
                  refine lv_iconst (v := nI 1) hx hb dL_bills_183 (by decide) ?_
                  refine lv_goto (tgt := 188) hx hb dL_bills_184 (by decide) ?_
                  exact z_rMz hx hb hr hlk (by rfl) dL_bills_188 ((upd cc 2 (nI (cn + 0))), sg) (⟨rfl, zBp_no hO hs (by omega)⟩) hP hD hK hS (by omega) (by omega)
            · exact absurd (by decide) c_20
      · exact absurd q3 p9
    · have em : (97 * n9 + n9 % 97) / 97 % 1000 = n9 % 1000 := by rw [z_co1]
      rw [em] at q1 q7
      obtain rfl : r_12 = nI (n9 % 1000) := q1
      have hk9 : k < s_np s9_13 := by rw [q3]; exact hkn
      refine lv_istore (lv' := [(8, .int (nI (n9 % 1000))), (7, .int (nI n9)), (5, .long (q_ow (s_P sg k))), (4, .int (nI k)), (0, .ref (a 0)), (1, .int (nI x)), (2, .int (nI y)), (3, .ref cA)]) hx hb dL_bills_51 hl (by decide) rfl (fun ls hl => ?_)
      refine lv_aload_n hx hb dL_bills_53 rfl (lv_at hl 4 rfl) ?_
      refine lv_bipush (v := nI 6) hx hb dL_bills_54 (by decide) ?_
      refine lv_iload hx hb dL_bills_56 (lv_at hl 3 rfl) ?_
      refine lv_bipush (v := nI 97) hx hb dL_bills_58 (by decide) ?_
      refine lv_iload hx hb dL_bills_60 (lv_at hl 1 rfl) ?_
      refine z_imul hx hb dL_bills_62 ?_
      refine lv_iload hx hb dL_bills_63 (lv_at hl 1 rfl) ?_
      refine lv_bipush (v := nI 97) hx hb dL_bills_65 (by decide) ?_
      refine z_irem hx hb (by omega) (by omega) (by omega) dL_bills_67 ?_
      refine z_iadd hx hb dL_bills_68 ?_
      refine lv_iconst (v := nI 0) hx hb dL_bills_69 (by decide) ?_
      have hP5 : va_P G vwCl ((zHs cy a s9_13) ++ [zI cy cA 3 cc]) _ := z_P_perm (z_permT (ww := [zI cy cA 3 cc]) (wu := []) (wr := [zI cy cA 3 cc]) (tl := (zHs cy a s9_13)) (n := 1) [] [0] rfl rfl rfl (by decide)) hP
      have hD5 : va_D A ((zHs cy a s9_13) ++ [zI cy cA 3 cc]) := z_D_perm (z_permT (ww := [zI cy cA 3 cc]) (wu := []) (wr := [zI cy cA 3 cc]) (tl := (zHs cy a s9_13)) (n := 1) [] [0] rfl rfl rfl (by decide)) hD
      refine z_ciP (wc := (zHs cy a s9_13)) (wr := [zI cy cA 3 cc]) (vx_runSW (As := [.ref (a 0), .int (nI 6), .int (nI k), .int (nI ((97 * n9) + (n9 % 97))), .int (nI 0)]) (rest := []) ⟨hx, hb, hml, hown, hts⟩ (q_credit l hl9 G cy wd fo _ _ a s9_13 (q2) k (hk9) ((97 * n9) + (n9 % 97)) (by omega) (z_co3) (nI 0)) (vx_cwSW 5 hts gL_bills_L_asks rfl rfl rfl (by decide +kernel) ⟨Nat.le_of_ble_eq_true rfl, Nat.le_of_ble_eq_true rfl⟩) (z_pHP hK hP5 hD5 hS hN hAN hWd hE) rfl rfl hl.1 rfl (lv_room (Nat.le_of_ble_eq_true rfl)) dL_bills_70 ⟨by show 1 + 1 ≤ 3; omega, by show 6 + 6 ≤ 18; omega⟩) hP5 hD5 hS hA (fun r_25 u H locs hr_25 hQ hD hS hz => ?_)
      obtain ⟨s9_26, rfl⟩ : ∃ z, z = u := ⟨_, rfl⟩
      try dsimp only at hr_25
      have hP : va_P G vwCl ([zI cy cA 3 cc] ++ (zHs cy a s9_26)) H := z_P_perm (List.Perm.symm (z_permT (ww := [zI cy cA 3 cc]) (wu := []) (wr := [zI cy cA 3 cc]) (tl := (zHs cy a s9_26)) (n := 1) [] [0] rfl rfl rfl (by decide))) hQ
      have hD : va_D A ([zI cy cA 3 cc] ++ (zHs cy a s9_26)) := z_D_perm (List.Perm.symm (z_permT (ww := [zI cy cA 3 cc]) (wu := []) (wr := [zI cy cA 3 cc]) (tl := (zHs cy a s9_26)) (n := 1) [] [0] rfl rfl rfl (by decide))) hD
      clear hQ hP5 hD5
      rcases hr_25 with ⟨p1, p2, -⟩ | ⟨-, p9, -⟩
      · rw [p2] at hP hD
        obtain rfl : r_25 = -70008 := p1
        refine lv_ldc (v := (-70008)) hx hb hown (hts _ (List.mem_of_getElem? (i := 1) (by decide +kernel))) dL_bills_73 ?_
        refine lv_icmp_ne hx hb dL_bills_75 (tgt := 109) (by decide) (fun c_27 => ?_) (fun c_27 => ?_)
        · exact absurd rfl c_27
        · refine lv_aload_n hx hb dL_bills_78 rfl (lv_at hl 4 rfl) ?_
          refine lv_bipush (v := nI 6) hx hb dL_bills_79 (by decide) ?_
          refine lv_iload hx hb dL_bills_81 (lv_at hl 3 rfl) ?_
          refine lv_bipush (v := nI 97) hx hb dL_bills_83 (by decide) ?_
          refine lv_iload hx hb dL_bills_85 (lv_at hl 1 rfl) ?_
          refine z_imul hx hb dL_bills_87 ?_
          refine lv_iload hx hb dL_bills_88 (lv_at hl 1 rfl) ?_
          refine lv_iconst (v := nI 1) hx hb dL_bills_90 (by decide) ?_
          refine z_iadd hx hb dL_bills_91 ?_
          refine lv_bipush (v := nI 97) hx hb dL_bills_92 (by decide) ?_
          refine z_irem hx hb (by omega) (by omega) (by omega) dL_bills_94 ?_
          refine z_iadd hx hb dL_bills_95 ?_
          refine lv_iconst (v := nI 0) hx hb dL_bills_96 (by decide) ?_
          have hP5 : va_P G vwCl ((zHs cy a s9_13) ++ [zI cy cA 3 cc]) _ := z_P_perm (z_permT (ww := [zI cy cA 3 cc]) (wu := []) (wr := [zI cy cA 3 cc]) (tl := (zHs cy a s9_13)) (n := 1) [] [0] rfl rfl rfl (by decide)) hP
          have hD5 : va_D A ((zHs cy a s9_13) ++ [zI cy cA 3 cc]) := z_D_perm (z_permT (ww := [zI cy cA 3 cc]) (wu := []) (wr := [zI cy cA 3 cc]) (tl := (zHs cy a s9_13)) (n := 1) [] [0] rfl rfl rfl (by decide)) hD
          refine z_ciP (wc := (zHs cy a s9_13)) (wr := [zI cy cA 3 cc]) (vx_runSW (As := [.ref (a 0), .int (nI 6), .int (nI k), .int (nI ((97 * n9) + ((n9 + 1) % 97))), .int (nI 0)]) (rest := []) ⟨hx, hb, hml, hown, hts⟩ (k_e2b_credit l hl9 G cy wd fo _ _ a s9_13 k (hk9) (hk8) (zOk_pt q2 hk9) (q2.1) ((97 * n9) + ((n9 + 1) % 97)) (by omega) (z_co2) (nI 0)) (vx_cwSW 5 hts gL_bills_L_asks rfl rfl rfl (by decide +kernel) ⟨Nat.le_of_ble_eq_true rfl, Nat.le_of_ble_eq_true rfl⟩) (z_pHP hK hP5 hD5 hS hN hAN hWd hE) rfl rfl hl.1 rfl (lv_room (Nat.le_of_ble_eq_true rfl)) dL_bills_97 ⟨by show 2 + 1 ≤ 3; omega, by show 12 + 6 ≤ 18; omega⟩) hP5 hD5 hS hA (fun r_28 u H locs hr_28 hQ hD hS hz => ?_)
          obtain ⟨s9_29, rfl⟩ : ∃ z, z = u := ⟨_, rfl⟩
          try dsimp only at hr_28
          have hP : va_P G vwCl ([zI cy cA 3 cc] ++ (zHs cy a s9_29)) H := z_P_perm (List.Perm.symm (z_permT (ww := [zI cy cA 3 cc]) (wu := []) (wr := [zI cy cA 3 cc]) (tl := (zHs cy a s9_29)) (n := 1) [] [0] rfl rfl rfl (by decide))) hQ
          have hD : va_D A ([zI cy cA 3 cc] ++ (zHs cy a s9_29)) := z_D_perm (List.Perm.symm (z_permT (ww := [zI cy cA 3 cc]) (wu := []) (wr := [zI cy cA 3 cc]) (tl := (zHs cy a s9_29)) (n := 1) [] [0] rfl rfl rfl (by decide))) hD
          clear hQ hP5 hD5
          rw [hr_28.2] at hP hD
          obtain rfl : r_28 = (-70009) := hr_28.1
          refine lv_ldc (v := (-70009)) hx hb hown (hts _ (List.mem_of_getElem? (i := 2) (by decide +kernel))) dL_bills_100 ?_
          refine lv_icmp_ne hx hb dL_bills_102 (tgt := 109) (by decide) (fun c_30 => ?_) (fun c_30 => ?_)
          · exact absurd rfl c_30
          · refine lv_iconst (v := nI 1) hx hb dL_bills_105 (by decide) ?_
            refine lv_goto (tgt := 110) hx hb dL_bills_106 (by decide) ?_
            refine lv_istore (lv' := [(9, .int (nI 1)), (8, .int (nI (n9 % 1000))), (7, .int (nI n9)), (5, .long (q_ow (s_P sg k))), (4, .int (nI k)), (0, .ref (a 0)), (1, .int (nI x)), (2, .int (nI y)), (3, .ref cA)]) hx hb dL_bills_110 hl (by decide) rfl (fun ls hl => ?_)
            refine lv_aload_n hx hb dL_bills_112 rfl (lv_at hl 8 rfl) ?_
            refine lv_iconst (v := nI 2) hx hb dL_bills_113 (by decide) ?_
            refine lv_dup2_11 hx hb dL_bills_114 rfl rfl ?_
            refine z_iald (G := G) (v := (nI cn)) hx hb hK hP 0 rfl (by omega) (hc2) dL_bills_115 ?_
            refine lv_iload hx hb dL_bills_116 (lv_at hl 1 rfl) ?_
            refine z_jf_le hx hb (a := ((n9 % 1000 : Nat) : Int)) (nI_toInt (by omega)) dL_bills_118 (tgt := 126) (by decide) (fun c_31 => ?_) (fun c_31 => ?_)
            · refine lv_iconst (v := nI 0) hx hb dL_bills_126 (by decide) ?_
              refine z_iadd hx hb dL_bills_127 ?_
              refine z_iast (G := G) hx hb hK hP hD hS 0 rfl (by omega) dL_bills_128 (fun H locs hP hD hS => ?_)
              have hP : va_P G vwCl ([zI cy cA 3 (upd cc 2 (nI (cn + 0)))] ++ (zHs cy a s9_13)) H := hP
              have hD : va_D A ([zI cy cA 3 (upd cc 2 (nI (cn + 0)))] ++ (zHs cy a s9_13)) := hD
              refine lv_iload hx hb dL_bills_129 (lv_at hl 0 rfl) ?_
              refine lv_if_eq hx hb dL_bills_131 (tgt := 187) (by decide) (fun q => absurd q (by decide)) (fun _ => ?_)
              refine lv_iload hx hb dL_bills_134 (lv_at hl 1 rfl) ?_
              refine lv_ldc (v := (-70008)) hx hb hown (hts _ (List.mem_of_getElem? (i := 1) (by decide +kernel))) dL_bills_136 ?_
              refine lv_icmp_ne hx hb dL_bills_138 (tgt := 156) (by decide) (fun c_32 => ?_) (fun c_32 => ?_)
              · refine lv_iload hx hb dL_bills_156 (lv_at hl 1 rfl) ?_
                refine lv_iload hx hb dL_bills_158 (lv_at hl 2 rfl) ?_
                refine lv_sipush (v := nI 1000) hx hb dL_bills_160 (by decide) ?_
                refine z_irem hx hb (by omega) (by omega) (by omega) dL_bills_163 ?_
                refine z_icmp_ne hx hb (by omega) (by omega) dL_bills_164 (tgt := 187) (by decide) (fun c_33 => ?_) (fun c_33 => ?_)
                · exfalso; omega
                · refine lv_aload_n hx hb dL_bills_167 rfl (lv_at hl 5 rfl) ?_
                  refine lv_iload hx hb dL_bills_168 (lv_at hl 4 rfl) ?_
                  have hP5 : va_P G vwCl ((zHs cy a s9_13) ++ [zI cy cA 3 (upd cc 2 (nI (cn + 0)))]) _ := z_P_perm (z_permT (ww := [zI cy cA 3 (upd cc 2 (nI (cn + 0)))]) (wu := []) (wr := [zI cy cA 3 (upd cc 2 (nI (cn + 0)))]) (tl := (zHs cy a s9_13)) (n := 1) [] [0] rfl rfl rfl (by decide)) hP
                  have hD5 : va_D A ((zHs cy a s9_13) ++ [zI cy cA 3 (upd cc 2 (nI (cn + 0)))]) := z_D_perm (z_permT (ww := [zI cy cA 3 (upd cc 2 (nI (cn + 0)))]) (wu := []) (wr := [zI cy cA 3 (upd cc 2 (nI (cn + 0)))]) (tl := (zHs cy a s9_13)) (n := 1) [] [0] rfl rfl rfl (by decide)) hD
                  refine z_clP (wc := (zHs cy a s9_13)) (wr := [zI cy cA 3 (upd cc 2 (nI (cn + 0)))]) (va_runV (As := [.int (nI k)]) (rest := []) ⟨hx, hb, hml, hown, hts⟩ (h_c_account l hl9 G cy wd fo _ _ a s9_13 k (hk9) (hk8) (zOk_pt q2 hk9) (q2.1)) (cwV 1 hts gL_bills_X10_account rfl rfl rfl (by decide +kernel) ⟨Nat.le_of_ble_eq_true rfl, Nat.le_of_ble_eq_true rfl⟩) (z_pVHP (ci := 11) hK hP5 hD5 hS hN hAN hWd hE rfl rfl 0 rfl) rfl rfl hl.1 rfl (lv_room (Nat.le_of_ble_eq_true rfl)) dL_bills_170 ⟨by show 3 + 0 ≤ 3; omega, by show 18 + 0 ≤ 18; omega⟩) hP5 hD5 hS hA (fun r_34 u H locs hr_34 hQ hD hS hz => ?_)
                  obtain ⟨s9_35, rfl⟩ : ∃ z, z = u := ⟨_, rfl⟩
                  try dsimp only at hr_34
                  have hP : va_P G vwCl ([zI cy cA 3 (upd cc 2 (nI (cn + 0)))] ++ (zHs cy a s9_35)) H := z_P_perm (List.Perm.symm (z_permT (ww := [zI cy cA 3 (upd cc 2 (nI (cn + 0)))]) (wu := []) (wr := [zI cy cA 3 (upd cc 2 (nI (cn + 0)))]) (tl := (zHs cy a s9_35)) (n := 1) [] [0] rfl rfl rfl (by decide))) hQ
                  have hD : va_D A ([zI cy cA 3 (upd cc 2 (nI (cn + 0)))] ++ (zHs cy a s9_35)) := z_D_perm (List.Perm.symm (z_permT (ww := [zI cy cA 3 (upd cc 2 (nI (cn + 0)))]) (wu := []) (wr := [zI cy cA 3 (upd cc 2 (nI (cn + 0)))]) (tl := (zHs cy a s9_35)) (n := 1) [] [0] rfl rfl rfl (by decide))) hD
                  clear hQ hP5 hD5
                  rw [hr_34.2] at hP hD
                  have hvr_34 : (q_ow (s_P s9_13 k)) = (q_ow (s_P sg k) + -(lN (n9 % 1000))) := by rw [q7, zUp_at]; rfl
                  obtain rfl : r_34 = (q_ow (s_P sg k) + -(lN (n9 % 1000))) := hr_34.1.trans hvr_34
                  refine lv_lload hx hb dL_bills_173 (lv_at hl 3 rfl) ?_
                  refine lv_iload hx hb dL_bills_175 (lv_at hl 1 rfl) ?_
                  refine z_i2l hx hb (by omega) dL_bills_177 ?_
                  refine lv_lsub hx hb dL_bills_178 ?_
                  refine z_lc_ne hx hb dL_bills_179 dL_bills_180 (tgt := 187) (by decide) (fun c_36 => ?_) (fun c_36 => ?_)
                  · exact (c_36 (by grind)).elim
                  · refine lv_iconst (v := nI 1) hx hb dL_bills_183 (by decide) ?_
                    refine lv_goto (tgt := 188) hx hb dL_bills_184 (by decide) ?_
                    exact z_rMz hx hb hr hlk (by rfl) dL_bills_188 ((upd cc 2 (nI (cn + 0))), s9_13) (⟨rfl, zBp_cr q2 hkn q3 q4 q5 q7 hs (by omega) (by omega)⟩) hP hD hK hS (by omega) (by omega)
              · exact absurd c_32 (z_n8 (by omega))
            · refine lv_iload hx hb dL_bills_121 (lv_at hl 1 rfl) ?_
              refine lv_goto (tgt := 127) hx hb dL_bills_123 (by decide) ?_
              refine z_iadd hx hb dL_bills_127 ?_
              refine z_iast (G := G) hx hb hK hP hD hS 0 rfl (by omega) dL_bills_128 (fun H locs hP hD hS => ?_)
              have hP : va_P G vwCl ([zI cy cA 3 (upd cc 2 (nI (cn + (n9 % 1000))))] ++ (zHs cy a s9_13)) H := hP
              have hD : va_D A ([zI cy cA 3 (upd cc 2 (nI (cn + (n9 % 1000))))] ++ (zHs cy a s9_13)) := hD
              refine lv_iload hx hb dL_bills_129 (lv_at hl 0 rfl) ?_
              refine lv_if_eq hx hb dL_bills_131 (tgt := 187) (by decide) (fun q => absurd q (by decide)) (fun _ => ?_)
              refine lv_iload hx hb dL_bills_134 (lv_at hl 1 rfl) ?_
              refine lv_ldc (v := (-70008)) hx hb hown (hts _ (List.mem_of_getElem? (i := 1) (by decide +kernel))) dL_bills_136 ?_
              refine lv_icmp_ne hx hb dL_bills_138 (tgt := 156) (by decide) (fun c_37 => ?_) (fun c_37 => ?_)
              · refine lv_iload hx hb dL_bills_156 (lv_at hl 1 rfl) ?_
                refine lv_iload hx hb dL_bills_158 (lv_at hl 2 rfl) ?_
                refine lv_sipush (v := nI 1000) hx hb dL_bills_160 (by decide) ?_
                refine z_irem hx hb (by omega) (by omega) (by omega) dL_bills_163 ?_
                refine z_icmp_ne hx hb (by omega) (by omega) dL_bills_164 (tgt := 187) (by decide) (fun c_38 => ?_) (fun c_38 => ?_)
                · exfalso; omega
                · refine lv_aload_n hx hb dL_bills_167 rfl (lv_at hl 5 rfl) ?_
                  refine lv_iload hx hb dL_bills_168 (lv_at hl 4 rfl) ?_
                  have hP5 : va_P G vwCl ((zHs cy a s9_13) ++ [zI cy cA 3 (upd cc 2 (nI (cn + (n9 % 1000))))]) _ := z_P_perm (z_permT (ww := [zI cy cA 3 (upd cc 2 (nI (cn + (n9 % 1000))))]) (wu := []) (wr := [zI cy cA 3 (upd cc 2 (nI (cn + (n9 % 1000))))]) (tl := (zHs cy a s9_13)) (n := 1) [] [0] rfl rfl rfl (by decide)) hP
                  have hD5 : va_D A ((zHs cy a s9_13) ++ [zI cy cA 3 (upd cc 2 (nI (cn + (n9 % 1000))))]) := z_D_perm (z_permT (ww := [zI cy cA 3 (upd cc 2 (nI (cn + (n9 % 1000))))]) (wu := []) (wr := [zI cy cA 3 (upd cc 2 (nI (cn + (n9 % 1000))))]) (tl := (zHs cy a s9_13)) (n := 1) [] [0] rfl rfl rfl (by decide)) hD
                  refine z_clP (wc := (zHs cy a s9_13)) (wr := [zI cy cA 3 (upd cc 2 (nI (cn + (n9 % 1000))))]) (va_runV (As := [.int (nI k)]) (rest := []) ⟨hx, hb, hml, hown, hts⟩ (h_c_account l hl9 G cy wd fo _ _ a s9_13 k (hk9) (hk8) (zOk_pt q2 hk9) (q2.1)) (cwV 1 hts gL_bills_X10_account rfl rfl rfl (by decide +kernel) ⟨Nat.le_of_ble_eq_true rfl, Nat.le_of_ble_eq_true rfl⟩) (z_pVHP (ci := 11) hK hP5 hD5 hS hN hAN hWd hE rfl rfl 0 rfl) rfl rfl hl.1 rfl (lv_room (Nat.le_of_ble_eq_true rfl)) dL_bills_170 ⟨by show 3 + 0 ≤ 3; omega, by show 18 + 0 ≤ 18; omega⟩) hP5 hD5 hS hA (fun r_39 u H locs hr_39 hQ hD hS hz => ?_)
                  obtain ⟨s9_40, rfl⟩ : ∃ z, z = u := ⟨_, rfl⟩
                  try dsimp only at hr_39
                  have hP : va_P G vwCl ([zI cy cA 3 (upd cc 2 (nI (cn + (n9 % 1000))))] ++ (zHs cy a s9_40)) H := z_P_perm (List.Perm.symm (z_permT (ww := [zI cy cA 3 (upd cc 2 (nI (cn + (n9 % 1000))))]) (wu := []) (wr := [zI cy cA 3 (upd cc 2 (nI (cn + (n9 % 1000))))]) (tl := (zHs cy a s9_40)) (n := 1) [] [0] rfl rfl rfl (by decide))) hQ
                  have hD : va_D A ([zI cy cA 3 (upd cc 2 (nI (cn + (n9 % 1000))))] ++ (zHs cy a s9_40)) := z_D_perm (List.Perm.symm (z_permT (ww := [zI cy cA 3 (upd cc 2 (nI (cn + (n9 % 1000))))]) (wu := []) (wr := [zI cy cA 3 (upd cc 2 (nI (cn + (n9 % 1000))))]) (tl := (zHs cy a s9_40)) (n := 1) [] [0] rfl rfl rfl (by decide))) hD
                  clear hQ hP5 hD5
                  rw [hr_39.2] at hP hD
                  have hvr_39 : (q_ow (s_P s9_13 k)) = (q_ow (s_P sg k) + -(lN (n9 % 1000))) := by rw [q7, zUp_at]; rfl
                  obtain rfl : r_39 = (q_ow (s_P sg k) + -(lN (n9 % 1000))) := hr_39.1.trans hvr_39
                  refine lv_lload hx hb dL_bills_173 (lv_at hl 3 rfl) ?_
                  refine lv_iload hx hb dL_bills_175 (lv_at hl 1 rfl) ?_
                  refine z_i2l hx hb (by omega) dL_bills_177 ?_
                  refine lv_lsub hx hb dL_bills_178 ?_
                  refine z_lc_ne hx hb dL_bills_179 dL_bills_180 (tgt := 187) (by decide) (fun c_41 => ?_) (fun c_41 => ?_)
                  · exact (c_41 (by grind)).elim
                  · refine lv_iconst (v := nI 1) hx hb dL_bills_183 (by decide) ?_
                    refine lv_goto (tgt := 188) hx hb dL_bills_184 (by decide) ?_
                    exact z_rMz hx hb hr hlk (by rfl) dL_bills_188 ((upd cc 2 (nI (cn + (n9 % 1000)))), s9_13) (⟨rfl, zBp_cr q2 hkn q3 q4 q5 q7 hs (by omega) (by omega)⟩) hP hD hK hS (by omega) (by omega)
              · exact absurd c_37 (z_n8 (by omega))
      · exact absurd q6 p9
