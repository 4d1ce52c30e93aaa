/-! house -/
theorem in_L_house_X10 : ∀ w ∈ u_ws RX10 TX10 10, w ∈ wsL_house := fun _ h => (List.mem_cons_of_mem _ (List.mem_append_left _ (List.mem_append_left _ (List.mem_append_left _ (List.mem_append_left _ (List.mem_append_left _ (List.mem_append_left _ (List.mem_append_left _ (List.mem_append_left _ (List.mem_append_left _ (List.mem_append_left _ (List.mem_append_left _ (List.mem_append_left _ (List.mem_append_left _ (List.mem_append_left _ (List.mem_append_right _ h))))))))))))))))
set_option maxHeartbeats 4000000 in
set_option maxRecDepth 100000 in
theorem c_L_house (l : Launch) (hl9 : l.stackTraces = false) (G : va_G) (cy : Nat → ClassId) (wd : Nat → Nat) (fo : Option Nat) (N0 sz0 : Nat) (b9 L : Nat) (xs : Nat → Int32) (hL : L ≤ 260) (hb9 : b9 < N0) (at9 : Nat) (hat : at9 ≤ 360) : Met l yL_house wsL_house ({ frames := 14, cells := 175180, slots := 1774109, locals := 360 }) (zMX G cy wd fo N0 b9 L xs [.ref b9, .int (nI at9)] sz0) (va_Qi (fun (r : Int32) (_ : Unit) => r = (nI 1)) (fun (u : Unit) t9 => zB G cy (va_A [] sz0) [] t9) (va_A [] sz0)) 175180 1774109 (va_A [] sz0) := by
  refine z_ofMX (cc := cL_house) (maxL := 13) (ret := (some .boolean)) (Qc := (fun A => va_Qi (fun (r : Int32) (_ : Unit) => r = (nI 1)) (fun (u : Unit) t9 => zB G cy A [] t9) A)) (by decide) rfl (Nat.le_of_ble_eq_true rfl) ?_
  intro p e s m below meth c ls A hx hb hml hr hts hown hlk hP hK hD hA hS hl hsz0 hN hAN hWd hE hAO hX
  have hown : s.vm.findClass RL = some m.cls := hown
  have hl : lv_has ls 13 [(0, .ref b9), (1, .int (nI at9))] := hl
  refine va_new (ci := 11) (fs := [.null, .null, .null, .null, .null, .null, .null, .int (nI 0), .int (nI 0), .int (nI 0)]) (C := RX10) (T := TX10) (N := 10) hx hb hts in_L_house_X10 tyX10 tyX10_ok hown (hts _ (List.mem_of_getElem? (i := 1) (by decide +kernel))) (hts _ (List.mem_of_getElem? (i := 2) (by decide +kernel))) (hts _ (List.mem_of_getElem? (i := 3) (by decide +kernel))) hK hP hD hS hA rfl (nwf_X10) (Nat.le_of_ble_eq_true rfl) (Nat.le_of_ble_eq_true rfl) dL_house_0 (fun q_1 H hP hD hS => ?_)
  have hP : va_P G vwCl [zO q_1 11 [.null, .null, .null, .null, .null, .null, .null, .int (nI 0), .int (nI 0), .int (nI 0)]] H := hP
  have hD : va_D A [zO q_1 11 [.null, .null, .null, .null, .null, .null, .null, .int (nI 0), .int (nI 0), .int (nI 0)]] := hD
  refine lv_dup hx hb dL_house_3 rfl ?_
  have hP0 : va_P G vwCl ([zO q_1 11 [.null, .null, .null, .null, .null, .null, .null, .int (nI 0), .int (nI 0), .int (nI 0)]] ++ []) H := hP
  have hD0 : va_D A ([zO q_1 11 [.null, .null, .null, .null, .null, .null, .null, .int (nI 0), .int (nI 0), .int (nI 0)]] ++ []) := hD
  refine z_cvP (wc := [zO q_1 11 [.null, .null, .null, .null, .null, .null, .null, .int (nI 0), .int (nI 0), .int (nI 0)]]) (wr := []) (va_runI (As := []) (rest := [.ref q_1]) ⟨hx, hb, hml, hown, hts⟩ (c_X10_init l G cy _ q_1) (cwI 0 hts gL_house_X10_init rfl rfl rfl (hts _ (List.mem_of_getElem? (i := 3) (by decide +kernel))) (hts _ (List.mem_of_getElem? (i := 6) (by decide +kernel))) (hts _ (List.mem_of_getElem? (i := 7) (by decide +kernel))) rfl (by decide +kernel) ⟨Nat.le_of_ble_eq_true rfl, Nat.le_of_ble_eq_true rfl⟩) (z_pSMO hK hAO hP0 hD0 [0] rfl rfl) rfl rfl hl.1 rfl (lv_room (Nat.le_of_ble_eq_true rfl)) dL_house_4 ⟨Nat.le_of_ble_eq_true rfl, Nat.le_of_ble_eq_true rfl⟩) hP0 hD0 hS hA (fun a H locs hu9 hP9 hD9 hS hz => ?_)
  obtain rfl : a 0 = q_1 := hu9
  clear hP0 hD0
  have hP : va_P G vwCl (zHs cy a zS0) _ := hP9
  have hD : va_D A (zHs cy a zS0) := hD9
  refine lv_astore_n (lv' := [(2, .ref (a 0)), (0, .ref b9), (1, .int (nI at9))]) hx hb dL_house_7 rfl hl (by decide) rfl (fun ls hl => ?_)
  refine lv_iconst (v := nI 3) hx hb dL_house_8 (by decide) ?_
  refine z_newI (G := G) (N := 3) hx hb (hts _ (List.mem_of_getElem? (i := 4) (by decide +kernel))) hK hP hD hS hA (by omega) (by show 37 + 1 ≤ 175180; omega) (by show 24010 + 3 ≤ 1774109; omega) dL_house_9 (fun qc H hP hD hS => ?_)
  refine lv_astore_n (lv' := [(3, .ref qc), (2, .ref (a 0)), (0, .ref b9), (1, .int (nI at9))]) hx hb dL_house_11 rfl hl (by decide) rfl (fun ls hl => ?_)
  refine lv_bipush (v := nI 8) hx hb dL_house_12 (by decide) ?_
  refine z_newI (G := G) (N := 8) hx hb (hts _ (List.mem_of_getElem? (i := 4) (by decide +kernel))) hK hP hD hS hA (by omega) (by show 38 + 1 ≤ 175180; omega) (by show 24013 + 8 ≤ 1774109; omega) dL_house_14 (fun qf H hP hD hS => ?_)
  refine lv_astore (lv' := [(4, .ref qf), (3, .ref qc), (2, .ref (a 0)), (0, .ref b9), (1, .int (nI at9))]) hx hb dL_house_16 hl (by decide) rfl (fun ls hl => ?_)
  refine lv_bipush (v := nI 48) hx hb dL_house_18 (by decide) ?_
  refine z_newI (G := G) (N := 48) hx hb (hts _ (List.mem_of_getElem? (i := 4) (by decide +kernel))) hK hP hD hS hA (by omega) (by show 39 + 1 ≤ 175180; omega) (by show 24021 + 48 ≤ 1774109; omega) dL_house_20 (fun qu H hP hD hS => ?_)
  refine lv_astore (lv' := [(5, .ref qu), (4, .ref qf), (3, .ref qc), (2, .ref (a 0)), (0, .ref b9), (1, .int (nI at9))]) hx hb dL_house_22 hl (by decide) rfl (fun ls hl => ?_)
  have hpm : (((zHs cy a zS0 ++ [zI cy qc 3 (fun _ => nI 0)]) ++ [zI cy qf 8 (fun _ => nI 0)]) ++ [zI cy qu 48 (fun _ => nI 0)]).Perm ([zI cy qc 3 (fun j9 => nI ((fun _ => 0) j9)), zI cy qf 8 (fun j9 => nI ((fun _ => 0) j9)), zI cy qu 48 (fun j9 => nI ((fun _ => 0) j9))] ++ zHs cy a zS0) := by rw [List.append_assoc, List.append_assoc]; exact List.perm_append_comm
  replace hP := z_P_perm hpm hP
  replace hD := z_D_perm hpm hD
  refine lv_iconst (v := nI 1) hx hb dL_house_24 (by decide) ?_
  refine lv_istore (lv' := [(6, .int (nI 1)), (5, .ref qu), (4, .ref qf), (3, .ref qc), (2, .ref (a 0)), (0, .ref b9), (1, .int (nI at9))]) hx hb dL_house_25 hl (by decide) rfl (fun ls hl => ?_)
  refine lv_iconst (v := nI 0) hx hb dL_house_27 (by decide) ?_
  refine lv_istore (lv' := [(7, .int (nI 0)), (6, .int (nI 1)), (5, .ref qu), (4, .ref qf), (3, .ref qc), (2, .ref (a 0)), (0, .ref b9), (1, .int (nI at9))]) hx hb dL_house_28 hl (by decide) rfl (fun ls hl => ?_)
  have hloop30 : ∀ (fuel30 : Nat) (j : Nat) (cc : Nat → Int32) (ff : Nat → Int32) (uu : Nat → Int32) (s5 : zHo) (cn : Nat), (j ≤ 90) → (zJ s5 cc ff uu cn j) → (90 - j) < fuel30 → ∀ (H : Heap) (locs : List Loc), va_P G vwCl ([zI cy qc 3 cc, zI cy qf 8 ff, zI cy qu 48 uu] ++ (zHs cy a s5)) H → va_D A ([zI cy qc 3 cc, zI cy qf 8 ff, zI cy qu 48 uu] ++ (zHs cy a s5)) → va_S A s.heap H locs → ∀ (ls : Array Slot), lv_has ls 13 [(0, .ref b9), (1, .int (nI at9)), (2, .ref (a 0)), (3, .ref qc), (4, .ref qf), (5, .ref qu), (6, .int (nI 1)), (7, .int (nI j))] → W p l e { frames := 14, cells := 175180, slots := 1774109, locals := 360 } s m [.ref b9, .int (nI at9)].toArray below meth c H locs (40 + 1802 * j + 1296 * (j / 10)) (24069 + 18012 * j + 12896 * (j / 10)) (MQ below (va_Qi (fun (r : Int32) (_ : Unit) => r = (nI 1)) (fun (u : Unit) t9 => zB G cy A [] t9) A) [.ref b9, .int (nI at9)].toArray s 175180 1774109 A) (F0 m 30 ls []) := by
    intro fuel30
    induction fuel30 with
    | zero =>
      intro j cc ff uu s5 cn hi30_0 hi30_1 hfu30
      exact absurd hfu30 (Nat.not_lt_zero _)
    | succ fuel30 ih30 =>
      intro j cc ff uu s5 cn hi30_0 hi30_1 hfu30 H locs hP hD hS ls hl
      have hJ := hi30_1
      refine lv_iload hx hb dL_house_30 (lv_at hl 7 rfl) ?_
      refine lv_bipush (v := nI 90) hx hb dL_house_32 (by decide) ?_
      refine z_icmp_ge hx hb (by omega) (by omega) dL_house_34 (tgt := 605) (by decide) (fun c_2 => ?_) (fun c_2 => ?_)
      · refine lv_iload hx hb dL_house_605 (lv_at hl 6 rfl) ?_
        refine lv_if_eq hx hb dL_house_607 (tgt := 628) (by decide) (fun q => absurd q (by decide)) (fun _ => ?_)
        obtain ⟨pO, pc0, pc1, pc2, pcn, pTj, psu, pff, puu⟩ := id hJ
        refine lv_aload_n hx hb dL_house_610 rfl (lv_at hl 2 rfl) ?_
        refine lv_bipush (v := nI 97) hx hb dL_house_611 (by decide) ?_
        refine lv_aload_n hx hb dL_house_613 rfl (lv_at hl 3 rfl) ?_
        refine lv_aload hx hb dL_house_614 (lv_at hl 4 rfl) ?_
        refine lv_aload hx hb dL_house_616 (lv_at hl 5 rfl) ?_
        have hP5 : va_P G vwCl (([zI cy qc 3 cc, zI cy qf 8 ff, zI cy qu 48 uu] ++ (zHs cy a s5)) ++ []) _ := z_P_perm (z_permT (ww := [zI cy qc 3 cc, zI cy qf 8 ff, zI cy qu 48 uu]) (wu := [zI cy qc 3 cc, zI cy qf 8 ff, zI cy qu 48 uu]) (wr := []) (tl := (zHs cy a s5)) (n := 3) [0, 1, 2] [] rfl rfl rfl (by decide)) hP
        have hD5 : va_D A (([zI cy qc 3 cc, zI cy qf 8 ff, zI cy qu 48 uu] ++ (zHs cy a s5)) ++ []) := z_D_perm (z_permT (ww := [zI cy qc 3 cc, zI cy qf 8 ff, zI cy qu 48 uu]) (wu := [zI cy qc 3 cc, zI cy qf 8 ff, zI cy qu 48 uu]) (wr := []) (tl := (zHs cy a s5)) (n := 3) [0, 1, 2] [] rfl rfl rfl (by decide)) hD
        refine z_ciP (wc := ([zI cy qc 3 cc, zI cy qf 8 ff, zI cy qu 48 uu] ++ (zHs cy a s5))) (wr := []) (va_runS (As := [.ref (a 0), .int (nI 97), .ref qc, .ref qf, .ref qu]) (rest := []) ⟨hx, hb, hml, hown, hts⟩ (c_L_isSound l hl9 G cy wd fo _ _ a s5 97 qc qf qu (cn) cc ff uu (pO) (by omega) (pc0) (pc1) (pc2) (by omega) (psu) (pff) (puu)) (va_cwS 5 hts gL_house_L_isSound rfl rfl rfl (by decide +kernel) ⟨Nat.le_of_ble_eq_true rfl, Nat.le_of_ble_eq_true rfl⟩) (z_pHP hK hP5 hD5 hS hN hAN hWd hE) rfl rfl hl.1 rfl (lv_room (Nat.le_of_ble_eq_true rfl)) dL_house_618 ⟨by show (40 + 1802 * j + 1296 * (j / 10)) + 1296 ≤ 175180; omega, by show (24069 + 18012 * j + 12896 * (j / 10)) + 12896 ≤ 1774109; omega⟩) hP5 hD5 hS hA (fun r_3 u H locs hr_3 hQ hD hS hz => ?_)
        obtain ⟨s9_4, rfl⟩ : ∃ z, z = u := ⟨_, rfl⟩
        try dsimp only at hr_3
        have hP : va_P G vwCl ([zI cy qc 3 cc, zI cy qf 8 ff, zI cy qu 48 uu] ++ (zHs cy a s9_4)) H := z_P_perm (List.Perm.symm (z_permT (ww := [zI cy qc 3 cc, zI cy qf 8 ff, zI cy qu 48 uu]) (wu := [zI cy qc 3 cc, zI cy qf 8 ff, zI cy qu 48 uu]) (wr := []) (tl := (zHs cy a s9_4)) (n := 3) [0, 1, 2] [] rfl rfl rfl (by decide))) hQ
        have hD : va_D A ([zI cy qc 3 cc, zI cy qf 8 ff, zI cy qu 48 uu] ++ (zHs cy a s9_4)) := z_D_perm (List.Perm.symm (z_permT (ww := [zI cy qc 3 cc, zI cy qf 8 ff, zI cy qu 48 uu]) (wu := [zI cy qc 3 cc, zI cy qf 8 ff, zI cy qu 48 uu]) (wr := []) (tl := (zHs cy a s9_4)) (n := 3) [0, 1, 2] [] rfl rfl rfl (by decide))) hD
        clear hQ hP5 hD5
        obtain ⟨hr1, hk1⟩ := hr_3
        obtain rfl : r_3 = nI 1 := hr1
        refine lv_if_eq hx hb dL_house_621 (tgt := 628) (by decide) (fun q => absurd q (by decide)) (fun _ => ?_)
        refine lv_iconst (v := nI 1) hx hb dL_house_624 (by decide) ?_
        refine lv_goto (tgt := 629) hx hb dL_house_625 (by decide) ?_
        replace hP : va_P G vwCl [] H := fun k q h => by simp at h
        replace hD : va_D A [] := ⟨fun i j p q h => by simp at h, fun k q h => by simp at h⟩
        exact z_rMz hx hb hr hlk (by rfl) dL_house_629 () (rfl) hP hD hK hS (by omega) (by omega)
      · refine lv_iload hx hb dL_house_37 (lv_at hl 6 rfl) ?_
        refine lv_if_eq hx hb dL_house_39 (tgt := 605) (by decide) (fun q => absurd q (by decide)) (fun _ => ?_)
        obtain ⟨hO, hc0, hc1, hc2, hcn, hTj, hsu, hff, huu⟩ := id hJ
        have hn8 := hO.2.1
        have hjoin563 : ∀ (y : Nat) (cc ff uu : Nat → Int32) (s5 : zHo) (cn : Nat), y < 1073741824 → zJ s5 cc ff uu cn (j + 1) → ∀ (H : Heap) (locs : List Loc), va_P G vwCl ([zI cy qc 3 cc, zI cy qf 8 ff, zI cy qu 48 uu] ++ (zHs cy a s5)) H → va_D A ([zI cy qc 3 cc, zI cy qf 8 ff, zI cy qu 48 uu] ++ (zHs cy a s5)) → va_S A s.heap H locs → ∀ (ls : Array Slot), lv_has ls 13 [(0, .ref b9), (1, .int (nI at9)), (2, .ref (a 0)), (3, .ref qc), (4, .ref qf), (5, .ref qu), (6, .int (nI 1)), (7, .int (nI j)), (9, .int (nI y))] → W p l e { frames := 14, cells := 175180, slots := 1774109, locals := 360 } s m [.ref b9, .int (nI at9)].toArray below meth c H locs (40 + 1802 * (j + 1) + 1296 * (j / 10)) (24069 + 18012 * (j + 1) + 12896 * (j / 10)) (MQ below (va_Qi (fun (r : Int32) (_ : Unit) => r = (nI 1)) (fun (u : Unit) t9 => zB G cy A [] t9) A) [.ref b9, .int (nI at9)].toArray s 175180 1774109 A) (F0 m 563 ls []) := by
          intro y cc ff uu s5 cn hy0 hJ9 H locs hP hD hS ls hl
          refine lv_iload hx hb dL_house_563 (lv_at hl 6 rfl) ?_
          refine lv_if_eq hx hb dL_house_565 (tgt := 596) (by decide) (fun q => absurd q (by decide)) (fun _ => ?_)
          refine lv_iload hx hb dL_house_568 (lv_at hl 7 rfl) ?_
          refine lv_bipush (v := nI 10) hx hb dL_house_570 (by decide) ?_
          refine z_irem hx hb (by omega) (by omega) (by omega) dL_house_572 ?_
          refine lv_bipush (v := nI 9) hx hb dL_house_573 (by decide) ?_
          refine z_icmp_lt hx hb (by omega) (by omega) dL_house_575 (tgt := 592) (by decide) (fun c_5 => ?_) (fun c_5 => ?_)
          · refine lv_iconst (v := nI 1) hx hb dL_house_592 (by decide) ?_
            refine lv_goto (tgt := 597) hx hb dL_house_593 (by decide) ?_
            refine lv_istore (lv' := [(6, .int (nI 1)), (0, .ref b9), (1, .int (nI at9)), (2, .ref (a 0)), (3, .ref qc), (4, .ref qf), (5, .ref qu), (7, .int (nI j)), (9, .int (nI y))]) hx hb dL_house_597 hl (by decide) rfl (fun ls hl => ?_)
            refine lv_iinc (v := (nI (j + 1))) (lv' := [(7, .int (nI (j + 1))), (6, .int (nI 1)), (0, .ref b9), (1, .int (nI at9)), (2, .ref (a 0)), (3, .ref qc), (4, .ref qf), (5, .ref qu), (9, .int (nI y))]) hx hb dL_house_599 hl (k := 7) rfl (nI_add _ _) (by decide) rfl (fun ls hl => ?_)
            refine lv_goto (tgt := 30) hx hb dL_house_602 (by decide) ?_
            refine W.widen (k := 40 + 1802 * (j + 1) + 1296 * ((j + 1) / 10)) (n := 24069 + 18012 * (j + 1) + 12896 * ((j + 1) / 10)) (by omega) (by omega) ?_
            exact ih30 (j + 1) cc ff uu s5 cn (by omega) (hJ9) (by omega) _ _ hP hD hS _ (lv_sub hl [2, 3, 4, 5, 6, 7, 1, 0] rfl)
          · obtain ⟨pO, pc0, pc1, pc2, pcn, pTj, psu, pff, puu⟩ := id hJ9
            refine lv_aload_n hx hb dL_house_578 rfl (lv_at hl 2 rfl) ?_
            refine lv_iload hx hb dL_house_579 (lv_at hl 8 rfl) ?_
            refine lv_aload_n hx hb dL_house_581 rfl (lv_at hl 3 rfl) ?_
            refine lv_aload hx hb dL_house_582 (lv_at hl 4 rfl) ?_
            refine lv_aload hx hb dL_house_584 (lv_at hl 5 rfl) ?_
            have hP5 : va_P G vwCl (([zI cy qc 3 cc, zI cy qf 8 ff, zI cy qu 48 uu] ++ (zHs cy a s5)) ++ []) _ := z_P_perm (z_permT (ww := [zI cy qc 3 cc, zI cy qf 8 ff, zI cy qu 48 uu]) (wu := [zI cy qc 3 cc, zI cy qf 8 ff, zI cy qu 48 uu]) (wr := []) (tl := (zHs cy a s5)) (n := 3) [0, 1, 2] [] rfl rfl rfl (by decide)) hP
            have hD5 : va_D A (([zI cy qc 3 cc, zI cy qf 8 ff, zI cy qu 48 uu] ++ (zHs cy a s5)) ++ []) := z_D_perm (z_permT (ww := [zI cy qc 3 cc, zI cy qf 8 ff, zI cy qu 48 uu]) (wu := [zI cy qc 3 cc, zI cy qf 8 ff, zI cy qu 48 uu]) (wr := []) (tl := (zHs cy a s5)) (n := 3) [0, 1, 2] [] rfl rfl rfl (by decide)) hD
            refine z_ciP (wc := ([zI cy qc 3 cc, zI cy qf 8 ff, zI cy qu 48 uu] ++ (zHs cy a s5))) (wr := []) (va_runS (As := [.ref (a 0), .int (nI y), .ref qc, .ref qf, .ref qu]) (rest := []) ⟨hx, hb, hml, hown, hts⟩ (c_L_isSound l hl9 G cy wd fo _ _ a s5 y qc qf qu (cn) cc ff uu (pO) (hy0) (pc0) (pc1) (pc2) (by omega) (psu) (pff) (puu)) (va_cwS 5 hts gL_house_L_isSound rfl rfl rfl (by decide +kernel) ⟨Nat.le_of_ble_eq_true rfl, Nat.le_of_ble_eq_true rfl⟩) (z_pHP hK hP5 hD5 hS hN hAN hWd hE) rfl rfl hl.1 rfl (lv_room (Nat.le_of_ble_eq_true rfl)) dL_house_586 ⟨by show (40 + 1802 * (j + 1) + 1296 * (j / 10)) + 1296 ≤ 175180; omega, by show (24069 + 18012 * (j + 1) + 12896 * (j / 10)) + 12896 ≤ 1774109; omega⟩) hP5 hD5 hS hA (fun r_6 u H locs hr_6 hQ hD hS hz => ?_)
            obtain ⟨s9_7, rfl⟩ : ∃ z, z = u := ⟨_, rfl⟩
            try dsimp only at hr_6
            have hP : va_P G vwCl ([zI cy qc 3 cc, zI cy qf 8 ff, zI cy qu 48 uu] ++ (zHs cy a s9_7)) H := z_P_perm (List.Perm.symm (z_permT (ww := [zI cy qc 3 cc, zI cy qf 8 ff, zI cy qu 48 uu]) (wu := [zI cy qc 3 cc, zI cy qf 8 ff, zI cy qu 48 uu]) (wr := []) (tl := (zHs cy a s9_7)) (n := 3) [0, 1, 2] [] rfl rfl rfl (by decide))) hQ
            have hD : va_D A ([zI cy qc 3 cc, zI cy qf 8 ff, zI cy qu 48 uu] ++ (zHs cy a s9_7)) := z_D_perm (List.Perm.symm (z_permT (ww := [zI cy qc 3 cc, zI cy qf 8 ff, zI cy qu 48 uu]) (wu := [zI cy qc 3 cc, zI cy qf 8 ff, zI cy qu 48 uu]) (wr := []) (tl := (zHs cy a s9_7)) (n := 3) [0, 1, 2] [] rfl rfl rfl (by decide))) hD
            clear hQ hP5 hD5
            obtain ⟨hr1, hk1⟩ := hr_6
            obtain rfl : r_6 = nI 1 := hr1
            have hJ7 := zJ_same hJ9 hk1
            refine lv_if_eq hx hb dL_house_589 (tgt := 596) (by decide) (fun q => absurd q (by decide)) (fun _ => ?_)
            refine lv_iconst (v := nI 1) hx hb dL_house_592 (by decide) ?_
            refine lv_goto (tgt := 597) hx hb dL_house_593 (by decide) ?_
            refine lv_istore (lv' := [(6, .int (nI 1)), (0, .ref b9), (1, .int (nI at9)), (2, .ref (a 0)), (3, .ref qc), (4, .ref qf), (5, .ref qu), (7, .int (nI j)), (9, .int (nI y))]) hx hb dL_house_597 hl (by decide) rfl (fun ls hl => ?_)
            refine lv_iinc (v := (nI (j + 1))) (lv' := [(7, .int (nI (j + 1))), (6, .int (nI 1)), (0, .ref b9), (1, .int (nI at9)), (2, .ref (a 0)), (3, .ref qc), (4, .ref qf), (5, .ref qu), (9, .int (nI y))]) hx hb dL_house_599 hl (k := 7) rfl (nI_add _ _) (by decide) rfl (fun ls hl => ?_)
            refine lv_goto (tgt := 30) hx hb dL_house_602 (by decide) ?_
            refine W.widen (k := 40 + 1802 * (j + 1) + 1296 * ((j + 1) / 10)) (n := 24069 + 18012 * (j + 1) + 12896 * ((j + 1) / 10)) (by omega) (by omega) ?_
            exact ih30 (j + 1) cc ff uu s9_7 cn (by omega) (hJ7) (by omega) _ _ hP hD hS _ (lv_sub hl [2, 3, 4, 5, 6, 7, 1, 0] rfl)
        refine lv_aload_n hx hb dL_house_42 rfl (lv_at hl 0 rfl) ?_
        refine lv_iload_n hx hb dL_house_43 rfl (lv_at hl 1 rfl) ?_
        refine lv_iconst (v := nI 2) hx hb dL_house_44 (by decide) ?_
        refine lv_iload hx hb dL_house_45 (lv_at hl 7 rfl) ?_
        refine z_imul hx hb dL_house_47 ?_
        refine z_iadd hx hb dL_house_48 ?_
        refine lv_ldc (v := nI 1073741824) hx hb hown (hts _ (List.mem_of_getElem? (i := 5) (by decide +kernel))) dL_house_49 ?_
        refine vp_callSi (va_runS (As := [.ref b9, .int (nI (at9 + (2 * j))), .int (nI 1073741824)]) (rest := []) ⟨hx, hb, hml, hown, hts⟩ (c_L_draw l b9 L xs hL (at9 + (2 * j)) (by omega)) (va_cwS 3 hts gL_house_L_draw rfl rfl rfl (by decide +kernel) ⟨Nat.le_of_ble_eq_true rfl, Nat.le_of_ble_eq_true rfl⟩) (z_pDr hX hb9 hN hS hAN) rfl rfl hl.1 rfl (lv_room (Nat.le_of_ble_eq_true rfl)) dL_house_51 ⟨by show (40 + 1802 * j + 1296 * (j / 10)) + 0 ≤ 175180; omega, by show (24069 + 18012 * j + 12896 * (j / 10)) + 0 ≤ 1774109; omega⟩).run (fun r_8 hr_8 => ?_)
        obtain ⟨x, hx0, rfl⟩ := hr_8
        refine lv_istore (lv' := [(8, .int (nI x)), (0, .ref b9), (1, .int (nI at9)), (2, .ref (a 0)), (3, .ref qc), (4, .ref qf), (5, .ref qu), (6, .int (nI 1)), (7, .int (nI j))]) hx hb dL_house_54 hl (by decide) rfl (fun ls hl => ?_)
        refine lv_aload_n hx hb dL_house_56 rfl (lv_at hl 1 rfl) ?_
        refine lv_iload_n hx hb dL_house_57 rfl (lv_at hl 2 rfl) ?_
        refine lv_iconst (v := nI 2) hx hb dL_house_58 (by decide) ?_
        refine lv_iload hx hb dL_house_59 (lv_at hl 8 rfl) ?_
        refine z_imul hx hb dL_house_61 ?_
        refine z_iadd hx hb dL_house_62 ?_
        refine lv_iconst (v := nI 1) hx hb dL_house_63 (by decide) ?_
        refine z_iadd hx hb dL_house_64 ?_
        refine lv_ldc (v := nI 1073741824) hx hb hown (hts _ (List.mem_of_getElem? (i := 5) (by decide +kernel))) dL_house_65 ?_
        refine vp_callSi (va_runS (As := [.ref b9, .int (nI ((at9 + (2 * j)) + 1)), .int (nI 1073741824)]) (rest := []) ⟨hx, hb, hml, hown, hts⟩ (c_L_draw l b9 L xs hL ((at9 + (2 * j)) + 1) (by omega)) (va_cwS 3 hts gL_house_L_draw rfl rfl rfl (by decide +kernel) ⟨Nat.le_of_ble_eq_true rfl, Nat.le_of_ble_eq_true rfl⟩) (z_pDr hX hb9 hN hS hAN) rfl rfl hl.1 rfl (lv_room (Nat.le_of_ble_eq_true rfl)) dL_house_67 ⟨by show (40 + 1802 * j + 1296 * (j / 10)) + 0 ≤ 175180; omega, by show (24069 + 18012 * j + 12896 * (j / 10)) + 0 ≤ 1774109; omega⟩).run (fun r_9 hr_9 => ?_)
        obtain ⟨y, hy0, rfl⟩ := hr_9
        refine lv_istore (lv' := [(9, .int (nI y)), (8, .int (nI x)), (0, .ref b9), (1, .int (nI at9)), (2, .ref (a 0)), (3, .ref qc), (4, .ref qf), (5, .ref qu), (6, .int (nI 1)), (7, .int (nI j))]) hx hb dL_house_70 hl (by decide) rfl (fun ls hl => ?_)
        refine lv_aload_n hx hb dL_house_72 rfl (lv_at hl 5 rfl) ?_
        refine lv_iconst (v := nI 0) hx hb dL_house_73 (by decide) ?_
        refine z_iald (G := G) (v := (nI (s_np s5))) hx hb hK hP 0 rfl (by omega) (hc0) dL_house_74 ?_
        refine z_if_ne hx hb (by omega) dL_house_75 (tgt := 82) (by decide) (fun c_10 => ?_) (fun c_10 => ?_)
        · refine lv_iload hx hb dL_house_82 (lv_at hl 1 rfl) ?_
          refine lv_bipush (v := nI 20) hx hb dL_house_84 (by decide) ?_
          refine z_irem hx hb (by omega) (by omega) (by omega) dL_house_86 ?_
          refine lv_istore (lv' := [(10, .int (nI (x % 20))), (9, .int (nI y)), (8, .int (nI x)), (0, .ref b9), (1, .int (nI at9)), (2, .ref (a 0)), (3, .ref qc), (4, .ref qf), (5, .ref qu), (6, .int (nI 1)), (7, .int (nI j))]) hx hb dL_house_87 hl (by decide) rfl (fun ls hl => ?_)
          refine lv_iload hx hb dL_house_89 (lv_at hl 2 rfl) ?_
          refine lv_bipush (v := nI 20) hx hb dL_house_91 (by decide) ?_
          refine z_idiv hx hb (by omega) (by omega) (by omega) dL_house_93 ?_
          refine lv_istore (lv' := [(11, .int (nI (x / 20))), (10, .int (nI (x % 20))), (9, .int (nI y)), (8, .int (nI x)), (0, .ref b9), (1, .int (nI at9)), (2, .ref (a 0)), (3, .ref qc), (4, .ref qf), (5, .ref qu), (6, .int (nI 1)), (7, .int (nI j))]) hx hb dL_house_94 hl (by decide) rfl (fun ls hl => ?_)
          obtain ⟨z, hzd⟩ : ∃ z, z = x / 20 := ⟨_, rfl⟩
          rw [← hzd] at hl
          have hz0 : z < 1073741824 := by omega
          refine lv_iload hx hb dL_house_96 (lv_at hl 1 rfl) ?_
          refine z_if_ne hx hb (by omega) dL_house_98 (tgt := 292) (by decide) (fun c_11 => ?_) (fun c_11 => ?_)
          · refine lv_iload hx hb dL_house_292 (lv_at hl 1 rfl) ?_
            refine lv_bipush (v := nI 6) hx hb dL_house_294 (by decide) ?_
            refine z_icmp_ge hx hb (by omega) (by omega) dL_house_296 (tgt := 339) (by decide) (fun c_12 => ?_) (fun c_12 => ?_)
            · refine lv_iload hx hb dL_house_339 (lv_at hl 1 rfl) ?_
              refine lv_bipush (v := nI 6) hx hb dL_house_341 (by decide) ?_
              refine z_icmp_ne hx hb (by omega) (by omega) dL_house_343 (tgt := 426) (by decide) (fun c_13 => ?_) (fun c_13 => ?_)
              · refine lv_iload hx hb dL_house_426 (lv_at hl 1 rfl) ?_
                refine lv_bipush (v := nI 7) hx hb dL_house_428 (by decide) ?_
                refine z_icmp_ne hx hb (by omega) (by omega) dL_house_430 (tgt := 466) (by decide) (fun c_14 => ?_) (fun c_14 => ?_)
                · refine lv_iload hx hb dL_house_466 (lv_at hl 1 rfl) ?_
                  refine lv_bipush (v := nI 12) hx hb dL_house_468 (by decide) ?_
                  refine z_icmp_ge hx hb (by omega) (by omega) dL_house_470 (tgt := 489) (by decide) (fun c_15 => ?_) (fun c_15 => ?_)
                  · refine lv_iload hx hb dL_house_489 (lv_at hl 1 rfl) ?_
                    refine lv_bipush (v := nI 12) hx hb dL_house_491 (by decide) ?_
                    refine z_icmp_ne hx hb (by omega) (by omega) dL_house_493 (tgt := 510) (by decide) (fun c_16 => ?_) (fun c_16 => ?_)
                    · refine lv_iload hx hb dL_house_510 (lv_at hl 1 rfl) ?_
                      refine lv_bipush (v := nI 15) hx hb dL_house_512 (by decide) ?_
                      refine z_icmp_ge hx hb (by omega) (by omega) dL_house_514 (tgt := 531) (by decide) (fun c_17 => ?_) (fun c_17 => ?_)
                      · refine lv_iload hx hb dL_house_531 (lv_at hl 1 rfl) ?_
                        refine lv_bipush (v := nI 18) hx hb dL_house_533 (by decide) ?_
                        refine z_icmp_ge hx hb (by omega) (by omega) dL_house_535 (tgt := 550) (by decide) (fun c_18 => ?_) (fun c_18 => ?_)
                        · have hn0 : 0 < s_np s5 := by omega
                          refine lv_aload_n hx hb dL_house_550 rfl (lv_at hl 6 rfl) ?_
                          refine lv_iload hx hb dL_house_551 (lv_at hl 0 rfl) ?_
                          have hn0 : 0 < s_np s5 := by omega
                          refine lv_iload hx hb dL_house_553 (lv_at hl 2 rfl) ?_
                          refine lv_aload_n hx hb dL_house_555 rfl (lv_at hl 7 rfl) ?_
                          refine lv_aload hx hb dL_house_556 (lv_at hl 8 rfl) ?_
                          have hP5 : va_P G vwCl (([zI cy qc 3 cc, zI cy qf 8 ff] ++ (zHs cy a s5)) ++ [zI cy qu 48 uu]) _ := z_P_perm (z_permT (ww := [zI cy qc 3 cc, zI cy qf 8 ff, zI cy qu 48 uu]) (wu := [zI cy qc 3 cc, zI cy qf 8 ff]) (wr := [zI cy qu 48 uu]) (tl := (zHs cy a s5)) (n := 3) [0, 1] [2] rfl rfl rfl (by decide)) hP
                          have hD5 : va_D A (([zI cy qc 3 cc, zI cy qf 8 ff] ++ (zHs cy a s5)) ++ [zI cy qu 48 uu]) := z_D_perm (z_permT (ww := [zI cy qc 3 cc, zI cy qf 8 ff, zI cy qu 48 uu]) (wu := [zI cy qc 3 cc, zI cy qf 8 ff]) (wr := [zI cy qu 48 uu]) (tl := (zHs cy a s5)) (n := 3) [0, 1] [2] rfl rfl rfl (by decide)) hD
                          refine z_ciP (wc := ([zI cy qc 3 cc, zI cy qf 8 ff] ++ (zHs cy a s5))) (wr := [zI cy qu 48 uu]) (va_runS (As := [.ref (a 0), .int (nI z), .int (nI y), .ref qc, .ref qf]) (rest := []) ⟨hx, hb, hml, hown, hts⟩ (c_L_settles l hl9 G cy wd fo _ _ a s5 z y qc qf cc ff (hO) (hz0) (hy0) (hc0) (hc1) (hff)) (va_cwS 5 hts gL_house_L_settles rfl rfl rfl (by decide +kernel) ⟨Nat.le_of_ble_eq_true rfl, Nat.le_of_ble_eq_true rfl⟩) (z_pHP hK hP5 hD5 hS hN hAN hWd hE) rfl rfl hl.1 rfl (lv_room (Nat.le_of_ble_eq_true rfl)) dL_house_558 ⟨by show (40 + 1802 * j + 1296 * (j / 10)) + 3 ≤ 175180; omega, by show (24069 + 18012 * j + 12896 * (j / 10)) + 18 ≤ 1774109; omega⟩) hP5 hD5 hS hA (fun r_19 u H locs hr_19 hQ hD hS hz => ?_)
                          obtain ⟨s9_20, rfl⟩ : ∃ z, z = u := ⟨_, rfl⟩
                          try dsimp only at hr_19
                          have hP : va_P G vwCl ([zI cy qc 3 cc, zI cy qf 8 ff, zI cy qu 48 uu] ++ (zHs cy a s9_20)) H := z_P_perm (List.Perm.symm (z_permT (ww := [zI cy qc 3 cc, zI cy qf 8 ff, zI cy qu 48 uu]) (wu := [zI cy qc 3 cc, zI cy qf 8 ff]) (wr := [zI cy qu 48 uu]) (tl := (zHs cy a s9_20)) (n := 3) [0, 1] [2] rfl rfl rfl (by decide))) hQ
                          have hD : va_D A ([zI cy qc 3 cc, zI cy qf 8 ff, zI cy qu 48 uu] ++ (zHs cy a s9_20)) := z_D_perm (List.Perm.symm (z_permT (ww := [zI cy qc 3 cc, zI cy qf 8 ff, zI cy qu 48 uu]) (wu := [zI cy qc 3 cc, zI cy qf 8 ff]) (wr := [zI cy qu 48 uu]) (tl := (zHs cy a s9_20)) (n := 3) [0, 1] [2] rfl rfl rfl (by decide))) hD
                          clear hQ hP5 hD5
                          obtain ⟨hr1, hk1⟩ := hr_19
                          obtain rfl : r_19 = nI 1 := hr1
                          have hJ9 := zJ_lk hJ hk1
                          refine lv_istore (lv' := [(6, .int (nI 1)), (11, .int (nI z)), (10, .int (nI (x % 20))), (9, .int (nI y)), (8, .int (nI x)), (0, .ref b9), (1, .int (nI at9)), (2, .ref (a 0)), (3, .ref qc), (4, .ref qf), (5, .ref qu), (7, .int (nI j))]) hx hb dL_house_561 hl (by decide) rfl (fun ls hl => ?_)
                          refine W.widen (k := 40 + 1802 * (j + 1) + 1296 * (j / 10)) (n := 24069 + 18012 * (j + 1) + 12896 * (j / 10)) (by omega) (by omega) ?_
                          exact hjoin563 y _ _ _ _ _ hy0 (hJ9) _ _ hP hD hS _ (lv_sub hl [5, 6, 7, 8, 9, 10, 0, 11, 3] rfl)
                        · have hn0 : 0 < s_np s5 := by omega
                          refine lv_aload_n hx hb dL_house_538 rfl (lv_at hl 6 rfl) ?_
                          refine lv_iload hx hb dL_house_539 (lv_at hl 0 rfl) ?_
                          refine lv_iload hx hb dL_house_541 (lv_at hl 2 rfl) ?_
                          refine lv_aload_n hx hb dL_house_543 rfl (lv_at hl 7 rfl) ?_
                          have hP5 : va_P G vwCl (([zI cy qc 3 cc] ++ (zHs cy a s5)) ++ [zI cy qf 8 ff, zI cy qu 48 uu]) _ := z_P_perm (z_permT (ww := [zI cy qc 3 cc, zI cy qf 8 ff, zI cy qu 48 uu]) (wu := [zI cy qc 3 cc]) (wr := [zI cy qf 8 ff, zI cy qu 48 uu]) (tl := (zHs cy a s5)) (n := 3) [0] [1, 2] rfl rfl rfl (by decide)) hP
                          have hD5 : va_D A (([zI cy qc 3 cc] ++ (zHs cy a s5)) ++ [zI cy qf 8 ff, zI cy qu 48 uu]) := z_D_perm (z_permT (ww := [zI cy qc 3 cc, zI cy qf 8 ff, zI cy qu 48 uu]) (wu := [zI cy qc 3 cc]) (wr := [zI cy qf 8 ff, zI cy qu 48 uu]) (tl := (zHs cy a s5)) (n := 3) [0] [1, 2] rfl rfl rfl (by decide)) hD
                          refine z_ciP (wc := ([zI cy qc 3 cc] ++ (zHs cy a s5))) (wr := [zI cy qf 8 ff, zI cy qu 48 uu]) (va_runS (As := [.ref (a 0), .int (nI z), .int (nI y), .ref qc]) (rest := []) ⟨hx, hb, hml, hown, hts⟩ (c_L_bills l hl9 G cy wd fo _ _ a s5 z y qc (cn) cc (hO) (hn0) (hz0) (hy0) (hc0) (hc2) (by omega) (hsu)) (va_cwS 4 hts gL_house_L_bills rfl rfl rfl (by decide +kernel) ⟨Nat.le_of_ble_eq_true rfl, Nat.le_of_ble_eq_true rfl⟩) (z_pHP hK hP5 hD5 hS hN hAN hWd hE) rfl rfl hl.1 rfl (lv_room (Nat.le_of_ble_eq_true rfl)) dL_house_544 ⟨by show (40 + 1802 * j + 1296 * (j / 10)) + 3 ≤ 175180; omega, by show (24069 + 18012 * j + 12896 * (j / 10)) + 18 ≤ 1774109; omega⟩) hP5 hD5 hS hA (fun r_21 u H locs hr_21 hQ hD hS hz => ?_)
                          obtain ⟨c1_22, s9_23⟩ := u
                          try dsimp only at hr_21
                          have hP : va_P G vwCl ([zI cy qc 3 c1_22, zI cy qf 8 ff, zI cy qu 48 uu] ++ (zHs cy a s9_23)) H := z_P_perm (List.Perm.symm (z_permT (ww := [zI cy qc 3 c1_22, zI cy qf 8 ff, zI cy qu 48 uu]) (wu := [zI cy qc 3 c1_22]) (wr := [zI cy qf 8 ff, zI cy qu 48 uu]) (tl := (zHs cy a s9_23)) (n := 3) [0] [1, 2] rfl rfl rfl (by decide))) hQ
                          have hD : va_D A ([zI cy qc 3 c1_22, zI cy qf 8 ff, zI cy qu 48 uu] ++ (zHs cy a s9_23)) := z_D_perm (List.Perm.symm (z_permT (ww := [zI cy qc 3 c1_22, zI cy qf 8 ff, zI cy qu 48 uu]) (wu := [zI cy qc 3 c1_22]) (wr := [zI cy qf 8 ff, zI cy qu 48 uu]) (tl := (zHs cy a s9_23)) (n := 3) [0] [1, 2] rfl rfl rfl (by decide))) hD
                          clear hQ hP5 hD5
                          obtain ⟨hr1, hk1⟩ := hr_21
                          obtain rfl : r_21 = nI 1 := hr1
                          have hJ9 := zJ_bp hJ hk1
                          obtain ⟨c8, hJ9⟩ := hJ9
                          refine lv_goto (tgt := 561) hx hb dL_house_547 (by decide) ?_
                          refine lv_istore (lv' := [(6, .int (nI 1)), (11, .int (nI z)), (10, .int (nI (x % 20))), (9, .int (nI y)), (8, .int (nI x)), (0, .ref b9), (1, .int (nI at9)), (2, .ref (a 0)), (3, .ref qc), (4, .ref qf), (5, .ref qu), (7, .int (nI j))]) hx hb dL_house_561 hl (by decide) rfl (fun ls hl => ?_)
                          refine W.widen (k := 40 + 1802 * (j + 1) + 1296 * (j / 10)) (n := 24069 + 18012 * (j + 1) + 12896 * (j / 10)) (by omega) (by omega) ?_
                          exact hjoin563 y _ _ _ _ _ hy0 (hJ9) _ _ hP hD hS _ (lv_sub hl [5, 6, 7, 8, 9, 10, 0, 11, 3] rfl)
                      · have hn0 : 0 < s_np s5 := by omega
                        refine lv_aload_n hx hb dL_house_517 rfl (lv_at hl 6 rfl) ?_
                        refine lv_iload hx hb dL_house_518 (lv_at hl 0 rfl) ?_
                        refine lv_iload hx hb dL_house_520 (lv_at hl 2 rfl) ?_
                        refine lv_aload_n hx hb dL_house_522 rfl (lv_at hl 7 rfl) ?_
                        have hP5 : va_P G vwCl (([zI cy qc 3 cc] ++ (zHs cy a s5)) ++ [zI cy qf 8 ff, zI cy qu 48 uu]) _ := z_P_perm (z_permT (ww := [zI cy qc 3 cc, zI cy qf 8 ff, zI cy qu 48 uu]) (wu := [zI cy qc 3 cc]) (wr := [zI cy qf 8 ff, zI cy qu 48 uu]) (tl := (zHs cy a s5)) (n := 3) [0] [1, 2] rfl rfl rfl (by decide)) hP
                        have hD5 : va_D A (([zI cy qc 3 cc] ++ (zHs cy a s5)) ++ [zI cy qf 8 ff, zI cy qu 48 uu]) := z_D_perm (z_permT (ww := [zI cy qc 3 cc, zI cy qf 8 ff, zI cy qu 48 uu]) (wu := [zI cy qc 3 cc]) (wr := [zI cy qf 8 ff, zI cy qu 48 uu]) (tl := (zHs cy a s5)) (n := 3) [0] [1, 2] rfl rfl rfl (by decide)) hD
                        refine z_ciP (wc := ([zI cy qc 3 cc] ++ (zHs cy a s5))) (wr := [zI cy qf 8 ff, zI cy qu 48 uu]) (va_runS (As := [.ref (a 0), .int (nI z), .int (nI y), .ref qc]) (rest := []) ⟨hx, hb, hml, hown, hts⟩ (c_L_changes l hl9 G cy wd fo _ _ a s5 z y qc cc (hO) (hn0) (hz0) (hy0) (hc0) (hc1)) (va_cwS 4 hts gL_house_L_changes rfl rfl rfl (by decide +kernel) ⟨Nat.le_of_ble_eq_true rfl, Nat.le_of_ble_eq_true rfl⟩) (z_pHP hK hP5 hD5 hS hN hAN hWd hE) rfl rfl hl.1 rfl (lv_room (Nat.le_of_ble_eq_true rfl)) dL_house_523 ⟨by show (40 + 1802 * j + 1296 * (j / 10)) + 2 ≤ 175180; omega, by show (24069 + 18012 * j + 12896 * (j / 10)) + 12 ≤ 1774109; omega⟩) hP5 hD5 hS hA (fun r_24 u H locs hr_24 hQ hD hS hz => ?_)
                        obtain ⟨s9_25, rfl⟩ : ∃ z, z = u := ⟨_, rfl⟩
                        try dsimp only at hr_24
                        have hP : va_P G vwCl ([zI cy qc 3 cc, zI cy qf 8 ff, zI cy qu 48 uu] ++ (zHs cy a s9_25)) H := z_P_perm (List.Perm.symm (z_permT (ww := [zI cy qc 3 cc, zI cy qf 8 ff, zI cy qu 48 uu]) (wu := [zI cy qc 3 cc]) (wr := [zI cy qf 8 ff, zI cy qu 48 uu]) (tl := (zHs cy a s9_25)) (n := 3) [0] [1, 2] rfl rfl rfl (by decide))) hQ
                        have hD : va_D A ([zI cy qc 3 cc, zI cy qf 8 ff, zI cy qu 48 uu] ++ (zHs cy a s9_25)) := z_D_perm (List.Perm.symm (z_permT (ww := [zI cy qc 3 cc, zI cy qf 8 ff, zI cy qu 48 uu]) (wu := [zI cy qc 3 cc]) (wr := [zI cy qf 8 ff, zI cy qu 48 uu]) (tl := (zHs cy a s9_25)) (n := 3) [0] [1, 2] rfl rfl rfl (by decide))) hD
                        clear hQ hP5 hD5
                        obtain ⟨hr1, hk1, hk2⟩ := hr_24
                        obtain rfl : r_24 = nI 1 := hr1
                        have hJ9 := zJ_ch hJ hk1 hk2
                        refine lv_istore (lv' := [(6, .int (nI 1)), (11, .int (nI z)), (10, .int (nI (x % 20))), (9, .int (nI y)), (8, .int (nI x)), (0, .ref b9), (1, .int (nI at9)), (2, .ref (a 0)), (3, .ref qc), (4, .ref qf), (5, .ref qu), (7, .int (nI j))]) hx hb dL_house_526 hl (by decide) rfl (fun ls hl => ?_)
                        refine lv_goto (tgt := 563) hx hb dL_house_528 (by decide) ?_
                        refine W.widen (k := 40 + 1802 * (j + 1) + 1296 * (j / 10)) (n := 24069 + 18012 * (j + 1) + 12896 * (j / 10)) (by omega) (by omega) ?_
                        exact hjoin563 y _ _ _ _ _ hy0 (hJ9) _ _ hP hD hS _ (lv_sub hl [5, 6, 7, 8, 9, 10, 0, 11, 3] rfl)
                    · have hn0 : 0 < s_np s5 := by omega
                      refine lv_aload_n hx hb dL_house_496 rfl (lv_at hl 6 rfl) ?_
                      refine lv_iload hx hb dL_house_497 (lv_at hl 0 rfl) ?_
                      refine lv_aload_n hx hb dL_house_499 rfl (lv_at hl 7 rfl) ?_
                      refine lv_aload hx hb dL_house_500 (lv_at hl 9 rfl) ?_
                      have hP5 : va_P G vwCl (([zI cy qc 3 cc, zI cy qu 48 uu] ++ (zHs cy a s5)) ++ [zI cy qf 8 ff]) _ := z_P_perm (z_permT (ww := [zI cy qc 3 cc, zI cy qf 8 ff, zI cy qu 48 uu]) (wu := [zI cy qc 3 cc, zI cy qu 48 uu]) (wr := [zI cy qf 8 ff]) (tl := (zHs cy a s5)) (n := 3) [0, 2] [1] rfl rfl rfl (by decide)) hP
                      have hD5 : va_D A (([zI cy qc 3 cc, zI cy qu 48 uu] ++ (zHs cy a s5)) ++ [zI cy qf 8 ff]) := z_D_perm (z_permT (ww := [zI cy qc 3 cc, zI cy qf 8 ff, zI cy qu 48 uu]) (wu := [zI cy qc 3 cc, zI cy qu 48 uu]) (wr := [zI cy qf 8 ff]) (tl := (zHs cy a s5)) (n := 3) [0, 2] [1] rfl rfl rfl (by decide)) hD
                      refine z_ciP (wc := ([zI cy qc 3 cc, zI cy qu 48 uu] ++ (zHs cy a s5))) (wr := [zI cy qf 8 ff]) (va_runS (As := [.ref (a 0), .int (nI z), .ref qc, .ref qu]) (rest := []) ⟨hx, hb, hml, hown, hts⟩ (c_L_confirms l hl9 G cy wd fo _ _ a s5 z qc qu cc uu (hO) (hn0) (hz0) (hc0) (huu)) (va_cwS 4 hts gL_house_L_confirms rfl rfl rfl (by decide +kernel) ⟨Nat.le_of_ble_eq_true rfl, Nat.le_of_ble_eq_true rfl⟩) (z_pHP hK hP5 hD5 hS hN hAN hWd hE) rfl rfl hl.1 rfl (lv_room (Nat.le_of_ble_eq_true rfl)) dL_house_502 ⟨by show (40 + 1802 * j + 1296 * (j / 10)) + 1802 ≤ 175180; omega, by show (24069 + 18012 * j + 12896 * (j / 10)) + 18012 ≤ 1774109; omega⟩) hP5 hD5 hS hA (fun r_26 u H locs hr_26 hQ hD hS hz => ?_)
                      obtain ⟨u2_27, s9_28⟩ := u
                      try dsimp only at hr_26
                      have hP : va_P G vwCl ([zI cy qc 3 cc, zI cy qf 8 ff, zI cy qu 48 u2_27] ++ (zHs cy a s9_28)) H := z_P_perm (List.Perm.symm (z_permT (ww := [zI cy qc 3 cc, zI cy qf 8 ff, zI cy qu 48 u2_27]) (wu := [zI cy qc 3 cc, zI cy qu 48 u2_27]) (wr := [zI cy qf 8 ff]) (tl := (zHs cy a s9_28)) (n := 3) [0, 2] [1] rfl rfl rfl (by decide))) hQ
                      have hD : va_D A ([zI cy qc 3 cc, zI cy qf 8 ff, zI cy qu 48 u2_27] ++ (zHs cy a s9_28)) := z_D_perm (List.Perm.symm (z_permT (ww := [zI cy qc 3 cc, zI cy qf 8 ff, zI cy qu 48 u2_27]) (wu := [zI cy qc 3 cc, zI cy qu 48 u2_27]) (wr := [zI cy qf 8 ff]) (tl := (zHs cy a s9_28)) (n := 3) [0, 2] [1] rfl rfl rfl (by decide))) hD
                      clear hQ hP5 hD5
                      obtain ⟨hr1, hk1, hk2⟩ := hr_26
                      obtain rfl : r_26 = nI 1 := hr1
                      have hJ9 := zJ_kp hJ hk1 hk2
                      refine lv_istore (lv' := [(6, .int (nI 1)), (11, .int (nI z)), (10, .int (nI (x % 20))), (9, .int (nI y)), (8, .int (nI x)), (0, .ref b9), (1, .int (nI at9)), (2, .ref (a 0)), (3, .ref qc), (4, .ref qf), (5, .ref qu), (7, .int (nI j))]) hx hb dL_house_505 hl (by decide) rfl (fun ls hl => ?_)
                      refine lv_goto (tgt := 563) hx hb dL_house_507 (by decide) ?_
                      refine W.widen (k := 40 + 1802 * (j + 1) + 1296 * (j / 10)) (n := 24069 + 18012 * (j + 1) + 12896 * (j / 10)) (by omega) (by omega) ?_
                      exact hjoin563 y _ _ _ _ _ hy0 (hJ9) _ _ hP hD hS _ (lv_sub hl [5, 6, 7, 8, 9, 10, 0, 11, 3] rfl)
                  · have hn0 : 0 < s_np s5 := by omega
                    refine lv_aload_n hx hb dL_house_473 rfl (lv_at hl 6 rfl) ?_
                    refine lv_iload hx hb dL_house_474 (lv_at hl 0 rfl) ?_
                    refine lv_iload hx hb dL_house_476 (lv_at hl 2 rfl) ?_
                    refine lv_aload_n hx hb dL_house_478 rfl (lv_at hl 7 rfl) ?_
                    refine lv_aload hx hb dL_house_479 (lv_at hl 9 rfl) ?_
                    have hP5 : va_P G vwCl (([zI cy qc 3 cc, zI cy qu 48 uu] ++ (zHs cy a s5)) ++ [zI cy qf 8 ff]) _ := z_P_perm (z_permT (ww := [zI cy qc 3 cc, zI cy qf 8 ff, zI cy qu 48 uu]) (wu := [zI cy qc 3 cc, zI cy qu 48 uu]) (wr := [zI cy qf 8 ff]) (tl := (zHs cy a s5)) (n := 3) [0, 2] [1] rfl rfl rfl (by decide)) hP
                    have hD5 : va_D A (([zI cy qc 3 cc, zI cy qu 48 uu] ++ (zHs cy a s5)) ++ [zI cy qf 8 ff]) := z_D_perm (z_permT (ww := [zI cy qc 3 cc, zI cy qf 8 ff, zI cy qu 48 uu]) (wu := [zI cy qc 3 cc, zI cy qu 48 uu]) (wr := [zI cy qf 8 ff]) (tl := (zHs cy a s5)) (n := 3) [0, 2] [1] rfl rfl rfl (by decide)) hD
                    refine z_ciP (wc := ([zI cy qc 3 cc, zI cy qu 48 uu] ++ (zHs cy a s5))) (wr := [zI cy qf 8 ff]) (va_runS (As := [.ref (a 0), .int (nI z), .int (nI y), .ref qc, .ref qu]) (rest := []) ⟨hx, hb, hml, hown, hts⟩ (c_L_reads l hl9 G cy wd fo _ _ a s5 z y qc qu cc uu (hO) (hn0) (hz0) (hy0) (hc0) (hc1) (huu)) (va_cwS 5 hts gL_house_L_reads rfl rfl rfl (by decide +kernel) ⟨Nat.le_of_ble_eq_true rfl, Nat.le_of_ble_eq_true rfl⟩) (z_pHP hK hP5 hD5 hS hN hAN hWd hE) rfl rfl hl.1 rfl (lv_room (Nat.le_of_ble_eq_true rfl)) dL_house_481 ⟨by show (40 + 1802 * j + 1296 * (j / 10)) + 1801 ≤ 175180; omega, by show (24069 + 18012 * j + 12896 * (j / 10)) + 18006 ≤ 1774109; omega⟩) hP5 hD5 hS hA (fun r_29 u H locs hr_29 hQ hD hS hz => ?_)
                    obtain ⟨u2_30, s9_31⟩ := u
                    try dsimp only at hr_29
                    have hP : va_P G vwCl ([zI cy qc 3 cc, zI cy qf 8 ff, zI cy qu 48 u2_30] ++ (zHs cy a s9_31)) H := z_P_perm (List.Perm.symm (z_permT (ww := [zI cy qc 3 cc, zI cy qf 8 ff, zI cy qu 48 u2_30]) (wu := [zI cy qc 3 cc, zI cy qu 48 u2_30]) (wr := [zI cy qf 8 ff]) (tl := (zHs cy a s9_31)) (n := 3) [0, 2] [1] rfl rfl rfl (by decide))) hQ
                    have hD : va_D A ([zI cy qc 3 cc, zI cy qf 8 ff, zI cy qu 48 u2_30] ++ (zHs cy a s9_31)) := z_D_perm (List.Perm.symm (z_permT (ww := [zI cy qc 3 cc, zI cy qf 8 ff, zI cy qu 48 u2_30]) (wu := [zI cy qc 3 cc, zI cy qu 48 u2_30]) (wr := [zI cy qf 8 ff]) (tl := (zHs cy a s9_31)) (n := 3) [0, 2] [1] rfl rfl rfl (by decide))) hD
                    clear hQ hP5 hD5
                    obtain ⟨hr1, hk1, hk2⟩ := hr_29
                    obtain rfl : r_29 = nI 1 := hr1
                    have hJ9 := zJ_kp hJ hk1 hk2
                    refine lv_istore (lv' := [(6, .int (nI 1)), (11, .int (nI z)), (10, .int (nI (x % 20))), (9, .int (nI y)), (8, .int (nI x)), (0, .ref b9), (1, .int (nI at9)), (2, .ref (a 0)), (3, .ref qc), (4, .ref qf), (5, .ref qu), (7, .int (nI j))]) hx hb dL_house_484 hl (by decide) rfl (fun ls hl => ?_)
                    refine lv_goto (tgt := 563) hx hb dL_house_486 (by decide) ?_
                    refine W.widen (k := 40 + 1802 * (j + 1) + 1296 * (j / 10)) (n := 24069 + 18012 * (j + 1) + 12896 * (j / 10)) (by omega) (by omega) ?_
                    exact hjoin563 y _ _ _ _ _ hy0 (hJ9) _ _ hP hD hS _ (lv_sub hl [5, 6, 7, 8, 9, 10, 0, 11, 3] rfl)
                · refine lv_aload_n hx hb dL_house_433 rfl (lv_at hl 6 rfl) ?_
                  refine lv_iload hx hb dL_house_434 (lv_at hl 0 rfl) ?_
                  refine lv_iconst (v := nI 4) hx hb dL_house_436 (by decide) ?_
                  refine z_irem hx hb (by omega) (by omega) (by omega) dL_house_437 ?_
                  refine lv_iload hx hb dL_house_438 (lv_at hl 2 rfl) ?_
                  refine lv_bipush (v := nI 101) hx hb dL_house_440 (by decide) ?_
                  refine z_irem hx hb (by omega) (by omega) (by omega) dL_house_442 ?_
                  refine lv_iload hx hb dL_house_443 (lv_at hl 2 rfl) ?_
                  refine lv_bipush (v := nI 101) hx hb dL_house_445 (by decide) ?_
                  refine z_idiv hx hb (by omega) (by omega) (by omega) dL_house_447 ?_
                  refine lv_bipush (v := nI 60) hx hb dL_house_448 (by decide) ?_
                  refine z_irem hx hb (by omega) (by omega) (by omega) dL_house_450 ?_
                  refine lv_iload hx hb dL_house_451 (lv_at hl 2 rfl) ?_
                  refine lv_sipush (v := nI 6060) hx hb dL_house_453 (by decide) ?_
                  refine z_idiv hx hb (by omega) (by omega) (by omega) dL_house_456 ?_
                  refine lv_bipush (v := nI 101) hx hb dL_house_457 (by decide) ?_
                  refine z_irem hx hb (by omega) (by omega) (by omega) dL_house_459 ?_
                  have hP5 : va_P G vwCl ((zHs cy a s5) ++ [zI cy qc 3 cc, zI cy qf 8 ff, zI cy qu 48 uu]) _ := z_P_perm (z_permT (ww := [zI cy qc 3 cc, zI cy qf 8 ff, zI cy qu 48 uu]) (wu := []) (wr := [zI cy qc 3 cc, zI cy qf 8 ff, zI cy qu 48 uu]) (tl := (zHs cy a s5)) (n := 3) [] [0, 1, 2] rfl rfl rfl (by decide)) hP
                  have hD5 : va_D A ((zHs cy a s5) ++ [zI cy qc 3 cc, zI cy qf 8 ff, zI cy qu 48 uu]) := z_D_perm (z_permT (ww := [zI cy qc 3 cc, zI cy qf 8 ff, zI cy qu 48 uu]) (wu := []) (wr := [zI cy qc 3 cc, zI cy qf 8 ff, zI cy qu 48 uu]) (tl := (zHs cy a s5)) (n := 3) [] [0, 1, 2] rfl rfl rfl (by decide)) hD
                  refine z_cvP (wc := (zHs cy a s5)) (wr := [zI cy qc 3 cc, zI cy qf 8 ff, zI cy qu 48 uu]) (va_runV (As := [.int (nI (z % 4)), .int (nI (y % 101)), .int (nI ((y / 101) % 60)), .int (nI ((y / 6060) % 101))]) (rest := []) ⟨hx, hb, hml, hown, hts⟩ (h_c_tariff l hl9 G cy wd fo _ _ a s5 (hO.1) (z % 4) (y % 101) ((y / 101) % 60) ((y / 6060) % 101) (by omega) (by omega) (by omega) (by omega)) (cwV 4 hts gL_house_X10_tariff rfl rfl rfl (by decide +kernel) ⟨Nat.le_of_ble_eq_true rfl, Nat.le_of_ble_eq_true rfl⟩) (z_pVHP (ci := 11) hK hP5 hD5 hS hN hAN hWd hE rfl rfl 0 rfl) rfl rfl hl.1 rfl (lv_room (Nat.le_of_ble_eq_true rfl)) dL_house_460 ⟨by show (40 + 1802 * j + 1296 * (j / 10)) + 0 ≤ 175180; omega, by show (24069 + 18012 * j + 12896 * (j / 10)) + 0 ≤ 1774109; omega⟩) hP5 hD5 hS hA (fun u H locs hr_32 hQ hD hS hz => ?_)
                  obtain ⟨s9_33, rfl⟩ : ∃ z, z = u := ⟨_, rfl⟩
                  try dsimp only at hr_32
                  have hP : va_P G vwCl ([zI cy qc 3 cc, zI cy qf 8 ff, zI cy qu 48 uu] ++ (zHs cy a s9_33)) H := z_P_perm (List.Perm.symm (z_permT (ww := [zI cy qc 3 cc, zI cy qf 8 ff, zI cy qu 48 uu]) (wu := []) (wr := [zI cy qc 3 cc, zI cy qf 8 ff, zI cy qu 48 uu]) (tl := (zHs cy a s9_33)) (n := 3) [] [0, 1, 2] rfl rfl rfl (by decide))) hQ
                  have hD : va_D A ([zI cy qc 3 cc, zI cy qf 8 ff, zI cy qu 48 uu] ++ (zHs cy a s9_33)) := z_D_perm (List.Perm.symm (z_permT (ww := [zI cy qc 3 cc, zI cy qf 8 ff, zI cy qu 48 uu]) (wu := []) (wr := [zI cy qc 3 cc, zI cy qf 8 ff, zI cy qu 48 uu]) (tl := (zHs cy a s9_33)) (n := 3) [] [0, 1, 2] rfl rfl rfl (by decide))) hD
                  clear hQ hP5 hD5
                  have hJ9 := zJ_tariff (x := 0) (z := 0) (sp := z % 4) (y := y / 101 % 60) hJ (by omega) hr_32
                  refine lv_goto (tgt := 563) hx hb dL_house_463 (by decide) ?_
                  refine W.widen (k := 40 + 1802 * (j + 1) + 1296 * (j / 10)) (n := 24069 + 18012 * (j + 1) + 12896 * (j / 10)) (by omega) (by omega) ?_
                  exact hjoin563 y _ _ _ _ _ hy0 (hJ9) _ _ hP hD hS _ (lv_sub hl [4, 5, 6, 7, 8, 9, 10, 11, 2] rfl)
              · refine lv_aload_n hx hb dL_house_346 rfl (lv_at hl 6 rfl) ?_
                refine lv_aload_n hx hb dL_house_347 rfl (lv_at hl 7 rfl) ?_
                refine lv_iconst (v := nI 1) hx hb dL_house_348 (by decide) ?_
                refine z_iald (G := G) (v := (nI (s_T s5))) hx hb hK hP 0 rfl (by omega) (hc1) dL_house_349 ?_
                refine lv_aload_n hx hb dL_house_350 rfl (lv_at hl 7 rfl) ?_
                refine lv_iconst (v := nI 1) hx hb dL_house_351 (by decide) ?_
                refine z_iald (G := G) (v := (nI (s_T s5))) hx hb hK hP 0 rfl (by omega) (hc1) dL_house_352 ?_
                refine lv_iload hx hb dL_house_353 (lv_at hl 2 rfl) ?_
                refine lv_bipush (v := nI 40) hx hb dL_house_355 (by decide) ?_
                refine z_irem hx hb (by omega) (by omega) (by omega) dL_house_357 ?_
                refine z_iadd hx hb dL_house_358 ?_
                refine lv_iload hx hb dL_house_359 (lv_at hl 2 rfl) ?_
                refine lv_bipush (v := nI 40) hx hb dL_house_361 (by decide) ?_
                refine z_idiv hx hb (by omega) (by omega) (by omega) dL_house_363 ?_
                refine lv_bipush (v := nI 31) hx hb dL_house_364 (by decide) ?_
                refine z_irem hx hb (by omega) (by omega) (by omega) dL_house_366 ?_
                have hP5 : va_P G vwCl ((zHs cy a s5) ++ [zI cy qc 3 cc, zI cy qf 8 ff, zI cy qu 48 uu]) _ := z_P_perm (z_permT (ww := [zI cy qc 3 cc, zI cy qf 8 ff, zI cy qu 48 uu]) (wu := []) (wr := [zI cy qc 3 cc, zI cy qf 8 ff, zI cy qu 48 uu]) (tl := (zHs cy a s5)) (n := 3) [] [0, 1, 2] rfl rfl rfl (by decide)) hP
                have hD5 : va_D A ((zHs cy a s5) ++ [zI cy qc 3 cc, zI cy qf 8 ff, zI cy qu 48 uu]) := z_D_perm (z_permT (ww := [zI cy qc 3 cc, zI cy qf 8 ff, zI cy qu 48 uu]) (wu := []) (wr := [zI cy qc 3 cc, zI cy qf 8 ff, zI cy qu 48 uu]) (tl := (zHs cy a s5)) (n := 3) [] [0, 1, 2] rfl rfl rfl (by decide)) hD
                refine z_ciP (wc := (zHs cy a s5)) (wr := [zI cy qc 3 cc, zI cy qf 8 ff, zI cy qu 48 uu]) (va_runV (As := [.int (nI (s_T s5)), .int (nI ((s_T s5) + (y % 40))), .int (nI ((y / 40) % 31))]) (rest := []) ⟨hx, hb, hml, hown, hts⟩ (h_c_weather l hl9 G cy wd fo _ _ a s5 (hO.1) (s_T s5) ((s_T s5) + (y % 40)) ((y / 40) % 31) (zOk_g hO) (Nat.le_refl _) (by omega) (by omega) (by omega)) (cwV 3 hts gL_house_X10_weather rfl rfl rfl (by decide +kernel) ⟨Nat.le_of_ble_eq_true rfl, Nat.le_of_ble_eq_true rfl⟩) (z_pVHP (ci := 11) hK hP5 hD5 hS hN hAN hWd hE rfl rfl 0 rfl) rfl rfl hl.1 rfl (lv_room (Nat.le_of_ble_eq_true rfl)) dL_house_367 ⟨by show (40 + 1802 * j + 1296 * (j / 10)) + 0 ≤ 175180; omega, by show (24069 + 18012 * j + 12896 * (j / 10)) + 0 ≤ 1774109; omega⟩) hP5 hD5 hS hA (fun r_34 u H locs hr_34 hQ hD hS hz => ?_)
                obtain ⟨s9_35, rfl⟩ : ∃ z, z = u := ⟨_, rfl⟩
                try dsimp only at hr_34
                have hP : va_P G vwCl ([zI cy qc 3 cc, zI cy qf 8 ff, zI cy qu 48 uu] ++ (zHs cy a s9_35)) H := z_P_perm (List.Perm.symm (z_permT (ww := [zI cy qc 3 cc, zI cy qf 8 ff, zI cy qu 48 uu]) (wu := []) (wr := [zI cy qc 3 cc, zI cy qf 8 ff, zI cy qu 48 uu]) (tl := (zHs cy a s9_35)) (n := 3) [] [0, 1, 2] rfl rfl rfl (by decide))) hQ
                have hD : va_D A ([zI cy qc 3 cc, zI cy qf 8 ff, zI cy qu 48 uu] ++ (zHs cy a s9_35)) := z_D_perm (List.Perm.symm (z_permT (ww := [zI cy qc 3 cc, zI cy qf 8 ff, zI cy qu 48 uu]) (wu := []) (wr := [zI cy qc 3 cc, zI cy qf 8 ff, zI cy qu 48 uu]) (tl := (zHs cy a s9_35)) (n := 3) [] [0, 1, 2] rfl rfl rfl (by decide))) hD
                clear hQ hP5 hD5
                obtain ⟨hr1, hs9⟩ := hr_34
                obtain ⟨W9, hW9⟩ : ∃ W9, W9 = z_sm (fun j8 => if (s_g s5) j8 = y / 40 % 31 then 0 else 1) (s_T s5) (s_T s5 + y % 40 + 1 - s_T s5) := ⟨_, rfl⟩
                rw [← hW9] at hr1
                have hW8 : W9 ≤ (s_T s5 + y % 40 + 1 - s_T s5) := by rw [hW9]; exact z_cnt1
                obtain rfl : r_34 = nI W9 := hr1
                have hJ8 := zJ_weather hJ (Nat.le_refl _) (by omega) hs9
                have hT8 : s_T s9_35 = s_T s5 := by rw [hs9]
                have hg8 : s_g s9_35 = z_fill (s_g s5) (y / 40 % 31) (s_T s5) (s_T s5 + y % 40 + 1 - s_T s5) := by rw [hs9]
                refine lv_istore (lv' := [(12, .int (nI W9)), (11, .int (nI z)), (10, .int (nI (x % 20))), (9, .int (nI y)), (8, .int (nI x)), (0, .ref b9), (1, .int (nI at9)), (2, .ref (a 0)), (3, .ref qc), (4, .ref qf), (5, .ref qu), (6, .int (nI 1)), (7, .int (nI j))]) hx hb dL_house_370 hl (by decide) rfl (fun ls hl => ?_)
                refine lv_iload hx hb dL_house_372 (lv_at hl 0 rfl) ?_
                refine z_if_lt hx hb (by omega) dL_house_374 (tgt := 420) (by decide) ?_
                refine lv_iload hx hb dL_house_377 (lv_at hl 0 rfl) ?_
                refine lv_iconst (v := nI 1) hx hb dL_house_379 (by decide) ?_
                refine lv_iload hx hb dL_house_380 (lv_at hl 3 rfl) ?_
                refine lv_bipush (v := nI 40) hx hb dL_house_382 (by decide) ?_
                refine z_irem hx hb (by omega) (by omega) (by omega) dL_house_384 ?_
                refine z_iadd hx hb dL_house_385 ?_
                refine z_icmp_gt hx hb (by omega) (by omega) dL_house_386 (tgt := 420) (by decide) (fun c_37 => ?_) (fun c_37 => ?_)
                · exfalso; omega
                · refine lv_aload_n hx hb dL_house_389 rfl (lv_at hl 7 rfl) ?_
                  refine lv_aload_n hx hb dL_house_390 rfl (lv_at hl 8 rfl) ?_
                  refine lv_iconst (v := nI 1) hx hb dL_house_391 (by decide) ?_
                  refine z_iald (G := G) (v := (nI (s_T s5))) hx hb hK hP 0 rfl (by omega) (hc1) dL_house_392 ?_
                  refine lv_aload_n hx hb dL_house_393 rfl (lv_at hl 8 rfl) ?_
                  refine lv_iconst (v := nI 1) hx hb dL_house_394 (by decide) ?_
                  refine z_iald (G := G) (v := (nI (s_T s5))) hx hb hK hP 0 rfl (by omega) (hc1) dL_house_395 ?_
                  refine lv_iload hx hb dL_house_396 (lv_at hl 3 rfl) ?_
                  refine lv_bipush (v := nI 40) hx hb dL_house_398 (by decide) ?_
                  refine z_irem hx hb (by omega) (by omega) (by omega) dL_house_400 ?_
                  refine z_iadd hx hb dL_house_401 ?_
                  refine lv_iload hx hb dL_house_402 (lv_at hl 3 rfl) ?_
                  refine lv_bipush (v := nI 40) hx hb dL_house_404 (by decide) ?_
                  refine z_idiv hx hb (by omega) (by omega) (by omega) dL_house_406 ?_
                  refine lv_bipush (v := nI 31) hx hb dL_house_407 (by decide) ?_
                  refine z_irem hx hb (by omega) (by omega) (by omega) dL_house_409 ?_
                  have hP5 : va_P G vwCl ((zHs cy a s9_35) ++ [zI cy qc 3 cc, zI cy qf 8 ff, zI cy qu 48 uu]) _ := z_P_perm (z_permT (ww := [zI cy qc 3 cc, zI cy qf 8 ff, zI cy qu 48 uu]) (wu := []) (wr := [zI cy qc 3 cc, zI cy qf 8 ff, zI cy qu 48 uu]) (tl := (zHs cy a s9_35)) (n := 3) [] [0, 1, 2] rfl rfl rfl (by decide)) hP
                  have hD5 : va_D A ((zHs cy a s9_35) ++ [zI cy qc 3 cc, zI cy qf 8 ff, zI cy qu 48 uu]) := z_D_perm (z_permT (ww := [zI cy qc 3 cc, zI cy qf 8 ff, zI cy qu 48 uu]) (wu := []) (wr := [zI cy qc 3 cc, zI cy qf 8 ff, zI cy qu 48 uu]) (tl := (zHs cy a s9_35)) (n := 3) [] [0, 1, 2] rfl rfl rfl (by decide)) hD
                  refine z_ciP (wc := (zHs cy a s9_35)) (wr := [zI cy qc 3 cc, zI cy qf 8 ff, zI cy qu 48 uu]) (va_runV (As := [.int (nI (s_T s5)), .int (nI ((s_T s5) + (y % 40))), .int (nI ((y / 40) % 31))]) (rest := []) ⟨hx, hb, hml, hown, hts⟩ (h_c_weather l hl9 G cy wd fo _ _ a s9_35 (hJ8.1.1) (s_T s5) ((s_T s5) + (y % 40)) ((y / 40) % 31) (zOk_g hJ8.1) (by rw [hT8]; exact Nat.le_refl _) (by omega) (by omega) (by omega)) (cwV 3 hts gL_house_X10_weather rfl rfl rfl (by decide +kernel) ⟨Nat.le_of_ble_eq_true rfl, Nat.le_of_ble_eq_true rfl⟩) (z_pVHP (ci := 11) hK hP5 hD5 hS hN hAN hWd hE rfl rfl 0 rfl) rfl rfl hl.1 rfl (lv_room (Nat.le_of_ble_eq_true rfl)) dL_house_410 ⟨by show (40 + 1802 * j + 1296 * (j / 10) + 0) + 0 ≤ 175180; omega, by show (24069 + 18012 * j + 12896 * (j / 10) + 0) + 0 ≤ 1774109; omega⟩) hP5 hD5 hS hA (fun r_38 u H locs hr_38 hQ hD hS hz => ?_)
                  obtain ⟨s9_39, rfl⟩ : ∃ z, z = u := ⟨_, rfl⟩
                  try dsimp only at hr_38
                  have hP : va_P G vwCl ([zI cy qc 3 cc, zI cy qf 8 ff, zI cy qu 48 uu] ++ (zHs cy a s9_39)) H := z_P_perm (List.Perm.symm (z_permT (ww := [zI cy qc 3 cc, zI cy qf 8 ff, zI cy qu 48 uu]) (wu := []) (wr := [zI cy qc 3 cc, zI cy qf 8 ff, zI cy qu 48 uu]) (tl := (zHs cy a s9_39)) (n := 3) [] [0, 1, 2] rfl rfl rfl (by decide))) hQ
                  have hD : va_D A ([zI cy qc 3 cc, zI cy qf 8 ff, zI cy qu 48 uu] ++ (zHs cy a s9_39)) := z_D_perm (List.Perm.symm (z_permT (ww := [zI cy qc 3 cc, zI cy qf 8 ff, zI cy qu 48 uu]) (wu := []) (wr := [zI cy qc 3 cc, zI cy qf 8 ff, zI cy qu 48 uu]) (tl := (zHs cy a s9_39)) (n := 3) [] [0, 1, 2] rfl rfl rfl (by decide))) hD
                  clear hQ hP5 hD5
                  obtain ⟨hr2, hs7⟩ := hr_38
                  rw [hg8, z_cnt0] at hr2
                  obtain rfl : r_38 = nI 0 := hr2
                  have hJ9 := zJ_up (zJ_weather hJ8 (by rw [hT8]; exact Nat.le_refl _) (by omega) hs7)
                  refine lv_if_ne hx hb dL_house_413 (tgt := 420) (by decide) (fun q => absurd (by decide) q) (fun _ => ?_)
                  refine lv_iconst (v := nI 1) hx hb dL_house_416 (by decide) ?_
                  refine lv_goto (tgt := 421) hx hb dL_house_417 (by decide) ?_
                  refine lv_istore (lv' := [(6, .int (nI 1)), (12, .int (nI W9)), (11, .int (nI z)), (10, .int (nI (x % 20))), (9, .int (nI y)), (8, .int (nI x)), (0, .ref b9), (1, .int (nI at9)), (2, .ref (a 0)), (3, .ref qc), (4, .ref qf), (5, .ref qu), (7, .int (nI j))]) hx hb dL_house_421 hl (by decide) rfl (fun ls hl => ?_)
                  refine lv_goto (tgt := 563) hx hb dL_house_423 (by decide) ?_
                  refine W.widen (k := 40 + 1802 * (j + 1) + 1296 * (j / 10)) (n := 24069 + 18012 * (j + 1) + 12896 * (j / 10)) (by omega) (by omega) ?_
                  exact hjoin563 y _ _ _ _ _ hy0 (hJ9) _ _ hP hD hS _ (lv_sub hl [6, 7, 8, 9, 10, 11, 0, 12, 4] rfl)
            · refine lv_aload_n hx hb dL_house_299 rfl (lv_at hl 7 rfl) ?_
              refine lv_iconst (v := nI 1) hx hb dL_house_300 (by decide) ?_
              refine lv_dup2_11 hx hb dL_house_301 rfl rfl ?_
              refine z_iald (G := G) (v := (nI (s_T s5))) hx hb hK hP 0 rfl (by omega) (hc1) dL_house_302 ?_
              refine lv_iconst (v := nI 1) hx hb dL_house_303 (by decide) ?_
              refine lv_iload hx hb dL_house_304 (lv_at hl 2 rfl) ?_
              refine lv_bipush (v := nI 9) hx hb dL_house_306 (by decide) ?_
              refine z_irem hx hb (by omega) (by omega) (by omega) dL_house_308 ?_
              refine z_iadd hx hb dL_house_309 ?_
              refine z_iadd hx hb dL_house_310 ?_
              refine z_iast (G := G) hx hb hK hP hD hS 0 rfl (by omega) dL_house_311 (fun H locs hP hD hS => ?_)
              have hP : va_P G vwCl ([zI cy qc 3 (upd cc 1 (nI ((s_T s5) + (1 + (y % 9))))), zI cy qf 8 ff, zI cy qu 48 uu] ++ (zHs cy a s5)) H := hP
              have hD : va_D A ([zI cy qc 3 (upd cc 1 (nI ((s_T s5) + (1 + (y % 9))))), zI cy qf 8 ff, zI cy qu 48 uu] ++ (zHs cy a s5)) := hD
              rw [← zHs_uT] at hP hD
              refine lv_aload_n hx hb dL_house_312 rfl (lv_at hl 6 rfl) ?_
              refine lv_iconst (v := nI 1) hx hb dL_house_313 (by decide) ?_
              refine lv_iload hx hb dL_house_314 (lv_at hl 2 rfl) ?_
              refine lv_bipush (v := nI 9) hx hb dL_house_316 (by decide) ?_
              refine z_irem hx hb (by omega) (by omega) (by omega) dL_house_318 ?_
              refine z_iadd hx hb dL_house_319 ?_
              have hP5 : va_P G vwCl ((zHs cy a (uT s5)) ++ [zI cy qc 3 (upd cc 1 (nI ((s_T s5) + (1 + (y % 9))))), zI cy qf 8 ff, zI cy qu 48 uu]) _ := z_P_perm (z_permT (ww := [zI cy qc 3 (upd cc 1 (nI ((s_T s5) + (1 + (y % 9))))), zI cy qf 8 ff, zI cy qu 48 uu]) (wu := []) (wr := [zI cy qc 3 (upd cc 1 (nI ((s_T s5) + (1 + (y % 9))))), zI cy qf 8 ff, zI cy qu 48 uu]) (tl := (zHs cy a (uT s5))) (n := 3) [] [0, 1, 2] rfl rfl rfl (by decide)) hP
              have hD5 : va_D A ((zHs cy a (uT s5)) ++ [zI cy qc 3 (upd cc 1 (nI ((s_T s5) + (1 + (y % 9))))), zI cy qf 8 ff, zI cy qu 48 uu]) := z_D_perm (z_permT (ww := [zI cy qc 3 (upd cc 1 (nI ((s_T s5) + (1 + (y % 9))))), zI cy qf 8 ff, zI cy qu 48 uu]) (wu := []) (wr := [zI cy qc 3 (upd cc 1 (nI ((s_T s5) + (1 + (y % 9))))), zI cy qf 8 ff, zI cy qu 48 uu]) (tl := (zHs cy a (uT s5))) (n := 3) [] [0, 1, 2] rfl rfl rfl (by decide)) hD
              refine z_ciP (wc := (zHs cy a (uT s5))) (wr := [zI cy qc 3 (upd cc 1 (nI ((s_T s5) + (1 + (y % 9))))), zI cy qf 8 ff, zI cy qu 48 uu]) (va_runV (As := [.int (nI (1 + (y % 9)))]) (rest := []) ⟨hx, hb, hml, hown, hts⟩ (h_c_pass l hl9 G cy wd fo _ _ a (uT s5) (hn8) (hO.2.2.1) (1 + (y % 9)) (by omega) (by omega) (by show s_T s5 + (1 + y % 9) ≤ 900; omega) (uT_ts hO)) (cwV 1 hts gL_house_X10_pass rfl rfl rfl (by decide +kernel) ⟨Nat.le_of_ble_eq_true rfl, Nat.le_of_ble_eq_true rfl⟩) (z_pVHP (ci := 11) hK hP5 hD5 hS hN hAN hWd hE rfl rfl 0 rfl) rfl rfl hl.1 rfl (lv_room (Nat.le_of_ble_eq_true rfl)) dL_house_320 ⟨by show (40 + 1802 * j + 1296 * (j / 10)) + 0 ≤ 175180; omega, by show (24069 + 18012 * j + 12896 * (j / 10)) + 0 ≤ 1774109; omega⟩) hP5 hD5 hS hA (fun r_40 u H locs hr_40 hQ hD hS hz => ?_)
              obtain ⟨s9_41, rfl⟩ : ∃ z, z = u := ⟨_, rfl⟩
              try dsimp only at hr_40
              have hP : va_P G vwCl ([zI cy qc 3 (upd cc 1 (nI ((s_T s5) + (1 + (y % 9))))), zI cy qf 8 ff, zI cy qu 48 uu] ++ (zHs cy a s9_41)) H := z_P_perm (List.Perm.symm (z_permT (ww := [zI cy qc 3 (upd cc 1 (nI ((s_T s5) + (1 + (y % 9))))), zI cy qf 8 ff, zI cy qu 48 uu]) (wu := []) (wr := [zI cy qc 3 (upd cc 1 (nI ((s_T s5) + (1 + (y % 9))))), zI cy qf 8 ff, zI cy qu 48 uu]) (tl := (zHs cy a s9_41)) (n := 3) [] [0, 1, 2] rfl rfl rfl (by decide))) hQ
              have hD : va_D A ([zI cy qc 3 (upd cc 1 (nI ((s_T s5) + (1 + (y % 9))))), zI cy qf 8 ff, zI cy qu 48 uu] ++ (zHs cy a s9_41)) := z_D_perm (List.Perm.symm (z_permT (ww := [zI cy qc 3 (upd cc 1 (nI ((s_T s5) + (1 + (y % 9))))), zI cy qf 8 ff, zI cy qu 48 uu]) (wu := []) (wr := [zI cy qc 3 (upd cc 1 (nI ((s_T s5) + (1 + (y % 9))))), zI cy qf 8 ff, zI cy qu 48 uu]) (tl := (zHs cy a s9_41)) (n := 3) [] [0, 1, 2] rfl rfl rfl (by decide))) hD
              clear hQ hP5 hD5
              obtain ⟨hr1, hs9⟩ := hr_40
              obtain rfl : r_40 = nI (s_T s5 + (1 + y % 9)) := hr1
              have hJ9 := zJ_pass (n := 1 + y % 9) (zJ_uT hJ) (by omega) (by show s_T s5 + (1 + y % 9) ≤ 900; omega) hs9
              refine lv_aload_n hx hb dL_house_323 rfl (lv_at hl 7 rfl) ?_
              refine lv_iconst (v := nI 1) hx hb dL_house_324 (by decide) ?_
              refine z_iald (G := G) (v := (nI (s_T s5 + (1 + y % 9)))) hx hb hK hP 0 rfl (by omega) (z_updk) dL_house_325 ?_
              refine z_icmp_ne hx hb (by omega) (by omega) dL_house_326 (tgt := 333) (by decide) (fun c_42 => ?_) (fun c_42 => ?_)
              · exfalso; omega
              · refine lv_iconst (v := nI 1) hx hb dL_house_329 (by decide) ?_
                refine lv_goto (tgt := 334) hx hb dL_house_330 (by decide) ?_
                refine lv_istore (lv' := [(6, .int (nI 1)), (11, .int (nI z)), (10, .int (nI (x % 20))), (9, .int (nI y)), (8, .int (nI x)), (0, .ref b9), (1, .int (nI at9)), (2, .ref (a 0)), (3, .ref qc), (4, .ref qf), (5, .ref qu), (7, .int (nI j))]) hx hb dL_house_334 hl (by decide) rfl (fun ls hl => ?_)
                refine lv_goto (tgt := 563) hx hb dL_house_336 (by decide) ?_
                refine W.widen (k := 40 + 1802 * (j + 1) + 1296 * (j / 10)) (n := 24069 + 18012 * (j + 1) + 12896 * (j / 10)) (by omega) (by omega) ?_
                exact hjoin563 y _ _ _ _ _ hy0 (hJ9) _ _ hP hD hS _ (lv_sub hl [5, 6, 7, 8, 9, 10, 0, 11, 3] rfl)
          · refine lv_aload_n hx hb dL_house_101 rfl (lv_at hl 7 rfl) ?_
            refine lv_iconst (v := nI 0) hx hb dL_house_102 (by decide) ?_
            refine z_iald (G := G) (v := (nI (s_np s5))) hx hb hK hP 0 rfl (by omega) (hc0) dL_house_103 ?_
            refine lv_bipush (v := nI 8) hx hb dL_house_104 (by decide) ?_
            refine z_icmp_ge hx hb (by omega) (by omega) dL_house_106 (tgt := 292) (by decide) (fun c_43 => ?_) (fun c_43 => ?_)
            · refine lv_iload hx hb dL_house_292 (lv_at hl 1 rfl) ?_
              refine lv_bipush (v := nI 6) hx hb dL_house_294 (by decide) ?_
              refine z_icmp_ge hx hb (by omega) (by omega) dL_house_296 (tgt := 339) (by decide) (fun c_44 => ?_) (fun c_44 => ?_)
              · exfalso; omega
              · refine lv_aload_n hx hb dL_house_299 rfl (lv_at hl 7 rfl) ?_
                refine lv_iconst (v := nI 1) hx hb dL_house_300 (by decide) ?_
                refine lv_dup2_11 hx hb dL_house_301 rfl rfl ?_
                refine z_iald (G := G) (v := (nI (s_T s5))) hx hb hK hP 0 rfl (by omega) (hc1) dL_house_302 ?_
                refine lv_iconst (v := nI 1) hx hb dL_house_303 (by decide) ?_
                refine lv_iload hx hb dL_house_304 (lv_at hl 2 rfl) ?_
                refine lv_bipush (v := nI 9) hx hb dL_house_306 (by decide) ?_
                refine z_irem hx hb (by omega) (by omega) (by omega) dL_house_308 ?_
                refine z_iadd hx hb dL_house_309 ?_
                refine z_iadd hx hb dL_house_310 ?_
                refine z_iast (G := G) hx hb hK hP hD hS 0 rfl (by omega) dL_house_311 (fun H locs hP hD hS => ?_)
                have hP : va_P G vwCl ([zI cy qc 3 (upd cc 1 (nI ((s_T s5) + (1 + (y % 9))))), zI cy qf 8 ff, zI cy qu 48 uu] ++ (zHs cy a s5)) H := hP
                have hD : va_D A ([zI cy qc 3 (upd cc 1 (nI ((s_T s5) + (1 + (y % 9))))), zI cy qf 8 ff, zI cy qu 48 uu] ++ (zHs cy a s5)) := hD
                rw [← zHs_uT] at hP hD
                refine lv_aload_n hx hb dL_house_312 rfl (lv_at hl 6 rfl) ?_
                refine lv_iconst (v := nI 1) hx hb dL_house_313 (by decide) ?_
                refine lv_iload hx hb dL_house_314 (lv_at hl 2 rfl) ?_
                refine lv_bipush (v := nI 9) hx hb dL_house_316 (by decide) ?_
                refine z_irem hx hb (by omega) (by omega) (by omega) dL_house_318 ?_
                refine z_iadd hx hb dL_house_319 ?_
                have hP5 : va_P G vwCl ((zHs cy a (uT s5)) ++ [zI cy qc 3 (upd cc 1 (nI ((s_T s5) + (1 + (y % 9))))), zI cy qf 8 ff, zI cy qu 48 uu]) _ := z_P_perm (z_permT (ww := [zI cy qc 3 (upd cc 1 (nI ((s_T s5) + (1 + (y % 9))))), zI cy qf 8 ff, zI cy qu 48 uu]) (wu := []) (wr := [zI cy qc 3 (upd cc 1 (nI ((s_T s5) + (1 + (y % 9))))), zI cy qf 8 ff, zI cy qu 48 uu]) (tl := (zHs cy a (uT s5))) (n := 3) [] [0, 1, 2] rfl rfl rfl (by decide)) hP
                have hD5 : va_D A ((zHs cy a (uT s5)) ++ [zI cy qc 3 (upd cc 1 (nI ((s_T s5) + (1 + (y % 9))))), zI cy qf 8 ff, zI cy qu 48 uu]) := z_D_perm (z_permT (ww := [zI cy qc 3 (upd cc 1 (nI ((s_T s5) + (1 + (y % 9))))), zI cy qf 8 ff, zI cy qu 48 uu]) (wu := []) (wr := [zI cy qc 3 (upd cc 1 (nI ((s_T s5) + (1 + (y % 9))))), zI cy qf 8 ff, zI cy qu 48 uu]) (tl := (zHs cy a (uT s5))) (n := 3) [] [0, 1, 2] rfl rfl rfl (by decide)) hD
                refine z_ciP (wc := (zHs cy a (uT s5))) (wr := [zI cy qc 3 (upd cc 1 (nI ((s_T s5) + (1 + (y % 9))))), zI cy qf 8 ff, zI cy qu 48 uu]) (va_runV (As := [.int (nI (1 + (y % 9)))]) (rest := []) ⟨hx, hb, hml, hown, hts⟩ (h_c_pass l hl9 G cy wd fo _ _ a (uT s5) (hn8) (hO.2.2.1) (1 + (y % 9)) (by omega) (by omega) (by show s_T s5 + (1 + y % 9) ≤ 900; omega) (uT_ts hO)) (cwV 1 hts gL_house_X10_pass rfl rfl rfl (by decide +kernel) ⟨Nat.le_of_ble_eq_true rfl, Nat.le_of_ble_eq_true rfl⟩) (z_pVHP (ci := 11) hK hP5 hD5 hS hN hAN hWd hE rfl rfl 0 rfl) rfl rfl hl.1 rfl (lv_room (Nat.le_of_ble_eq_true rfl)) dL_house_320 ⟨by show (40 + 1802 * j + 1296 * (j / 10)) + 0 ≤ 175180; omega, by show (24069 + 18012 * j + 12896 * (j / 10)) + 0 ≤ 1774109; omega⟩) hP5 hD5 hS hA (fun r_45 u H locs hr_45 hQ hD hS hz => ?_)
                obtain ⟨s9_46, rfl⟩ : ∃ z, z = u := ⟨_, rfl⟩
                try dsimp only at hr_45
                have hP : va_P G vwCl ([zI cy qc 3 (upd cc 1 (nI ((s_T s5) + (1 + (y % 9))))), zI cy qf 8 ff, zI cy qu 48 uu] ++ (zHs cy a s9_46)) H := z_P_perm (List.Perm.symm (z_permT (ww := [zI cy qc 3 (upd cc 1 (nI ((s_T s5) + (1 + (y % 9))))), zI cy qf 8 ff, zI cy qu 48 uu]) (wu := []) (wr := [zI cy qc 3 (upd cc 1 (nI ((s_T s5) + (1 + (y % 9))))), zI cy qf 8 ff, zI cy qu 48 uu]) (tl := (zHs cy a s9_46)) (n := 3) [] [0, 1, 2] rfl rfl rfl (by decide))) hQ
                have hD : va_D A ([zI cy qc 3 (upd cc 1 (nI ((s_T s5) + (1 + (y % 9))))), zI cy qf 8 ff, zI cy qu 48 uu] ++ (zHs cy a s9_46)) := z_D_perm (List.Perm.symm (z_permT (ww := [zI cy qc 3 (upd cc 1 (nI ((s_T s5) + (1 + (y % 9))))), zI cy qf 8 ff, zI cy qu 48 uu]) (wu := []) (wr := [zI cy qc 3 (upd cc 1 (nI ((s_T s5) + (1 + (y % 9))))), zI cy qf 8 ff, zI cy qu 48 uu]) (tl := (zHs cy a s9_46)) (n := 3) [] [0, 1, 2] rfl rfl rfl (by decide))) hD
                clear hQ hP5 hD5
                obtain ⟨hr1, hs9⟩ := hr_45
                obtain rfl : r_45 = nI (s_T s5 + (1 + y % 9)) := hr1
                have hJ9 := zJ_pass (n := 1 + y % 9) (zJ_uT hJ) (by omega) (by show s_T s5 + (1 + y % 9) ≤ 900; omega) hs9
                refine lv_aload_n hx hb dL_house_323 rfl (lv_at hl 7 rfl) ?_
                refine lv_iconst (v := nI 1) hx hb dL_house_324 (by decide) ?_
                refine z_iald (G := G) (v := (nI (s_T s5 + (1 + y % 9)))) hx hb hK hP 0 rfl (by omega) (z_updk) dL_house_325 ?_
                refine z_icmp_ne hx hb (by omega) (by omega) dL_house_326 (tgt := 333) (by decide) (fun c_47 => ?_) (fun c_47 => ?_)
                · exfalso; omega
                · refine lv_iconst (v := nI 1) hx hb dL_house_329 (by decide) ?_
                  refine lv_goto (tgt := 334) hx hb dL_house_330 (by decide) ?_
                  refine lv_istore (lv' := [(6, .int (nI 1)), (11, .int (nI z)), (10, .int (nI (x % 20))), (9, .int (nI y)), (8, .int (nI x)), (0, .ref b9), (1, .int (nI at9)), (2, .ref (a 0)), (3, .ref qc), (4, .ref qf), (5, .ref qu), (7, .int (nI j))]) hx hb dL_house_334 hl (by decide) rfl (fun ls hl => ?_)
                  refine lv_goto (tgt := 563) hx hb dL_house_336 (by decide) ?_
                  refine W.widen (k := 40 + 1802 * (j + 1) + 1296 * (j / 10)) (n := 24069 + 18012 * (j + 1) + 12896 * (j / 10)) (by omega) (by omega) ?_
                  exact hjoin563 y _ _ _ _ _ hy0 (hJ9) _ _ hP hD hS _ (lv_sub hl [5, 6, 7, 8, 9, 10, 0, 11, 3] rfl)
            · refine lv_iconst (v := nI 3) hx hb dL_house_109 (by decide) ?_
              refine lv_iload hx hb dL_house_110 (lv_at hl 2 rfl) ?_
              refine lv_iconst (v := nI 4) hx hb dL_house_112 (by decide) ?_
              refine z_irem hx hb (by omega) (by omega) (by omega) dL_house_113 ?_
              refine z_iadd hx hb dL_house_114 ?_
              refine lv_istore (lv' := [(12, .int (nI (3 + (y % 4)))), (11, .int (nI z)), (10, .int (nI (x % 20))), (9, .int (nI y)), (8, .int (nI x)), (0, .ref b9), (1, .int (nI at9)), (2, .ref (a 0)), (3, .ref qc), (4, .ref qf), (5, .ref qu), (6, .int (nI 1)), (7, .int (nI j))]) hx hb dL_house_115 hl (by decide) rfl (fun ls hl => ?_)
              refine lv_aload hx hb dL_house_117 (lv_at hl 10 rfl) ?_
              refine lv_bipush (v := nI 6) hx hb dL_house_119 (by decide) ?_
              refine lv_aload_n hx hb dL_house_121 rfl (lv_at hl 8 rfl) ?_
              refine lv_iconst (v := nI 0) hx hb dL_house_122 (by decide) ?_
              refine z_iald (G := G) (v := (nI (s_np s5))) hx hb hK hP 0 rfl (by omega) (hc0) dL_house_123 ?_
              refine z_imul hx hb dL_house_124 ?_
              refine lv_aload_n hx hb dL_house_125 rfl (lv_at hl 8 rfl) ?_
              refine lv_iconst (v := nI 1) hx hb dL_house_126 (by decide) ?_
              refine z_iald (G := G) (v := (nI (s_T s5))) hx hb hK hP 0 rfl (by omega) (hc1) dL_house_127 ?_
              refine z_iast (G := G) hx hb hK hP hD hS 2 rfl (by omega) dL_house_128 (fun H locs hP hD hS => ?_)
              have hP : va_P G vwCl ([zI cy qc 3 cc, zI cy qf 8 ff, zI cy qu 48 (upd uu (6 * (s_np s5)) (nI (s_T s5)))] ++ (zHs cy a s5)) H := hP
              have hD : va_D A ([zI cy qc 3 cc, zI cy qf 8 ff, zI cy qu 48 (upd uu (6 * (s_np s5)) (nI (s_T s5)))] ++ (zHs cy a s5)) := hD
              refine lv_aload hx hb dL_house_129 (lv_at hl 10 rfl) ?_
              refine lv_bipush (v := nI 6) hx hb dL_house_131 (by decide) ?_
              refine lv_aload_n hx hb dL_house_133 rfl (lv_at hl 8 rfl) ?_
              refine lv_iconst (v := nI 0) hx hb dL_house_134 (by decide) ?_
              refine z_iald (G := G) (v := (nI (s_np s5))) hx hb hK hP 0 rfl (by omega) (hc0) dL_house_135 ?_
              refine z_imul hx hb dL_house_136 ?_
              refine lv_iconst (v := nI 1) hx hb dL_house_137 (by decide) ?_
              refine z_iadd hx hb dL_house_138 ?_
              refine lv_iload hx hb dL_house_139 (lv_at hl 3 rfl) ?_
              refine lv_iconst (v := nI 4) hx hb dL_house_141 (by decide) ?_
              refine z_idiv hx hb (by omega) (by omega) (by omega) dL_house_142 ?_
              refine lv_sipush (v := nI 1000) hx hb dL_house_143 (by decide) ?_
              refine z_irem hx hb (by omega) (by omega) (by omega) dL_house_146 ?_
              refine z_iast (G := G) hx hb hK hP hD hS 2 rfl (by omega) dL_house_147 (fun H locs hP hD hS => ?_)
              have hP : va_P G vwCl ([zI cy qc 3 cc, zI cy qf 8 ff, zI cy qu 48 (upd (upd uu (6 * (s_np s5)) (nI (s_T s5))) ((6 * (s_np s5)) + 1) (nI ((y / 4) % 1000)))] ++ (zHs cy a s5)) H := hP
              have hD : va_D A ([zI cy qc 3 cc, zI cy qf 8 ff, zI cy qu 48 (upd (upd uu (6 * (s_np s5)) (nI (s_T s5))) ((6 * (s_np s5)) + 1) (nI ((y / 4) % 1000)))] ++ (zHs cy a s5)) := hD
              refine lv_aload hx hb dL_house_148 (lv_at hl 10 rfl) ?_
              refine lv_bipush (v := nI 6) hx hb dL_house_150 (by decide) ?_
              refine lv_aload_n hx hb dL_house_152 rfl (lv_at hl 8 rfl) ?_
              refine lv_iconst (v := nI 0) hx hb dL_house_153 (by decide) ?_
              refine z_iald (G := G) (v := (nI (s_np s5))) hx hb hK hP 0 rfl (by omega) (hc0) dL_house_154 ?_
              refine z_imul hx hb dL_house_155 ?_
              refine lv_iconst (v := nI 2) hx hb dL_house_156 (by decide) ?_
              refine z_iadd hx hb dL_house_157 ?_
              refine lv_iload hx hb dL_house_158 (lv_at hl 0 rfl) ?_
              refine z_iast (G := G) hx hb hK hP hD hS 2 rfl (by omega) dL_house_160 (fun H locs hP hD hS => ?_)
              have hP : va_P G vwCl ([zI cy qc 3 cc, zI cy qf 8 ff, zI cy qu 48 (upd (upd (upd uu (6 * (s_np s5)) (nI (s_T s5))) ((6 * (s_np s5)) + 1) (nI ((y / 4) % 1000))) ((6 * (s_np s5)) + 2) (nI (3 + (y % 4))))] ++ (zHs cy a s5)) H := hP
              have hD : va_D A ([zI cy qc 3 cc, zI cy qf 8 ff, zI cy qu 48 (upd (upd (upd uu (6 * (s_np s5)) (nI (s_T s5))) ((6 * (s_np s5)) + 1) (nI ((y / 4) % 1000))) ((6 * (s_np s5)) + 2) (nI (3 + (y % 4))))] ++ (zHs cy a s5)) := hD
              refine lv_aload hx hb dL_house_161 (lv_at hl 10 rfl) ?_
              refine lv_bipush (v := nI 6) hx hb dL_house_163 (by decide) ?_
              refine lv_aload_n hx hb dL_house_165 rfl (lv_at hl 8 rfl) ?_
              refine lv_iconst (v := nI 0) hx hb dL_house_166 (by decide) ?_
              refine z_iald (G := G) (v := (nI (s_np s5))) hx hb hK hP 0 rfl (by omega) (hc0) dL_house_167 ?_
              refine z_imul hx hb dL_house_168 ?_
              refine lv_iconst (v := nI 3) hx hb dL_house_169 (by decide) ?_
              refine z_iadd hx hb dL_house_170 ?_
              refine lv_iconst (v := nI 1) hx hb dL_house_171 (by decide) ?_
              refine lv_iload hx hb dL_house_172 (lv_at hl 3 rfl) ?_
              refine lv_sipush (v := nI 4000) hx hb dL_house_174 (by decide) ?_
              refine z_idiv hx hb (by omega) (by omega) (by omega) dL_house_177 ?_
              refine lv_bipush (v := nI 10) hx hb dL_house_178 (by decide) ?_
              refine z_irem hx hb (by omega) (by omega) (by omega) dL_house_180 ?_
              refine z_iadd hx hb dL_house_181 ?_
              refine z_iast (G := G) hx hb hK hP hD hS 2 rfl (by omega) dL_house_182 (fun H locs hP hD hS => ?_)
              have hP : va_P G vwCl ([zI cy qc 3 cc, zI cy qf 8 ff, zI cy qu 48 (upd (upd (upd (upd uu (6 * (s_np s5)) (nI (s_T s5))) ((6 * (s_np s5)) + 1) (nI ((y / 4) % 1000))) ((6 * (s_np s5)) + 2) (nI (3 + (y % 4)))) ((6 * (s_np s5)) + 3) (nI (1 + ((y / 4000) % 10))))] ++ (zHs cy a s5)) H := hP
              have hD : va_D A ([zI cy qc 3 cc, zI cy qf 8 ff, zI cy qu 48 (upd (upd (upd (upd uu (6 * (s_np s5)) (nI (s_T s5))) ((6 * (s_np s5)) + 1) (nI ((y / 4) % 1000))) ((6 * (s_np s5)) + 2) (nI (3 + (y % 4)))) ((6 * (s_np s5)) + 3) (nI (1 + ((y / 4000) % 10))))] ++ (zHs cy a s5)) := hD
              refine lv_aload hx hb dL_house_183 (lv_at hl 10 rfl) ?_
              refine lv_bipush (v := nI 6) hx hb dL_house_185 (by decide) ?_
              refine lv_aload_n hx hb dL_house_187 rfl (lv_at hl 8 rfl) ?_
              refine lv_iconst (v := nI 0) hx hb dL_house_188 (by decide) ?_
              refine z_iald (G := G) (v := (nI (s_np s5))) hx hb hK hP 0 rfl (by omega) (hc0) dL_house_189 ?_
              refine z_imul hx hb dL_house_190 ?_
              refine lv_iconst (v := nI 4) hx hb dL_house_191 (by decide) ?_
              refine z_iadd hx hb dL_house_192 ?_
              refine lv_iconst (v := nI 1) hx hb dL_house_193 (by decide) ?_
              refine z_iast (G := G) hx hb hK hP hD hS 2 rfl (by omega) dL_house_194 (fun H locs hP hD hS => ?_)
              have hP : va_P G vwCl ([zI cy qc 3 cc, zI cy qf 8 ff, zI cy qu 48 (upd (upd (upd (upd (upd uu (6 * (s_np s5)) (nI (s_T s5))) ((6 * (s_np s5)) + 1) (nI ((y / 4) % 1000))) ((6 * (s_np s5)) + 2) (nI (3 + (y % 4)))) ((6 * (s_np s5)) + 3) (nI (1 + ((y / 4000) % 10)))) ((6 * (s_np s5)) + 4) (nI 1))] ++ (zHs cy a s5)) H := hP
              have hD : va_D A ([zI cy qc 3 cc, zI cy qf 8 ff, zI cy qu 48 (upd (upd (upd (upd (upd uu (6 * (s_np s5)) (nI (s_T s5))) ((6 * (s_np s5)) + 1) (nI ((y / 4) % 1000))) ((6 * (s_np s5)) + 2) (nI (3 + (y % 4)))) ((6 * (s_np s5)) + 3) (nI (1 + ((y / 4000) % 10)))) ((6 * (s_np s5)) + 4) (nI 1))] ++ (zHs cy a s5)) := hD
              refine lv_aload hx hb dL_house_195 (lv_at hl 10 rfl) ?_
              refine lv_bipush (v := nI 6) hx hb dL_house_197 (by decide) ?_
              refine lv_aload_n hx hb dL_house_199 rfl (lv_at hl 8 rfl) ?_
              refine lv_iconst (v := nI 0) hx hb dL_house_200 (by decide) ?_
              refine z_iald (G := G) (v := (nI (s_np s5))) hx hb hK hP 0 rfl (by omega) (hc0) dL_house_201 ?_
              refine z_imul hx hb dL_house_202 ?_
              refine lv_iconst (v := nI 5) hx hb dL_house_203 (by decide) ?_
              refine z_iadd hx hb dL_house_204 ?_
              refine lv_iconst (v := (-1)) hx hb dL_house_205 (by decide) ?_
              refine z_iast (G := G) hx hb hK hP hD hS 2 rfl (by omega) dL_house_206 (fun H locs hP hD hS => ?_)
              have hP : va_P G vwCl ([zI cy qc 3 cc, zI cy qf 8 ff, zI cy qu 48 (upd (upd (upd (upd (upd (upd uu (6 * (s_np s5)) (nI (s_T s5))) ((6 * (s_np s5)) + 1) (nI ((y / 4) % 1000))) ((6 * (s_np s5)) + 2) (nI (3 + (y % 4)))) ((6 * (s_np s5)) + 3) (nI (1 + ((y / 4000) % 10)))) ((6 * (s_np s5)) + 4) (nI 1)) ((6 * (s_np s5)) + 5) (-1))] ++ (zHs cy a s5)) H := hP
              have hD : va_D A ([zI cy qc 3 cc, zI cy qf 8 ff, zI cy qu 48 (upd (upd (upd (upd (upd (upd uu (6 * (s_np s5)) (nI (s_T s5))) ((6 * (s_np s5)) + 1) (nI ((y / 4) % 1000))) ((6 * (s_np s5)) + 2) (nI (3 + (y % 4)))) ((6 * (s_np s5)) + 3) (nI (1 + ((y / 4000) % 10)))) ((6 * (s_np s5)) + 4) (nI 1)) ((6 * (s_np s5)) + 5) (-1))] ++ (zHs cy a s5)) := hD
              refine lv_aload hx hb dL_house_207 (lv_at hl 9 rfl) ?_
              refine lv_aload_n hx hb dL_house_209 rfl (lv_at hl 8 rfl) ?_
              refine lv_iconst (v := nI 0) hx hb dL_house_210 (by decide) ?_
              refine z_iald (G := G) (v := (nI (s_np s5))) hx hb hK hP 0 rfl (by omega) (hc0) dL_house_211 ?_
              refine lv_aload_n hx hb dL_house_212 rfl (lv_at hl 8 rfl) ?_
              refine lv_iconst (v := nI 1) hx hb dL_house_213 (by decide) ?_
              refine z_iald (G := G) (v := (nI (s_T s5))) hx hb hK hP 0 rfl (by omega) (hc1) dL_house_214 ?_
              refine z_iast (G := G) hx hb hK hP hD hS 1 rfl (by omega) dL_house_215 (fun H locs hP hD hS => ?_)
              have hP : va_P G vwCl ([zI cy qc 3 cc, zI cy qf 8 (upd ff (s_np s5) (nI (s_T s5))), zI cy qu 48 (upd (upd (upd (upd (upd (upd uu (6 * (s_np s5)) (nI (s_T s5))) ((6 * (s_np s5)) + 1) (nI ((y / 4) % 1000))) ((6 * (s_np s5)) + 2) (nI (3 + (y % 4)))) ((6 * (s_np s5)) + 3) (nI (1 + ((y / 4000) % 10)))) ((6 * (s_np s5)) + 4) (nI 1)) ((6 * (s_np s5)) + 5) (-1))] ++ (zHs cy a s5)) H := hP
              have hD : va_D A ([zI cy qc 3 cc, zI cy qf 8 (upd ff (s_np s5) (nI (s_T s5))), zI cy qu 48 (upd (upd (upd (upd (upd (upd uu (6 * (s_np s5)) (nI (s_T s5))) ((6 * (s_np s5)) + 1) (nI ((y / 4) % 1000))) ((6 * (s_np s5)) + 2) (nI (3 + (y % 4)))) ((6 * (s_np s5)) + 3) (nI (1 + ((y / 4000) % 10)))) ((6 * (s_np s5)) + 4) (nI 1)) ((6 * (s_np s5)) + 5) (-1))] ++ (zHs cy a s5)) := hD
              refine lv_aload_n hx hb dL_house_216 rfl (lv_at hl 8 rfl) ?_
              refine lv_iconst (v := nI 0) hx hb dL_house_217 (by decide) ?_
              refine lv_dup2_11 hx hb dL_house_218 rfl rfl ?_
              refine z_iald (G := G) (v := (nI (s_np s5))) hx hb hK hP 0 rfl (by omega) (hc0) dL_house_219 ?_
              refine lv_iconst (v := nI 1) hx hb dL_house_220 (by decide) ?_
              refine z_iadd hx hb dL_house_221 ?_
              refine z_iast (G := G) hx hb hK hP hD hS 0 rfl (by omega) dL_house_222 (fun H locs hP hD hS => ?_)
              have hP : va_P G vwCl ([zI cy qc 3 (upd cc 0 (nI ((s_np s5) + 1))), zI cy qf 8 (upd ff (s_np s5) (nI (s_T s5))), zI cy qu 48 (upd (upd (upd (upd (upd (upd uu (6 * (s_np s5)) (nI (s_T s5))) ((6 * (s_np s5)) + 1) (nI ((y / 4) % 1000))) ((6 * (s_np s5)) + 2) (nI (3 + (y % 4)))) ((6 * (s_np s5)) + 3) (nI (1 + ((y / 4000) % 10)))) ((6 * (s_np s5)) + 4) (nI 1)) ((6 * (s_np s5)) + 5) (-1))] ++ (zHs cy a s5)) H := hP
              have hD : va_D A ([zI cy qc 3 (upd cc 0 (nI ((s_np s5) + 1))), zI cy qf 8 (upd ff (s_np s5) (nI (s_T s5))), zI cy qu 48 (upd (upd (upd (upd (upd (upd uu (6 * (s_np s5)) (nI (s_T s5))) ((6 * (s_np s5)) + 1) (nI ((y / 4) % 1000))) ((6 * (s_np s5)) + 2) (nI (3 + (y % 4)))) ((6 * (s_np s5)) + 3) (nI (1 + ((y / 4000) % 10)))) ((6 * (s_np s5)) + 4) (nI 1)) ((6 * (s_np s5)) + 5) (-1))] ++ (zHs cy a s5)) := hD
              have hsh9 : y / 4 % 1000 < 10 ^ (3 + y % 4) := Nat.lt_of_lt_of_le (Nat.mod_lt _ (by decide)) (Nat.le_trans (by decide : 1000 ≤ 10 ^ 3) (Nat.pow_le_pow_right (by decide) (by omega)))
              refine lv_aload_n hx hb dL_house_223 rfl (lv_at hl 7 rfl) ?_
              refine lv_iload hx hb dL_house_224 (lv_at hl 1 rfl) ?_
              refine lv_iconst (v := nI 4) hx hb dL_house_226 (by decide) ?_
              refine z_irem hx hb (by omega) (by omega) (by omega) dL_house_227 ?_
              refine lv_iload hx hb dL_house_228 (lv_at hl 1 rfl) ?_
              refine lv_iconst (v := nI 4) hx hb dL_house_230 (by decide) ?_
              refine z_idiv hx hb (by omega) (by omega) (by omega) dL_house_231 ?_
              refine lv_iconst (v := nI 3) hx hb dL_house_232 (by decide) ?_
              refine z_irem hx hb (by omega) (by omega) (by omega) dL_house_233 ?_
              refine lv_iload hx hb dL_house_234 (lv_at hl 0 rfl) ?_
              refine lv_iconst (v := nI 1) hx hb dL_house_236 (by decide) ?_
              refine lv_iload hx hb dL_house_237 (lv_at hl 3 rfl) ?_
              refine lv_sipush (v := nI 4000) hx hb dL_house_239 (by decide) ?_
              refine z_idiv hx hb (by omega) (by omega) (by omega) dL_house_242 ?_
              refine lv_bipush (v := nI 10) hx hb dL_house_243 (by decide) ?_
              refine z_irem hx hb (by omega) (by omega) (by omega) dL_house_245 ?_
              refine z_iadd hx hb dL_house_246 ?_
              refine lv_iload hx hb dL_house_247 (lv_at hl 3 rfl) ?_
              refine lv_iconst (v := nI 4) hx hb dL_house_249 (by decide) ?_
              refine z_idiv hx hb (by omega) (by omega) (by omega) dL_house_250 ?_
              refine lv_sipush (v := nI 1000) hx hb dL_house_251 (by decide) ?_
              refine z_irem hx hb (by omega) (by omega) (by omega) dL_house_254 ?_
              have hP5 : va_P G vwCl ((zHs cy a s5) ++ [zI cy qc 3 (upd cc 0 (nI ((s_np s5) + 1))), zI cy qf 8 (upd ff (s_np s5) (nI (s_T s5))), zI cy qu 48 (upd (upd (upd (upd (upd (upd uu (6 * (s_np s5)) (nI (s_T s5))) ((6 * (s_np s5)) + 1) (nI ((y / 4) % 1000))) ((6 * (s_np s5)) + 2) (nI (3 + (y % 4)))) ((6 * (s_np s5)) + 3) (nI (1 + ((y / 4000) % 10)))) ((6 * (s_np s5)) + 4) (nI 1)) ((6 * (s_np s5)) + 5) (-1))]) _ := z_P_perm (z_permT (ww := [zI cy qc 3 (upd cc 0 (nI ((s_np s5) + 1))), zI cy qf 8 (upd ff (s_np s5) (nI (s_T s5))), zI cy qu 48 (upd (upd (upd (upd (upd (upd uu (6 * (s_np s5)) (nI (s_T s5))) ((6 * (s_np s5)) + 1) (nI ((y / 4) % 1000))) ((6 * (s_np s5)) + 2) (nI (3 + (y % 4)))) ((6 * (s_np s5)) + 3) (nI (1 + ((y / 4000) % 10)))) ((6 * (s_np s5)) + 4) (nI 1)) ((6 * (s_np s5)) + 5) (-1))]) (wu := []) (wr := [zI cy qc 3 (upd cc 0 (nI ((s_np s5) + 1))), zI cy qf 8 (upd ff (s_np s5) (nI (s_T s5))), zI cy qu 48 (upd (upd (upd (upd (upd (upd uu (6 * (s_np s5)) (nI (s_T s5))) ((6 * (s_np s5)) + 1) (nI ((y / 4) % 1000))) ((6 * (s_np s5)) + 2) (nI (3 + (y % 4)))) ((6 * (s_np s5)) + 3) (nI (1 + ((y / 4000) % 10)))) ((6 * (s_np s5)) + 4) (nI 1)) ((6 * (s_np s5)) + 5) (-1))]) (tl := (zHs cy a s5)) (n := 3) [] [0, 1, 2] rfl rfl rfl (by decide)) hP
              have hD5 : va_D A ((zHs cy a s5) ++ [zI cy qc 3 (upd cc 0 (nI ((s_np s5) + 1))), zI cy qf 8 (upd ff (s_np s5) (nI (s_T s5))), zI cy qu 48 (upd (upd (upd (upd (upd (upd uu (6 * (s_np s5)) (nI (s_T s5))) ((6 * (s_np s5)) + 1) (nI ((y / 4) % 1000))) ((6 * (s_np s5)) + 2) (nI (3 + (y % 4)))) ((6 * (s_np s5)) + 3) (nI (1 + ((y / 4000) % 10)))) ((6 * (s_np s5)) + 4) (nI 1)) ((6 * (s_np s5)) + 5) (-1))]) := z_D_perm (z_permT (ww := [zI cy qc 3 (upd cc 0 (nI ((s_np s5) + 1))), zI cy qf 8 (upd ff (s_np s5) (nI (s_T s5))), zI cy qu 48 (upd (upd (upd (upd (upd (upd uu (6 * (s_np s5)) (nI (s_T s5))) ((6 * (s_np s5)) + 1) (nI ((y / 4) % 1000))) ((6 * (s_np s5)) + 2) (nI (3 + (y % 4)))) ((6 * (s_np s5)) + 3) (nI (1 + ((y / 4000) % 10)))) ((6 * (s_np s5)) + 4) (nI 1)) ((6 * (s_np s5)) + 5) (-1))]) (wu := []) (wr := [zI cy qc 3 (upd cc 0 (nI ((s_np s5) + 1))), zI cy qf 8 (upd ff (s_np s5) (nI (s_T s5))), zI cy qu 48 (upd (upd (upd (upd (upd (upd uu (6 * (s_np s5)) (nI (s_T s5))) ((6 * (s_np s5)) + 1) (nI ((y / 4) % 1000))) ((6 * (s_np s5)) + 2) (nI (3 + (y % 4)))) ((6 * (s_np s5)) + 3) (nI (1 + ((y / 4000) % 10)))) ((6 * (s_np s5)) + 4) (nI 1)) ((6 * (s_np s5)) + 5) (-1))]) (tl := (zHs cy a s5)) (n := 3) [] [0, 1, 2] rfl rfl rfl (by decide)) hD
              refine z_ciP (wc := (zHs cy a s5)) (wr := [zI cy qc 3 (upd cc 0 (nI ((s_np s5) + 1))), zI cy qf 8 (upd ff (s_np s5) (nI (s_T s5))), zI cy qu 48 (upd (upd (upd (upd (upd (upd uu (6 * (s_np s5)) (nI (s_T s5))) ((6 * (s_np s5)) + 1) (nI ((y / 4) % 1000))) ((6 * (s_np s5)) + 2) (nI (3 + (y % 4)))) ((6 * (s_np s5)) + 3) (nI (1 + ((y / 4000) % 10)))) ((6 * (s_np s5)) + 4) (nI 1)) ((6 * (s_np s5)) + 5) (-1))]) (va_runV (As := [.int (nI (z % 4)), .int (nI ((z / 4) % 3)), .int (nI (3 + (y % 4))), .int (nI (1 + ((y / 4000) % 10))), .int (nI ((y / 4) % 1000))]) (rest := []) ⟨hx, hb, hml, hown, hts⟩ (h_c_point l hl9 G cy wd fo _ _ a s5 (hO.1) (z % 4) ((z / 4) % 3) (3 + (y % 4)) (1 + ((y / 4000) % 10)) (by omega) (by omega) (by omega) (by omega) (by omega) (by omega) ((y / 4) % 1000) (hsh9) (by omega)) (cwV 5 hts gL_house_X10_point rfl rfl rfl (by decide +kernel) ⟨Nat.le_of_ble_eq_true rfl, Nat.le_of_ble_eq_true rfl⟩) (z_pVHP (ci := 11) hK hP5 hD5 hS hN hAN hWd hE rfl rfl 0 rfl) rfl rfl hl.1 rfl (lv_room (Nat.le_of_ble_eq_true rfl)) dL_house_255 ⟨by show (40 + 1802 * j + 1296 * (j / 10)) + 15 ≤ 175180; omega, by show (24069 + 18012 * j + 12896 * (j / 10)) + 5035 ≤ 1774109; omega⟩) hP5 hD5 hS hA (fun r_48 u H locs hr_48 hQ hD hS hz => ?_)
              obtain ⟨s9_49, rfl⟩ : ∃ z, z = u := ⟨_, rfl⟩
              try dsimp only at hr_48
              have hP : va_P G vwCl ([zI cy qc 3 (upd cc 0 (nI ((s_np s5) + 1))), zI cy qf 8 (upd ff (s_np s5) (nI (s_T s5))), zI cy qu 48 (upd (upd (upd (upd (upd (upd uu (6 * (s_np s5)) (nI (s_T s5))) ((6 * (s_np s5)) + 1) (nI ((y / 4) % 1000))) ((6 * (s_np s5)) + 2) (nI (3 + (y % 4)))) ((6 * (s_np s5)) + 3) (nI (1 + ((y / 4000) % 10)))) ((6 * (s_np s5)) + 4) (nI 1)) ((6 * (s_np s5)) + 5) (-1))] ++ (zHs cy a s9_49)) H := z_P_perm (List.Perm.symm (z_permT (ww := [zI cy qc 3 (upd cc 0 (nI ((s_np s5) + 1))), zI cy qf 8 (upd ff (s_np s5) (nI (s_T s5))), zI cy qu 48 (upd (upd (upd (upd (upd (upd uu (6 * (s_np s5)) (nI (s_T s5))) ((6 * (s_np s5)) + 1) (nI ((y / 4) % 1000))) ((6 * (s_np s5)) + 2) (nI (3 + (y % 4)))) ((6 * (s_np s5)) + 3) (nI (1 + ((y / 4000) % 10)))) ((6 * (s_np s5)) + 4) (nI 1)) ((6 * (s_np s5)) + 5) (-1))]) (wu := []) (wr := [zI cy qc 3 (upd cc 0 (nI ((s_np s5) + 1))), zI cy qf 8 (upd ff (s_np s5) (nI (s_T s5))), zI cy qu 48 (upd (upd (upd (upd (upd (upd uu (6 * (s_np s5)) (nI (s_T s5))) ((6 * (s_np s5)) + 1) (nI ((y / 4) % 1000))) ((6 * (s_np s5)) + 2) (nI (3 + (y % 4)))) ((6 * (s_np s5)) + 3) (nI (1 + ((y / 4000) % 10)))) ((6 * (s_np s5)) + 4) (nI 1)) ((6 * (s_np s5)) + 5) (-1))]) (tl := (zHs cy a s9_49)) (n := 3) [] [0, 1, 2] rfl rfl rfl (by decide))) hQ
              have hD : va_D A ([zI cy qc 3 (upd cc 0 (nI ((s_np s5) + 1))), zI cy qf 8 (upd ff (s_np s5) (nI (s_T s5))), zI cy qu 48 (upd (upd (upd (upd (upd (upd uu (6 * (s_np s5)) (nI (s_T s5))) ((6 * (s_np s5)) + 1) (nI ((y / 4) % 1000))) ((6 * (s_np s5)) + 2) (nI (3 + (y % 4)))) ((6 * (s_np s5)) + 3) (nI (1 + ((y / 4000) % 10)))) ((6 * (s_np s5)) + 4) (nI 1)) ((6 * (s_np s5)) + 5) (-1))] ++ (zHs cy a s9_49)) := z_D_perm (List.Perm.symm (z_permT (ww := [zI cy qc 3 (upd cc 0 (nI ((s_np s5) + 1))), zI cy qf 8 (upd ff (s_np s5) (nI (s_T s5))), zI cy qu 48 (upd (upd (upd (upd (upd (upd uu (6 * (s_np s5)) (nI (s_T s5))) ((6 * (s_np s5)) + 1) (nI ((y / 4) % 1000))) ((6 * (s_np s5)) + 2) (nI (3 + (y % 4)))) ((6 * (s_np s5)) + 3) (nI (1 + ((y / 4000) % 10)))) ((6 * (s_np s5)) + 4) (nI 1)) ((6 * (s_np s5)) + 5) (-1))]) (wu := []) (wr := [zI cy qc 3 (upd cc 0 (nI ((s_np s5) + 1))), zI cy qf 8 (upd ff (s_np s5) (nI (s_T s5))), zI cy qu 48 (upd (upd (upd (upd (upd (upd uu (6 * (s_np s5)) (nI (s_T s5))) ((6 * (s_np s5)) + 1) (nI ((y / 4) % 1000))) ((6 * (s_np s5)) + 2) (nI (3 + (y % 4)))) ((6 * (s_np s5)) + 3) (nI (1 + ((y / 4000) % 10)))) ((6 * (s_np s5)) + 4) (nI 1)) ((6 * (s_np s5)) + 5) (-1))]) (tl := (zHs cy a s9_49)) (n := 3) [] [0, 1, 2] rfl rfl rfl (by decide))) hD
              clear hQ hP5 hD5
              obtain ⟨hr1, u9, hs9⟩ := hr_48
              obtain rfl : r_48 = nI (s_np s5) := hr1
              have hJ9 := zJ_point (kd := z / 4 % 3) (dg := 3 + y % 4) (mv := 1 + y / 4000 % 10) (sh := y / 4 % 1000) (sp := z % 4) hJ (by omega) (by omega) (by omega) (by omega) (by omega) (by omega) hsh9 (by omega) hs9
              have hnp9 : s_np s9_49 = s_np s5 + 1 := by rw [hs9]
              have hk9 : s_np s5 + 1 - 1 < s_np s9_49 := by omega
              have hpc9 : q_pc (s_P s9_49 (s_np s5 + 1 - 1)) = 1000 := by rw [hs9, Nat.add_sub_cancel]; show q_pc (zUp (s_P s5) (s_np s5) _ (s_np s5)) = 1000; rw [zUp_at]
              refine lv_aload_n hx hb dL_house_258 rfl (lv_at hl 8 rfl) ?_
              refine lv_iconst (v := nI 0) hx hb dL_house_259 (by decide) ?_
              refine z_iald (G := G) (v := (nI (s_np s5 + 1))) hx hb hK hP 0 rfl (by omega) (z_updk) dL_house_260 ?_
              refine lv_iconst (v := nI 1) hx hb dL_house_261 (by decide) ?_
              refine z_isub hx hb (by omega) dL_house_262 ?_
              refine z_icmp_ne hx hb (by omega) (by omega) dL_house_263 (tgt := 286) (by decide) (fun c_50 => ?_) (fun c_50 => ?_)
              · exfalso; omega
              · refine lv_aload_n hx hb dL_house_266 rfl (lv_at hl 7 rfl) ?_
                refine lv_aload_n hx hb dL_house_267 rfl (lv_at hl 8 rfl) ?_
                refine lv_iconst (v := nI 0) hx hb dL_house_268 (by decide) ?_
                refine z_iald (G := G) (v := (nI (s_np s5 + 1))) hx hb hK hP 0 rfl (by omega) (z_updk) dL_house_269 ?_
                refine lv_iconst (v := nI 1) hx hb dL_house_270 (by decide) ?_
                refine z_isub hx hb (by omega) dL_house_271 ?_
                refine lv_iconst (v := nI 0) hx hb dL_house_272 (by decide) ?_
                have hP5 : va_P G vwCl ((zHs cy a s9_49) ++ [zI cy qc 3 (upd cc 0 (nI ((s_np s5) + 1))), zI cy qf 8 (upd ff (s_np s5) (nI (s_T s5))), zI cy qu 48 (upd (upd (upd (upd (upd (upd uu (6 * (s_np s5)) (nI (s_T s5))) ((6 * (s_np s5)) + 1) (nI ((y / 4) % 1000))) ((6 * (s_np s5)) + 2) (nI (3 + (y % 4)))) ((6 * (s_np s5)) + 3) (nI (1 + ((y / 4000) % 10)))) ((6 * (s_np s5)) + 4) (nI 1)) ((6 * (s_np s5)) + 5) (-1))]) _ := z_P_perm (z_permT (ww := [zI cy qc 3 (upd cc 0 (nI ((s_np s5) + 1))), zI cy qf 8 (upd ff (s_np s5) (nI (s_T s5))), zI cy qu 48 (upd (upd (upd (upd (upd (upd uu (6 * (s_np s5)) (nI (s_T s5))) ((6 * (s_np s5)) + 1) (nI ((y / 4) % 1000))) ((6 * (s_np s5)) + 2) (nI (3 + (y % 4)))) ((6 * (s_np s5)) + 3) (nI (1 + ((y / 4000) % 10)))) ((6 * (s_np s5)) + 4) (nI 1)) ((6 * (s_np s5)) + 5) (-1))]) (wu := []) (wr := [zI cy qc 3 (upd cc 0 (nI ((s_np s5) + 1))), zI cy qf 8 (upd ff (s_np s5) (nI (s_T s5))), zI cy qu 48 (upd (upd (upd (upd (upd (upd uu (6 * (s_np s5)) (nI (s_T s5))) ((6 * (s_np s5)) + 1) (nI ((y / 4) % 1000))) ((6 * (s_np s5)) + 2) (nI (3 + (y % 4)))) ((6 * (s_np s5)) + 3) (nI (1 + ((y / 4000) % 10)))) ((6 * (s_np s5)) + 4) (nI 1)) ((6 * (s_np s5)) + 5) (-1))]) (tl := (zHs cy a s9_49)) (n := 3) [] [0, 1, 2] rfl rfl rfl (by decide)) hP
                have hD5 : va_D A ((zHs cy a s9_49) ++ [zI cy qc 3 (upd cc 0 (nI ((s_np s5) + 1))), zI cy qf 8 (upd ff (s_np s5) (nI (s_T s5))), zI cy qu 48 (upd (upd (upd (upd (upd (upd uu (6 * (s_np s5)) (nI (s_T s5))) ((6 * (s_np s5)) + 1) (nI ((y / 4) % 1000))) ((6 * (s_np s5)) + 2) (nI (3 + (y % 4)))) ((6 * (s_np s5)) + 3) (nI (1 + ((y / 4000) % 10)))) ((6 * (s_np s5)) + 4) (nI 1)) ((6 * (s_np s5)) + 5) (-1))]) := z_D_perm (z_permT (ww := [zI cy qc 3 (upd cc 0 (nI ((s_np s5) + 1))), zI cy qf 8 (upd ff (s_np s5) (nI (s_T s5))), zI cy qu 48 (upd (upd (upd (upd (upd (upd uu (6 * (s_np s5)) (nI (s_T s5))) ((6 * (s_np s5)) + 1) (nI ((y / 4) % 1000))) ((6 * (s_np s5)) + 2) (nI (3 + (y % 4)))) ((6 * (s_np s5)) + 3) (nI (1 + ((y / 4000) % 10)))) ((6 * (s_np s5)) + 4) (nI 1)) ((6 * (s_np s5)) + 5) (-1))]) (wu := []) (wr := [zI cy qc 3 (upd cc 0 (nI ((s_np s5) + 1))), zI cy qf 8 (upd ff (s_np s5) (nI (s_T s5))), zI cy qu 48 (upd (upd (upd (upd (upd (upd uu (6 * (s_np s5)) (nI (s_T s5))) ((6 * (s_np s5)) + 1) (nI ((y / 4) % 1000))) ((6 * (s_np s5)) + 2) (nI (3 + (y % 4)))) ((6 * (s_np s5)) + 3) (nI (1 + ((y / 4000) % 10)))) ((6 * (s_np s5)) + 4) (nI 1)) ((6 * (s_np s5)) + 5) (-1))]) (tl := (zHs cy a s9_49)) (n := 3) [] [0, 1, 2] rfl rfl rfl (by decide)) hD
                refine z_ciP (wc := (zHs cy a s9_49)) (wr := [zI cy qc 3 (upd cc 0 (nI ((s_np s5) + 1))), zI cy qf 8 (upd ff (s_np s5) (nI (s_T s5))), zI cy qu 48 (upd (upd (upd (upd (upd (upd uu (6 * (s_np s5)) (nI (s_T s5))) ((6 * (s_np s5)) + 1) (nI ((y / 4) % 1000))) ((6 * (s_np s5)) + 2) (nI (3 + (y % 4)))) ((6 * (s_np s5)) + 3) (nI (1 + ((y / 4000) % 10)))) ((6 * (s_np s5)) + 4) (nI 1)) ((6 * (s_np s5)) + 5) (-1))]) (va_runV (As := [.int (nI ((s_np s5 + 1) - 1)), .int (nI 0)]) (rest := []) ⟨hx, hb, hml, hown, hts⟩ (h_c0_of l hl9 G cy wd fo _ _ a s9_49 ((s_np s5 + 1) - 1) (hk9) (by omega) (zOk_pt hJ9.1 hk9) (hJ9.1.1)) (cwV 2 hts gL_house_X10_of rfl rfl rfl (by decide +kernel) ⟨Nat.le_of_ble_eq_true rfl, Nat.le_of_ble_eq_true rfl⟩) (z_pVHP (ci := 11) hK hP5 hD5 hS hN hAN hWd hE rfl rfl 0 rfl) rfl rfl hl.1 rfl (lv_room (Nat.le_of_ble_eq_true rfl)) dL_house_273 ⟨by show (40 + 1802 * j + 1296 * (j / 10) + 15) + 0 ≤ 175180; omega, by show (24069 + 18012 * j + 12896 * (j / 10) + 5035) + 0 ≤ 1774109; omega⟩) hP5 hD5 hS hA (fun r_51 u H locs hr_51 hQ hD hS hz => ?_)
                obtain ⟨s9_52, rfl⟩ : ∃ z, z = u := ⟨_, rfl⟩
                try dsimp only at hr_51
                have hP : va_P G vwCl ([zI cy qc 3 (upd cc 0 (nI ((s_np s5) + 1))), zI cy qf 8 (upd ff (s_np s5) (nI (s_T s5))), zI cy qu 48 (upd (upd (upd (upd (upd (upd uu (6 * (s_np s5)) (nI (s_T s5))) ((6 * (s_np s5)) + 1) (nI ((y / 4) % 1000))) ((6 * (s_np s5)) + 2) (nI (3 + (y % 4)))) ((6 * (s_np s5)) + 3) (nI (1 + ((y / 4000) % 10)))) ((6 * (s_np s5)) + 4) (nI 1)) ((6 * (s_np s5)) + 5) (-1))] ++ (zHs cy a s9_52)) H := z_P_perm (List.Perm.symm (z_permT (ww := [zI cy qc 3 (upd cc 0 (nI ((s_np s5) + 1))), zI cy qf 8 (upd ff (s_np s5) (nI (s_T s5))), zI cy qu 48 (upd (upd (upd (upd (upd (upd uu (6 * (s_np s5)) (nI (s_T s5))) ((6 * (s_np s5)) + 1) (nI ((y / 4) % 1000))) ((6 * (s_np s5)) + 2) (nI (3 + (y % 4)))) ((6 * (s_np s5)) + 3) (nI (1 + ((y / 4000) % 10)))) ((6 * (s_np s5)) + 4) (nI 1)) ((6 * (s_np s5)) + 5) (-1))]) (wu := []) (wr := [zI cy qc 3 (upd cc 0 (nI ((s_np s5) + 1))), zI cy qf 8 (upd ff (s_np s5) (nI (s_T s5))), zI cy qu 48 (upd (upd (upd (upd (upd (upd uu (6 * (s_np s5)) (nI (s_T s5))) ((6 * (s_np s5)) + 1) (nI ((y / 4) % 1000))) ((6 * (s_np s5)) + 2) (nI (3 + (y % 4)))) ((6 * (s_np s5)) + 3) (nI (1 + ((y / 4000) % 10)))) ((6 * (s_np s5)) + 4) (nI 1)) ((6 * (s_np s5)) + 5) (-1))]) (tl := (zHs cy a s9_52)) (n := 3) [] [0, 1, 2] rfl rfl rfl (by decide))) hQ
                have hD : va_D A ([zI cy qc 3 (upd cc 0 (nI ((s_np s5) + 1))), zI cy qf 8 (upd ff (s_np s5) (nI (s_T s5))), zI cy qu 48 (upd (upd (upd (upd (upd (upd uu (6 * (s_np s5)) (nI (s_T s5))) ((6 * (s_np s5)) + 1) (nI ((y / 4) % 1000))) ((6 * (s_np s5)) + 2) (nI (3 + (y % 4)))) ((6 * (s_np s5)) + 3) (nI (1 + ((y / 4000) % 10)))) ((6 * (s_np s5)) + 4) (nI 1)) ((6 * (s_np s5)) + 5) (-1))] ++ (zHs cy a s9_52)) := z_D_perm (List.Perm.symm (z_permT (ww := [zI cy qc 3 (upd cc 0 (nI ((s_np s5) + 1))), zI cy qf 8 (upd ff (s_np s5) (nI (s_T s5))), zI cy qu 48 (upd (upd (upd (upd (upd (upd uu (6 * (s_np s5)) (nI (s_T s5))) ((6 * (s_np s5)) + 1) (nI ((y / 4) % 1000))) ((6 * (s_np s5)) + 2) (nI (3 + (y % 4)))) ((6 * (s_np s5)) + 3) (nI (1 + ((y / 4000) % 10)))) ((6 * (s_np s5)) + 4) (nI 1)) ((6 * (s_np s5)) + 5) (-1))]) (wu := []) (wr := [zI cy qc 3 (upd cc 0 (nI ((s_np s5) + 1))), zI cy qf 8 (upd ff (s_np s5) (nI (s_T s5))), zI cy qu 48 (upd (upd (upd (upd (upd (upd uu (6 * (s_np s5)) (nI (s_T s5))) ((6 * (s_np s5)) + 1) (nI ((y / 4) % 1000))) ((6 * (s_np s5)) + 2) (nI (3 + (y % 4)))) ((6 * (s_np s5)) + 3) (nI (1 + ((y / 4000) % 10)))) ((6 * (s_np s5)) + 4) (nI 1)) ((6 * (s_np s5)) + 5) (-1))]) (tl := (zHs cy a s9_52)) (n := 3) [] [0, 1, 2] rfl rfl rfl (by decide))) hD
                clear hQ hP5 hD5
                rw [hr_51.2] at hP hD
                have hvr_51 : (nI (q_pc (s_P s9_49 ((s_np s5 + 1) - 1)))) = (nI 1000) := by rw [hpc9]
                obtain rfl : r_51 = (nI 1000) := hr_51.1.trans hvr_51
                refine lv_sipush (v := nI 1000) hx hb dL_house_276 (by decide) ?_
                refine z_icmp_ne hx hb (by omega) (by omega) dL_house_279 (tgt := 286) (by decide) (fun c_53 => ?_) (fun c_53 => ?_)
                · exfalso; omega
                · refine lv_iconst (v := nI 1) hx hb dL_house_282 (by decide) ?_
                  refine lv_goto (tgt := 287) hx hb dL_house_283 (by decide) ?_
                  refine lv_istore (lv' := [(6, .int (nI 1)), (12, .int (nI (3 + (y % 4)))), (11, .int (nI z)), (10, .int (nI (x % 20))), (9, .int (nI y)), (8, .int (nI x)), (0, .ref b9), (1, .int (nI at9)), (2, .ref (a 0)), (3, .ref qc), (4, .ref qf), (5, .ref qu), (7, .int (nI j))]) hx hb dL_house_287 hl (by decide) rfl (fun ls hl => ?_)
                  refine lv_goto (tgt := 563) hx hb dL_house_289 (by decide) ?_
                  refine W.widen (k := 40 + 1802 * (j + 1) + 1296 * (j / 10)) (n := 24069 + 18012 * (j + 1) + 12896 * (j / 10)) (by omega) (by omega) ?_
                  exact hjoin563 y _ _ _ _ _ hy0 (hJ9) _ _ hP hD hS _ (lv_sub hl [6, 7, 8, 9, 10, 11, 0, 12, 4] rfl)
        · refine lv_iconst (v := nI 0) hx hb dL_house_78 (by decide) ?_
          refine lv_goto (tgt := 87) hx hb dL_house_79 (by decide) ?_
          refine lv_istore (lv' := [(10, .int (nI 0)), (9, .int (nI y)), (8, .int (nI x)), (0, .ref b9), (1, .int (nI at9)), (2, .ref (a 0)), (3, .ref qc), (4, .ref qf), (5, .ref qu), (6, .int (nI 1)), (7, .int (nI j))]) hx hb dL_house_87 hl (by decide) rfl (fun ls hl => ?_)
          refine lv_iload hx hb dL_house_89 (lv_at hl 2 rfl) ?_
          refine lv_bipush (v := nI 20) hx hb dL_house_91 (by decide) ?_
          refine z_idiv hx hb (by omega) (by omega) (by omega) dL_house_93 ?_
          refine lv_istore (lv' := [(11, .int (nI (x / 20))), (10, .int (nI 0)), (9, .int (nI y)), (8, .int (nI x)), (0, .ref b9), (1, .int (nI at9)), (2, .ref (a 0)), (3, .ref qc), (4, .ref qf), (5, .ref qu), (6, .int (nI 1)), (7, .int (nI j))]) hx hb dL_house_94 hl (by decide) rfl (fun ls hl => ?_)
          obtain ⟨z, hzd⟩ : ∃ z, z = x / 20 := ⟨_, rfl⟩
          rw [← hzd] at hl
          have hz0 : z < 1073741824 := by omega
          refine lv_iload hx hb dL_house_96 (lv_at hl 1 rfl) ?_
          refine lv_if_ne hx hb dL_house_98 (tgt := 292) (by decide) (fun q => absurd (by decide) q) (fun _ => ?_)
          refine lv_aload_n hx hb dL_house_101 rfl (lv_at hl 7 rfl) ?_
          refine lv_iconst (v := nI 0) hx hb dL_house_102 (by decide) ?_
          refine z_iald (G := G) (v := (nI (s_np s5))) hx hb hK hP 0 rfl (by omega) (hc0) dL_house_103 ?_
          refine lv_bipush (v := nI 8) hx hb dL_house_104 (by decide) ?_
          refine z_icmp_ge hx hb (by omega) (by omega) dL_house_106 (tgt := 292) (by decide) (fun c_54 => ?_) (fun c_54 => ?_)
          · exfalso; omega
          · refine lv_iconst (v := nI 3) hx hb dL_house_109 (by decide) ?_
            refine lv_iload hx hb dL_house_110 (lv_at hl 2 rfl) ?_
            refine lv_iconst (v := nI 4) hx hb dL_house_112 (by decide) ?_
            refine z_irem hx hb (by omega) (by omega) (by omega) dL_house_113 ?_
            refine z_iadd hx hb dL_house_114 ?_
            refine lv_istore (lv' := [(12, .int (nI (3 + (y % 4)))), (11, .int (nI z)), (10, .int (nI 0)), (9, .int (nI y)), (8, .int (nI x)), (0, .ref b9), (1, .int (nI at9)), (2, .ref (a 0)), (3, .ref qc), (4, .ref qf), (5, .ref qu), (6, .int (nI 1)), (7, .int (nI j))]) hx hb dL_house_115 hl (by decide) rfl (fun ls hl => ?_)
            refine lv_aload hx hb dL_house_117 (lv_at hl 10 rfl) ?_
            refine lv_bipush (v := nI 6) hx hb dL_house_119 (by decide) ?_
            refine lv_aload_n hx hb dL_house_121 rfl (lv_at hl 8 rfl) ?_
            refine lv_iconst (v := nI 0) hx hb dL_house_122 (by decide) ?_
            refine z_iald (G := G) (v := (nI (s_np s5))) hx hb hK hP 0 rfl (by omega) (hc0) dL_house_123 ?_
            refine z_imul hx hb dL_house_124 ?_
            refine lv_aload_n hx hb dL_house_125 rfl (lv_at hl 8 rfl) ?_
            refine lv_iconst (v := nI 1) hx hb dL_house_126 (by decide) ?_
            refine z_iald (G := G) (v := (nI (s_T s5))) hx hb hK hP 0 rfl (by omega) (hc1) dL_house_127 ?_
            refine z_iast (G := G) hx hb hK hP hD hS 2 rfl (by omega) dL_house_128 (fun H locs hP hD hS => ?_)
            have hP : va_P G vwCl ([zI cy qc 3 cc, zI cy qf 8 ff, zI cy qu 48 (upd uu (6 * (s_np s5)) (nI (s_T s5)))] ++ (zHs cy a s5)) H := hP
            have hD : va_D A ([zI cy qc 3 cc, zI cy qf 8 ff, zI cy qu 48 (upd uu (6 * (s_np s5)) (nI (s_T s5)))] ++ (zHs cy a s5)) := hD
            refine lv_aload hx hb dL_house_129 (lv_at hl 10 rfl) ?_
            refine lv_bipush (v := nI 6) hx hb dL_house_131 (by decide) ?_
            refine lv_aload_n hx hb dL_house_133 rfl (lv_at hl 8 rfl) ?_
            refine lv_iconst (v := nI 0) hx hb dL_house_134 (by decide) ?_
            refine z_iald (G := G) (v := (nI (s_np s5))) hx hb hK hP 0 rfl (by omega) (hc0) dL_house_135 ?_
            refine z_imul hx hb dL_house_136 ?_
            refine lv_iconst (v := nI 1) hx hb dL_house_137 (by decide) ?_
            refine z_iadd hx hb dL_house_138 ?_
            refine lv_iload hx hb dL_house_139 (lv_at hl 3 rfl) ?_
            refine lv_iconst (v := nI 4) hx hb dL_house_141 (by decide) ?_
            refine z_idiv hx hb (by omega) (by omega) (by omega) dL_house_142 ?_
            refine lv_sipush (v := nI 1000) hx hb dL_house_143 (by decide) ?_
            refine z_irem hx hb (by omega) (by omega) (by omega) dL_house_146 ?_
            refine z_iast (G := G) hx hb hK hP hD hS 2 rfl (by omega) dL_house_147 (fun H locs hP hD hS => ?_)
            have hP : va_P G vwCl ([zI cy qc 3 cc, zI cy qf 8 ff, zI cy qu 48 (upd (upd uu (6 * (s_np s5)) (nI (s_T s5))) ((6 * (s_np s5)) + 1) (nI ((y / 4) % 1000)))] ++ (zHs cy a s5)) H := hP
            have hD : va_D A ([zI cy qc 3 cc, zI cy qf 8 ff, zI cy qu 48 (upd (upd uu (6 * (s_np s5)) (nI (s_T s5))) ((6 * (s_np s5)) + 1) (nI ((y / 4) % 1000)))] ++ (zHs cy a s5)) := hD
            refine lv_aload hx hb dL_house_148 (lv_at hl 10 rfl) ?_
            refine lv_bipush (v := nI 6) hx hb dL_house_150 (by decide) ?_
            refine lv_aload_n hx hb dL_house_152 rfl (lv_at hl 8 rfl) ?_
            refine lv_iconst (v := nI 0) hx hb dL_house_153 (by decide) ?_
            refine z_iald (G := G) (v := (nI (s_np s5))) hx hb hK hP 0 rfl (by omega) (hc0) dL_house_154 ?_
            refine z_imul hx hb dL_house_155 ?_
            refine lv_iconst (v := nI 2) hx hb dL_house_156 (by decide) ?_
            refine z_iadd hx hb dL_house_157 ?_
            refine lv_iload hx hb dL_house_158 (lv_at hl 0 rfl) ?_
            refine z_iast (G := G) hx hb hK hP hD hS 2 rfl (by omega) dL_house_160 (fun H locs hP hD hS => ?_)
            have hP : va_P G vwCl ([zI cy qc 3 cc, zI cy qf 8 ff, zI cy qu 48 (upd (upd (upd uu (6 * (s_np s5)) (nI (s_T s5))) ((6 * (s_np s5)) + 1) (nI ((y / 4) % 1000))) ((6 * (s_np s5)) + 2) (nI (3 + (y % 4))))] ++ (zHs cy a s5)) H := hP
            have hD : va_D A ([zI cy qc 3 cc, zI cy qf 8 ff, zI cy qu 48 (upd (upd (upd uu (6 * (s_np s5)) (nI (s_T s5))) ((6 * (s_np s5)) + 1) (nI ((y / 4) % 1000))) ((6 * (s_np s5)) + 2) (nI (3 + (y % 4))))] ++ (zHs cy a s5)) := hD
            refine lv_aload hx hb dL_house_161 (lv_at hl 10 rfl) ?_
            refine lv_bipush (v := nI 6) hx hb dL_house_163 (by decide) ?_
            refine lv_aload_n hx hb dL_house_165 rfl (lv_at hl 8 rfl) ?_
            refine lv_iconst (v := nI 0) hx hb dL_house_166 (by decide) ?_
            refine z_iald (G := G) (v := (nI (s_np s5))) hx hb hK hP 0 rfl (by omega) (hc0) dL_house_167 ?_
            refine z_imul hx hb dL_house_168 ?_
            refine lv_iconst (v := nI 3) hx hb dL_house_169 (by decide) ?_
            refine z_iadd hx hb dL_house_170 ?_
            refine lv_iconst (v := nI 1) hx hb dL_house_171 (by decide) ?_
            refine lv_iload hx hb dL_house_172 (lv_at hl 3 rfl) ?_
            refine lv_sipush (v := nI 4000) hx hb dL_house_174 (by decide) ?_
            refine z_idiv hx hb (by omega) (by omega) (by omega) dL_house_177 ?_
            refine lv_bipush (v := nI 10) hx hb dL_house_178 (by decide) ?_
            refine z_irem hx hb (by omega) (by omega) (by omega) dL_house_180 ?_
            refine z_iadd hx hb dL_house_181 ?_
            refine z_iast (G := G) hx hb hK hP hD hS 2 rfl (by omega) dL_house_182 (fun H locs hP hD hS => ?_)
            have hP : va_P G vwCl ([zI cy qc 3 cc, zI cy qf 8 ff, zI cy qu 48 (upd (upd (upd (upd uu (6 * (s_np s5)) (nI (s_T s5))) ((6 * (s_np s5)) + 1) (nI ((y / 4) % 1000))) ((6 * (s_np s5)) + 2) (nI (3 + (y % 4)))) ((6 * (s_np s5)) + 3) (nI (1 + ((y / 4000) % 10))))] ++ (zHs cy a s5)) H := hP
            have hD : va_D A ([zI cy qc 3 cc, zI cy qf 8 ff, zI cy qu 48 (upd (upd (upd (upd uu (6 * (s_np s5)) (nI (s_T s5))) ((6 * (s_np s5)) + 1) (nI ((y / 4) % 1000))) ((6 * (s_np s5)) + 2) (nI (3 + (y % 4)))) ((6 * (s_np s5)) + 3) (nI (1 + ((y / 4000) % 10))))] ++ (zHs cy a s5)) := hD
            refine lv_aload hx hb dL_house_183 (lv_at hl 10 rfl) ?_
            refine lv_bipush (v := nI 6) hx hb dL_house_185 (by decide) ?_
            refine lv_aload_n hx hb dL_house_187 rfl (lv_at hl 8 rfl) ?_
            refine lv_iconst (v := nI 0) hx hb dL_house_188 (by decide) ?_
            refine z_iald (G := G) (v := (nI (s_np s5))) hx hb hK hP 0 rfl (by omega) (hc0) dL_house_189 ?_
            refine z_imul hx hb dL_house_190 ?_
            refine lv_iconst (v := nI 4) hx hb dL_house_191 (by decide) ?_
            refine z_iadd hx hb dL_house_192 ?_
            refine lv_iconst (v := nI 1) hx hb dL_house_193 (by decide) ?_
            refine z_iast (G := G) hx hb hK hP hD hS 2 rfl (by omega) dL_house_194 (fun H locs hP hD hS => ?_)
            have hP : va_P G vwCl ([zI cy qc 3 cc, zI cy qf 8 ff, zI cy qu 48 (upd (upd (upd (upd (upd uu (6 * (s_np s5)) (nI (s_T s5))) ((6 * (s_np s5)) + 1) (nI ((y / 4) % 1000))) ((6 * (s_np s5)) + 2) (nI (3 + (y % 4)))) ((6 * (s_np s5)) + 3) (nI (1 + ((y / 4000) % 10)))) ((6 * (s_np s5)) + 4) (nI 1))] ++ (zHs cy a s5)) H := hP
            have hD : va_D A ([zI cy qc 3 cc, zI cy qf 8 ff, zI cy qu 48 (upd (upd (upd (upd (upd uu (6 * (s_np s5)) (nI (s_T s5))) ((6 * (s_np s5)) + 1) (nI ((y / 4) % 1000))) ((6 * (s_np s5)) + 2) (nI (3 + (y % 4)))) ((6 * (s_np s5)) + 3) (nI (1 + ((y / 4000) % 10)))) ((6 * (s_np s5)) + 4) (nI 1))] ++ (zHs cy a s5)) := hD
            refine lv_aload hx hb dL_house_195 (lv_at hl 10 rfl) ?_
            refine lv_bipush (v := nI 6) hx hb dL_house_197 (by decide) ?_
            refine lv_aload_n hx hb dL_house_199 rfl (lv_at hl 8 rfl) ?_
            refine lv_iconst (v := nI 0) hx hb dL_house_200 (by decide) ?_
            refine z_iald (G := G) (v := (nI (s_np s5))) hx hb hK hP 0 rfl (by omega) (hc0) dL_house_201 ?_
            refine z_imul hx hb dL_house_202 ?_
            refine lv_iconst (v := nI 5) hx hb dL_house_203 (by decide) ?_
            refine z_iadd hx hb dL_house_204 ?_
            refine lv_iconst (v := (-1)) hx hb dL_house_205 (by decide) ?_
            refine z_iast (G := G) hx hb hK hP hD hS 2 rfl (by omega) dL_house_206 (fun H locs hP hD hS => ?_)
            have hP : va_P G vwCl ([zI cy qc 3 cc, zI cy qf 8 ff, zI cy qu 48 (upd (upd (upd (upd (upd (upd uu (6 * (s_np s5)) (nI (s_T s5))) ((6 * (s_np s5)) + 1) (nI ((y / 4) % 1000))) ((6 * (s_np s5)) + 2) (nI (3 + (y % 4)))) ((6 * (s_np s5)) + 3) (nI (1 + ((y / 4000) % 10)))) ((6 * (s_np s5)) + 4) (nI 1)) ((6 * (s_np s5)) + 5) (-1))] ++ (zHs cy a s5)) H := hP
            have hD : va_D A ([zI cy qc 3 cc, zI cy qf 8 ff, zI cy qu 48 (upd (upd (upd (upd (upd (upd uu (6 * (s_np s5)) (nI (s_T s5))) ((6 * (s_np s5)) + 1) (nI ((y / 4) % 1000))) ((6 * (s_np s5)) + 2) (nI (3 + (y % 4)))) ((6 * (s_np s5)) + 3) (nI (1 + ((y / 4000) % 10)))) ((6 * (s_np s5)) + 4) (nI 1)) ((6 * (s_np s5)) + 5) (-1))] ++ (zHs cy a s5)) := hD
            refine lv_aload hx hb dL_house_207 (lv_at hl 9 rfl) ?_
            refine lv_aload_n hx hb dL_house_209 rfl (lv_at hl 8 rfl) ?_
            refine lv_iconst (v := nI 0) hx hb dL_house_210 (by decide) ?_
            refine z_iald (G := G) (v := (nI (s_np s5))) hx hb hK hP 0 rfl (by omega) (hc0) dL_house_211 ?_
            refine lv_aload_n hx hb dL_house_212 rfl (lv_at hl 8 rfl) ?_
            refine lv_iconst (v := nI 1) hx hb dL_house_213 (by decide) ?_
            refine z_iald (G := G) (v := (nI (s_T s5))) hx hb hK hP 0 rfl (by omega) (hc1) dL_house_214 ?_
            refine z_iast (G := G) hx hb hK hP hD hS 1 rfl (by omega) dL_house_215 (fun H locs hP hD hS => ?_)
            have hP : va_P G vwCl ([zI cy qc 3 cc, zI cy qf 8 (upd ff (s_np s5) (nI (s_T s5))), zI cy qu 48 (upd (upd (upd (upd (upd (upd uu (6 * (s_np s5)) (nI (s_T s5))) ((6 * (s_np s5)) + 1) (nI ((y / 4) % 1000))) ((6 * (s_np s5)) + 2) (nI (3 + (y % 4)))) ((6 * (s_np s5)) + 3) (nI (1 + ((y / 4000) % 10)))) ((6 * (s_np s5)) + 4) (nI 1)) ((6 * (s_np s5)) + 5) (-1))] ++ (zHs cy a s5)) H := hP
            have hD : va_D A ([zI cy qc 3 cc, zI cy qf 8 (upd ff (s_np s5) (nI (s_T s5))), zI cy qu 48 (upd (upd (upd (upd (upd (upd uu (6 * (s_np s5)) (nI (s_T s5))) ((6 * (s_np s5)) + 1) (nI ((y / 4) % 1000))) ((6 * (s_np s5)) + 2) (nI (3 + (y % 4)))) ((6 * (s_np s5)) + 3) (nI (1 + ((y / 4000) % 10)))) ((6 * (s_np s5)) + 4) (nI 1)) ((6 * (s_np s5)) + 5) (-1))] ++ (zHs cy a s5)) := hD
            refine lv_aload_n hx hb dL_house_216 rfl (lv_at hl 8 rfl) ?_
            refine lv_iconst (v := nI 0) hx hb dL_house_217 (by decide) ?_
            refine lv_dup2_11 hx hb dL_house_218 rfl rfl ?_
            refine z_iald (G := G) (v := (nI (s_np s5))) hx hb hK hP 0 rfl (by omega) (hc0) dL_house_219 ?_
            refine lv_iconst (v := nI 1) hx hb dL_house_220 (by decide) ?_
            refine z_iadd hx hb dL_house_221 ?_
            refine z_iast (G := G) hx hb hK hP hD hS 0 rfl (by omega) dL_house_222 (fun H locs hP hD hS => ?_)
            have hP : va_P G vwCl ([zI cy qc 3 (upd cc 0 (nI ((s_np s5) + 1))), zI cy qf 8 (upd ff (s_np s5) (nI (s_T s5))), zI cy qu 48 (upd (upd (upd (upd (upd (upd uu (6 * (s_np s5)) (nI (s_T s5))) ((6 * (s_np s5)) + 1) (nI ((y / 4) % 1000))) ((6 * (s_np s5)) + 2) (nI (3 + (y % 4)))) ((6 * (s_np s5)) + 3) (nI (1 + ((y / 4000) % 10)))) ((6 * (s_np s5)) + 4) (nI 1)) ((6 * (s_np s5)) + 5) (-1))] ++ (zHs cy a s5)) H := hP
            have hD : va_D A ([zI cy qc 3 (upd cc 0 (nI ((s_np s5) + 1))), zI cy qf 8 (upd ff (s_np s5) (nI (s_T s5))), zI cy qu 48 (upd (upd (upd (upd (upd (upd uu (6 * (s_np s5)) (nI (s_T s5))) ((6 * (s_np s5)) + 1) (nI ((y / 4) % 1000))) ((6 * (s_np s5)) + 2) (nI (3 + (y % 4)))) ((6 * (s_np s5)) + 3) (nI (1 + ((y / 4000) % 10)))) ((6 * (s_np s5)) + 4) (nI 1)) ((6 * (s_np s5)) + 5) (-1))] ++ (zHs cy a s5)) := hD
            have hsh9 : y / 4 % 1000 < 10 ^ (3 + y % 4) := Nat.lt_of_lt_of_le (Nat.mod_lt _ (by decide)) (Nat.le_trans (by decide : 1000 ≤ 10 ^ 3) (Nat.pow_le_pow_right (by decide) (by omega)))
            refine lv_aload_n hx hb dL_house_223 rfl (lv_at hl 7 rfl) ?_
            refine lv_iload hx hb dL_house_224 (lv_at hl 1 rfl) ?_
            refine lv_iconst (v := nI 4) hx hb dL_house_226 (by decide) ?_
            refine z_irem hx hb (by omega) (by omega) (by omega) dL_house_227 ?_
            refine lv_iload hx hb dL_house_228 (lv_at hl 1 rfl) ?_
            refine lv_iconst (v := nI 4) hx hb dL_house_230 (by decide) ?_
            refine z_idiv hx hb (by omega) (by omega) (by omega) dL_house_231 ?_
            refine lv_iconst (v := nI 3) hx hb dL_house_232 (by decide) ?_
            refine z_irem hx hb (by omega) (by omega) (by omega) dL_house_233 ?_
            refine lv_iload hx hb dL_house_234 (lv_at hl 0 rfl) ?_
            refine lv_iconst (v := nI 1) hx hb dL_house_236 (by decide) ?_
            refine lv_iload hx hb dL_house_237 (lv_at hl 3 rfl) ?_
            refine lv_sipush (v := nI 4000) hx hb dL_house_239 (by decide) ?_
            refine z_idiv hx hb (by omega) (by omega) (by omega) dL_house_242 ?_
            refine lv_bipush (v := nI 10) hx hb dL_house_243 (by decide) ?_
            refine z_irem hx hb (by omega) (by omega) (by omega) dL_house_245 ?_
            refine z_iadd hx hb dL_house_246 ?_
            refine lv_iload hx hb dL_house_247 (lv_at hl 3 rfl) ?_
            refine lv_iconst (v := nI 4) hx hb dL_house_249 (by decide) ?_
            refine z_idiv hx hb (by omega) (by omega) (by omega) dL_house_250 ?_
            refine lv_sipush (v := nI 1000) hx hb dL_house_251 (by decide) ?_
            refine z_irem hx hb (by omega) (by omega) (by omega) dL_house_254 ?_
            have hP5 : va_P G vwCl ((zHs cy a s5) ++ [zI cy qc 3 (upd cc 0 (nI ((s_np s5) + 1))), zI cy qf 8 (upd ff (s_np s5) (nI (s_T s5))), zI cy qu 48 (upd (upd (upd (upd (upd (upd uu (6 * (s_np s5)) (nI (s_T s5))) ((6 * (s_np s5)) + 1) (nI ((y / 4) % 1000))) ((6 * (s_np s5)) + 2) (nI (3 + (y % 4)))) ((6 * (s_np s5)) + 3) (nI (1 + ((y / 4000) % 10)))) ((6 * (s_np s5)) + 4) (nI 1)) ((6 * (s_np s5)) + 5) (-1))]) _ := z_P_perm (z_permT (ww := [zI cy qc 3 (upd cc 0 (nI ((s_np s5) + 1))), zI cy qf 8 (upd ff (s_np s5) (nI (s_T s5))), zI cy qu 48 (upd (upd (upd (upd (upd (upd uu (6 * (s_np s5)) (nI (s_T s5))) ((6 * (s_np s5)) + 1) (nI ((y / 4) % 1000))) ((6 * (s_np s5)) + 2) (nI (3 + (y % 4)))) ((6 * (s_np s5)) + 3) (nI (1 + ((y / 4000) % 10)))) ((6 * (s_np s5)) + 4) (nI 1)) ((6 * (s_np s5)) + 5) (-1))]) (wu := []) (wr := [zI cy qc 3 (upd cc 0 (nI ((s_np s5) + 1))), zI cy qf 8 (upd ff (s_np s5) (nI (s_T s5))), zI cy qu 48 (upd (upd (upd (upd (upd (upd uu (6 * (s_np s5)) (nI (s_T s5))) ((6 * (s_np s5)) + 1) (nI ((y / 4) % 1000))) ((6 * (s_np s5)) + 2) (nI (3 + (y % 4)))) ((6 * (s_np s5)) + 3) (nI (1 + ((y / 4000) % 10)))) ((6 * (s_np s5)) + 4) (nI 1)) ((6 * (s_np s5)) + 5) (-1))]) (tl := (zHs cy a s5)) (n := 3) [] [0, 1, 2] rfl rfl rfl (by decide)) hP
            have hD5 : va_D A ((zHs cy a s5) ++ [zI cy qc 3 (upd cc 0 (nI ((s_np s5) + 1))), zI cy qf 8 (upd ff (s_np s5) (nI (s_T s5))), zI cy qu 48 (upd (upd (upd (upd (upd (upd uu (6 * (s_np s5)) (nI (s_T s5))) ((6 * (s_np s5)) + 1) (nI ((y / 4) % 1000))) ((6 * (s_np s5)) + 2) (nI (3 + (y % 4)))) ((6 * (s_np s5)) + 3) (nI (1 + ((y / 4000) % 10)))) ((6 * (s_np s5)) + 4) (nI 1)) ((6 * (s_np s5)) + 5) (-1))]) := z_D_perm (z_permT (ww := [zI cy qc 3 (upd cc 0 (nI ((s_np s5) + 1))), zI cy qf 8 (upd ff (s_np s5) (nI (s_T s5))), zI cy qu 48 (upd (upd (upd (upd (upd (upd uu (6 * (s_np s5)) (nI (s_T s5))) ((6 * (s_np s5)) + 1) (nI ((y / 4) % 1000))) ((6 * (s_np s5)) + 2) (nI (3 + (y % 4)))) ((6 * (s_np s5)) + 3) (nI (1 + ((y / 4000) % 10)))) ((6 * (s_np s5)) + 4) (nI 1)) ((6 * (s_np s5)) + 5) (-1))]) (wu := []) (wr := [zI cy qc 3 (upd cc 0 (nI ((s_np s5) + 1))), zI cy qf 8 (upd ff (s_np s5) (nI (s_T s5))), zI cy qu 48 (upd (upd (upd (upd (upd (upd uu (6 * (s_np s5)) (nI (s_T s5))) ((6 * (s_np s5)) + 1) (nI ((y / 4) % 1000))) ((6 * (s_np s5)) + 2) (nI (3 + (y % 4)))) ((6 * (s_np s5)) + 3) (nI (1 + ((y / 4000) % 10)))) ((6 * (s_np s5)) + 4) (nI 1)) ((6 * (s_np s5)) + 5) (-1))]) (tl := (zHs cy a s5)) (n := 3) [] [0, 1, 2] rfl rfl rfl (by decide)) hD
            refine z_ciP (wc := (zHs cy a s5)) (wr := [zI cy qc 3 (upd cc 0 (nI ((s_np s5) + 1))), zI cy qf 8 (upd ff (s_np s5) (nI (s_T s5))), zI cy qu 48 (upd (upd (upd (upd (upd (upd uu (6 * (s_np s5)) (nI (s_T s5))) ((6 * (s_np s5)) + 1) (nI ((y / 4) % 1000))) ((6 * (s_np s5)) + 2) (nI (3 + (y % 4)))) ((6 * (s_np s5)) + 3) (nI (1 + ((y / 4000) % 10)))) ((6 * (s_np s5)) + 4) (nI 1)) ((6 * (s_np s5)) + 5) (-1))]) (va_runV (As := [.int (nI (z % 4)), .int (nI ((z / 4) % 3)), .int (nI (3 + (y % 4))), .int (nI (1 + ((y / 4000) % 10))), .int (nI ((y / 4) % 1000))]) (rest := []) ⟨hx, hb, hml, hown, hts⟩ (h_c_point l hl9 G cy wd fo _ _ a s5 (hO.1) (z % 4) ((z / 4) % 3) (3 + (y % 4)) (1 + ((y / 4000) % 10)) (by omega) (by omega) (by omega) (by omega) (by omega) (by omega) ((y / 4) % 1000) (hsh9) (by omega)) (cwV 5 hts gL_house_X10_point rfl rfl rfl (by decide +kernel) ⟨Nat.le_of_ble_eq_true rfl, Nat.le_of_ble_eq_true rfl⟩) (z_pVHP (ci := 11) hK hP5 hD5 hS hN hAN hWd hE rfl rfl 0 rfl) rfl rfl hl.1 rfl (lv_room (Nat.le_of_ble_eq_true rfl)) dL_house_255 ⟨by show (40 + 1802 * j + 1296 * (j / 10)) + 15 ≤ 175180; omega, by show (24069 + 18012 * j + 12896 * (j / 10)) + 5035 ≤ 1774109; omega⟩) hP5 hD5 hS hA (fun r_55 u H locs hr_55 hQ hD hS hz => ?_)
            obtain ⟨s9_56, rfl⟩ : ∃ z, z = u := ⟨_, rfl⟩
            try dsimp only at hr_55
            have hP : va_P G vwCl ([zI cy qc 3 (upd cc 0 (nI ((s_np s5) + 1))), zI cy qf 8 (upd ff (s_np s5) (nI (s_T s5))), zI cy qu 48 (upd (upd (upd (upd (upd (upd uu (6 * (s_np s5)) (nI (s_T s5))) ((6 * (s_np s5)) + 1) (nI ((y / 4) % 1000))) ((6 * (s_np s5)) + 2) (nI (3 + (y % 4)))) ((6 * (s_np s5)) + 3) (nI (1 + ((y / 4000) % 10)))) ((6 * (s_np s5)) + 4) (nI 1)) ((6 * (s_np s5)) + 5) (-1))] ++ (zHs cy a s9_56)) H := z_P_perm (List.Perm.symm (z_permT (ww := [zI cy qc 3 (upd cc 0 (nI ((s_np s5) + 1))), zI cy qf 8 (upd ff (s_np s5) (nI (s_T s5))), zI cy qu 48 (upd (upd (upd (upd (upd (upd uu (6 * (s_np s5)) (nI (s_T s5))) ((6 * (s_np s5)) + 1) (nI ((y / 4) % 1000))) ((6 * (s_np s5)) + 2) (nI (3 + (y % 4)))) ((6 * (s_np s5)) + 3) (nI (1 + ((y / 4000) % 10)))) ((6 * (s_np s5)) + 4) (nI 1)) ((6 * (s_np s5)) + 5) (-1))]) (wu := []) (wr := [zI cy qc 3 (upd cc 0 (nI ((s_np s5) + 1))), zI cy qf 8 (upd ff (s_np s5) (nI (s_T s5))), zI cy qu 48 (upd (upd (upd (upd (upd (upd uu (6 * (s_np s5)) (nI (s_T s5))) ((6 * (s_np s5)) + 1) (nI ((y / 4) % 1000))) ((6 * (s_np s5)) + 2) (nI (3 + (y % 4)))) ((6 * (s_np s5)) + 3) (nI (1 + ((y / 4000) % 10)))) ((6 * (s_np s5)) + 4) (nI 1)) ((6 * (s_np s5)) + 5) (-1))]) (tl := (zHs cy a s9_56)) (n := 3) [] [0, 1, 2] rfl rfl rfl (by decide))) hQ
            have hD : va_D A ([zI cy qc 3 (upd cc 0 (nI ((s_np s5) + 1))), zI cy qf 8 (upd ff (s_np s5) (nI (s_T s5))), zI cy qu 48 (upd (upd (upd (upd (upd (upd uu (6 * (s_np s5)) (nI (s_T s5))) ((6 * (s_np s5)) + 1) (nI ((y / 4) % 1000))) ((6 * (s_np s5)) + 2) (nI (3 + (y % 4)))) ((6 * (s_np s5)) + 3) (nI (1 + ((y / 4000) % 10)))) ((6 * (s_np s5)) + 4) (nI 1)) ((6 * (s_np s5)) + 5) (-1))] ++ (zHs cy a s9_56)) := z_D_perm (List.Perm.symm (z_permT (ww := [zI cy qc 3 (upd cc 0 (nI ((s_np s5) + 1))), zI cy qf 8 (upd ff (s_np s5) (nI (s_T s5))), zI cy qu 48 (upd (upd (upd (upd (upd (upd uu (6 * (s_np s5)) (nI (s_T s5))) ((6 * (s_np s5)) + 1) (nI ((y / 4) % 1000))) ((6 * (s_np s5)) + 2) (nI (3 + (y % 4)))) ((6 * (s_np s5)) + 3) (nI (1 + ((y / 4000) % 10)))) ((6 * (s_np s5)) + 4) (nI 1)) ((6 * (s_np s5)) + 5) (-1))]) (wu := []) (wr := [zI cy qc 3 (upd cc 0 (nI ((s_np s5) + 1))), zI cy qf 8 (upd ff (s_np s5) (nI (s_T s5))), zI cy qu 48 (upd (upd (upd (upd (upd (upd uu (6 * (s_np s5)) (nI (s_T s5))) ((6 * (s_np s5)) + 1) (nI ((y / 4) % 1000))) ((6 * (s_np s5)) + 2) (nI (3 + (y % 4)))) ((6 * (s_np s5)) + 3) (nI (1 + ((y / 4000) % 10)))) ((6 * (s_np s5)) + 4) (nI 1)) ((6 * (s_np s5)) + 5) (-1))]) (tl := (zHs cy a s9_56)) (n := 3) [] [0, 1, 2] rfl rfl rfl (by decide))) hD
            clear hQ hP5 hD5
            obtain ⟨hr1, u9, hs9⟩ := hr_55
            obtain rfl : r_55 = nI (s_np s5) := hr1
            have hJ9 := zJ_point (kd := z / 4 % 3) (dg := 3 + y % 4) (mv := 1 + y / 4000 % 10) (sh := y / 4 % 1000) (sp := z % 4) hJ (by omega) (by omega) (by omega) (by omega) (by omega) (by omega) hsh9 (by omega) hs9
            have hnp9 : s_np s9_56 = s_np s5 + 1 := by rw [hs9]
            have hk9 : s_np s5 + 1 - 1 < s_np s9_56 := by omega
            have hpc9 : q_pc (s_P s9_56 (s_np s5 + 1 - 1)) = 1000 := by rw [hs9, Nat.add_sub_cancel]; show q_pc (zUp (s_P s5) (s_np s5) _ (s_np s5)) = 1000; rw [zUp_at]
            refine lv_aload_n hx hb dL_house_258 rfl (lv_at hl 8 rfl) ?_
            refine lv_iconst (v := nI 0) hx hb dL_house_259 (by decide) ?_
            refine z_iald (G := G) (v := (nI (s_np s5 + 1))) hx hb hK hP 0 rfl (by omega) (z_updk) dL_house_260 ?_
            refine lv_iconst (v := nI 1) hx hb dL_house_261 (by decide) ?_
            refine z_isub hx hb (by omega) dL_house_262 ?_
            refine z_icmp_ne hx hb (by omega) (by omega) dL_house_263 (tgt := 286) (by decide) (fun c_57 => ?_) (fun c_57 => ?_)
            · exfalso; omega
            · refine lv_aload_n hx hb dL_house_266 rfl (lv_at hl 7 rfl) ?_
              refine lv_aload_n hx hb dL_house_267 rfl (lv_at hl 8 rfl) ?_
              refine lv_iconst (v := nI 0) hx hb dL_house_268 (by decide) ?_
              refine z_iald (G := G) (v := (nI (s_np s5 + 1))) hx hb hK hP 0 rfl (by omega) (z_updk) dL_house_269 ?_
              refine lv_iconst (v := nI 1) hx hb dL_house_270 (by decide) ?_
              refine z_isub hx hb (by omega) dL_house_271 ?_
              refine lv_iconst (v := nI 0) hx hb dL_house_272 (by decide) ?_
              have hP5 : va_P G vwCl ((zHs cy a s9_56) ++ [zI cy qc 3 (upd cc 0 (nI ((s_np s5) + 1))), zI cy qf 8 (upd ff (s_np s5) (nI (s_T s5))), zI cy qu 48 (upd (upd (upd (upd (upd (upd uu (6 * (s_np s5)) (nI (s_T s5))) ((6 * (s_np s5)) + 1) (nI ((y / 4) % 1000))) ((6 * (s_np s5)) + 2) (nI (3 + (y % 4)))) ((6 * (s_np s5)) + 3) (nI (1 + ((y / 4000) % 10)))) ((6 * (s_np s5)) + 4) (nI 1)) ((6 * (s_np s5)) + 5) (-1))]) _ := z_P_perm (z_permT (ww := [zI cy qc 3 (upd cc 0 (nI ((s_np s5) + 1))), zI cy qf 8 (upd ff (s_np s5) (nI (s_T s5))), zI cy qu 48 (upd (upd (upd (upd (upd (upd uu (6 * (s_np s5)) (nI (s_T s5))) ((6 * (s_np s5)) + 1) (nI ((y / 4) % 1000))) ((6 * (s_np s5)) + 2) (nI (3 + (y % 4)))) ((6 * (s_np s5)) + 3) (nI (1 + ((y / 4000) % 10)))) ((6 * (s_np s5)) + 4) (nI 1)) ((6 * (s_np s5)) + 5) (-1))]) (wu := []) (wr := [zI cy qc 3 (upd cc 0 (nI ((s_np s5) + 1))), zI cy qf 8 (upd ff (s_np s5) (nI (s_T s5))), zI cy qu 48 (upd (upd (upd (upd (upd (upd uu (6 * (s_np s5)) (nI (s_T s5))) ((6 * (s_np s5)) + 1) (nI ((y / 4) % 1000))) ((6 * (s_np s5)) + 2) (nI (3 + (y % 4)))) ((6 * (s_np s5)) + 3) (nI (1 + ((y / 4000) % 10)))) ((6 * (s_np s5)) + 4) (nI 1)) ((6 * (s_np s5)) + 5) (-1))]) (tl := (zHs cy a s9_56)) (n := 3) [] [0, 1, 2] rfl rfl rfl (by decide)) hP
              have hD5 : va_D A ((zHs cy a s9_56) ++ [zI cy qc 3 (upd cc 0 (nI ((s_np s5) + 1))), zI cy qf 8 (upd ff (s_np s5) (nI (s_T s5))), zI cy qu 48 (upd (upd (upd (upd (upd (upd uu (6 * (s_np s5)) (nI (s_T s5))) ((6 * (s_np s5)) + 1) (nI ((y / 4) % 1000))) ((6 * (s_np s5)) + 2) (nI (3 + (y % 4)))) ((6 * (s_np s5)) + 3) (nI (1 + ((y / 4000) % 10)))) ((6 * (s_np s5)) + 4) (nI 1)) ((6 * (s_np s5)) + 5) (-1))]) := z_D_perm (z_permT (ww := [zI cy qc 3 (upd cc 0 (nI ((s_np s5) + 1))), zI cy qf 8 (upd ff (s_np s5) (nI (s_T s5))), zI cy qu 48 (upd (upd (upd (upd (upd (upd uu (6 * (s_np s5)) (nI (s_T s5))) ((6 * (s_np s5)) + 1) (nI ((y / 4) % 1000))) ((6 * (s_np s5)) + 2) (nI (3 + (y % 4)))) ((6 * (s_np s5)) + 3) (nI (1 + ((y / 4000) % 10)))) ((6 * (s_np s5)) + 4) (nI 1)) ((6 * (s_np s5)) + 5) (-1))]) (wu := []) (wr := [zI cy qc 3 (upd cc 0 (nI ((s_np s5) + 1))), zI cy qf 8 (upd ff (s_np s5) (nI (s_T s5))), zI cy qu 48 (upd (upd (upd (upd (upd (upd uu (6 * (s_np s5)) (nI (s_T s5))) ((6 * (s_np s5)) + 1) (nI ((y / 4) % 1000))) ((6 * (s_np s5)) + 2) (nI (3 + (y % 4)))) ((6 * (s_np s5)) + 3) (nI (1 + ((y / 4000) % 10)))) ((6 * (s_np s5)) + 4) (nI 1)) ((6 * (s_np s5)) + 5) (-1))]) (tl := (zHs cy a s9_56)) (n := 3) [] [0, 1, 2] rfl rfl rfl (by decide)) hD
              refine z_ciP (wc := (zHs cy a s9_56)) (wr := [zI cy qc 3 (upd cc 0 (nI ((s_np s5) + 1))), zI cy qf 8 (upd ff (s_np s5) (nI (s_T s5))), zI cy qu 48 (upd (upd (upd (upd (upd (upd uu (6 * (s_np s5)) (nI (s_T s5))) ((6 * (s_np s5)) + 1) (nI ((y / 4) % 1000))) ((6 * (s_np s5)) + 2) (nI (3 + (y % 4)))) ((6 * (s_np s5)) + 3) (nI (1 + ((y / 4000) % 10)))) ((6 * (s_np s5)) + 4) (nI 1)) ((6 * (s_np s5)) + 5) (-1))]) (va_runV (As := [.int (nI ((s_np s5 + 1) - 1)), .int (nI 0)]) (rest := []) ⟨hx, hb, hml, hown, hts⟩ (h_c0_of l hl9 G cy wd fo _ _ a s9_56 ((s_np s5 + 1) - 1) (hk9) (by omega) (zOk_pt hJ9.1 hk9) (hJ9.1.1)) (cwV 2 hts gL_house_X10_of rfl rfl rfl (by decide +kernel) ⟨Nat.le_of_ble_eq_true rfl, Nat.le_of_ble_eq_true rfl⟩) (z_pVHP (ci := 11) hK hP5 hD5 hS hN hAN hWd hE rfl rfl 0 rfl) rfl rfl hl.1 rfl (lv_room (Nat.le_of_ble_eq_true rfl)) dL_house_273 ⟨by show (40 + 1802 * j + 1296 * (j / 10) + 15) + 0 ≤ 175180; omega, by show (24069 + 18012 * j + 12896 * (j / 10) + 5035) + 0 ≤ 1774109; omega⟩) hP5 hD5 hS hA (fun r_58 u H locs hr_58 hQ hD hS hz => ?_)
              obtain ⟨s9_59, rfl⟩ : ∃ z, z = u := ⟨_, rfl⟩
              try dsimp only at hr_58
              have hP : va_P G vwCl ([zI cy qc 3 (upd cc 0 (nI ((s_np s5) + 1))), zI cy qf 8 (upd ff (s_np s5) (nI (s_T s5))), zI cy qu 48 (upd (upd (upd (upd (upd (upd uu (6 * (s_np s5)) (nI (s_T s5))) ((6 * (s_np s5)) + 1) (nI ((y / 4) % 1000))) ((6 * (s_np s5)) + 2) (nI (3 + (y % 4)))) ((6 * (s_np s5)) + 3) (nI (1 + ((y / 4000) % 10)))) ((6 * (s_np s5)) + 4) (nI 1)) ((6 * (s_np s5)) + 5) (-1))] ++ (zHs cy a s9_59)) H := z_P_perm (List.Perm.symm (z_permT (ww := [zI cy qc 3 (upd cc 0 (nI ((s_np s5) + 1))), zI cy qf 8 (upd ff (s_np s5) (nI (s_T s5))), zI cy qu 48 (upd (upd (upd (upd (upd (upd uu (6 * (s_np s5)) (nI (s_T s5))) ((6 * (s_np s5)) + 1) (nI ((y / 4) % 1000))) ((6 * (s_np s5)) + 2) (nI (3 + (y % 4)))) ((6 * (s_np s5)) + 3) (nI (1 + ((y / 4000) % 10)))) ((6 * (s_np s5)) + 4) (nI 1)) ((6 * (s_np s5)) + 5) (-1))]) (wu := []) (wr := [zI cy qc 3 (upd cc 0 (nI ((s_np s5) + 1))), zI cy qf 8 (upd ff (s_np s5) (nI (s_T s5))), zI cy qu 48 (upd (upd (upd (upd (upd (upd uu (6 * (s_np s5)) (nI (s_T s5))) ((6 * (s_np s5)) + 1) (nI ((y / 4) % 1000))) ((6 * (s_np s5)) + 2) (nI (3 + (y % 4)))) ((6 * (s_np s5)) + 3) (nI (1 + ((y / 4000) % 10)))) ((6 * (s_np s5)) + 4) (nI 1)) ((6 * (s_np s5)) + 5) (-1))]) (tl := (zHs cy a s9_59)) (n := 3) [] [0, 1, 2] rfl rfl rfl (by decide))) hQ
              have hD : va_D A ([zI cy qc 3 (upd cc 0 (nI ((s_np s5) + 1))), zI cy qf 8 (upd ff (s_np s5) (nI (s_T s5))), zI cy qu 48 (upd (upd (upd (upd (upd (upd uu (6 * (s_np s5)) (nI (s_T s5))) ((6 * (s_np s5)) + 1) (nI ((y / 4) % 1000))) ((6 * (s_np s5)) + 2) (nI (3 + (y % 4)))) ((6 * (s_np s5)) + 3) (nI (1 + ((y / 4000) % 10)))) ((6 * (s_np s5)) + 4) (nI 1)) ((6 * (s_np s5)) + 5) (-1))] ++ (zHs cy a s9_59)) := z_D_perm (List.Perm.symm (z_permT (ww := [zI cy qc 3 (upd cc 0 (nI ((s_np s5) + 1))), zI cy qf 8 (upd ff (s_np s5) (nI (s_T s5))), zI cy qu 48 (upd (upd (upd (upd (upd (upd uu (6 * (s_np s5)) (nI (s_T s5))) ((6 * (s_np s5)) + 1) (nI ((y / 4) % 1000))) ((6 * (s_np s5)) + 2) (nI (3 + (y % 4)))) ((6 * (s_np s5)) + 3) (nI (1 + ((y / 4000) % 10)))) ((6 * (s_np s5)) + 4) (nI 1)) ((6 * (s_np s5)) + 5) (-1))]) (wu := []) (wr := [zI cy qc 3 (upd cc 0 (nI ((s_np s5) + 1))), zI cy qf 8 (upd ff (s_np s5) (nI (s_T s5))), zI cy qu 48 (upd (upd (upd (upd (upd (upd uu (6 * (s_np s5)) (nI (s_T s5))) ((6 * (s_np s5)) + 1) (nI ((y / 4) % 1000))) ((6 * (s_np s5)) + 2) (nI (3 + (y % 4)))) ((6 * (s_np s5)) + 3) (nI (1 + ((y / 4000) % 10)))) ((6 * (s_np s5)) + 4) (nI 1)) ((6 * (s_np s5)) + 5) (-1))]) (tl := (zHs cy a s9_59)) (n := 3) [] [0, 1, 2] rfl rfl rfl (by decide))) hD
              clear hQ hP5 hD5
              rw [hr_58.2] at hP hD
              have hvr_58 : (nI (q_pc (s_P s9_56 ((s_np s5 + 1) - 1)))) = (nI 1000) := by rw [hpc9]
              obtain rfl : r_58 = (nI 1000) := hr_58.1.trans hvr_58
              refine lv_sipush (v := nI 1000) hx hb dL_house_276 (by decide) ?_
              refine z_icmp_ne hx hb (by omega) (by omega) dL_house_279 (tgt := 286) (by decide) (fun c_60 => ?_) (fun c_60 => ?_)
              · exfalso; omega
              · refine lv_iconst (v := nI 1) hx hb dL_house_282 (by decide) ?_
                refine lv_goto (tgt := 287) hx hb dL_house_283 (by decide) ?_
                refine lv_istore (lv' := [(6, .int (nI 1)), (12, .int (nI (3 + (y % 4)))), (11, .int (nI z)), (10, .int (nI 0)), (9, .int (nI y)), (8, .int (nI x)), (0, .ref b9), (1, .int (nI at9)), (2, .ref (a 0)), (3, .ref qc), (4, .ref qf), (5, .ref qu), (7, .int (nI j))]) hx hb dL_house_287 hl (by decide) rfl (fun ls hl => ?_)
                refine lv_goto (tgt := 563) hx hb dL_house_289 (by decide) ?_
                refine W.widen (k := 40 + 1802 * (j + 1) + 1296 * (j / 10)) (n := 24069 + 18012 * (j + 1) + 12896 * (j / 10)) (by omega) (by omega) ?_
                exact hjoin563 y _ _ _ _ _ hy0 (hJ9) _ _ hP hD hS _ (lv_sub hl [6, 7, 8, 9, 10, 11, 0, 12, 4] rfl)
  refine W.widen (k := 40 + 1802 * 0 + 1296 * (0 / 10)) (n := 24069 + 18012 * 0 + 12896 * (0 / 10)) (by omega) (by omega) ?_
  exact hloop30 (90 - 0 + 1) 0 (fun j9 => nI ((fun _ => 0) j9)) (fun j9 => nI ((fun _ => 0) j9)) (fun j9 => nI ((fun _ => 0) j9)) zS0 0 (by omega) (zJ_0) (by omega) _ _ hP hD hS _ (lv_sub hl [6, 7, 5, 4, 3, 2, 1, 0] rfl)
