theorem z_and31 (x : Int32) : ∃ k : Nat, k < 32 ∧ x &&& nI 31 = nI k := by
  refine ⟨x.toBitVec.toNat % 32, Nat.mod_lt _ (by decide), ?_⟩
  rw [← Int32.toBitVec_inj, Int32.toBitVec_and]
  apply BitVec.eq_of_toNat_eq
  rw [BitVec.toNat_and]
  have e1 : (nI 31).toBitVec.toNat = 2 ^ 5 - 1 := by decide +kernel
  have e2 : (nI (x.toBitVec.toNat % 32)).toBitVec.toNat = x.toBitVec.toNat % 32 := by
    show (BitVec.ofNat 32 (x.toBitVec.toNat % 32)).toNat = _
    rw [BitVec.toNat_ofNat]
    omega
  rw [e1, e2, Nat.and_two_pow_sub_one_eq_mod]
section ZOP
variable {p : Program} {l : Launch} {e : Env} {s : State} {m : MethodId} {args : Array Value} {below : List Frame} {meth : Method} {c : Code} {H : Heap} {locs : List Loc} {cells slots : Nat} {Q : State → Prop}
variable {ls : Array Slot} {G : va_G} {cy : Nat → ClassId} {wd : Nat → Nat} {fo : Option Nat} {a b : Nat → Nat} {b9 L h o9 i6 n : Nat} {xs : Nat → Int32}
set_option maxHeartbeats 4000000 in
set_option maxRecDepth 100000 in
theorem law_loop {c0 s0 : Nat} (F : zFix p l s m args c b9 L xs G cy wd fo) (hc0 : c0 + 10240 ≤ room_1.cells) (hs0 : s0 + 2611200 ≤ room_1.slots)
    (kx : ∀ (H : Heap) (locs : List Loc) (ls : Array Slot) (cells slots : Nat), cells ≤ room_1.cells → slots ≤ room_1.slots → va_S (fun q : Nat => s.heap.size ≤ q) s.heap H locs → W p l e room_1 s m args below meth c H locs cells slots Q (F0 m 1576 ls [.int 1])) :
    ∀ (fuel n i6 cells slots : Nat), i6 = 6 * n → cells = c0 + 20 * n → slots = s0 + 5100 * n → i6 ≤ L → L + 1 ≤ i6 + fuel → ∀ (nc np T : Nat) (th : Int32) (pt : Nat → Option Nat) (g w9 p9 q9 tf tb tr : Nat → Nat) (ic : Nat → Int64) (fl ru : Nat → Nat) (rs : Nat → Int64) (w4 p4 q4 cd : Nat → Nat) (ov : Nat → Int64) (kd fs dt mu sh ro rd pc : Nat → Nat) (dO : Nat → Int32) (dn : Nat → Nat) (ac : Nat → Int64) (cO : Nat → Int32) (cT : Nat → Nat) (mO : Nat → Int32) (bf vo su bi : Nat → Nat) (bd : Nat → Int64) (lo bl hgh : Nat → Nat) (rc : Nat → Int64) (sv : Nat → Int32) (tk r3 p3 : Nat → Int64) (pa vq us hq : Nat → Nat → Nat) (cq : Nat → Nat → Int64) (bq : Nat → Nat → Nat) (H : Heap) (locs : List Loc) (ls : Array Slot), zInv n nc np T th pt g w9 p9 q9 tf tb tr ic fl ru rs w4 p4 q4 cd ov kd fs dt mu sh ro rd pc dO dn ac cO cT mO bf vo su bi bd lo bl hgh rc sv tk r3 p3 pa vq us hq cq bq → va_P G vwCl (zWl cy a b h o9 nc np T th pt g w9 p9 q9 tf tb tr ic fl ru rs w4 p4 q4 cd ov kd fs dt mu sh ro rd pc dO dn ac cO cT mO bf vo su bi bd lo bl hgh rc sv tk r3 p3 pa vq us hq cq bq) H → va_D (fun q : Nat => s.heap.size ≤ q) (zWl cy a b h o9 nc np T th pt g w9 p9 q9 tf tb tr ic fl ru rs w4 p4 q4 cd ov kd fs dt mu sh ro rd pc dO dn ac cO cT mO bf vo su bi bd lo bl hgh rc sv tk r3 p3 pa vq us hq cq bq) → va_S (fun q : Nat => s.heap.size ≤ q) s.heap H locs → lv_has ls 8 [(4, .int (nI i6)), (0, .ref b9), (1, .ref (a 0)), (2, .ref h), (3, .ref o9)] → W p l e room_1 s m args below meth c H locs cells slots Q (F0 m 23 ls []) := by
  have hF := F
  obtain ⟨hx, hb, hml, hown, hts, hX, hbl, hL, hl9, hK, hWd, hE⟩ := F
  have hbA : ¬ (fun q : Nat => s.heap.size ≤ q) b9 := Nat.not_le.mpr hbl
  intro fuel
  induction fuel with
  | zero =>
    intro n i6 cells slots e1 e2 e3 e4 e5
    exact absurd e5 (by omega)
  | succ fuel ih =>
    intro n i6 cells slots e1 e2 e3 e4 e5 nc np T th pt g w9 p9 q9 tf tb tr ic fl ru rs w4 p4 q4 cd ov kd fs dt mu sh ro rd pc dO dn ac cO cT mO bf vo su bi bd lo bl hgh rc sv tk r3 p3 pa vq us hq cq bq H locs ls hI hP hD hS hl
    refine lv_iload hx hb dL_law_23 (lv_at hl 0 rfl) ?_
    refine lv_aload_n hx hb dL_law_25 rfl (lv_at hl 1 rfl) ?_
    refine va_slen hx hb hX hbl hbA hS dL_law_26 ?_
    refine lv_bipush (v := nI 6) hx hb dL_law_27 (by decide) ?_
    refine lv_isub hx hb dL_law_29 ?_
    refine z_jcmp_gt hx hb (a := (i6 : Int)) (b := (L : Int) - 6) (nI_toInt (by omega)) (pk_sub_toInt (a := L) (b := 6) (by omega) (by decide)) dL_law_30 (tgt := 1575) (by decide) (fun c1 => ?_) (fun c1 => ?_)
    · refine lv_iconst (v := 1) hx hb dL_law_1575 (by decide) ?_
      have hn : n ≤ 512 := by omega
      exact kx H locs ls cells slots (by omega) (by omega) hS
    · have hi : i6 + 5 < L := by omega
      have hn : n < 512 := by omega
      have kk : zNext p l e s m args below meth c Q G cy a b b9 h o9 i6 (n + 1) (cells + 20) (slots + 5100) := by
        intro nc np T th pt g w9 p9 q9 tf tb tr ic fl ru rs w4 p4 q4 cd ov kd fs dt mu sh ro rd pc dO dn ac cO cT mO bf vo su bi bd lo bl hgh rc sv tk r3 p3 pa vq us hq cq bq H locs ls hI hP hD hS hl
        refine lv_iinc (v := nI (i6 + 6)) (lv' := [(4, .int (nI (i6 + 6))), (0, .ref b9), (1, .ref (a 0)), (2, .ref h), (3, .ref o9)]) hx hb dL_law_1569 hl (k := 0) rfl (nI_add _ _) (by decide) rfl (fun ls hl => ?_)
        refine lv_goto (tgt := 23) hx hb dL_law_1572 (by decide) ?_
        exact ih (n + 1) (i6 + 6) (cells + 20) (slots + 5100) (by omega) (by omega) (by omega) (by omega) (by omega) nc np T th pt g w9 p9 q9 tf tb tr ic fl ru rs w4 p4 q4 cd ov kd fs dt mu sh ro rd pc dO dn ac cO cT mO bf vo su bi bd lo bl hgh rc sv tk r3 p3 pa vq us hq cq bq H locs ls hI hP hD hS hl
      have hroom : cells + 20 ≤ room_1.cells ∧ slots + 5100 ≤ room_1.slots := by omega
      refine lv_aload_n hx hb dL_law_33 rfl (lv_at hl 1 rfl) ?_
      refine lv_iload hx hb dL_law_34 (lv_at hl 0 rfl) ?_
      refine va_sld hx hb hX hbl hbA hS (vp_in_nI (by omega) (by omega)) dL_law_36 ?_
      refine lv_bipush (v := nI 31) hx hb dL_law_37 (by decide) ?_
      refine lv_iand hx hb dL_law_39 ?_
      obtain ⟨k9, hk9, ek9⟩ := z_and31 (xs (nI i6).toNatClampNeg)
      rw [ek9]
      by_cases hj0 : k9 = 0
      · subst hj0
        refine lv_tableIn (off := 100) (tgt := 140) hx hb dL_law_40 (by decide) (by decide) (by decide) (by decide) ?_
        exact la_point nc np T th pt g w9 p9 q9 tf tb tr ic fl ru rs w4 p4 q4 cd ov kd fs dt mu sh ro rd pc dO dn ac cO cT mO bf vo su bi bd lo bl hgh rc sv tk r3 p3 pa vq us hq cq bq hF hi rfl rfl rfl rfl rfl hI hP hD hS hroom hn kk hl
      by_cases hj1 : k9 = 1
      · subst hj1
        refine lv_tableIn (off := 204) (tgt := 244) hx hb dL_law_40 (by decide) (by decide) (by decide) (by decide) ?_
        exact la_weather nc np T th pt g w9 p9 q9 tf tb tr ic fl ru rs w4 p4 q4 cd ov kd fs dt mu sh ro rd pc dO dn ac cO cT mO bf vo su bi bd lo bl hgh rc sv tk r3 p3 pa vq us hq cq bq hF hi rfl rfl rfl hI hP hD hS hroom hn kk hl
      by_cases hj2 : k9 = 2
      · subst hj2
        refine lv_tableIn (off := 284) (tgt := 324) hx hb dL_law_40 (by decide) (by decide) (by decide) (by decide) ?_
        exact la_pass nc np T th pt g w9 p9 q9 tf tb tr ic fl ru rs w4 p4 q4 cd ov kd fs dt mu sh ro rd pc dO dn ac cO cT mO bf vo su bi bd lo bl hgh rc sv tk r3 p3 pa vq us hq cq bq hF hi rfl hI hP hD hS hroom hn kk hl
      by_cases hj3 : k9 = 3
      · subst hj3
        refine lv_tableIn (off := 340) (tgt := 380) hx hb dL_law_40 (by decide) (by decide) (by decide) (by decide) ?_
        exact la_read nc np T th pt g w9 p9 q9 tf tb tr ic fl ru rs w4 p4 q4 cd ov kd fs dt mu sh ro rd pc dO dn ac cO cT mO bf vo su bi bd lo bl hgh rc sv tk r3 p3 pa vq us hq cq bq hF hi rfl rfl hI hP hD hS hroom hn kk hl
      by_cases hj4 : k9 = 4
      · subst hj4
        refine lv_tableIn (off := 408) (tgt := 448) hx hb dL_law_40 (by decide) (by decide) (by decide) (by decide) ?_
        exact la_confirm nc np T th pt g w9 p9 q9 tf tb tr ic fl ru rs w4 p4 q4 cd ov kd fs dt mu sh ro rd pc dO dn ac cO cT mO bf vo su bi bd lo bl hgh rc sv tk r3 p3 pa vq us hq cq bq hF hi rfl hI hP hD hS hroom hn kk hl
      by_cases hj5 : k9 = 5
      · subst hj5
        refine lv_tableIn (off := 464) (tgt := 504) hx hb dL_law_40 (by decide) (by decide) (by decide) (by decide) ?_
        exact la_exchange nc np T th pt g w9 p9 q9 tf tb tr ic fl ru rs w4 p4 q4 cd ov kd fs dt mu sh ro rd pc dO dn ac cO cT mO bf vo su bi bd lo bl hgh rc sv tk r3 p3 pa vq us hq cq bq hF hi rfl rfl rfl rfl hI hP hD hS hroom hn kk hl
      by_cases hj6 : k9 = 6
      · subst hj6
        refine lv_tableIn (off := 556) (tgt := 596) hx hb dL_law_40 (by decide) (by decide) (by decide) (by decide) ?_
        exact la_change nc np T th pt g w9 p9 q9 tf tb tr ic fl ru rs w4 p4 q4 cd ov kd fs dt mu sh ro rd pc dO dn ac cO cT mO bf vo su bi bd lo bl hgh rc sv tk r3 p3 pa vq us hq cq bq hF hi rfl rfl rfl hI hP hD hS hroom hn kk hl
      by_cases hj7 : k9 = 7
      · subst hj7
        refine lv_tableIn (off := 636) (tgt := 676) hx hb dL_law_40 (by decide) (by decide) (by decide) (by decide) ?_
        exact la_object nc np T th pt g w9 p9 q9 tf tb tr ic fl ru rs w4 p4 q4 cd ov kd fs dt mu sh ro rd pc dO dn ac cO cT mO bf vo su bi bd lo bl hgh rc sv tk r3 p3 pa vq us hq cq bq hF hi rfl hI hP hD hS hroom hn kk hl
      by_cases hj8 : k9 = 8
      · subst hj8
        refine lv_tableIn (off := 692) (tgt := 732) hx hb dL_law_40 (by decide) (by decide) (by decide) (by decide) ?_
        exact la_reverse nc np T th pt g w9 p9 q9 tf tb tr ic fl ru rs w4 p4 q4 cd ov kd fs dt mu sh ro rd pc dO dn ac cO cT mO bf vo su bi bd lo bl hgh rc sv tk r3 p3 pa vq us hq cq bq hF hi rfl hI hP hD hS hroom hn kk hl
      by_cases hj9 : k9 = 9
      · subst hj9
        refine lv_tableIn (off := 748) (tgt := 788) hx hb dL_law_40 (by decide) (by decide) (by decide) (by decide) ?_
        exact la_tariff nc np T th pt g w9 p9 q9 tf tb tr ic fl ru rs w4 p4 q4 cd ov kd fs dt mu sh ro rd pc dO dn ac cO cT mO bf vo su bi bd lo bl hgh rc sv tk r3 p3 pa vq us hq cq bq hF hi rfl rfl rfl rfl hI hP hD hS hroom hn kk hl
      by_cases hj10 : k9 = 10
      · subst hj10
        refine lv_tableIn (off := 820) (tgt := 860) hx hb dL_law_40 (by decide) (by decide) (by decide) (by decide) ?_
        exact la_bill nc np T th pt g w9 p9 q9 tf tb tr ic fl ru rs w4 p4 q4 cd ov kd fs dt mu sh ro rd pc dO dn ac cO cT mO bf vo su bi bd lo bl hgh rc sv tk r3 p3 pa vq us hq cq bq hF hi rfl hI hP hD hS hroom hn kk hl
      by_cases hj11 : k9 = 11
      · subst hj11
        refine lv_tableIn (off := 875) (tgt := 915) hx hb dL_law_40 (by decide) (by decide) (by decide) (by decide) ?_
        exact la_credit nc np T th pt g w9 p9 q9 tf tb tr ic fl ru rs w4 p4 q4 cd ov kd fs dt mu sh ro rd pc dO dn ac cO cT mO bf vo su bi bd lo bl hgh rc sv tk r3 p3 pa vq us hq cq bq hF hi rfl rfl hI hP hD hS hroom hn kk hl
      by_cases hj12 : k9 = 12
      · subst hj12
        refine lv_tableIn (off := 943) (tgt := 983) hx hb dL_law_40 (by decide) (by decide) (by decide) (by decide) ?_
        exact la_account nc np T th pt g w9 p9 q9 tf tb tr ic fl ru rs w4 p4 q4 cd ov kd fs dt mu sh ro rd pc dO dn ac cO cT mO bf vo su bi bd lo bl hgh rc sv tk r3 p3 pa vq us hq cq bq hF hi rfl hI hP hD hS hroom hn kk hl
      by_cases hj13 : k9 = 13
      · subst hj13
        refine lv_tableIn (off := 998) (tgt := 1038) hx hb dL_law_40 (by decide) (by decide) (by decide) (by decide) ?_
        exact la_income nc np T th pt g w9 p9 q9 tf tb tr ic fl ru rs w4 p4 q4 cd ov kd fs dt mu sh ro rd pc dO dn ac cO cT mO bf vo su bi bd lo bl hgh rc sv tk r3 p3 pa vq us hq cq bq hF hi rfl hI hP hD hS hroom hn kk hl
      by_cases hj14 : k9 = 14
      · subst hj14
        refine lv_tableIn (off := 1053) (tgt := 1093) hx hb dL_law_40 (by decide) (by decide) (by decide) (by decide) ?_
        exact la_inflow nc np T th pt g w9 p9 q9 tf tb tr ic fl ru rs w4 p4 q4 cd ov kd fs dt mu sh ro rd pc dO dn ac cO cT mO bf vo su bi bd lo bl hgh rc sv tk r3 p3 pa vq us hq cq bq hF hi rfl rfl hI hP hD hS hroom hn kk hl
      by_cases hj15 : k9 = 15
      · subst hj15
        refine lv_tableIn (off := 1121) (tgt := 1161) hx hb dL_law_40 (by decide) (by decide) (by decide) (by decide) ?_
        exact la_settle nc np T th pt g w9 p9 q9 tf tb tr ic fl ru rs w4 p4 q4 cd ov kd fs dt mu sh ro rd pc dO dn ac cO cT mO bf vo su bi bd lo bl hgh rc sv tk r3 p3 pa vq us hq cq bq hF hi rfl hI hP hD hS hroom hn kk hl
      by_cases hj16 : k9 = 16
      · subst hj16
        refine lv_tableIn (off := 1177) (tgt := 1217) hx hb dL_law_40 (by decide) (by decide) (by decide) (by decide) ?_
        exact la_settled nc np T th pt g w9 p9 q9 tf tb tr ic fl ru rs w4 p4 q4 cd ov kd fs dt mu sh ro rd pc dO dn ac cO cT mO bf vo su bi bd lo bl hgh rc sv tk r3 p3 pa vq us hq cq bq hF hi rfl rfl hI hP hD hS hroom hn kk hl
      by_cases hj17 : k9 = 17
      · subst hj17
        refine lv_tableIn (off := 1245) (tgt := 1285) hx hb dL_law_40 (by decide) (by decide) (by decide) (by decide) ?_
        exact la_volume nc np T th pt g w9 p9 q9 tf tb tr ic fl ru rs w4 p4 q4 cd ov kd fs dt mu sh ro rd pc dO dn ac cO cT mO bf vo su bi bd lo bl hgh rc sv tk r3 p3 pa vq us hq cq bq hF hi rfl rfl hI hP hD hS hroom hn kk hl
      by_cases hj18 : k9 = 18
      · subst hj18
        refine lv_tableIn (off := 1313) (tgt := 1353) hx hb dL_law_40 (by decide) (by decide) (by decide) (by decide) ?_
        exact la_volumeAnew nc np T th pt g w9 p9 q9 tf tb tr ic fl ru rs w4 p4 q4 cd ov kd fs dt mu sh ro rd pc dO dn ac cO cT mO bf vo su bi bd lo bl hgh rc sv tk r3 p3 pa vq us hq cq bq hF hi rfl rfl hI hP hD hS hroom hn kk hl
      by_cases hj19 : k9 = 19
      · subst hj19
        refine lv_tableIn (off := 1381) (tgt := 1421) hx hb dL_law_40 (by decide) (by decide) (by decide) (by decide) ?_
        exact la_of nc np T th pt g w9 p9 q9 tf tb tr ic fl ru rs w4 p4 q4 cd ov kd fs dt mu sh ro rd pc dO dn ac cO cT mO bf vo su bi bd lo bl hgh rc sv tk r3 p3 pa vq us hq cq bq hF hi rfl rfl hI hP hD hS hroom hn kk hl
      by_cases hj20 : k9 = 20
      · subst hj20
        refine lv_tableIn (off := 1449) (tgt := 1489) hx hb dL_law_40 (by decide) (by decide) (by decide) (by decide) ?_
        exact la_word nc np T th pt g w9 p9 q9 tf tb tr ic fl ru rs w4 p4 q4 cd ov kd fs dt mu sh ro rd pc dO dn ac cO cT mO bf vo su bi bd lo bl hgh rc sv tk r3 p3 pa vq us hq cq bq hF hi rfl rfl rfl hI hP hD hS hroom hn kk hl
      refine lv_tableOut (tgt := 1569) hx hb dL_law_40 (Or.inr (by rw [nI_toInt (by omega)]; omega)) (by decide) ?_
      refine W.widen (k := cells + 20) (n := slots + 5100) (by omega) (by omega) ?_
      obtain ⟨h0, h1, h2, h3, h4, h5, h6, h7⟩ := id hI
      exact kk nc np T th pt g w9 p9 q9 tf tb tr ic fl ru rs w4 p4 q4 cd ov kd fs dt mu sh ro rd pc dO dn ac cO cT mO bf vo su bi bd lo bl hgh rc sv tk r3 p3 pa vq us hq cq bq H locs ls ⟨h0, h1, h2, h3, h4, h5, h6, zI7_next h7⟩ hP hD hS hl
end ZOP
