abbrev zFlat : List Cond := flatC (Jvm.Cond.and given_1 narrow_1)
theorem zfl_1 : ∀ j : Fin 100, zFlat[14 + j.val]? = some (Jvm.Cond.eq (Jvm.Term.elem (Jvm.Term.static "java/lang/Integer" "DigitOnes" "[B") (Jvm.Term.int (Int32.ofNat j.val))) (Jvm.Term.int (nI (48 + j.val % 10)))) := by decide +kernel
theorem zfl_2 : ∀ j : Fin 100, zFlat[117 + j.val]? = some (Jvm.Cond.eq (Jvm.Term.elem (Jvm.Term.static "java/lang/Integer" "DigitTens" "[B") (Jvm.Term.int (Int32.ofNat j.val))) (Jvm.Term.int (nI (48 + j.val / 10)))) := by decide +kernel
theorem zfl_3 : ∀ q ∈ ([(74, 279), (88, 318), (92, 349), (115, 466), (121, 482), (127, 417), (129, 438), (161, 559), (166, 590), (176, 647), (185, 675), (189, 727), (198, 748), (203, 501), (231, 796), (236, 807), (253, 866), (258, 884), (263, 844), (289, 388), (291, 907), (306, 924), (318, 371), (320, 259), (322, 829), (324, 527)] : List (Nat × Nat)), zFlat[q.2]? = some (Jvm.Cond.exactly (Jvm.Term.string "MeterHouse" q.1) "java/lang/String") := by decide +kernel
theorem zfl_c12 : zFlat[237]? = some (Jvm.Cond.not (Jvm.Cond.castable "java/lang/IndexOutOfBoundsException" "java/lang/IllegalArgumentException")) := by decide +kernel
theorem zfl_c13 : zFlat[251]? = some (Jvm.Cond.not (Jvm.Cond.castable "java/lang/IndexOutOfBoundsException" "java/lang/IllegalStateException")) := by decide +kernel
theorem zfl_c21 : zFlat[223]? = some (Jvm.Cond.not (Jvm.Cond.castable "java/lang/IllegalArgumentException" "java/lang/IndexOutOfBoundsException")) := by decide +kernel
theorem zfl_c23 : zFlat[252]? = some (Jvm.Cond.not (Jvm.Cond.castable "java/lang/IllegalArgumentException" "java/lang/IllegalStateException")) := by decide +kernel
theorem zfl_c31 : zFlat[225]? = some (Jvm.Cond.not (Jvm.Cond.castable "java/lang/IllegalStateException" "java/lang/IndexOutOfBoundsException")) := by decide +kernel
theorem zfl_c32 : zFlat[239]? = some (Jvm.Cond.not (Jvm.Cond.castable "java/lang/IllegalStateException" "java/lang/IllegalArgumentException")) := by decide +kernel
theorem zfl_u : zFlat[4]? = some (Jvm.Cond.isRef (Jvm.Term.static "java/lang/Throwable" "UNASSIGNED_STACK" "[Ljava/lang/StackTraceElement;")) := by decide +kernel
theorem zfl_n : zFlat[5]? = some (Jvm.Cond.isRef (Jvm.Term.static "java/lang/Throwable" "SUPPRESSED_SENTINEL" "Ljava/util/List;")) := by decide +kernel
theorem zfl_cs : zFlat[6]? = some (Jvm.Cond.eq (Jvm.Term.static "java/lang/String" "COMPACT_STRINGS" "Z") (Jvm.Term.int (1 : Int32))) := by decide +kernel
theorem zfl_sf : zFlat[7]? = some (Jvm.Cond.isRef (Jvm.Term.static "jdk/internal/util/Preconditions" "SIOOBE_FORMATTER" "Ljava/util/function/BiFunction;")) := by decide +kernel
theorem zfl_d1a : zFlat[12]? = some (Jvm.Cond.arrayOf (Jvm.Term.static "java/lang/Integer" "DigitOnes" "[B") Jvm.ClassFile.FieldType.byte) := by decide +kernel
theorem zfl_d1l : zFlat[13]? = some (Jvm.Cond.eq (Jvm.Term.length (Jvm.Term.static "java/lang/Integer" "DigitOnes" "[B")) (Jvm.Term.int (100 : Int32))) := by decide +kernel
theorem zfl_d2a : zFlat[115]? = some (Jvm.Cond.arrayOf (Jvm.Term.static "java/lang/Integer" "DigitTens" "[B") Jvm.ClassFile.FieldType.byte) := by decide +kernel
theorem zfl_d2l : zFlat[116]? = some (Jvm.Cond.eq (Jvm.Term.length (Jvm.Term.static "java/lang/Integer" "DigitTens" "[B")) (Jvm.Term.int (100 : Int32))) := by decide +kernel
theorem zfl_sc : zFlat[925]? = some (Jvm.Cond.eq (Jvm.Term.field (Jvm.Term.string "MeterHouse" (306 : Nat)) "java/lang/String" "coder" "B") (Jvm.Term.int (0 : Int32))) := by decide +kernel
theorem zfl_sa : zFlat[926]? = some (Jvm.Cond.arrayOf (Jvm.Term.field (Jvm.Term.string "MeterHouse" (306 : Nat)) "java/lang/String" "value" "[B") Jvm.ClassFile.FieldType.byte) := by decide +kernel
theorem zfl_sl : zFlat[927]? = some (Jvm.Cond.eq (Jvm.Term.length (Jvm.Term.field (Jvm.Term.string "MeterHouse" (306 : Nat)) "java/lang/String" "value" "[B")) (Jvm.Term.int (2 : Int32))) := by decide +kernel
theorem zfl_s0 : zFlat[928]? = some (Jvm.Cond.eq (Jvm.Term.elem (Jvm.Term.field (Jvm.Term.string "MeterHouse" (306 : Nat)) "java/lang/String" "value" "[B") (Jvm.Term.int (0 : Int32))) (Jvm.Term.int (47 : Int32))) := by decide +kernel
theorem zfl_s1 : zFlat[929]? = some (Jvm.Cond.eq (Jvm.Term.elem (Jvm.Term.field (Jvm.Term.string "MeterHouse" (306 : Nat)) "java/lang/String" "value" "[B") (Jvm.Term.int (1 : Int32))) (Jvm.Term.int (115 : Int32))) := by decide +kernel
section ZST
variable {args : Array Value} {s : State}
theorem z_arrP {ty : FieldType} (h : (Cond.arrayClass ty).before args s = true) : ∃ cA, ArrOfT s cA ty ∧ s.vm.findClass ("[" ++ ty.toString) = some cA := by
  obtain ⟨cA, kA, comp, f1, f2, f3⟩ := Cond.arrayClass_spec (first := s) (o := none) (s := s) (idx := []) h
  exact ⟨cA, fun N z => ⟨(fun k h => by cases h), kA, f2, comp, f3⟩, f1⟩
theorem z_arrO {C : String} (h : (Cond.arrayOver (.object C)).before args s = true) : ∃ cA, ArrOfT s cA (.object C) ∧ va_RA s cA (.object C) := by
  obtain ⟨comp, cA, kA, h1, h2, h3, h4, h5⟩ := Cond.arrayOver_spec (first := s) (o := none) (s := s) (idx := []) h
  exact ⟨cA, fun N z => ⟨(fun k h => by cases h), kA, h3, comp, h4⟩, kA, comp, h3, h4, h1, h5⟩
set_option maxHeartbeats 4000000 in
theorem zst_K (hts : ∀ w ∈ lw_tbl, w.before args s = true) : ∃ (G : va_G) (cy : Nat → ClassId), zK G cy s := by
  obtain ⟨c0, i0, k0⟩ := u_known (C := RJ4) (T := TJ4) (N := 4) (n := 4) hts inJ4 (hts _ (List.mem_of_getElem? (i := 765) (by decide +kernel)))
  obtain ⟨c1, i1, k1⟩ := u_known (C := RX0) (T := TX0) (N := 4) (n := 4) hts inX0 (hts _ (List.mem_of_getElem? (i := 389) (by decide +kernel)))
  obtain ⟨c2, i2, k2⟩ := u_known (C := RX1) (T := TX1) (N := 3) (n := 3) hts inX1 (hts _ (List.mem_of_getElem? (i := 84) (by decide +kernel)))
  obtain ⟨c3, i3, k3⟩ := u_known (C := RX2) (T := TX2) (N := 3) (n := 3) hts inX2 (hts _ (List.mem_of_getElem? (i := 282) (by decide +kernel)))
  obtain ⟨c4, i4, k4⟩ := u_known (C := RX3) (T := TX3) (N := 4) (n := 4) hts inX3 (hts _ (List.mem_of_getElem? (i := 365) (by decide +kernel)))
  obtain ⟨c5, i5, k5⟩ := u_known (C := RX4) (T := TX4) (N := 12) (n := 12) hts inX4 (hts _ (List.mem_of_getElem? (i := 320) (by decide +kernel)))
  obtain ⟨c6, i6, k6⟩ := u_known (C := RX5) (T := TX5) (N := 1) (n := 1) hts inX5 (hts _ (List.mem_of_getElem? (i := 64) (by decide +kernel)))
  obtain ⟨c7, i7, k7⟩ := u_known (C := RX6) (T := TX6) (N := 4) (n := 4) hts inX6 (hts _ (List.mem_of_getElem? (i := 122) (by decide +kernel)))
  obtain ⟨c8, i8, k8⟩ := u_known (C := RX7) (T := TX7) (N := 1) (n := 1) hts inX7 (hts _ (List.mem_of_getElem? (i := 58) (by decide +kernel)))
  obtain ⟨c9, i9, k9⟩ := u_known (C := RX8) (T := TX8) (N := 4) (n := 4) hts inX8 (hts _ (List.mem_of_getElem? (i := 367) (by decide +kernel)))
  obtain ⟨c10, i10, k10⟩ := u_known (C := RX9) (T := TX9) (N := 3) (n := 3) hts inX9 (hts _ (List.mem_of_getElem? (i := 102) (by decide +kernel)))
  obtain ⟨c11, i11, k11⟩ := u_known (C := RX10) (T := TX10) (N := 10) (n := 10) hts inX10 (hts _ (List.mem_of_getElem? (i := 50) (by decide +kernel)))
  obtain ⟨a0, b0, e0⟩ := z_arrP (ty := .int) (hts _ (List.mem_of_getElem? (i := 259) (by decide +kernel)))
  obtain ⟨a1, b1, e1⟩ := z_arrP (ty := .long) (hts _ (List.mem_of_getElem? (i := 73) (by decide +kernel)))
  obtain ⟨a2, b2, e2⟩ := z_arrO (C := "MeterHouse$Point") (hts _ (List.mem_of_getElem? (i := 145) (by decide +kernel)))
  obtain ⟨a3, b3, e3⟩ := z_arrP (ty := .byte) (hts _ (List.mem_of_getElem? (i := 260) (by decide +kernel)))
  refine ⟨(fun k => [c0, c1, c2, c3, c4, c5, c6, c7, c8, c9, c10, c11].getD k c0, fun k => [i0, i1, i2, i3, i4, i5, i6, i7, i8, i9, i10, i11].getD k i0), fun k => [a0, a1, a2, a3].getD k a0, ⟨fun k q hq => ?_, fun k q hq => ?_⟩⟩
  · match k, hq with
    | 0, hq => cases hq; exact k0
    | 1, hq => cases hq; exact k1
    | 2, hq => cases hq; exact k2
    | 3, hq => cases hq; exact k3
    | 4, hq => cases hq; exact k4
    | 5, hq => cases hq; exact k5
    | 6, hq => cases hq; exact k6
    | 7, hq => cases hq; exact k7
    | 8, hq => cases hq; exact k8
    | 9, hq => cases hq; exact k9
    | 10, hq => cases hq; exact k10
    | 11, hq => cases hq; exact k11
    | k + 12, hq => simp [vwCl] at hq
  · match k, hq with
    | 0, hq => cases hq; exact ⟨b0, e0⟩
    | 1, hq => cases hq; exact ⟨b1, e1⟩
    | 2, hq => cases hq; exact ⟨b2, e2⟩
    | 3, hq => cases hq; exact ⟨b3, e3⟩
    | k + 4, hq => simp [zT] at hq
theorem zst_AO (hts : ∀ w ∈ lw_tbl, w.before args s = true) : zAO s := ⟨va_AO.of (hts _ (List.mem_of_getElem? (i := 145) (by decide +kernel))), va_Nw.of rfl (hts _ (List.mem_of_getElem? (i := 103) (by decide +kernel))), va_Nw.of rfl (hts _ (List.mem_of_getElem? (i := 123) (by decide +kernel)))⟩
theorem z_strR {k : Nat} {t : String} (h1 : (Cond.stringRef RX10 k t).before args s = true) (h2 : (Jvm.Cond.exactly (Jvm.Term.string "MeterHouse" k) "java/lang/String").before args s = true) : ∃ sa, vk_R RX10 k t sa s := by
  obtain ⟨a, c, cA, kA, q1, -⟩ := Cond.exactly_spec (args := args) (first := s) (o := none) (s := s) (idx := []) h2
  exact ⟨a, vk_R.of h1 q1⟩
theorem zst_str (hts : ∀ w ∈ lw_tbl, w.before args s = true) (hs : ∀ w ∈ zFlat, w.before args s = true) : ∀ q ∈ zStrs, ∃ sa, vk_R RX10 q.1 q.2 sa s := by
  have h3 : ∀ q ∈ ([(74, 279), (88, 318), (92, 349), (115, 466), (121, 482), (127, 417), (129, 438), (161, 559), (166, 590), (176, 647), (185, 675), (189, 727), (198, 748), (203, 501), (231, 796), (236, 807), (253, 866), (258, 884), (263, 844), (289, 388), (291, 907), (306, 924), (318, 371), (320, 259), (322, 829), (324, 527)] : List (Nat × Nat)), (Jvm.Cond.exactly (Jvm.Term.string "MeterHouse" q.1) "java/lang/String").before args s = true := fun q hq => hs _ (List.mem_of_getElem? (zfl_3 q hq))
  exact (List.forall_mem_cons.mpr ⟨z_strR (hts _ (List.mem_of_getElem? (i := 274) (by decide +kernel))) (h3 (74, 279) (List.mem_of_getElem? (i := 0) rfl)), (List.forall_mem_cons.mpr ⟨z_strR (hts _ (List.mem_of_getElem? (i := 302) (by decide +kernel))) (h3 (88, 318) (List.mem_of_getElem? (i := 1) rfl)), (List.forall_mem_cons.mpr ⟨z_strR (hts _ (List.mem_of_getElem? (i := 312) (by decide +kernel))) (h3 (92, 349) (List.mem_of_getElem? (i := 2) rfl)), (List.forall_mem_cons.mpr ⟨z_strR (hts _ (List.mem_of_getElem? (i := 492) (by decide +kernel))) (h3 (115, 466) (List.mem_of_getElem? (i := 3) rfl)), (List.forall_mem_cons.mpr ⟨z_strR (hts _ (List.mem_of_getElem? (i := 497) (by decide +kernel))) (h3 (121, 482) (List.mem_of_getElem? (i := 4) rfl)), (List.forall_mem_cons.mpr ⟨z_strR (hts _ (List.mem_of_getElem? (i := 468) (by decide +kernel))) (h3 (127, 417) (List.mem_of_getElem? (i := 5) rfl)), (List.forall_mem_cons.mpr ⟨z_strR (hts _ (List.mem_of_getElem? (i := 469) (by decide +kernel))) (h3 (129, 438) (List.mem_of_getElem? (i := 6) rfl)), (List.forall_mem_cons.mpr ⟨z_strR (hts _ (List.mem_of_getElem? (i := 615) (by decide +kernel))) (h3 (161, 559) (List.mem_of_getElem? (i := 7) rfl)), (List.forall_mem_cons.mpr ⟨z_strR (hts _ (List.mem_of_getElem? (i := 624) (by decide +kernel))) (h3 (166, 590) (List.mem_of_getElem? (i := 8) rfl)), (List.forall_mem_cons.mpr ⟨z_strR (hts _ (List.mem_of_getElem? (i := 633) (by decide +kernel))) (h3 (176, 647) (List.mem_of_getElem? (i := 9) rfl)), (List.forall_mem_cons.mpr ⟨z_strR (hts _ (List.mem_of_getElem? (i := 638) (by decide +kernel))) (h3 (185, 675) (List.mem_of_getElem? (i := 10) rfl)), (List.forall_mem_cons.mpr ⟨z_strR (hts _ (List.mem_of_getElem? (i := 647) (by decide +kernel))) (h3 (189, 727) (List.mem_of_getElem? (i := 11) rfl)), (List.forall_mem_cons.mpr ⟨z_strR (hts _ (List.mem_of_getElem? (i := 660) (by decide +kernel))) (h3 (198, 748) (List.mem_of_getElem? (i := 12) rfl)), (List.forall_mem_cons.mpr ⟨z_strR (hts _ (List.mem_of_getElem? (i := 507) (by decide +kernel))) (h3 (203, 501) (List.mem_of_getElem? (i := 13) rfl)), (List.forall_mem_cons.mpr ⟨z_strR (hts _ (List.mem_of_getElem? (i := 669) (by decide +kernel))) (h3 (231, 796) (List.mem_of_getElem? (i := 14) rfl)), (List.forall_mem_cons.mpr ⟨z_strR (hts _ (List.mem_of_getElem? (i := 675) (by decide +kernel))) (h3 (236, 807) (List.mem_of_getElem? (i := 15) rfl)), (List.forall_mem_cons.mpr ⟨z_strR (hts _ (List.mem_of_getElem? (i := 743) (by decide +kernel))) (h3 (253, 866) (List.mem_of_getElem? (i := 16) rfl)), (List.forall_mem_cons.mpr ⟨z_strR (hts _ (List.mem_of_getElem? (i := 744) (by decide +kernel))) (h3 (258, 884) (List.mem_of_getElem? (i := 17) rfl)), (List.forall_mem_cons.mpr ⟨z_strR (hts _ (List.mem_of_getElem? (i := 695) (by decide +kernel))) (h3 (263, 844) (List.mem_of_getElem? (i := 18) rfl)), (List.forall_mem_cons.mpr ⟨z_strR (hts _ (List.mem_of_getElem? (i := 463) (by decide +kernel))) (h3 (289, 388) (List.mem_of_getElem? (i := 19) rfl)), (List.forall_mem_cons.mpr ⟨z_strR (hts _ (List.mem_of_getElem? (i := 763) (by decide +kernel))) (h3 (291, 907) (List.mem_of_getElem? (i := 20) rfl)), (List.forall_mem_cons.mpr ⟨z_strR (hts _ (List.mem_of_getElem? (i := 924) (by decide +kernel))) (h3 (306, 924) (List.mem_of_getElem? (i := 21) rfl)), (List.forall_mem_cons.mpr ⟨z_strR (hts _ (List.mem_of_getElem? (i := 438) (by decide +kernel))) (h3 (318, 371) (List.mem_of_getElem? (i := 22) rfl)), (List.forall_mem_cons.mpr ⟨z_strR (hts _ (List.mem_of_getElem? (i := 233) (by decide +kernel))) (h3 (320, 259) (List.mem_of_getElem? (i := 23) rfl)), (List.forall_mem_cons.mpr ⟨z_strR (hts _ (List.mem_of_getElem? (i := 689) (by decide +kernel))) (h3 (322, 829) (List.mem_of_getElem? (i := 24) rfl)), (List.forall_mem_cons.mpr ⟨z_strR (hts _ (List.mem_of_getElem? (i := 536) (by decide +kernel))) (h3 (324, 527) (List.mem_of_getElem? (i := 25) rfl)), (fun _ h => absurd h List.not_mem_nil)⟩)⟩)⟩)⟩)⟩)⟩)⟩)⟩)⟩)⟩)⟩)⟩)⟩)⟩)⟩)⟩)⟩)⟩)⟩)⟩)⟩)⟩)⟩)⟩)⟩)⟩)
theorem z_zE (k : Nat) : zE k = zE 1 ∨ zE k = zE 2 ∨ zE k = zE 3 := by
  by_cases h1 : k = 1
  · subst h1; exact Or.inl rfl
  · by_cases h2 : k = 2
    · subst h2; exact Or.inr (Or.inl rfl)
    · refine Or.inr (Or.inr ?_)
      unfold zE
      rw [if_neg h1, if_neg h2]
      rfl
set_option maxHeartbeats 4000000 in
theorem zst_Ex (hts : ∀ w ∈ lw_tbl, w.before args s = true) (hs : ∀ w ∈ zFlat, w.before args s = true) : zEx s.heap.size s s.heap := by
  have hA : ∀ a : Nat, a < s.heap.size → ¬ (fun q : Nat => s.heap.size ≤ q) a := fun a h => Nat.not_le.mpr h
  have d1 : va_Nw (.declares (Bundle.initS "java/lang/RuntimeException")) s := va_Nw.of rfl (hts _ (List.mem_of_getElem? (i := 196) (by decide +kernel)))
  have d2 : va_Nw (.declares (Bundle.initS "java/lang/Exception")) s := va_Nw.of rfl (hts _ (List.mem_of_getElem? (i := 198) (by decide +kernel)))
  have d3 : va_Nw (.declares (Bundle.initS Bundle.tN)) s := va_Nw.of rfl (hts _ (List.mem_of_getElem? (i := 200) (by decide +kernel)))
  have x1 : va_Nw (.castable (zE 1) (zE 1)) s := va_Nw.of rfl (hts _ (List.mem_of_getElem? (i := 194) (by decide +kernel)))
  have x2 : va_Nw (.castable (zE 2) (zE 2)) s := va_Nw.of rfl (hts _ (List.mem_of_getElem? (i := 267) (by decide +kernel)))
  have x3 : va_Nw (.castable (zE 3) (zE 3)) s := va_Nw.of rfl (hts _ (List.mem_of_getElem? (i := 305) (by decide +kernel)))
  have n12 : va_Nc (zE 1) (zE 2) s := va_Nc.of (args := args) (hs _ (List.mem_of_getElem? zfl_c12))
  have n13 : va_Nc (zE 1) (zE 3) s := va_Nc.of (args := args) (hs _ (List.mem_of_getElem? zfl_c13))
  have n21 : va_Nc (zE 2) (zE 1) s := va_Nc.of (args := args) (hs _ (List.mem_of_getElem? zfl_c21))
  have n23 : va_Nc (zE 2) (zE 3) s := va_Nc.of (args := args) (hs _ (List.mem_of_getElem? zfl_c23))
  have n31 : va_Nc (zE 3) (zE 1) s := va_Nc.of (args := args) (hs _ (List.mem_of_getElem? zfl_c31))
  have n32 : va_Nc (zE 3) (zE 2) s := va_Nc.of (args := args) (hs _ (List.mem_of_getElem? zfl_c32))
  refine ⟨vx_Zqof (hts _ (List.mem_of_getElem? (i := 219) (by decide +kernel))) (hts _ (List.mem_of_getElem? (i := 24) (by decide +kernel))) (hs _ (List.mem_of_getElem? zfl_u)) hA, vx_Zqof (hts _ (List.mem_of_getElem? (i := 221) (by decide +kernel))) (hts _ (List.mem_of_getElem? (i := 24) (by decide +kernel))) (hs _ (List.mem_of_getElem? zfl_n)) hA, zst_str hts hs, ?_, fun k => ?_, fun k j hkj => ?_⟩
  · exact List.forall_mem_cons.mpr ⟨d1, List.forall_mem_cons.mpr ⟨d2, List.forall_mem_cons.mpr ⟨d3, fun _ h => absurd h List.not_mem_nil⟩⟩⟩
  · rcases z_zE k with h | h | h <;> rw [h]
    · exact x1
    · exact x2
    · exact x3
  · rcases z_zE k with h | h | h <;> rcases z_zE j with h2 | h2 | h2 <;> rw [h, h2] at hkj ⊢
    · exact absurd rfl hkj
    · exact n12
    · exact n13
    · exact n21
    · exact absurd rfl hkj
    · exact n23
    · exact n31
    · exact n32
    · exact absurd rfl hkj
set_option maxHeartbeats 4000000 in
theorem zst_Wd (hts : ∀ w ∈ lw_tbl, w.before args s = true) (hs : ∀ w ∈ zFlat, w.before args s = true) : ∃ (wd : Nat → Nat) (fo : Option Nat), zWd wd fo s.heap.size s s.heap := by
  have hA : ∀ a : Nat, a < s.heap.size → ¬ (fun q : Nat => s.heap.size ≤ q) a := fun a h => Nat.not_le.mpr h
  obtain ⟨t1, ht1, hT1⟩ := va_Tof (tm := .static "java/lang/Integer" "DigitOnes" "[B") (N := 100) (f := fun j => .int (nI (48 + j % 10))) (A := fun q : Nat => s.heap.size ≤ q) (by decide) (hs _ (List.mem_of_getElem? zfl_d1a)) (va_eqt (hs _ (List.mem_of_getElem? zfl_d1l))) (fun j hj => va_eqt (hs _ (List.mem_of_getElem? (zfl_1 ⟨j, hj⟩)))) hA
  obtain ⟨t2, ht2, hT2⟩ := va_Tof (tm := .static "java/lang/Integer" "DigitTens" "[B") (N := 100) (f := fun j => .int (nI (48 + j / 10))) (A := fun q : Nat => s.heap.size ≤ q) (by decide) (hs _ (List.mem_of_getElem? zfl_d2a)) (va_eqt (hs _ (List.mem_of_getElem? zfl_d2l))) (fun j hj => va_eqt (hs _ (List.mem_of_getElem? (zfl_2 ⟨j, hj⟩)))) hA
  obtain ⟨v, hv1, hv2⟩ := Cond.isRef_spec (args := args) (first := s) (o := none) (s := s) (idx := []) (hs _ (List.mem_of_getElem? zfl_sf))
  obtain ⟨fo, rfl⟩ : ∃ fo, v = va_rf fo := by
    cases v with
    | null => exact ⟨none, rfl⟩
    | ref a => exact ⟨some a, rfl⟩
    | _ => simp [Value.isRef] at hv2
  obtain ⟨adK, adV, hS9, hE9⟩ := vk_Sof (args := args) (s := s) (N := 1) (tm := fun _ => Jvm.Term.string "MeterHouse" 306) (len := [2]) (byt := [[47, 115]]) (A := fun q : Nat => s.heap.size ≤ q) (fun i hi => by have : i = 0 := (by omega); subst this; decide)
    (fun i hi => hs _ (List.mem_of_getElem? (zfl_3 (306, 924) (List.mem_of_getElem? (i := 21) rfl)))) (fun i hi => (hs _ (List.mem_of_getElem? zfl_sc))) (fun i hi => (hs _ (List.mem_of_getElem? zfl_sa))) (fun i hi => by have : i = 0 := (by omega); subst this; exact (hs _ (List.mem_of_getElem? zfl_sl)))
    (fun i hi j hj => by
      have : i = 0 := (by omega)
      subst this
      have hj2 : j < 2 := hj
      rcases (show j = 0 ∨ j = 1 by omega) with rfl | rfl
      · exact (hs _ (List.mem_of_getElem? zfl_s0))
      · exact (hs _ (List.mem_of_getElem? zfl_s1))) (fun i j hi hj hij => absurd (show i = j by omega) hij) hA
  refine ⟨fun k => [t1, t2, adK 0, adV 0].getD k 0, fo, va_Zof (hts _ (List.mem_of_getElem? (i := 774) (by decide +kernel))) (hts _ (List.mem_of_getElem? (i := 38) (by decide +kernel))) (va_eqi (hs _ (List.mem_of_getElem? zfl_cs))) hA, va_Zof (hts _ (List.mem_of_getElem? (i := 904) (by decide +kernel))) (hts _ (List.mem_of_getElem? (i := 45) (by decide +kernel))) ht1 hA, va_Zof (hts _ (List.mem_of_getElem? (i := 906) (by decide +kernel))) (hts _ (List.mem_of_getElem? (i := 45) (by decide +kernel))) ht2 hA, hT1, hT2, va_Zof (hts _ (List.mem_of_getElem? (i := 865) (by decide +kernel))) (hts _ (List.mem_of_getElem? (i := 44) (by decide +kernel))) hv1 hA, ⟨fun i hi => ?_, fun i j hi hj _ => by omega⟩, vk_R.of (hts _ (List.mem_of_getElem? (i := 924) (by decide +kernel))) (hE9 0 (by decide))⟩
  have e : i = 0 := by omega
  subst e
  exact hS9.1 0 (by decide)
end ZST
