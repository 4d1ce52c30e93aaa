set_option maxHeartbeats 4000000 in
set_option maxRecDepth 100000 in
theorem c_J6_stringSize_0f7a4 (l : Launch) (G : va_G) (cy : Nat → ClassId) (w : Nat) (hw9 : w < 2 ^ 31) : Met l yJ6_stringSize_0f7a4 wsJ6_stringSize_0f7a4 ({ frames := 0, cells := 0, slots := 0, locals := 0 }) (zS G cy [.int (nI w)] []) (vp_Si (fun r => r = (nI (sb_dg w)))) 0 0 (fun _ => False) := by
  refine z_ofS (cc := cJ6_stringSize_0f7a4) (maxL := 4) (ret := (some .int)) (by decide) rfl (Nat.le_of_ble_eq_true rfl) ?_
  intro p e s m below meth c ls hx hb hml hr hts hown hlk hP hK hl
  have hown : s.vm.findClass RJ6 = some m.cls := hown
  have hl : lv_has ls 4 [(0, .int (nI w))] := hl
  refine lv_iconst (v := nI 1) hx hb dJ6_stringSize_0f7a4_0 (by decide) ?_
  refine lv_istore_n (lv' := [(1, .int (nI 1)), (0, .int (nI w))]) hx hb dJ6_stringSize_0f7a4_1 rfl hl (by decide) rfl (fun ls hl => ?_)
  refine lv_iload_n hx hb dJ6_stringSize_0f7a4_2 rfl (lv_at hl 1 rfl) ?_
  refine z_if_lt hx hb (by omega) dJ6_stringSize_0f7a4_3 (tgt := 11) (by decide) ?_
  refine lv_iconst (v := nI 0) hx hb dJ6_stringSize_0f7a4_6 (by decide) ?_
  refine lv_istore_n (lv' := [(1, .int (nI 0)), (0, .int (nI w))]) hx hb dJ6_stringSize_0f7a4_7 rfl hl (by decide) rfl (fun ls hl => ?_)
  refine lv_iload_n hx hb dJ6_stringSize_0f7a4_8 rfl (lv_at hl 1 rfl) ?_
  refine lv_ineg hx hb dJ6_stringSize_0f7a4_9 ?_
  refine lv_istore_n (lv' := [(0, .int (-(nI w))), (1, .int (nI 0))]) hx hb dJ6_stringSize_0f7a4_10 rfl hl (by decide) rfl (fun ls hl => ?_)
  refine lv_bipush (v := (-10)) hx hb dJ6_stringSize_0f7a4_11 (by decide) ?_
  rw [show (-10 : Int32) = -(nI 10) from by decide]
  refine lv_istore_n (lv' := [(2, .int (-(nI 10))), (0, .int (-(nI w))), (1, .int (nI 0))]) hx hb dJ6_stringSize_0f7a4_13 rfl hl (by decide) rfl (fun ls hl => ?_)
  refine lv_iconst (v := nI 1) hx hb dJ6_stringSize_0f7a4_14 (by decide) ?_
  refine lv_istore_n (lv' := [(3, .int (nI 1)), (2, .int (-(nI 10))), (0, .int (-(nI w))), (1, .int (nI 0))]) hx hb dJ6_stringSize_0f7a4_15 rfl hl (by decide) rfl (fun ls hl => ?_)
  refine lv_iload_n hx hb dJ6_stringSize_0f7a4_16 rfl (lv_at hl 0 rfl) ?_
  refine lv_bipush (v := nI 10) hx hb dJ6_stringSize_0f7a4_17 (by decide) ?_
  refine z_icmp_ge hx hb (by omega) (by omega) dJ6_stringSize_0f7a4_19 (tgt := 42) (by decide) (fun c_2 => ?_) (fun c_2 => ?_)
  · exact absurd c_2 (by decide)
  · refine lv_iload_n hx hb dJ6_stringSize_0f7a4_22 rfl (lv_at hl 2 rfl) ?_
    refine lv_iload_n hx hb dJ6_stringSize_0f7a4_23 rfl (lv_at hl 1 rfl) ?_
    refine lv_icmp_le (tgt := 31) hx hb dJ6_stringSize_0f7a4_24 (by decide) (fun c_3 => ?_) (fun c_3 => ?_)
    · replace c_3 := (sb_nle (by omega) (by omega)).mp c_3
      refine lv_bipush (v := nI 10) hx hb dJ6_stringSize_0f7a4_31 (by decide) ?_
      refine lv_iload_n hx hb dJ6_stringSize_0f7a4_33 rfl (lv_at hl 1 rfl) ?_
      refine lv_imul hx hb dJ6_stringSize_0f7a4_34 ?_
      rw [show (nI 10) * (-(nI 10)) = -(nI 100) from by decide +kernel]
      refine lv_istore_n (lv' := [(2, .int (-(nI 100))), (3, .int (nI 1)), (0, .int (-(nI w))), (1, .int (nI 0))]) hx hb dJ6_stringSize_0f7a4_35 rfl hl (by decide) rfl (fun ls hl => ?_)
      refine lv_iinc (v := (nI 2)) (lv' := [(3, .int (nI 2)), (2, .int (-(nI 100))), (0, .int (-(nI w))), (1, .int (nI 0))]) hx hb dJ6_stringSize_0f7a4_36 hl (k := 1) rfl (nI_add _ _) (by decide) rfl (fun ls hl => ?_)
      refine lv_goto (tgt := 16) hx hb dJ6_stringSize_0f7a4_39 (by decide) ?_
      refine lv_iload_n hx hb dJ6_stringSize_0f7a4_16 rfl (lv_at hl 0 rfl) ?_
      refine lv_bipush (v := nI 10) hx hb dJ6_stringSize_0f7a4_17 (by decide) ?_
      refine z_icmp_ge hx hb (by omega) (by omega) dJ6_stringSize_0f7a4_19 (tgt := 42) (by decide) (fun c_4 => ?_) (fun c_4 => ?_)
      · exact absurd c_4 (by decide)
      · refine lv_iload_n hx hb dJ6_stringSize_0f7a4_22 rfl (lv_at hl 2 rfl) ?_
        refine lv_iload_n hx hb dJ6_stringSize_0f7a4_23 rfl (lv_at hl 1 rfl) ?_
        refine lv_icmp_le (tgt := 31) hx hb dJ6_stringSize_0f7a4_24 (by decide) (fun c_5 => ?_) (fun c_5 => ?_)
        · replace c_5 := (sb_nle (by omega) (by omega)).mp c_5
          refine lv_bipush (v := nI 10) hx hb dJ6_stringSize_0f7a4_31 (by decide) ?_
          refine lv_iload_n hx hb dJ6_stringSize_0f7a4_33 rfl (lv_at hl 1 rfl) ?_
          refine lv_imul hx hb dJ6_stringSize_0f7a4_34 ?_
          rw [show (nI 10) * (-(nI 100)) = -(nI 1000) from by decide +kernel]
          refine lv_istore_n (lv' := [(2, .int (-(nI 1000))), (3, .int (nI 2)), (0, .int (-(nI w))), (1, .int (nI 0))]) hx hb dJ6_stringSize_0f7a4_35 rfl hl (by decide) rfl (fun ls hl => ?_)
          refine lv_iinc (v := (nI 3)) (lv' := [(3, .int (nI 3)), (2, .int (-(nI 1000))), (0, .int (-(nI w))), (1, .int (nI 0))]) hx hb dJ6_stringSize_0f7a4_36 hl (k := 1) rfl (nI_add _ _) (by decide) rfl (fun ls hl => ?_)
          refine lv_goto (tgt := 16) hx hb dJ6_stringSize_0f7a4_39 (by decide) ?_
          refine lv_iload_n hx hb dJ6_stringSize_0f7a4_16 rfl (lv_at hl 0 rfl) ?_
          refine lv_bipush (v := nI 10) hx hb dJ6_stringSize_0f7a4_17 (by decide) ?_
          refine z_icmp_ge hx hb (by omega) (by omega) dJ6_stringSize_0f7a4_19 (tgt := 42) (by decide) (fun c_6 => ?_) (fun c_6 => ?_)
          · exact absurd c_6 (by decide)
          · refine lv_iload_n hx hb dJ6_stringSize_0f7a4_22 rfl (lv_at hl 2 rfl) ?_
            refine lv_iload_n hx hb dJ6_stringSize_0f7a4_23 rfl (lv_at hl 1 rfl) ?_
            refine lv_icmp_le (tgt := 31) hx hb dJ6_stringSize_0f7a4_24 (by decide) (fun c_7 => ?_) (fun c_7 => ?_)
            · replace c_7 := (sb_nle (by omega) (by omega)).mp c_7
              refine lv_bipush (v := nI 10) hx hb dJ6_stringSize_0f7a4_31 (by decide) ?_
              refine lv_iload_n hx hb dJ6_stringSize_0f7a4_33 rfl (lv_at hl 1 rfl) ?_
              refine lv_imul hx hb dJ6_stringSize_0f7a4_34 ?_
              rw [show (nI 10) * (-(nI 1000)) = -(nI 10000) from by decide +kernel]
              refine lv_istore_n (lv' := [(2, .int (-(nI 10000))), (3, .int (nI 3)), (0, .int (-(nI w))), (1, .int (nI 0))]) hx hb dJ6_stringSize_0f7a4_35 rfl hl (by decide) rfl (fun ls hl => ?_)
              refine lv_iinc (v := (nI 4)) (lv' := [(3, .int (nI 4)), (2, .int (-(nI 10000))), (0, .int (-(nI w))), (1, .int (nI 0))]) hx hb dJ6_stringSize_0f7a4_36 hl (k := 1) rfl (nI_add _ _) (by decide) rfl (fun ls hl => ?_)
              refine lv_goto (tgt := 16) hx hb dJ6_stringSize_0f7a4_39 (by decide) ?_
              refine lv_iload_n hx hb dJ6_stringSize_0f7a4_16 rfl (lv_at hl 0 rfl) ?_
              refine lv_bipush (v := nI 10) hx hb dJ6_stringSize_0f7a4_17 (by decide) ?_
              refine z_icmp_ge hx hb (by omega) (by omega) dJ6_stringSize_0f7a4_19 (tgt := 42) (by decide) (fun c_8 => ?_) (fun c_8 => ?_)
              · exact absurd c_8 (by decide)
              · refine lv_iload_n hx hb dJ6_stringSize_0f7a4_22 rfl (lv_at hl 2 rfl) ?_
                refine lv_iload_n hx hb dJ6_stringSize_0f7a4_23 rfl (lv_at hl 1 rfl) ?_
                refine lv_icmp_le (tgt := 31) hx hb dJ6_stringSize_0f7a4_24 (by decide) (fun c_9 => ?_) (fun c_9 => ?_)
                · replace c_9 := (sb_nle (by omega) (by omega)).mp c_9
                  refine lv_bipush (v := nI 10) hx hb dJ6_stringSize_0f7a4_31 (by decide) ?_
                  refine lv_iload_n hx hb dJ6_stringSize_0f7a4_33 rfl (lv_at hl 1 rfl) ?_
                  refine lv_imul hx hb dJ6_stringSize_0f7a4_34 ?_
                  rw [show (nI 10) * (-(nI 10000)) = -(nI 100000) from by decide +kernel]
                  refine lv_istore_n (lv' := [(2, .int (-(nI 100000))), (3, .int (nI 4)), (0, .int (-(nI w))), (1, .int (nI 0))]) hx hb dJ6_stringSize_0f7a4_35 rfl hl (by decide) rfl (fun ls hl => ?_)
                  refine lv_iinc (v := (nI 5)) (lv' := [(3, .int (nI 5)), (2, .int (-(nI 100000))), (0, .int (-(nI w))), (1, .int (nI 0))]) hx hb dJ6_stringSize_0f7a4_36 hl (k := 1) rfl (nI_add _ _) (by decide) rfl (fun ls hl => ?_)
                  refine lv_goto (tgt := 16) hx hb dJ6_stringSize_0f7a4_39 (by decide) ?_
                  refine lv_iload_n hx hb dJ6_stringSize_0f7a4_16 rfl (lv_at hl 0 rfl) ?_
                  refine lv_bipush (v := nI 10) hx hb dJ6_stringSize_0f7a4_17 (by decide) ?_
                  refine z_icmp_ge hx hb (by omega) (by omega) dJ6_stringSize_0f7a4_19 (tgt := 42) (by decide) (fun c_10 => ?_) (fun c_10 => ?_)
                  · exact absurd c_10 (by decide)
                  · refine lv_iload_n hx hb dJ6_stringSize_0f7a4_22 rfl (lv_at hl 2 rfl) ?_
                    refine lv_iload_n hx hb dJ6_stringSize_0f7a4_23 rfl (lv_at hl 1 rfl) ?_
                    refine lv_icmp_le (tgt := 31) hx hb dJ6_stringSize_0f7a4_24 (by decide) (fun c_11 => ?_) (fun c_11 => ?_)
                    · replace c_11 := (sb_nle (by omega) (by omega)).mp c_11
                      refine lv_bipush (v := nI 10) hx hb dJ6_stringSize_0f7a4_31 (by decide) ?_
                      refine lv_iload_n hx hb dJ6_stringSize_0f7a4_33 rfl (lv_at hl 1 rfl) ?_
                      refine lv_imul hx hb dJ6_stringSize_0f7a4_34 ?_
                      rw [show (nI 10) * (-(nI 100000)) = -(nI 1000000) from by decide +kernel]
                      refine lv_istore_n (lv' := [(2, .int (-(nI 1000000))), (3, .int (nI 5)), (0, .int (-(nI w))), (1, .int (nI 0))]) hx hb dJ6_stringSize_0f7a4_35 rfl hl (by decide) rfl (fun ls hl => ?_)
                      refine lv_iinc (v := (nI 6)) (lv' := [(3, .int (nI 6)), (2, .int (-(nI 1000000))), (0, .int (-(nI w))), (1, .int (nI 0))]) hx hb dJ6_stringSize_0f7a4_36 hl (k := 1) rfl (nI_add _ _) (by decide) rfl (fun ls hl => ?_)
                      refine lv_goto (tgt := 16) hx hb dJ6_stringSize_0f7a4_39 (by decide) ?_
                      refine lv_iload_n hx hb dJ6_stringSize_0f7a4_16 rfl (lv_at hl 0 rfl) ?_
                      refine lv_bipush (v := nI 10) hx hb dJ6_stringSize_0f7a4_17 (by decide) ?_
                      refine z_icmp_ge hx hb (by omega) (by omega) dJ6_stringSize_0f7a4_19 (tgt := 42) (by decide) (fun c_12 => ?_) (fun c_12 => ?_)
                      · exact absurd c_12 (by decide)
                      · refine lv_iload_n hx hb dJ6_stringSize_0f7a4_22 rfl (lv_at hl 2 rfl) ?_
                        refine lv_iload_n hx hb dJ6_stringSize_0f7a4_23 rfl (lv_at hl 1 rfl) ?_
                        refine lv_icmp_le (tgt := 31) hx hb dJ6_stringSize_0f7a4_24 (by decide) (fun c_13 => ?_) (fun c_13 => ?_)
                        · replace c_13 := (sb_nle (by omega) (by omega)).mp c_13
                          refine lv_bipush (v := nI 10) hx hb dJ6_stringSize_0f7a4_31 (by decide) ?_
                          refine lv_iload_n hx hb dJ6_stringSize_0f7a4_33 rfl (lv_at hl 1 rfl) ?_
                          refine lv_imul hx hb dJ6_stringSize_0f7a4_34 ?_
                          rw [show (nI 10) * (-(nI 1000000)) = -(nI 10000000) from by decide +kernel]
                          refine lv_istore_n (lv' := [(2, .int (-(nI 10000000))), (3, .int (nI 6)), (0, .int (-(nI w))), (1, .int (nI 0))]) hx hb dJ6_stringSize_0f7a4_35 rfl hl (by decide) rfl (fun ls hl => ?_)
                          refine lv_iinc (v := (nI 7)) (lv' := [(3, .int (nI 7)), (2, .int (-(nI 10000000))), (0, .int (-(nI w))), (1, .int (nI 0))]) hx hb dJ6_stringSize_0f7a4_36 hl (k := 1) rfl (nI_add _ _) (by decide) rfl (fun ls hl => ?_)
                          refine lv_goto (tgt := 16) hx hb dJ6_stringSize_0f7a4_39 (by decide) ?_
                          refine lv_iload_n hx hb dJ6_stringSize_0f7a4_16 rfl (lv_at hl 0 rfl) ?_
                          refine lv_bipush (v := nI 10) hx hb dJ6_stringSize_0f7a4_17 (by decide) ?_
                          refine z_icmp_ge hx hb (by omega) (by omega) dJ6_stringSize_0f7a4_19 (tgt := 42) (by decide) (fun c_14 => ?_) (fun c_14 => ?_)
                          · exact absurd c_14 (by decide)
                          · refine lv_iload_n hx hb dJ6_stringSize_0f7a4_22 rfl (lv_at hl 2 rfl) ?_
                            refine lv_iload_n hx hb dJ6_stringSize_0f7a4_23 rfl (lv_at hl 1 rfl) ?_
                            refine lv_icmp_le (tgt := 31) hx hb dJ6_stringSize_0f7a4_24 (by decide) (fun c_15 => ?_) (fun c_15 => ?_)
                            · replace c_15 := (sb_nle (by omega) (by omega)).mp c_15
                              refine lv_bipush (v := nI 10) hx hb dJ6_stringSize_0f7a4_31 (by decide) ?_
                              refine lv_iload_n hx hb dJ6_stringSize_0f7a4_33 rfl (lv_at hl 1 rfl) ?_
                              refine lv_imul hx hb dJ6_stringSize_0f7a4_34 ?_
                              rw [show (nI 10) * (-(nI 10000000)) = -(nI 100000000) from by decide +kernel]
                              refine lv_istore_n (lv' := [(2, .int (-(nI 100000000))), (3, .int (nI 7)), (0, .int (-(nI w))), (1, .int (nI 0))]) hx hb dJ6_stringSize_0f7a4_35 rfl hl (by decide) rfl (fun ls hl => ?_)
                              refine lv_iinc (v := (nI 8)) (lv' := [(3, .int (nI 8)), (2, .int (-(nI 100000000))), (0, .int (-(nI w))), (1, .int (nI 0))]) hx hb dJ6_stringSize_0f7a4_36 hl (k := 1) rfl (nI_add _ _) (by decide) rfl (fun ls hl => ?_)
                              refine lv_goto (tgt := 16) hx hb dJ6_stringSize_0f7a4_39 (by decide) ?_
                              refine lv_iload_n hx hb dJ6_stringSize_0f7a4_16 rfl (lv_at hl 0 rfl) ?_
                              refine lv_bipush (v := nI 10) hx hb dJ6_stringSize_0f7a4_17 (by decide) ?_
                              refine z_icmp_ge hx hb (by omega) (by omega) dJ6_stringSize_0f7a4_19 (tgt := 42) (by decide) (fun c_16 => ?_) (fun c_16 => ?_)
                              · exact absurd c_16 (by decide)
                              · refine lv_iload_n hx hb dJ6_stringSize_0f7a4_22 rfl (lv_at hl 2 rfl) ?_
                                refine lv_iload_n hx hb dJ6_stringSize_0f7a4_23 rfl (lv_at hl 1 rfl) ?_
                                refine lv_icmp_le (tgt := 31) hx hb dJ6_stringSize_0f7a4_24 (by decide) (fun c_17 => ?_) (fun c_17 => ?_)
                                · replace c_17 := (sb_nle (by omega) (by omega)).mp c_17
                                  refine lv_bipush (v := nI 10) hx hb dJ6_stringSize_0f7a4_31 (by decide) ?_
                                  refine lv_iload_n hx hb dJ6_stringSize_0f7a4_33 rfl (lv_at hl 1 rfl) ?_
                                  refine lv_imul hx hb dJ6_stringSize_0f7a4_34 ?_
                                  rw [show (nI 10) * (-(nI 100000000)) = -(nI 1000000000) from by decide +kernel]
                                  refine lv_istore_n (lv' := [(2, .int (-(nI 1000000000))), (3, .int (nI 8)), (0, .int (-(nI w))), (1, .int (nI 0))]) hx hb dJ6_stringSize_0f7a4_35 rfl hl (by decide) rfl (fun ls hl => ?_)
                                  refine lv_iinc (v := (nI 9)) (lv' := [(3, .int (nI 9)), (2, .int (-(nI 1000000000))), (0, .int (-(nI w))), (1, .int (nI 0))]) hx hb dJ6_stringSize_0f7a4_36 hl (k := 1) rfl (nI_add _ _) (by decide) rfl (fun ls hl => ?_)
                                  refine lv_goto (tgt := 16) hx hb dJ6_stringSize_0f7a4_39 (by decide) ?_
                                  refine lv_iload_n hx hb dJ6_stringSize_0f7a4_16 rfl (lv_at hl 0 rfl) ?_
                                  refine lv_bipush (v := nI 10) hx hb dJ6_stringSize_0f7a4_17 (by decide) ?_
                                  refine z_icmp_ge hx hb (by omega) (by omega) dJ6_stringSize_0f7a4_19 (tgt := 42) (by decide) (fun c_18 => ?_) (fun c_18 => ?_)
                                  · exact absurd c_18 (by decide)
                                  · refine lv_iload_n hx hb dJ6_stringSize_0f7a4_22 rfl (lv_at hl 2 rfl) ?_
                                    refine lv_iload_n hx hb dJ6_stringSize_0f7a4_23 rfl (lv_at hl 1 rfl) ?_
                                    refine lv_icmp_le (tgt := 31) hx hb dJ6_stringSize_0f7a4_24 (by decide) (fun c_19 => ?_) (fun c_19 => ?_)
                                    · replace c_19 := (sb_nle (by omega) (by omega)).mp c_19
                                      refine lv_bipush (v := nI 10) hx hb dJ6_stringSize_0f7a4_31 (by decide) ?_
                                      refine lv_iload_n hx hb dJ6_stringSize_0f7a4_33 rfl (lv_at hl 1 rfl) ?_
                                      refine lv_imul hx hb dJ6_stringSize_0f7a4_34 ?_
                                      rw [show (nI 10) * (-(nI 1000000000)) = -(nI 10000000000) from by decide +kernel]
                                      refine lv_istore_n (lv' := [(2, .int (-(nI 10000000000))), (3, .int (nI 9)), (0, .int (-(nI w))), (1, .int (nI 0))]) hx hb dJ6_stringSize_0f7a4_35 rfl hl (by decide) rfl (fun ls hl => ?_)
                                      refine lv_iinc (v := (nI 10)) (lv' := [(3, .int (nI 10)), (2, .int (-(nI 10000000000))), (0, .int (-(nI w))), (1, .int (nI 0))]) hx hb dJ6_stringSize_0f7a4_36 hl (k := 1) rfl (nI_add _ _) (by decide) rfl (fun ls hl => ?_)
                                      refine lv_goto (tgt := 16) hx hb dJ6_stringSize_0f7a4_39 (by decide) ?_
                                      refine lv_iload_n hx hb dJ6_stringSize_0f7a4_16 rfl (lv_at hl 0 rfl) ?_
                                      refine lv_bipush (v := nI 10) hx hb dJ6_stringSize_0f7a4_17 (by decide) ?_
                                      refine z_icmp_ge hx hb (by omega) (by omega) dJ6_stringSize_0f7a4_19 (tgt := 42) (by decide) (fun c_20 => ?_) (fun c_20 => ?_)
                                      · refine lv_bipush (v := nI 10) hx hb dJ6_stringSize_0f7a4_42 (by decide) ?_
                                        refine lv_iload_n hx hb dJ6_stringSize_0f7a4_44 rfl (lv_at hl 3 rfl) ?_
                                        refine z_iadd hx hb dJ6_stringSize_0f7a4_45 ?_
                                        exact z_rSi hx hb hr hlk dJ6_stringSize_0f7a4_46 (congrArg nI (z_dgk (10) (by omega) (by omega) (by omega) (by omega)))
                                      · exact absurd (by decide) c_20
                                    · replace c_19 := mt (sb_nle (by omega) (by omega)).mpr c_19
                                      refine lv_iload_n hx hb dJ6_stringSize_0f7a4_27 rfl (lv_at hl 0 rfl) ?_
                                      refine lv_iload_n hx hb dJ6_stringSize_0f7a4_28 rfl (lv_at hl 3 rfl) ?_
                                      refine z_iadd hx hb dJ6_stringSize_0f7a4_29 ?_
                                      exact z_rSi hx hb hr hlk dJ6_stringSize_0f7a4_30 (congrArg nI (z_dgk (9) (by omega) (by omega) (by omega) (by omega)))
                                · replace c_17 := mt (sb_nle (by omega) (by omega)).mpr c_17
                                  refine lv_iload_n hx hb dJ6_stringSize_0f7a4_27 rfl (lv_at hl 0 rfl) ?_
                                  refine lv_iload_n hx hb dJ6_stringSize_0f7a4_28 rfl (lv_at hl 3 rfl) ?_
                                  refine z_iadd hx hb dJ6_stringSize_0f7a4_29 ?_
                                  exact z_rSi hx hb hr hlk dJ6_stringSize_0f7a4_30 (congrArg nI (z_dgk (8) (by omega) (by omega) (by omega) (by omega)))
                            · replace c_15 := mt (sb_nle (by omega) (by omega)).mpr c_15
                              refine lv_iload_n hx hb dJ6_stringSize_0f7a4_27 rfl (lv_at hl 0 rfl) ?_
                              refine lv_iload_n hx hb dJ6_stringSize_0f7a4_28 rfl (lv_at hl 3 rfl) ?_
                              refine z_iadd hx hb dJ6_stringSize_0f7a4_29 ?_
                              exact z_rSi hx hb hr hlk dJ6_stringSize_0f7a4_30 (congrArg nI (z_dgk (7) (by omega) (by omega) (by omega) (by omega)))
                        · replace c_13 := mt (sb_nle (by omega) (by omega)).mpr c_13
                          refine lv_iload_n hx hb dJ6_stringSize_0f7a4_27 rfl (lv_at hl 0 rfl) ?_
                          refine lv_iload_n hx hb dJ6_stringSize_0f7a4_28 rfl (lv_at hl 3 rfl) ?_
                          refine z_iadd hx hb dJ6_stringSize_0f7a4_29 ?_
                          exact z_rSi hx hb hr hlk dJ6_stringSize_0f7a4_30 (congrArg nI (z_dgk (6) (by omega) (by omega) (by omega) (by omega)))
                    · replace c_11 := mt (sb_nle (by omega) (by omega)).mpr c_11
                      refine lv_iload_n hx hb dJ6_stringSize_0f7a4_27 rfl (lv_at hl 0 rfl) ?_
                      refine lv_iload_n hx hb dJ6_stringSize_0f7a4_28 rfl (lv_at hl 3 rfl) ?_
                      refine z_iadd hx hb dJ6_stringSize_0f7a4_29 ?_
                      exact z_rSi hx hb hr hlk dJ6_stringSize_0f7a4_30 (congrArg nI (z_dgk (5) (by omega) (by omega) (by omega) (by omega)))
                · replace c_9 := mt (sb_nle (by omega) (by omega)).mpr c_9
                  refine lv_iload_n hx hb dJ6_stringSize_0f7a4_27 rfl (lv_at hl 0 rfl) ?_
                  refine lv_iload_n hx hb dJ6_stringSize_0f7a4_28 rfl (lv_at hl 3 rfl) ?_
                  refine z_iadd hx hb dJ6_stringSize_0f7a4_29 ?_
                  exact z_rSi hx hb hr hlk dJ6_stringSize_0f7a4_30 (congrArg nI (z_dgk (4) (by omega) (by omega) (by omega) (by omega)))
            · replace c_7 := mt (sb_nle (by omega) (by omega)).mpr c_7
              refine lv_iload_n hx hb dJ6_stringSize_0f7a4_27 rfl (lv_at hl 0 rfl) ?_
              refine lv_iload_n hx hb dJ6_stringSize_0f7a4_28 rfl (lv_at hl 3 rfl) ?_
              refine z_iadd hx hb dJ6_stringSize_0f7a4_29 ?_
              exact z_rSi hx hb hr hlk dJ6_stringSize_0f7a4_30 (congrArg nI (z_dgk (3) (by omega) (by omega) (by omega) (by omega)))
        · replace c_5 := mt (sb_nle (by omega) (by omega)).mpr c_5
          refine lv_iload_n hx hb dJ6_stringSize_0f7a4_27 rfl (lv_at hl 0 rfl) ?_
          refine lv_iload_n hx hb dJ6_stringSize_0f7a4_28 rfl (lv_at hl 3 rfl) ?_
          refine z_iadd hx hb dJ6_stringSize_0f7a4_29 ?_
          exact z_rSi hx hb hr hlk dJ6_stringSize_0f7a4_30 (congrArg nI (z_dgk (2) (by omega) (by omega) (by omega) (by omega)))
    · replace c_3 := mt (sb_nle (by omega) (by omega)).mpr c_3
      refine lv_iload_n hx hb dJ6_stringSize_0f7a4_27 rfl (lv_at hl 0 rfl) ?_
      refine lv_iload_n hx hb dJ6_stringSize_0f7a4_28 rfl (lv_at hl 3 rfl) ?_
      refine z_iadd hx hb dJ6_stringSize_0f7a4_29 ?_
      exact z_rSi hx hb hr hlk dJ6_stringSize_0f7a4_30 (congrArg nI (z_dgk (1) (by omega) (by omega) (by omega) (by omega)))
set_option maxHeartbeats 4000000 in
set_option maxRecDepth 100000 in
theorem c_J6_getChars_ba4f3 (l : Launch) (G : va_G) (cy : Nat → ClassId) (wd : Nat → Nat) (fo : Option Nat) (N0 sz0 : Nat) (a v9 bu : Nat) (t : Nat → Nat) (hv9 : v9 < 2 ^ 31) (he9 : a + sb_dg v9 ≤ 16) : Met l yJ6_getChars_ba4f3 wsJ6_getChars_ba4f3 ({ frames := 0, cells := 0, slots := 0, locals := 0 }) (zMW G cy wd fo N0 [.int (nI v9), .int (nI (a + sb_dg v9)), .ref bu] sz0 [zY cy bu 16 (fun j9 => nI (t j9))]) (va_Qi (fun (r : Int32) (_ : Unit) => r = (nI a)) (fun (u : Unit) t9 => zB G cy (va_A [zY cy bu 16 (fun j9 => nI (t j9))] sz0) [zY cy bu 16 (fun j9 => nI ((zGr t a v9 0) j9))] t9) (va_A [zY cy bu 16 (fun j9 => nI (t j9))] sz0)) 0 0 (va_A [zY cy bu 16 (fun j9 => nI (t j9))] sz0) := by
  refine z_ofMW (cc := cJ6_getChars_ba4f3) (maxL := 7) (ret := (some .int)) (Qc := (fun A => va_Qi (fun (r : Int32) (_ : Unit) => r = (nI a)) (fun (u : Unit) t9 => zB G cy A [zY cy bu 16 (fun j9 => nI ((zGr t a v9 0) j9))] t9) A)) (by decide) rfl (Nat.le_of_ble_eq_true rfl) ?_
  intro p e s m below meth c ls A hx hb hml hr hts hown hlk hin hP hK hD hA hS hl hsz0 hN hAN hWd
  have hown : s.vm.findClass RJ6 = some m.cls := hown
  have hl : lv_has ls 7 [(0, .int (nI v9)), (1, .int (nI (a + sb_dg v9))), (2, .ref bu)] := hl
  refine lv_iload_n hx hb dJ6_getChars_ba4f3_0 rfl (lv_at hl 1 rfl) ?_
  refine lv_istore (lv' := [(5, .int (nI (a + sb_dg v9))), (0, .int (nI v9)), (1, .int (nI (a + sb_dg v9))), (2, .ref bu)]) hx hb dJ6_getChars_ba4f3_1 hl (by decide) rfl (fun ls hl => ?_)
  refine lv_iload_n hx hb dJ6_getChars_ba4f3_3 rfl (lv_at hl 1 rfl) ?_
  refine z_if_ge hx hb (by omega) dJ6_getChars_ba4f3_4 (tgt := 11) (by decide) ?_
  refine lv_iconst (v := nI 0) hx hb dJ6_getChars_ba4f3_11 (by decide) ?_
  refine lv_istore (lv' := [(6, .int (nI 0)), (5, .int (nI (a + sb_dg v9))), (0, .int (nI v9)), (1, .int (nI (a + sb_dg v9))), (2, .ref bu)]) hx hb dJ6_getChars_ba4f3_12 hl (by decide) rfl (fun ls hl => ?_)
  refine lv_iload hx hb dJ6_getChars_ba4f3_14 (lv_at hl 0 rfl) ?_
  refine lv_if_ne hx hb dJ6_getChars_ba4f3_16 (tgt := 22) (by decide) (fun q => absurd (by decide) q) (fun _ => ?_)
  refine lv_iload_n hx hb dJ6_getChars_ba4f3_19 rfl (lv_at hl 2 rfl) ?_
  refine lv_ineg hx hb dJ6_getChars_ba4f3_20 ?_
  refine lv_istore_n (lv' := [(0, .int (-(nI v9))), (6, .int (nI 0)), (5, .int (nI (a + sb_dg v9))), (1, .int (nI (a + sb_dg v9))), (2, .ref bu)]) hx hb dJ6_getChars_ba4f3_21 rfl hl (by decide) rfl (fun ls hl => ?_)
  have hloop22 : ∀ (fuel22 : Nat) (w : Nat), (zGw v9 w) → (w < 2 ^ 31) → w < fuel22 → ∀ (H : Heap) (locs : List Loc), va_P G vwCl [zY cy bu 16 (fun j9 => nI ((zGr t a v9 (sb_dg w)) j9))] H → va_D A [zY cy bu 16 (fun j9 => nI ((zGr t a v9 (sb_dg w)) j9))] → va_S A s.heap H locs → ∀ (ls : Array Slot), lv_has ls 7 [(0, .int (-(nI w))), (2, .ref bu), (5, .int (nI (a + sb_dg w))), (6, .int (nI 0))] → W p l e { frames := 0, cells := 0, slots := 0, locals := 0 } s m [.int (nI v9), .int (nI (a + sb_dg v9)), .ref bu].toArray below meth c H locs 0 0 (MQ below (va_Qi (fun (r : Int32) (_ : Unit) => r = (nI a)) (fun (u : Unit) t9 => zB G cy A [zY cy bu 16 (fun j9 => nI ((zGr t a v9 0) j9))] t9) A) [.int (nI v9), .int (nI (a + sb_dg v9)), .ref bu].toArray s 0 0 A) (F0 m 22 ls []) := by
    intro fuel22
    induction fuel22 with
    | zero =>
      intro w hi22_0 hi22_1 hfu22
      exact absurd hfu22 (Nat.not_lt_zero _)
    | succ fuel22 ih22 =>
      intro w hi22_0 hi22_1 hfu22 H locs hP hD hS ls hl
      have hd8 := sb_dg_in w
      have hd7 := hi22_0.1
      refine lv_iload_n hx hb dJ6_getChars_ba4f3_22 rfl (lv_at hl 0 rfl) ?_
      refine lv_bipush (v := (-100)) hx hb dJ6_getChars_ba4f3_23 (by decide) ?_
      rw [show (-100 : Int32) = -(nI 100) from by decide]
      refine lv_icmp_gt (tgt := 72) hx hb dJ6_getChars_ba4f3_25 (by decide) (fun c_2 => ?_) (fun c_2 => ?_)
      · replace c_2 := (sb_nlt (by omega) (by omega)).mp c_2
        refine lv_aload_n hx hb dJ6_getChars_ba4f3_72 rfl (lv_at hl 1 rfl) ?_
        refine lv_iinc (v := (nI (a + sb_dg w - 1))) (lv' := [(5, .int (nI (a + sb_dg w - 1))), (0, .int (-(nI w))), (2, .ref bu), (6, .int (nI 0))]) hx hb dJ6_getChars_ba4f3_73 hl (k := 2) rfl (z_pred (by omega)) (by decide) rfl (fun ls hl => ?_)
        refine lv_iload hx hb dJ6_getChars_ba4f3_76 (lv_at hl 0 rfl) ?_
        refine va_gets (v := .ref (wd 0)) hx hb (hWd.d1 hAN) hS hown (hts _ (List.mem_of_getElem? (i := 1) (by decide +kernel))) (fun _ h9 => h9) dJ6_getChars_ba4f3_78 ?_
        refine lv_iload_n hx hb dJ6_getChars_ba4f3_81 rfl (lv_at hl 1 rfl) ?_
        refine lv_ineg hx hb dJ6_getChars_ba4f3_82 ?_
        rw [Int32.neg_neg]
        refine va_tb (v := .int (nI (48 + w % 10))) hx hb (hWd.t1 hAN) hS (i := nI w) (vp_in_nI (by omega) (by decide)) (by rw [nI_clamp (by omega)]) dJ6_getChars_ba4f3_83 ?_
        refine z_bast (G := G) hx hb hK hP hD hS 0 rfl (by omega) (by omega) dJ6_getChars_ba4f3_84 (fun H locs hP hD hS => ?_)
        have hP : va_P G vwCl [zY cy bu 16 (fun j9 => nI ((va_up (zGr t a v9 (sb_dg w)) (a + sb_dg w - 1) (48 + w % 10)) j9))] H := hP
        have hD : va_D A [zY cy bu 16 (fun j9 => nI ((va_up (zGr t a v9 (sb_dg w)) (a + sb_dg w - 1) (48 + w % 10)) j9))] := hD
        refine lv_iload_n hx hb dJ6_getChars_ba4f3_85 rfl (lv_at hl 1 rfl) ?_
        refine lv_bipush (v := (-9)) hx hb dJ6_getChars_ba4f3_86 (by decide) ?_
        rw [show (-9 : Int32) = -(nI 9) from by decide]
        refine lv_icmp_ge (tgt := 104) hx hb dJ6_getChars_ba4f3_88 (by decide) (fun c_3 => ?_) (fun c_3 => ?_)
        · replace c_3 := (sb_nle (by omega) (by omega)).mp c_3
          have hd6 := z_dg1 (show w < 10 by omega)
          rw [zG_end1 hi22_0 (by omega)] at hP hD
          refine lv_iload hx hb dJ6_getChars_ba4f3_104 (lv_at hl 3 rfl) ?_
          refine lv_if_eq hx hb dJ6_getChars_ba4f3_106 (tgt := 118) (by decide) (fun _ => ?_) (fun q => absurd (by decide) q)
          refine lv_iload hx hb dJ6_getChars_ba4f3_118 (lv_at hl 0 rfl) ?_
          exact z_rMi hx hb hr hlk dJ6_getChars_ba4f3_120 () (congrArg nI (by omega)) hP hD hK hS (Nat.le_of_ble_eq_true rfl) (Nat.le_of_ble_eq_true rfl)
        · replace c_3 := mt (sb_nle (by omega) (by omega)).mpr c_3
          have hd5 := z_dg2 (show ¬ w < 10 by omega) (by omega)
          refine lv_aload_n hx hb dJ6_getChars_ba4f3_91 rfl (lv_at hl 2 rfl) ?_
          refine lv_iinc (v := (nI (a + sb_dg w - 1 - 1))) (lv' := [(5, .int (nI (a + sb_dg w - 1 - 1))), (0, .int (-(nI w))), (2, .ref bu), (6, .int (nI 0))]) hx hb dJ6_getChars_ba4f3_92 hl (k := 0) rfl (z_pred (by omega)) (by decide) rfl (fun ls hl => ?_)
          refine lv_iload hx hb dJ6_getChars_ba4f3_95 (lv_at hl 0 rfl) ?_
          refine va_gets (v := .ref (wd 1)) hx hb (hWd.d2 hAN) hS hown (hts _ (List.mem_of_getElem? (i := 2) (by decide +kernel))) (fun _ h9 => h9) dJ6_getChars_ba4f3_97 ?_
          refine lv_iload_n hx hb dJ6_getChars_ba4f3_100 rfl (lv_at hl 1 rfl) ?_
          refine lv_ineg hx hb dJ6_getChars_ba4f3_101 ?_
          rw [Int32.neg_neg]
          refine va_tb (v := .int (nI (48 + w / 10))) hx hb (hWd.t2 hAN) hS (i := nI w) (vp_in_nI (by omega) (by decide)) (by rw [nI_clamp (by omega)]) dJ6_getChars_ba4f3_102 ?_
          refine z_bast (G := G) hx hb hK hP hD hS 0 rfl (by omega) (by omega) dJ6_getChars_ba4f3_103 (fun H locs hP hD hS => ?_)
          have hP : va_P G vwCl [zY cy bu 16 (fun j9 => nI ((va_up (va_up (zGr t a v9 (sb_dg w)) (a + sb_dg w - 1) (48 + w % 10)) (a + sb_dg w - 1 - 1) (48 + w / 10)) j9))] H := hP
          have hD : va_D A [zY cy bu 16 (fun j9 => nI ((va_up (va_up (zGr t a v9 (sb_dg w)) (a + sb_dg w - 1) (48 + w % 10)) (a + sb_dg w - 1 - 1) (48 + w / 10)) j9))] := hD
          have hd6 := z_dg2 (show ¬ w < 10 by omega) (by omega)
          rw [zG_end2 hi22_0 (by omega) (by omega)] at hP hD
          refine lv_iload hx hb dJ6_getChars_ba4f3_104 (lv_at hl 3 rfl) ?_
          refine lv_if_eq hx hb dJ6_getChars_ba4f3_106 (tgt := 118) (by decide) (fun _ => ?_) (fun q => absurd (by decide) q)
          refine lv_iload hx hb dJ6_getChars_ba4f3_118 (lv_at hl 0 rfl) ?_
          exact z_rMi hx hb hr hlk dJ6_getChars_ba4f3_120 () (congrArg nI (by omega)) hP hD hK hS (Nat.le_of_ble_eq_true rfl) (Nat.le_of_ble_eq_true rfl)
      · replace c_2 := mt (sb_nlt (by omega) (by omega)).mpr c_2
        have hd4 := sb_dg100 (show 100 ≤ w by omega) hi22_1
        have hd3 := sb_dg_in (w / 100)
        refine lv_iload_n hx hb dJ6_getChars_ba4f3_28 rfl (lv_at hl 0 rfl) ?_
        refine lv_bipush (v := nI 100) hx hb dJ6_getChars_ba4f3_29 (by decide) ?_
        refine lv_idiv hx hb dJ6_getChars_ba4f3_31 (by decide) ?_
        rw [show -(nI w) / nI 100 = -(nI (w / 100)) from sb_ndiv (by omega)]
        refine lv_istore_n (lv' := [(3, .int (-(nI (w / 100)))), (0, .int (-(nI w))), (2, .ref bu), (5, .int (nI (a + sb_dg w))), (6, .int (nI 0))]) hx hb dJ6_getChars_ba4f3_32 rfl hl (by decide) rfl (fun ls hl => ?_)
        refine lv_iload_n hx hb dJ6_getChars_ba4f3_33 rfl (lv_at hl 0 rfl) ?_
        refine lv_bipush (v := nI 100) hx hb dJ6_getChars_ba4f3_34 (by decide) ?_
        refine lv_imul hx hb dJ6_getChars_ba4f3_36 ?_
        refine lv_iload_n hx hb dJ6_getChars_ba4f3_37 rfl (lv_at hl 1 rfl) ?_
        refine lv_isub hx hb dJ6_getChars_ba4f3_38 ?_
        rw [show ((-(nI (w / 100))) * (nI 100)) - -(nI w) = nI (w % 100) from sb_nrem (by omega)]
        refine lv_istore (lv' := [(4, .int (nI (w % 100))), (3, .int (-(nI (w / 100)))), (0, .int (-(nI w))), (2, .ref bu), (5, .int (nI (a + sb_dg w))), (6, .int (nI 0))]) hx hb dJ6_getChars_ba4f3_39 hl (by decide) rfl (fun ls hl => ?_)
        refine lv_iload_n hx hb dJ6_getChars_ba4f3_41 rfl (lv_at hl 1 rfl) ?_
        refine lv_istore_n (lv' := [(0, .int (-(nI (w / 100)))), (4, .int (nI (w % 100))), (3, .int (-(nI (w / 100)))), (2, .ref bu), (5, .int (nI (a + sb_dg w))), (6, .int (nI 0))]) hx hb dJ6_getChars_ba4f3_42 rfl hl (by decide) rfl (fun ls hl => ?_)
        refine lv_aload_n hx hb dJ6_getChars_ba4f3_43 rfl (lv_at hl 3 rfl) ?_
        refine lv_iinc (v := (nI (a + sb_dg w - 1))) (lv' := [(5, .int (nI (a + sb_dg w - 1))), (0, .int (-(nI (w / 100)))), (4, .int (nI (w % 100))), (3, .int (-(nI (w / 100)))), (2, .ref bu), (6, .int (nI 0))]) hx hb dJ6_getChars_ba4f3_44 hl (k := 4) rfl (z_pred (by omega)) (by decide) rfl (fun ls hl => ?_)
        refine lv_iload hx hb dJ6_getChars_ba4f3_47 (lv_at hl 0 rfl) ?_
        refine va_gets (v := .ref (wd 0)) hx hb (hWd.d1 hAN) hS hown (hts _ (List.mem_of_getElem? (i := 1) (by decide +kernel))) (fun _ h9 => h9) dJ6_getChars_ba4f3_49 ?_
        refine lv_iload hx hb dJ6_getChars_ba4f3_52 (lv_at hl 2 rfl) ?_
        refine va_tb (v := .int (nI (48 + (w % 100) % 10))) hx hb (hWd.t1 hAN) hS (i := nI (w % 100)) (vp_in_nI (by omega) (by decide)) (by rw [nI_clamp (by omega)]) dJ6_getChars_ba4f3_54 ?_
        refine z_bast (G := G) hx hb hK hP hD hS 0 rfl (by omega) (by omega) dJ6_getChars_ba4f3_55 (fun H locs hP hD hS => ?_)
        have hP : va_P G vwCl [zY cy bu 16 (fun j9 => nI ((va_up (zGr t a v9 (sb_dg w)) (a + sb_dg w - 1) (48 + (w % 100) % 10)) j9))] H := hP
        have hD : va_D A [zY cy bu 16 (fun j9 => nI ((va_up (zGr t a v9 (sb_dg w)) (a + sb_dg w - 1) (48 + (w % 100) % 10)) j9))] := hD
        refine lv_aload_n hx hb dJ6_getChars_ba4f3_56 rfl (lv_at hl 4 rfl) ?_
        refine lv_iinc (v := (nI (a + sb_dg w - 1 - 1))) (lv' := [(5, .int (nI (a + sb_dg w - 1 - 1))), (0, .int (-(nI (w / 100)))), (4, .int (nI (w % 100))), (3, .int (-(nI (w / 100)))), (2, .ref bu), (6, .int (nI 0))]) hx hb dJ6_getChars_ba4f3_57 hl (k := 0) rfl (z_pred (by omega)) (by decide) rfl (fun ls hl => ?_)
        refine lv_iload hx hb dJ6_getChars_ba4f3_60 (lv_at hl 0 rfl) ?_
        refine va_gets (v := .ref (wd 1)) hx hb (hWd.d2 hAN) hS hown (hts _ (List.mem_of_getElem? (i := 2) (by decide +kernel))) (fun _ h9 => h9) dJ6_getChars_ba4f3_62 ?_
        refine lv_iload hx hb dJ6_getChars_ba4f3_65 (lv_at hl 2 rfl) ?_
        refine va_tb (v := .int (nI (48 + (w % 100) / 10))) hx hb (hWd.t2 hAN) hS (i := nI (w % 100)) (vp_in_nI (by omega) (by decide)) (by rw [nI_clamp (by omega)]) dJ6_getChars_ba4f3_67 ?_
        refine z_bast (G := G) hx hb hK hP hD hS 0 rfl (by omega) (by omega) dJ6_getChars_ba4f3_68 (fun H locs hP hD hS => ?_)
        have hP : va_P G vwCl [zY cy bu 16 (fun j9 => nI ((va_up (va_up (zGr t a v9 (sb_dg w)) (a + sb_dg w - 1) (48 + (w % 100) % 10)) (a + sb_dg w - 1 - 1) (48 + (w % 100) / 10)) j9))] H := hP
        have hD : va_D A [zY cy bu 16 (fun j9 => nI ((va_up (va_up (zGr t a v9 (sb_dg w)) (a + sb_dg w - 1) (48 + (w % 100) % 10)) (a + sb_dg w - 1 - 1) (48 + (w % 100) / 10)) j9))] := hD
        refine lv_goto (tgt := 22) hx hb dJ6_getChars_ba4f3_69 (by decide) ?_
        have hd9 := sb_dg100 (show 100 ≤ w by omega) hi22_1
        rw [zG_step hi22_0 (by omega) (by omega)] at hP hD
        rw [show a + sb_dg w - 1 - 1 = a + sb_dg (w / 100) by omega] at hl
        exact ih22 (w / 100) (zGw_next hi22_0 (by omega) (by omega)) (Nat.lt_of_le_of_lt (Nat.div_le_self _ _) hi22_1) (by omega) _ _ hP hD hS _ (lv_sub hl [1, 4, 0, 5] rfl)
  rw [← zGr_0 (t := t) (a := a) (v := v9)] at hP hD
  exact hloop22 (v9 + 1) v9 (zGw_0) (hv9) (by omega) _ _ hP hD hS _ (lv_sub hl [0, 4, 2, 1] rfl)
theorem in_J5_append_c97b9_J4 : ∀ w ∈ u_ws RJ4 TJ4 4, w ∈ wsJ5_append_c97b9 := fun _ h => (List.mem_cons_of_mem _ (List.mem_append_right _ h))
set_option maxHeartbeats 4000000 in
set_option maxRecDepth 100000 in
theorem c_J5_append_c97b9 (l : Launch) (G : va_G) (cy : Nat → ClassId) (wd : Nat → Nat) (fo : Option Nat) (N0 sz0 : Nat) (h v cnt w : Nat) (t : Nat → Nat) (hw9 : w < 2 ^ 31) (he9 : cnt + sb_dg w ≤ 16) : Met l yJ5_append_c97b9 wsJ5_append_c97b9 ({ frames := 1, cells := 0, slots := 0, locals := 26 }) (zMW G cy wd fo N0 [.ref h, .int (nI w)] sz0 [zO h 0 [.ref v, .int (nI 0), .int (nI 0), .int (nI cnt)], zY cy v 16 (fun j9 => nI (t j9))]) (zQr (fun (r : Nat) (_ : Unit) => r = h) (fun (u : Unit) t9 => zB G cy (va_A [zO h 0 [.ref v, .int (nI 0), .int (nI 0), .int (nI cnt)], zY cy v 16 (fun j9 => nI (t j9))] sz0) [zO h 0 [.ref v, .int (nI 0), .int (nI 0), .int (nI (cnt + sb_dg w))], zY cy v 16 (fun j9 => nI ((zGr t cnt w 0) j9))] t9) (va_A [zO h 0 [.ref v, .int (nI 0), .int (nI 0), .int (nI cnt)], zY cy v 16 (fun j9 => nI (t j9))] sz0)) 0 0 (va_A [zO h 0 [.ref v, .int (nI 0), .int (nI 0), .int (nI cnt)], zY cy v 16 (fun j9 => nI (t j9))] sz0) := by
  refine z_ofMW (cc := cJ5_append_c97b9) (maxL := 4) (ret := (some (.object "java/lang/AbstractStringBuilder"))) (Qc := (fun A => zQr (fun (r : Nat) (_ : Unit) => r = h) (fun (u : Unit) t9 => zB G cy A [zO h 0 [.ref v, .int (nI 0), .int (nI 0), .int (nI (cnt + sb_dg w))], zY cy v 16 (fun j9 => nI ((zGr t cnt w 0) j9))] t9) A)) (by decide) rfl (Nat.le_of_ble_eq_true rfl) ?_
  intro p e s m below meth c ls A hx hb hml hr hts hown hlk hin hP hK hD hA hS hl hsz0 hN hAN hWd
  have hown : s.vm.findClass RJ5 = some m.cls := hown
  have hl : lv_has ls 4 [(0, .ref h), (1, .int (nI w))] := hl
  have hdw := sb_dg_in w
  refine lv_aload_n hx hb dJ5_append_c97b9_0 rfl (lv_at hl 0 rfl) ?_
  refine va_get (D := G) (ci := 0) (v := .int (nI cnt)) (C := RJ4) (T := TJ4) (N := 4) hx hb hts in_J5_append_c97b9_J4 hown hK hP 0 rfl rfl 3 (by decide) (hts _ (List.mem_of_getElem? (i := 1) (by decide +kernel))) (fun _ h9 => h9) rfl dJ5_append_c97b9_1 ?_
  refine lv_istore_n (lv' := [(2, .int (nI cnt)), (0, .ref h), (1, .int (nI w))]) hx hb dJ5_append_c97b9_4 rfl hl (by decide) rfl (fun ls hl => ?_)
  refine lv_iload_n hx hb dJ5_append_c97b9_5 rfl (lv_at hl 0 rfl) ?_
  refine lv_iload_n hx hb dJ5_append_c97b9_6 rfl (lv_at hl 2 rfl) ?_
  refine vp_callSi (va_runS (As := [.int (nI w)]) (rest := [.int (nI cnt)]) ⟨hx, hb, hml, hown, hts⟩ (c_J6_stringSize_0f7a4 l G cy w (by omega)) (va_cwS 1 hts gJ5_append_c97b9_J6_stringSize_0f7a4 rfl rfl rfl (by decide +kernel) ⟨Nat.le_of_ble_eq_true rfl, Nat.le_of_ble_eq_true rfl⟩) (z_pS hK hP [] rfl) rfl rfl hl.1 rfl (lv_room (Nat.le_of_ble_eq_true rfl)) dJ5_append_c97b9_7 ⟨Nat.le_of_ble_eq_true rfl, Nat.le_of_ble_eq_true rfl⟩).run (fun r_1 hr_1 => ?_)
  obtain rfl : r_1 = (nI (sb_dg w)) := hr_1
  refine z_iadd hx hb dJ5_append_c97b9_10 ?_
  refine lv_istore_n (lv' := [(3, .int (nI (cnt + (sb_dg w)))), (2, .int (nI cnt)), (0, .ref h), (1, .int (nI w))]) hx hb dJ5_append_c97b9_11 rfl hl (by decide) rfl (fun ls hl => ?_)
  refine lv_aload_n hx hb dJ5_append_c97b9_12 rfl (lv_at hl 2 rfl) ?_
  refine lv_iload_n hx hb dJ5_append_c97b9_13 rfl (lv_at hl 0 rfl) ?_
  refine va_csv (va_runU (As := [.int (nI (cnt + (sb_dg w)))]) (rest := []) ⟨hx, hb, hml, hown, hts⟩ (c_J5_ensureCapacityInternal_d00df l G cy h v cnt (cnt + (sb_dg w)) t (by omega)) (va_cwU 1 hts gJ5_append_c97b9_J5_ensureCapacityInternal_d00df_u100J4 rfl rfl rfl rfl (by decide +kernel) ⟨Nat.le_of_ble_eq_true rfl, Nat.le_of_ble_eq_true rfl⟩) (z_pV hK hP [0, 1] rfl (ci := 0) (q0 := 0) rfl rfl rfl) rfl rfl hl.1 rfl (lv_room (Nat.le_of_ble_eq_true rfl)) dJ5_append_c97b9_14 ⟨Nat.le_of_ble_eq_true rfl, Nat.le_of_ble_eq_true rfl⟩).run (fun hr_2 => ?_)
  refine lv_aload_n hx hb dJ5_append_c97b9_17 rfl (lv_at hl 2 rfl) ?_
  refine z_ci (wc := [zO h 0 [.ref v, .int (nI 0), .int (nI 0), .int (nI cnt)]]) (va_runU (As := []) (rest := []) ⟨hx, hb, hml, hown, hts⟩ (c_J5_isLatin1_aae02 l G cy wd fo _ _ h v cnt) (va_cwU 0 hts gJ5_append_c97b9_J5_isLatin1_aae02_u83J4 rfl rfl rfl rfl (by decide +kernel) ⟨Nat.le_of_ble_eq_true rfl, Nat.le_of_ble_eq_true rfl⟩) (z_pVW hK hP hD hS hN hAN hWd [0] rfl (by decide) (va_recv hK hP (ci := 0) (q0 := 0) rfl rfl)) rfl rfl hl.1 rfl (lv_room (Nat.le_of_ble_eq_true rfl)) dJ5_append_c97b9_18 ⟨Nat.le_of_ble_eq_true rfl, Nat.le_of_ble_eq_true rfl⟩) hP hD hS hA [0] [1] [1, 0] [zY cy v 16 (fun j9 => nI (t j9))] (fun _ => [zO h 0 [.ref v, .int (nI 0), .int (nI 0), .int (nI cnt)], zY cy v 16 (fun j9 => nI (t j9))]) rfl rfl (by decide) (fun _ => rfl) (fun r_3 u H locs hr_3 hQ hD hS hz => ?_)
  have hP : va_P G vwCl [zO h 0 [.ref v, .int (nI 0), .int (nI 0), .int (nI cnt)], zY cy v 16 (fun j9 => nI (t j9))] H := hQ
  have hD : va_D A [zO h 0 [.ref v, .int (nI 0), .int (nI 0), .int (nI cnt)], zY cy v 16 (fun j9 => nI (t j9))] := hD
  clear hQ
  obtain rfl : r_3 = (nI 1) := hr_3
  refine lv_if_eq hx hb dJ5_append_c97b9_21 (tgt := 37) (by decide) (fun q => absurd q (by decide)) (fun _ => ?_)
  refine lv_iload_n hx hb dJ5_append_c97b9_24 rfl (lv_at hl 3 rfl) ?_
  refine lv_iload_n hx hb dJ5_append_c97b9_25 rfl (lv_at hl 0 rfl) ?_
  refine lv_aload_n hx hb dJ5_append_c97b9_26 rfl (lv_at hl 2 rfl) ?_
  refine va_get (D := G) (ci := 0) (v := .ref v) (C := RJ4) (T := TJ4) (N := 4) hx hb hts in_J5_append_c97b9_J4 hown hK hP 0 rfl rfl 0 (by decide) (hts _ (List.mem_of_getElem? (i := 2) (by decide +kernel))) (fun _ h9 => h9) rfl dJ5_append_c97b9_27 ?_
  refine z_ci (wc := [zY cy v 16 (fun j9 => nI (t j9))]) (va_runS (As := [.int (nI w), .int (nI (cnt + (sb_dg w))), .ref v]) (rest := []) ⟨hx, hb, hml, hown, hts⟩ (c_J6_getChars_ba4f3 l G cy wd fo _ _ cnt w v t (by omega) (by omega)) (va_cwS 3 hts gJ5_append_c97b9_J6_getChars_ba4f3 rfl rfl rfl (by decide +kernel) ⟨Nat.le_of_ble_eq_true rfl, Nat.le_of_ble_eq_true rfl⟩) (z_pSW hK hP hD hS hN hAN hWd [1] rfl (by decide)) rfl rfl hl.1 rfl (lv_room (Nat.le_of_ble_eq_true rfl)) dJ5_append_c97b9_30 ⟨Nat.le_of_ble_eq_true rfl, Nat.le_of_ble_eq_true rfl⟩) hP hD hS hA [1] [0] [0, 1] [zO h 0 [.ref v, .int (nI 0), .int (nI 0), .int (nI cnt)]] (fun _ => [zO h 0 [.ref v, .int (nI 0), .int (nI 0), .int (nI cnt)], zY cy v 16 (fun j9 => nI ((zGr t cnt w 0) j9))]) rfl rfl (by decide) (fun _ => rfl) (fun r_4 u H locs hr_4 hQ hD hS hz => ?_)
  have hP : va_P G vwCl [zO h 0 [.ref v, .int (nI 0), .int (nI 0), .int (nI cnt)], zY cy v 16 (fun j9 => nI ((zGr t cnt w 0) j9))] H := hQ
  have hD : va_D A [zO h 0 [.ref v, .int (nI 0), .int (nI 0), .int (nI cnt)], zY cy v 16 (fun j9 => nI ((zGr t cnt w 0) j9))] := hD
  clear hQ
  obtain rfl : r_4 = (nI cnt) := hr_4
  refine lv_pop hx hb dJ5_append_c97b9_33 rfl ?_
  refine lv_goto (tgt := 48) hx hb dJ5_append_c97b9_34 (by decide) ?_
  refine lv_aload_n hx hb dJ5_append_c97b9_48 rfl (lv_at hl 2 rfl) ?_
  refine lv_iload_n hx hb dJ5_append_c97b9_49 rfl (lv_at hl 0 rfl) ?_
  refine va_put (D := G) (ci := 0) (v := .int (nI (cnt + (sb_dg w)))) (ty := .int) (C := RJ4) (T := TJ4) (N := 4) hx hb hts in_J5_append_c97b9_J4 tyJ4 tyJ4_ok nmJ4 hown hK hP hD hS 0 rfl rfl 3 (by decide) (hts _ (List.mem_of_getElem? (i := 1) (by decide +kernel))) (fun _ h9 => h9) rfl (by decide +kernel) rfl rfl (Nat.le_of_ble_eq_true rfl) dJ5_append_c97b9_50 (fun H locs hP hD hS => ?_)
  have hP : va_P G vwCl [zO h 0 [.ref v, .int (nI 0), .int (nI 0), .int (nI (cnt + (sb_dg w)))], zY cy v 16 (fun j9 => nI ((zGr t cnt w 0) j9))] H := hP
  have hD : va_D A [zO h 0 [.ref v, .int (nI 0), .int (nI 0), .int (nI (cnt + (sb_dg w)))], zY cy v 16 (fun j9 => nI ((zGr t cnt w 0) j9))] := hD
  refine lv_aload_n hx hb dJ5_append_c97b9_53 rfl (lv_at hl 2 rfl) ?_
  exact z_rMr hx hb hr hlk dJ5_append_c97b9_54 () (rfl) hP hD hK hS (Nat.le_of_ble_eq_true rfl) (Nat.le_of_ble_eq_true rfl)
set_option maxHeartbeats 4000000 in
set_option maxRecDepth 100000 in
theorem c_J4_append_bf812 (l : Launch) (G : va_G) (cy : Nat → ClassId) (wd : Nat → Nat) (fo : Option Nat) (N0 sz0 : Nat) (h v cnt w : Nat) (t : Nat → Nat) (hw9 : w < 2 ^ 31) (he9 : cnt + sb_dg w ≤ 16) : Met l yJ4_append_bf812 wsJ4_append_bf812 ({ frames := 2, cells := 0, slots := 0, locals := 49 }) (zMW G cy wd fo N0 [.ref h, .int (nI w)] sz0 [zO h 0 [.ref v, .int (nI 0), .int (nI 0), .int (nI cnt)], zY cy v 16 (fun j9 => nI (t j9))]) (zQr (fun (r : Nat) (_ : Unit) => r = h) (fun (u : Unit) t9 => zB G cy (va_A [zO h 0 [.ref v, .int (nI 0), .int (nI 0), .int (nI cnt)], zY cy v 16 (fun j9 => nI (t j9))] sz0) [zO h 0 [.ref v, .int (nI 0), .int (nI 0), .int (nI (cnt + sb_dg w))], zY cy v 16 (fun j9 => nI ((zGr t cnt w 0) j9))] t9) (va_A [zO h 0 [.ref v, .int (nI 0), .int (nI 0), .int (nI cnt)], zY cy v 16 (fun j9 => nI (t j9))] sz0)) 0 0 (va_A [zO h 0 [.ref v, .int (nI 0), .int (nI 0), .int (nI cnt)], zY cy v 16 (fun j9 => nI (t j9))] sz0) := by
  refine z_ofMW (cc := cJ4_append_bf812) (maxL := 2) (ret := (some (.object "java/lang/StringBuilder"))) (Qc := (fun A => zQr (fun (r : Nat) (_ : Unit) => r = h) (fun (u : Unit) t9 => zB G cy A [zO h 0 [.ref v, .int (nI 0), .int (nI 0), .int (nI (cnt + sb_dg w))], zY cy v 16 (fun j9 => nI ((zGr t cnt w 0) j9))] t9) A)) (by decide) rfl (Nat.le_of_ble_eq_true rfl) ?_
  intro p e s m below meth c ls A hx hb hml hr hts hown hlk hin hP hK hD hA hS hl hsz0 hN hAN hWd
  have hown : s.vm.findClass RJ4 = some m.cls := hown
  have hl : lv_has ls 2 [(0, .ref h), (1, .int (nI w))] := hl
  refine lv_aload_n hx hb dJ4_append_bf812_0 rfl (lv_at hl 0 rfl) ?_
  refine lv_iload_n hx hb dJ4_append_bf812_1 rfl (lv_at hl 1 rfl) ?_
  refine z_cr (wc := [zO h 0 [.ref v, .int (nI 0), .int (nI 0), .int (nI cnt)], zY cy v 16 (fun j9 => nI (t j9))]) (va_runSU (hK.1 0 (RJ4, TJ4, 4) rfl).2 (As := [.int (nI w)]) (rest := []) ⟨hx, hb, hml, hown, hts⟩ (c_J5_append_c97b9 l G cy wd fo _ _ h v cnt w t (by omega) (by omega)) (va_cwSU 1 hts gJ4_append_bf812_J5_append_c97b9_s53 rfl rfl rfl (by decide +kernel) ⟨Nat.le_of_ble_eq_true rfl, Nat.le_of_ble_eq_true rfl⟩) (z_pVW hK hP hD hS hN hAN hWd [0, 1] rfl (by decide) (va_recv hK hP (ci := 0) (q0 := 0) rfl rfl)) rfl rfl hl.1 rfl (lv_room (Nat.le_of_ble_eq_true rfl)) dJ4_append_bf812_2 ⟨Nat.le_of_ble_eq_true rfl, Nat.le_of_ble_eq_true rfl⟩) hP hD hS hA [0, 1] [] [0, 1] [] (fun _ => [zO h 0 [.ref v, .int (nI 0), .int (nI 0), .int (nI (cnt + sb_dg w))], zY cy v 16 (fun j9 => nI ((zGr t cnt w 0) j9))]) rfl rfl (by decide) (fun _ => rfl) (fun r_1 u H locs hr_1 hQ hD hS hz => ?_)
  have hP : va_P G vwCl [zO h 0 [.ref v, .int (nI 0), .int (nI 0), .int (nI (cnt + sb_dg w))], zY cy v 16 (fun j9 => nI ((zGr t cnt w 0) j9))] H := hQ
  have hD : va_D A [zO h 0 [.ref v, .int (nI 0), .int (nI 0), .int (nI (cnt + sb_dg w))], zY cy v 16 (fun j9 => nI ((zGr t cnt w 0) j9))] := hD
  clear hQ
  obtain rfl : h = r_1 := Eq.symm hr_1
  refine lv_pop hx hb dJ4_append_bf812_5 rfl ?_
  refine lv_aload_n hx hb dJ4_append_bf812_6 rfl (lv_at hl 0 rfl) ?_
  exact z_rMr hx hb hr hlk dJ4_append_bf812_7 () (rfl) hP hD hK hS (Nat.le_of_ble_eq_true rfl) (Nat.le_of_ble_eq_true rfl)
