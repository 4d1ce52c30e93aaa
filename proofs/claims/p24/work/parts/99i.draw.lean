/-! draw: a number of the script, or one made up -/
theorem z_and31 (x : Int32) : ∃ n, n < 2 ^ 31 ∧ x &&& nI 2147483647 = nI n := by
  refine ⟨(x &&& nI 2147483647).toBitVec.toNat, ?_, ?_⟩
  · rw [Int32.toBitVec_and, BitVec.toNat_and]
    exact Nat.and_lt_two_pow _ (by decide)
  · apply Int32.toBitVec_inj.mp
    show _ = BitVec.ofNat 32 _
    rw [BitVec.ofNat_toNat, BitVec.setWidth_eq]
theorem z_ofD {l : Launch} {y : MethodName} {ws ws' : List Cond} {rm : Room} {av : List Value} {b9 L : Nat} {xs : Nat → Int32} {Qc : Array Value → State → Outcome → State → Prop} {cc : ByteArray} {maxL : Nat} {ret : Option FieldType}
    (hy : plainName y.cls = true) (hw : ws = Cond.code y cc maxL ret :: ws') (hlen : (lg_sl av).length ≤ maxL)
    (body : ∀ (p : Program) (e : Env) (s : State) (m : MethodId) (below : List Frame) (meth : Method) (c : Code) (ls : Array Slot), p.tables.exec = Jvm.exec → c.code = cc → c.maxLocals = maxL → meth.sig.returnType = ret → (∀ w ∈ ws, w.before av.toArray s = true) → s.vm.findClass y.cls = some m.cls → meth.locks = false → va_X b9 L xs s s.heap → lv_has ls maxL (lv_args 0 av) →
      W p l e rm s m av.toArray below meth c s.heap [] 0 0 (MQ below Qc av.toArray s 0 0 (fun _ => False)) (F0 m 0 ls [])) : Met l y ws rm (va_Pc av (fun U => va_X b9 L xs U U.heap)) Qc 0 0 (fun _ => False) := by
  refine Met.ofW (cc := cc) (maxL := maxL) (ret := ret) hy hw ?_
  intro p e s m args below meth c s₁ B hml hv
  obtain ⟨rfl, hX⟩ := hv
  have hl := lv_entry av (n := maxL) hlen
  rw [lg_entry_eq]
  exact body p e s m below meth c _ B.exec B.bytes hml B.returns (atoms_spec (ws := ws) B.pre) (findClass_of_methodNamed B.named) B.notSynchronized hX hl
set_option maxHeartbeats 4000000 in
set_option maxRecDepth 100000 in
theorem c_L_draw (l : Launch) (b9 L : Nat) (xs : Nat → Int32) (hL : L ≤ 260) (k : Nat) (hk : k < 2 ^ 31) : Met l yL_draw wsL_draw ({ frames := 0, cells := 0, slots := 0, locals := 0 }) (va_Pc [.ref b9, .int (nI k), .int (nI 1073741824)] (fun U => va_X b9 L xs U U.heap)) (vp_Si (fun r => ∃ q, q < 1073741824 ∧ r = nI q)) 0 0 (fun _ => False) := by
  refine z_ofD (cc := cL_draw) (maxL := 4) (ret := (some .int)) (by decide) rfl (Nat.le_of_ble_eq_true rfl) ?_
  intro p e s m below meth c ls hx hb hml hr hts hown hlk hX hl
  have hown : s.vm.findClass RL = some m.cls := hown
  have hl : lv_has ls 4 [(0, .ref b9), (1, .int (nI k)), (2, .int (nI 1073741824))] := hl
  have hbl : b9 < s.heap.size := by
    obtain ⟨scr, h1, -⟩ := hX
    exact (Array.getElem?_eq_some_iff.mp h1).1
  have key : ∀ (v : Int32) (ls : Array Slot), lv_has ls 4 [(0, .ref b9), (1, .int (nI k)), (2, .int (nI 1073741824))] → W p l e { frames := 0, cells := 0, slots := 0, locals := 0 } s m [Value.ref b9, Value.int (nI k), Value.int (nI 1073741824)].toArray below meth c s.heap [] 0 0 (MQ below (vp_Si (fun r => ∃ q, q < 1073741824 ∧ r = nI q)) [Value.ref b9, Value.int (nI k), Value.int (nI 1073741824)].toArray s 0 0 (fun _ => False)) (F0 m 23 ls [.int v]) := by
    intro v ls hl
    refine lv_istore_n (lv' := [(3, .int v), (0, .ref b9), (1, .int (nI k)), (2, .int (nI 1073741824))]) hx hb dL_draw_23 rfl hl (by decide) rfl (fun ls hl => ?_)
    refine lv_iload_n hx hb dL_draw_24 rfl (lv_at hl 0 rfl) ?_
    refine lv_ldc (v := nI 2147483647) hx hb hown (hts _ (List.mem_of_getElem? (i := 3) (by decide +kernel))) dL_draw_25 ?_
    refine lv_iand hx hb dL_draw_27 ?_
    obtain ⟨n, hn, he⟩ := z_and31 v
    rw [he]
    refine lv_iload_n hx hb dL_draw_28 rfl (lv_at hl 3 rfl) ?_
    refine z_irem hx hb hn (by decide) (by decide) dL_draw_29 ?_
    exact z_rSi hx hb hr hlk dL_draw_30 ⟨n % 1073741824, Nat.mod_lt _ (by decide), rfl⟩
  refine lv_iload_n hx hb dL_draw_0 rfl (lv_at hl 1 rfl) ?_
  refine lv_aload_n hx hb dL_draw_1 rfl (lv_at hl 0 rfl) ?_
  refine va_slen hx hb hX hbl (fun q => q) (va_S.rf (A := fun _ => False)) dL_draw_2 ?_
  refine z_icmp_ge (b := L) hx hb hk (by omega) dL_draw_3 (tgt := 12) (by decide) (fun c1 => ?_) (fun c1 => ?_)
  · refine lv_ldc (v := nI 1003218897) hx hb hown (hts _ (List.mem_of_getElem? (i := 1) (by decide +kernel))) dL_draw_12 ?_
    refine lv_iload_n hx hb dL_draw_14 rfl (lv_at hl 1 rfl) ?_
    refine lv_sipush (v := nI 1069) hx hb dL_draw_15 (by decide) ?_
    refine lv_iadd hx hb dL_draw_18 ?_
    refine lv_imul hx hb dL_draw_19 ?_
    refine lv_ldc (v := nI 799650267) hx hb hown (hts _ (List.mem_of_getElem? (i := 2) (by decide +kernel))) dL_draw_20 ?_
    refine lv_iadd hx hb dL_draw_22 ?_
    exact key _ ls hl
  · refine lv_aload_n hx hb dL_draw_6 rfl (lv_at hl 0 rfl) ?_
    refine lv_iload_n hx hb dL_draw_7 rfl (lv_at hl 1 rfl) ?_
    refine va_sld hx hb hX hbl (fun q => q) (va_S.rf (A := fun _ => False)) (vp_in_nI (Nat.not_le.mp c1) (by omega)) dL_draw_8 ?_
    refine lv_goto (tgt := 23) hx hb dL_draw_9 (by decide) ?_
    exact key _ ls hl
section ZDR
variable {s : State} {H : Heap} {locs : List Loc} {As : List Value} {b9 L N0 : Nat} {xs : Nat → Int32}
theorem z_pDr {A0 : Nat → Prop} (hX : va_X b9 L xs s s.heap) (hb9 : b9 < N0) (hN : N0 ≤ s.heap.size) (hS : va_S A0 s.heap H locs) (hA : ∀ q, A0 q → N0 ≤ q) : PreS s H (va_Pc As (fun U => va_X b9 L xs U U.heap)) As :=
  ⟨fun a U g mk q => ⟨q.1, va_X.moved (u := U) (U := U.calling g mk a) (Vm.Alike.refl U.vm) q.2⟩, fun U hU hW => ⟨rfl, by show va_X b9 L xs U U.heap; rw [hU]; exact va_X.moved hW.alike (hX.kept (hS.2.1 b9 (by omega) (fun q => by have := hA b9 q; omega)))⟩⟩
end ZDR
