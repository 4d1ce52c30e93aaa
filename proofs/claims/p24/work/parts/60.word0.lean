/-! what the JDK's methods on a StringBuilder need besides: statics, tables, the constant -/
abbrev zY (cy : Nat → ClassId) (a n : Nat) (f : Nat → Int32) : Nat × va_E := (a, .inl (cy 3, n, .inl f))
def zWd (wd : Nat → Nat) (fo : Option Nat) (N0 : Nat) (U : State) (H : Heap) : Prop :=
  va_Z "java/lang/String" "COMPACT_STRINGS" "Z" (.int 1) (fun q => N0 ≤ q) U H ∧ va_Z RJ6 "DigitOnes" "[B" (.ref (wd 0)) (fun q => N0 ≤ q) U H ∧ va_Z RJ6 "DigitTens" "[B" (.ref (wd 1)) (fun q => N0 ≤ q) U H ∧
  va_T .byte (wd 0) 100 (fun j => .int (nI (48 + j % 10))) (fun q => N0 ≤ q) U H ∧ va_T .byte (wd 1) 100 (fun j => .int (nI (48 + j / 10))) (fun q => N0 ≤ q) U H ∧
  va_Z "jdk/internal/util/Preconditions" "SIOOBE_FORMATTER" "Ljava/util/function/BiFunction;" (va_rf fo) (fun q => N0 ≤ q) U H ∧
  vk_S 1 [2] [[47, 115]] (fun _ => wd 2) (fun _ => wd 3) (fun q => N0 ≤ q) U H ∧ vk_R RX10 306 "/s" (wd 2) U
theorem zWd.warm {wd : Nat → Nat} {fo : Option Nat} {N0 : Nat} {s U : State} {H : Heap} (hW : s.WarmedH U.vm) (h : zWd wd fo N0 s H) : zWd wd fo N0 U H := ⟨h.1.moved hW.alike, h.2.1.moved hW.alike, h.2.2.1.moved hW.alike, h.2.2.2.1.moved hW.alike, h.2.2.2.2.1.moved hW.alike, h.2.2.2.2.2.1.moved hW.alike, h.2.2.2.2.2.2.1.moved hW.alike, vk_R.warm hW h.2.2.2.2.2.2.2⟩
theorem zWd.calling {wd : Nat → Nat} {fo : Option Nat} {N0 : Nat} {U : State} {H : Heap} {g : JFrame} {mk : MethodId} {a : Array Value} (h : zWd wd fo N0 U H) : zWd wd fo N0 (U.calling g mk a) H := by
  have hal : U.vm.Alike (U.calling g mk a).vm := Vm.Alike.refl U.vm
  exact ⟨h.1.moved hal, h.2.1.moved hal, h.2.2.1.moved hal, h.2.2.2.1.moved hal, h.2.2.2.2.1.moved hal, h.2.2.2.2.2.1.moved hal, h.2.2.2.2.2.2.1.moved hal, vk_R.same (u := U) (U := U.calling g mk a) rfl h.2.2.2.2.2.2.2⟩
theorem zWd.kept {wd : Nat → Nat} {fo : Option Nat} {N0 : Nat} {s : State} {H H1 : Heap} (h : zWd wd fo N0 s H) (hq : ∀ a : Nat, a < H.size → ¬ N0 ≤ a → H1[a]? = H[a]?) : zWd wd fo N0 s H1 := ⟨h.1.kept hq, h.2.1.kept hq, h.2.2.1.kept hq, h.2.2.2.1.kept hq, h.2.2.2.2.1.kept hq, h.2.2.2.2.2.1.kept hq, h.2.2.2.2.2.2.1.kept hq, h.2.2.2.2.2.2.2⟩
theorem zWd.heap {wd : Nat → Nat} {fo : Option Nat} {N0 : Nat} {s : State} {H : Heap} {A : Nat → Prop} {locs : List Loc} (h : zWd wd fo N0 s s.heap) (hS : va_S A s.heap H locs) (hA : ∀ q, A q → N0 ≤ q) : zWd wd fo N0 s H := h.kept (fun a h1 h2 => hS.2.1 a h1 (fun q => h2 (hA a q)))
/-- .. apart from what a method may change -/
theorem zWd.cs {wd : Nat → Nat} {fo : Option Nat} {N0 : Nat} {s : State} {A : Nat → Prop} (h : zWd wd fo N0 s s.heap) (hA : ∀ q, A q → N0 ≤ q) : va_Z "java/lang/String" "COMPACT_STRINGS" "Z" (.int 1) A s s.heap := h.1.narrow hA
theorem zWd.d1 {wd : Nat → Nat} {fo : Option Nat} {N0 : Nat} {s : State} {A : Nat → Prop} (h : zWd wd fo N0 s s.heap) (hA : ∀ q, A q → N0 ≤ q) : va_Z RJ6 "DigitOnes" "[B" (.ref (wd 0)) A s s.heap := h.2.1.narrow hA
theorem zWd.d2 {wd : Nat → Nat} {fo : Option Nat} {N0 : Nat} {s : State} {A : Nat → Prop} (h : zWd wd fo N0 s s.heap) (hA : ∀ q, A q → N0 ≤ q) : va_Z RJ6 "DigitTens" "[B" (.ref (wd 1)) A s s.heap := h.2.2.1.narrow hA
theorem zWd.t1 {wd : Nat → Nat} {fo : Option Nat} {N0 : Nat} {s : State} {A : Nat → Prop} (h : zWd wd fo N0 s s.heap) (hA : ∀ q, A q → N0 ≤ q) : va_T .byte (wd 0) 100 (fun j => .int (nI (48 + j % 10))) A s s.heap := h.2.2.2.1.narrow hA
theorem zWd.t2 {wd : Nat → Nat} {fo : Option Nat} {N0 : Nat} {s : State} {A : Nat → Prop} (h : zWd wd fo N0 s s.heap) (hA : ∀ q, A q → N0 ≤ q) : va_T .byte (wd 1) 100 (fun j => .int (nI (48 + j / 10))) A s s.heap := h.2.2.2.2.1.narrow hA
theorem zWd.sf {wd : Nat → Nat} {fo : Option Nat} {N0 : Nat} {s : State} {A : Nat → Prop} (h : zWd wd fo N0 s s.heap) (hA : ∀ q, A q → N0 ≤ q) : va_Z "jdk/internal/util/Preconditions" "SIOOBE_FORMATTER" "Ljava/util/function/BiFunction;" (va_rf fo) A s s.heap := h.2.2.2.2.2.1.narrow hA
theorem zWd.ks {wd : Nat → Nat} {fo : Option Nat} {N0 : Nat} {s : State} {A : Nat → Prop} (h : zWd wd fo N0 s s.heap) (hA : ∀ q, A q → N0 ≤ q) : vk_S 1 [2] [[47, 115]] (fun _ => wd 2) (fun _ => wd 3) A s s.heap := h.2.2.2.2.2.2.1.narrow hA
abbrev zMW (G : va_G) (cy : Nat → ClassId) (wd : Nat → Nat) (fo : Option Nat) (N0 : Nat) (av : List Value) (sz : Nat) (ws : va_W) : Array Value → State → Prop := va_Pc av (fun U => U.heap.size = sz ∧ N0 ≤ sz ∧ va_P G vwCl ws U.heap ∧ zK G cy U ∧ va_D (fun q => N0 ≤ q) ws ∧ zWd wd fo N0 U U.heap)
theorem z_ofMW {l : Launch} {G : va_G} {cy : Nat → ClassId} {wd : Nat → Nat} {fo : Option Nat} {N0 : Nat} {y : MethodName} {ws ws' : List Cond} {rm : Room} {av : List Value} {w0 : va_W} {sz : Nat} {Qc : (Nat → Prop) → Array Value → State → Outcome → State → Prop} {cc : ByteArray} {maxL mc ms : Nat} {ret : Option FieldType}
    (hy : plainName y.cls = true) (hw : ws = Cond.code y cc maxL ret :: ws') (hlen : (lg_sl av).length ≤ maxL)
    (body : ∀ (p : Program) (e : Env) (s : State) (m : MethodId) (below : List Frame) (meth : Method) (c : Code) (ls : Array Slot) (A : Nat → Prop), p.tables.exec = Jvm.exec → c.code = cc → c.maxLocals = maxL → meth.sig.returnType = ret → (∀ w ∈ ws, w.before av.toArray s = true) → s.vm.findClass y.cls = some m.cls → meth.locks = false → meth.name = y.name → va_P G vwCl w0 s.heap → zK G cy s → va_D A w0 → (∀ q : Nat, s.heap.size ≤ q → A q) → va_S A s.heap s.heap [] → lv_has ls maxL (lv_args 0 av) → sz = s.heap.size → N0 ≤ s.heap.size → (∀ q, A q → N0 ≤ q) → zWd wd fo N0 s s.heap →
      W p l e rm s m av.toArray below meth c s.heap [] 0 0 (MQ below (Qc A) av.toArray s mc ms A) (F0 m 0 ls [])) : Met l y ws rm (zMW G cy wd fo N0 av sz w0) (Qc (va_A w0 sz)) mc ms (va_A w0 sz) := by
  refine Met.ofW (cc := cc) (maxL := maxL) (ret := ret) hy hw ?_
  intro p e s m args below meth c s₁ B hml hv
  obtain ⟨rfl, hsz, hN, hP, hK, hD0, hE⟩ := hv
  have hl := lv_entry av (n := maxL) hlen
  rw [lg_entry_eq]
  refine body p e s m below meth c _ (va_A w0 sz) B.exec B.bytes hml B.returns (atoms_spec (ws := ws) B.pre) (findClass_of_methodNamed B.named) B.notSynchronized (name_of_methodNamed B.named B.method).1 hP hK hD0.self (fun q h => Or.inr (by rw [← hsz]; exact h)) va_S.rf hl hsz.symm (by rw [hsz]; exact hN) (fun q h => ?_) hE
  rcases h with ⟨k, e9, h⟩ | h
  · exact hD0.2 k (q, e9) h
  · exact Nat.le_trans hN h
section ZW
variable {p : Program} {l : Launch} {e : Env} {R : Room} {s : State} {m : MethodId} {args : Array Value} {below : List Frame} {meth : Method} {c : Code} {H : Heap} {locs : List Loc} {cells slots : Nat} {Q : State → Prop}
variable {G : va_G} {cy : Nat → ClassId} {ww wc : va_W} {As av : List Value} {C : String} {b N0 : Nat} {wd : Nat → Nat} {fo : Option Nat}
theorem z_qW {A0 : Nat → Prop} (hK : zK G cy s) (hP : va_P G vwCl wc H) (hD : va_D A0 wc) (hS : va_S A0 s.heap H locs) (hN : N0 ≤ s.heap.size) (hA : ∀ q, A0 q → N0 ≤ q) (hE : zWd wd fo N0 s s.heap) : FrameBlind (zMW G cy wd fo N0 av H.size wc) ∧ ∀ U : State, U.heap = H → s.WarmedH U.vm → zMW G cy wd fo N0 av H.size wc av.toArray U :=
  ⟨fun a U g mk q => ⟨q.1, q.2.1, q.2.2.1, q.2.2.2.1, va_K.moved (u := U) (U := U.calling g mk a) (Vm.Alike.refl U.vm) q.2.2.2.2.1, q.2.2.2.2.2.1, q.2.2.2.2.2.2.calling⟩, fun U hU hW => ⟨rfl, by rw [hU], Nat.le_trans hN hS.1, by rw [hU]; exact hP, va_K.moved hW.alike hK, hD.weaken (fun _ _ _ h => hA _ h), by rw [hU]; exact (hE.heap hS hA).warm hW⟩⟩
theorem z_pVW {A0 : Nat → Prop} (hK : zK G cy s) (hP : va_P G vwCl ww H) (hD : va_D A0 ww) (hS : va_S A0 s.heap H locs) (hN : N0 ≤ s.heap.size) (hA : ∀ q, A0 q → N0 ≤ q) (hE : zWd wd fo N0 s s.heap) (is : List Nat) (hs : is.map (fun i => ww[i]?) = wc.map some) (hn : va_nd is = true) (hb : ∃ cellB : Cell, H[b]? = some cellB ∧ cellB.vm.isStatics = false ∧ s.vm.findClass C = some cellB.cls) : PreV s H C b (zMW G cy wd fo N0 (.ref b :: As) H.size wc) As := by
  have h1 := hP.sub is (z_map_sub hs)
  have h2 := hD.sub is hn hs
  exact ⟨(z_qW hK h1 h2 hS hN hA hE).1, hb, (z_qW hK h1 h2 hS hN hA hE).2⟩
theorem z_pSW {A0 : Nat → Prop} (hK : zK G cy s) (hP : va_P G vwCl ww H) (hD : va_D A0 ww) (hS : va_S A0 s.heap H locs) (hN : N0 ≤ s.heap.size) (hA : ∀ q, A0 q → N0 ≤ q) (hE : zWd wd fo N0 s s.heap) (is : List Nat) (hs : is.map (fun i => ww[i]?) = wc.map some) (hn : va_nd is = true) : PreS s H (zMW G cy wd fo N0 As H.size wc) As :=
  z_qW hK (hP.sub is (z_map_sub hs)) (hD.sub is hn hs) hS hN hA hE
variable {cc : ByteArray} {pc : Nat} {ls : Array Slot} {rest : List Value} {A : Nat → Prop} {H0 : Heap} {ad i n : Nat}
theorem z_bald {v : Int32} {f : Nat → Int32} (hexec : p.tables.exec = Jvm.exec) (hb : c.code = cc) (hK : zK G cy s) (hP : va_P G vwCl ww H) (q0 : Nat) (ha : ww[q0]? = some (ad, .inl (cy 3, n, .inl f))) (hin : i < n ∧ n < 2 ^ 31) (hv : f i = v) (hdg : decode cc pc = .ok (.baload, 1)) (k : W p l e R s m args below meth c H locs cells slots Q (F0 m (pc + 1) ls (.int v :: rest))) : W p l e R s m args below meth c H locs cells slots Q (F0 m pc ls (.int (nI i) :: .ref ad :: rest)) := va_bald hexec hb hK hP q0 3 ha rfl (vp_in_nI hin.1 hin.2) hdg (by rw [nI_clamp (by omega), hv]; exact k)
theorem z_bast {f : Nat → Nat} {x : Nat} (hexec : p.tables.exec = Jvm.exec) (hb : c.code = cc) (hK : zK G cy s) (hP : va_P G vwCl ww H) (hD : va_D A ww) (hS : va_S A H0 H locs) (q0 : Nat) (ha : ww[q0]? = some (ad, .inl (cy 3, n, .inl (fun j9 => nI (f j9))))) (hin : i < n ∧ n < 2 ^ 31) (hx : x < 128) (hdg : decode cc pc = .ok (.bastore, 1))
    (kk : ∀ (H1 : Heap) (locs1 : List Loc), va_P G vwCl (ww.set q0 (ad, .inl (cy 3, n, .inl (fun j9 => nI (va_up f i x j9))))) H1 → va_D A (ww.set q0 (ad, .inl (cy 3, n, .inl (fun j9 => nI (va_up f i x j9))))) → va_S A H0 H1 locs1 → W p l e R s m args below meth c H1 locs1 cells slots Q (F0 m (pc + 1) ls rest)) : W p l e R s m args below meth c H locs cells slots Q (F0 m pc ls (.int (nI x) :: .int (nI i) :: .ref ad :: rest)) := by
  have e1 : vp_nar .byte (nI x) = nI x := (by decide +kernel : ∀ c : Fin 128, vp_nar .byte (nI c.val) = nI c.val) ⟨x, hx⟩
  have e2 : upd (fun j9 => nI (f j9)) i (nI x) = fun j9 => nI (va_up f i x j9) := by
    funext j
    by_cases h : j = i <;> simp [upd, va_up, h]
  refine va_bast hexec hb hK hP hD hS q0 3 ha rfl (vp_in_nI hin.1 hin.2) hdg (fun H1 locs1 h1 h2 h3 => ?_)
  rw [nI_clamp (by omega), e1, e2] at h1 h2
  exact kk H1 locs1 h1 h2 h3
theorem z_newY {N : Nat} (hexec : p.tables.exec = Jvm.exec) (hb : c.code = cc) (harr : (Cond.arrayClass .byte).before args s = true) (hK : zK G cy s) (hP : va_P G vwCl ww H) (hD : va_D A ww) (hS : va_S A H0 H locs) (hA : ∀ q, H0.size ≤ q → A q) (hN : N < 2 ^ 25) (hcells : cells + 1 ≤ R.cells) (hslots : slots + N ≤ R.slots) (hdg : decode cc pc = .ok (.newarray .byte, 2))
    (kk : ∀ (q : Nat) (H1 : Heap), va_P G vwCl (ww ++ [zY cy q N (fun _ => nI 0)]) H1 → va_D A (ww ++ [zY cy q N (fun _ => nI 0)]) → va_S A H0 H1 locs → W p l e R s m args below meth c H1 locs (cells + 1) (slots + N) Q (F0 m (pc + 2) ls (.ref q :: rest))) : W p l e R s m args below meth c H locs cells slots Q (F0 m pc ls (.int (nI N) :: rest)) := by
  refine va_newa (atype := .byte) (a0 := (N, .inl (fun _ => nI 0))) hexec hb harr rfl hK hP hD hS hA (fun cA => rfl) (nI_pos (by omega)) (nI_clamp (by omega)) (by show N * 1 ≤ 536870912; omega) hcells hslots hdg (fun q cA H1 hK1 hP1 hD1 hS1 => ?_)
  have e1 : va_RA s (cy 3) .byte := (hK.2 3 (cy 3, .byte) rfl).2
  have e2 : va_RA s cA .byte := (hK1.2 4 (cA, .byte) rfl).2
  have e3 : cy 3 = cA := Option.some.inj (Eq.trans (Eq.symm e1) e2)
  subst e3
  exact kk q H1 hP1 hD1 hS1
end ZW
theorem z_i2b {x : Nat} (h : x < 128) : (nI x).toInt8.toInt32 = nI x := (by decide +kernel : ∀ c : Fin 128, (nI c.val).toInt8.toInt32 = nI c.val) ⟨x, h⟩
theorem z_and255 {x : Nat} (h : x < 128) : nI x &&& 255 = nI x := (by decide +kernel : ∀ c : Fin 128, nI c.val &&& 255 = nI c.val) ⟨x, h⟩
theorem nwf_J4 : ∀ j, j < 4 → defaultValue (tyJ4 j) = vp_V [.null, .int (nI 0), .int (nI 0), .int (nI 0)] j := by
  intro j hj
  rcases (show j = 0 ∨ j = 1 ∨ j = 2 ∨ j = 3 by omega) with rfl | rfl | rfl | rfl <;> rfl
