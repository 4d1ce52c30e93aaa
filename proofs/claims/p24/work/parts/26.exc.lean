/-! exceptions: what a throw needs, methods that throw in a case, their calls -/
def zStrs : List (Nat × String) := [(74, "no such class, digits or multiplier"), (88, "the digits cannot show that"), (92, "there are 8 points"), (115, "no such days"), (121, "no such degrees"), (127, "1 to 60 days pass"), (129, "today would be above 900"), (161, "no reading can be confirmed"), (166, "the old digits cannot show that, or no such new meter"), (176, "no such day for a change"), (185, "a change is told, or it would have that supplier"), (189, "no change is told"), (198, "no change to call wrong, or a change is told"), (203, "no such cents or block"), (231, "no code"), (236, "the code was taken"), (253, "no such inflow"), (258, "the day was settled"), (263, "the day has 3 runs"), (289, "nothing like that is told"), (291, "no such place"), (306, "/s"), (318, "no such point"), (320, "no such supplier"), (322, "no such day"), (324, "a reading of today was taken")]
def zE (k : Nat) : String := if k = 1 then "java/lang/IndexOutOfBoundsException" else if k = 2 then "java/lang/IllegalArgumentException" else "java/lang/IllegalStateException"
def zDw : List MethodName := [Bundle.initS "java/lang/RuntimeException", Bundle.initS "java/lang/Exception", Bundle.initS Bundle.tN]
/-- what a throw needs, in the heap H -/
def zEx (N0 : Nat) (U : State) (H : Heap) : Prop := vx_Zq Bundle.tN "UNASSIGNED_STACK" Bundle.steD (fun q => N0 ≤ q) U H ∧ vx_Zq Bundle.tN "SUPPRESSED_SENTINEL" Bundle.listD (fun q => N0 ≤ q) U H ∧ (∀ q ∈ zStrs, ∃ sa, vk_R RX10 q.1 q.2 sa U) ∧ (∀ y ∈ zDw, va_Nw (.declares y) U) ∧ (∀ k, va_Nw (.castable (zE k) (zE k)) U) ∧ ∀ k j, zE k ≠ zE j → va_Nc (zE k) (zE j) U
theorem zEx.warm {N0 : Nat} {s U : State} {H : Heap} (hW : s.WarmedH U.vm) (h : zEx N0 s H) : zEx N0 U H := ⟨h.1.moved hW.alike, h.2.1.moved hW.alike, fun q hq => by obtain ⟨sa, hs⟩ := h.2.2.1 q hq; exact ⟨sa, vk_R.warm hW hs⟩, fun y hy => va_Nw.warmD hW (h.2.2.2.1 y hy), fun k => va_Nw.warmC hW (h.2.2.2.2.1 k), fun k j q => (h.2.2.2.2.2 k j q).moved hW.alike⟩
theorem zEx.calling {N0 : Nat} {U : State} {H : Heap} {g : JFrame} {mk : MethodId} {a : Array Value} (h : zEx N0 U H) : zEx N0 (U.calling g mk a) H := ⟨vx_Zq.moved (u := U) (U := U.calling g mk a) (Vm.Alike.refl U.vm) h.1, vx_Zq.moved (u := U) (U := U.calling g mk a) (Vm.Alike.refl U.vm) h.2.1, fun q hq => by obtain ⟨sa, hs⟩ := h.2.2.1 q hq; exact ⟨sa, vk_R.same (u := U) (U := U.calling g mk a) rfl hs⟩, fun y hy => va_Nw.same rfl (u := U) (U := U.calling g mk a) rfl (h.2.2.2.1 y hy), fun k => va_Nw.same rfl (u := U) (U := U.calling g mk a) rfl (h.2.2.2.2.1 k), fun k j q => va_Nc.moved (u := U) (U := U.calling g mk a) (Vm.Alike.refl U.vm) (h.2.2.2.2.2 k j q)⟩
theorem zEx.kept {N0 : Nat} {s : State} {H H1 : Heap} (h : zEx N0 s H) (hq : ∀ a : Nat, a < H.size → ¬ N0 ≤ a → H1[a]? = H[a]?) : zEx N0 s H1 := ⟨h.1.kept hq, h.2.1.kept hq, h.2.2⟩
theorem zEx.heap {N0 : Nat} {s : State} {H : Heap} {A : Nat → Prop} {locs : List Loc} (h : zEx N0 s s.heap) (hS : va_S A s.heap H locs) (hA : ∀ q, A q → N0 ≤ q) : zEx N0 s H := h.kept (fun a h1 h2 => hS.2.1 a h1 (fun q => h2 (hA a q)))
abbrev zX (G : va_G) (cy : Nat → ClassId) (N0 : Nat) (av : List Value) (sz : Nat) (ws : va_W) : Array Value → State → Prop := va_Pc av (fun U => U.heap.size = sz ∧ N0 ≤ sz ∧ va_P G vwCl ws U.heap ∧ zK G cy U ∧ va_D (fun q => N0 ≤ q) ws ∧ zEx N0 U U.heap)
abbrev zXC (G : va_G) (cy : Nat → ClassId) (A : Nat → Prop) (ws : va_W) (nm : String) : String → State → State → Prop := vx_X (fun (_ : Unit) => True) (fun E _ t9 => E = nm ∧ zB G cy A ws t9) A
abbrev zNo : Array Value → State → Outcome → State → Prop := fun _ _ _ _ => False
theorem z_ofX {l : Launch} {G : va_G} {cy : Nat → ClassId} {N0 : Nat} {y : MethodName} {ws ws' : List Cond} {rm : Room} {av : List Value} {w0 : va_W} {sz : Nat} {nm : String} {cc : ByteArray} {maxL mc ms : Nat} {ret : Option FieldType}
    (hy : plainName y.cls = true) (hw : ws = Cond.code y cc maxL ret :: ws') (hlen : (lg_sl av).length ≤ maxL)
    (body : ∀ (p : Program) (e : Env) (s : State) (m : MethodId) (below : List Frame) (meth : Method) (c : Code) (ls : Array Slot) (A : Nat → Prop), p.tables.exec = Jvm.exec → c.code = cc → c.maxLocals = maxL → meth.sig.returnType = ret → (∀ w ∈ ws, w.before av.toArray s = true) → s.vm.findClass y.cls = some m.cls → meth.locks = false → (∀ x ∈ c.exceptionTable.toList, False) → va_P G vwCl w0 s.heap → zK G cy s → va_D A w0 → (∀ q : Nat, s.heap.size ≤ q → A q) → va_S A s.heap s.heap [] → lv_has ls maxL (lv_args 0 av) → sz = s.heap.size → N0 ≤ s.heap.size → (∀ q, A q → N0 ≤ q) → zEx N0 s s.heap →
      W p l e rm s m av.toArray below meth c s.heap [] 0 0 (vx_MQ below zNo (zXC G cy A w0 nm) av.toArray s mc ms A) (F0 m 0 ls [])) : vx_Met l y ws rm (zX G cy N0 av sz w0) zNo (zXC G cy (va_A w0 sz) w0 nm) mc ms (va_A w0 sz) := by
  refine vx_ofW (cc := cc) (maxL := maxL) (ret := ret) hy hw ?_
  intro p e s m args below meth c s₁ B hml ht hv
  obtain ⟨rfl, hsz, hN, hP, hK, hD0, hE⟩ := hv
  have hl := lv_entry av (n := maxL) hlen
  rw [lg_entry_eq]
  refine body p e s m below meth c _ (va_A w0 sz) B.exec B.bytes hml B.returns (atoms_spec (ws := ws) B.pre) (findClass_of_methodNamed B.named) B.notSynchronized ht hP hK hD0.self (fun q h => Or.inr (by rw [← hsz]; exact h)) va_S.rf hl hsz.symm (by rw [hsz]; exact hN) (fun q h => ?_) hE
  rcases h with ⟨k, e9, h⟩ | h
  · exact hD0.2 k (q, e9) h
  · exact Nat.le_trans hN h
section ZX
variable {p : Program} {l : Launch} {e : Env} {R : Room} {s : State} {m : MethodId} {args : Array Value} {below : List Frame} {meth : Method} {c : Code} {H : Heap} {locs : List Loc} {cells slots : Nat} {Q : State → Prop}
variable {G : va_G} {cy : Nat → ClassId} {ww wc : va_W} {As av : List Value} {C : String} {b N0 : Nat}
theorem z_qX {A0 : Nat → Prop} (hK : zK G cy s) (hP : va_P G vwCl wc H) (hD : va_D A0 wc) (hS : va_S A0 s.heap H locs) (hN : N0 ≤ s.heap.size) (hA : ∀ q, A0 q → N0 ≤ q) (hE : zEx N0 s s.heap) : FrameBlind (zX G cy N0 av H.size wc) ∧ ∀ U : State, U.heap = H → s.WarmedH U.vm → zX G cy N0 av H.size wc av.toArray U :=
  ⟨fun a U g mk q => ⟨q.1, q.2.1, q.2.2.1, q.2.2.2.1, va_K.moved (u := U) (U := U.calling g mk a) (Vm.Alike.refl U.vm) q.2.2.2.2.1, q.2.2.2.2.2.1, q.2.2.2.2.2.2.calling⟩, fun U hU hW => ⟨rfl, by rw [hU], Nat.le_trans hN hS.1, by rw [hU]; exact hP, va_K.moved hW.alike hK, hD.weaken (fun _ _ _ h => hA _ h), by rw [hU]; exact (hE.heap hS hA).warm hW⟩⟩
theorem z_pVX {A0 : Nat → Prop} (hK : zK G cy s) (hP : va_P G vwCl ww H) (hD : va_D A0 ww) (hS : va_S A0 s.heap H locs) (hN : N0 ≤ s.heap.size) (hA : ∀ q, A0 q → N0 ≤ q) (hE : zEx N0 s s.heap) (is : List Nat) (hs : is.map (fun i => ww[i]?) = wc.map some) (hn : va_nd is = true) (hb : ∃ cellB : Cell, H[b]? = some cellB ∧ cellB.vm.isStatics = false ∧ s.vm.findClass C = some cellB.cls) : PreV s H C b (zX G cy N0 (.ref b :: As) H.size wc) As := by
  have h1 := hP.sub is (z_map_sub hs)
  have h2 := hD.sub is hn hs
  exact ⟨(z_qX hK h1 h2 hS hN hA hE).1, hb, (z_qX hK h1 h2 hS hN hA hE).2⟩
variable {pc : Nat} {ls : Array Slot} {rest st0 : List Value} {a : Array Value} {A0 : Nat → Prop} {H0 : Heap} {mc ms : Nat} {nm : String}
/-- a call that throws: what the caller has then -/
theorem z_cx (hr : vx_Run p l e R s m args below meth c H locs cells slots mc ms (F0 m pc ls st0) rest (zNo a) (zXC G cy (va_A wc H.size) wc nm) (va_A wc H.size))
    (hP : va_P G vwCl ww H) (hD : va_D A0 ww) (hS : va_S A0 H0 H locs) (hA : ∀ q, H0.size ≤ q → A0 q) (isC isR is2 : List Nat) (wr : va_W) (hC : isC.map (fun i => ww[i]?) = wc.map some) (hR : isR.map (fun i => ww[i]?) = wr.map some)
    (hn : (va_nd isR && (isR.all (fun i => decide (i ∉ isC)) && va_nd is2)) = true) (h2 : is2.map (fun i => (wr ++ wc)[i]?) = ww.map some)
    (kk : ∀ (ce : Cell) (q9 : Addr) (H1 : Heap) (locs1 : List Loc), va_P G vwCl ww H1 → va_D A0 ww → va_S A0 H0 H1 locs1 → H1[q9]? = some ce → ce.vm = .none → s.vm.findClass nm = some ce.cls → vx_W p l e R s m args below meth c H1 locs1 (cells + mc) (slots + ms) Q (F0 m pc ls rest) q9) : W p l e R s m args below meth c H locs cells slots Q (F0 m pc ls st0) := by
  have hF := va_free (wc := wc) hD hS hA isC hC
  intro T hT X
  rcases hr T hT X with ⟨v, st₀, t, T', L, h0, X', hL, e1, e2, hq, st⟩ | ⟨q, st₀, t, T', L, E, ce, h0, X', hL, e1, e2, ⟨u, -, ⟨rfl, hP1, hK1, hD1⟩, hFr⟩, hce, hcv, hcl, st⟩
  · exact hq.elim
  · obtain ⟨k1, k2, k3⟩ := vx_keep h0 e1 hS (fun q _ h => hF q h) hF hL hFr
    rw [← e1] at hP1
    obtain ⟨g1, g2⟩ := z_back hP hD isC isR is2 hC hR hn h2 k2 hF hP1 hD1
    obtain ⟨t2, a1, b1⟩ := kk ce q T'.heap (locs ++ L) g1 g2 k3 (by rw [e1]; exact hce) hcv hcl T' rfl X'
    exact ⟨t2, st.trans a1, b1⟩
/-- not caught here -/
theorem z_xo {Qc : Array Value → State → Outcome → State → Prop} {A : Nat → Prop} {w0 : va_W} {ce : Cell} {q9 : Addr} (htab : ∀ x ∈ c.exceptionTable.toList, False) (hlocks : meth.locks = false) (hcell : H[q9]? = some ce) (hv : ce.vm = .none) (hcl : s.vm.findClass nm = some ce.cls) (hP : va_P G vwCl w0 H) (hD : va_D A w0) (hK : zK G cy s) (hS : va_S A s.heap H locs) (hc : cells ≤ mc) (hs : slots ≤ ms) :
    vx_W p l e R s m args below meth c H locs cells slots (vx_MQ below Qc (zXC G cy A w0 nm) args s mc ms A) (F0 m pc ls rest) q9 :=
  vx_out (fun x hx => (htab x hx).elim) hlocks hcell hv hcl (fun t ht hal => ⟨(), trivial, ⟨rfl, by rw [ht]; exact hP, va_K.moved hal hK, hD⟩, hS.F ht⟩) hS.2.2 hc hs
theorem z_thr {cc : ByteArray} {ik is ic k : Nat} {text : String} {A : Nat → Prop} {w0 : va_W} {Ts : List Cond} (hx : p.tables.exec = Jvm.exec) (hb : c.code = cc) (hml : c.maxLocals = ls.size) (hl : l.stackTraces = false) (hown : s.vm.findClass RX10 = some m.cls) (hts : ∀ w ∈ Ts, w.before args s = true)
    (hk : Cond.classLink RX10 ik (zE k) ∈ Ts) (hini : Cond.initialized (zE k) ∈ Ts) (hstr : (is, text) ∈ zStrs) (hin : ∀ w ∈ (vx_atS RX10 ic (zE k) ["java/lang/RuntimeException", "java/lang/Exception"]).filter goodWord, w ∈ Ts)
    (hf1 : Bundle.fit (zE k) = true) (hf2 : ∀ n ∈ ["java/lang/RuntimeException", "java/lang/Exception"], Bundle.fit n = true)
    (hbad : (vx_atS RX10 ic (zE k) ["java/lang/RuntimeException", "java/lang/Exception"]).filter (fun w => !goodWord w) = zDw.map .declares ++ [.castable (zE k) (zE k)]) (hgood : (Cond.classLink RX10 ik (zE k) :: Cond.initialized (zE k) :: vx_atS RX10 ic (zE k) ["java/lang/RuntimeException", "java/lang/Exception"]).all vx_ot = true)
    (hE : zEx N0 s s.heap) (hA : ∀ q, A q → N0 ≤ q) (hP : va_P G vwCl w0 H) (hD : va_D A w0) (hK : zK G cy s) (hS : va_S A s.heap H locs) (htab : ∀ x ∈ c.exceptionTable.toList, False) (hlocks : meth.locks = false)
    (d0 : decode cc pc = .ok (.new ik, 3)) (d3 : decode cc (pc + 3) = .ok (.dup, 1)) (d4 : decode cc (pc + 4) = .ok (.ldc is, 2)) (d6 : decode cc (pc + 6) = .ok (.invokespecial ic, 3)) (d9 : decode cc (pc + 9) = .ok (.athrow, 1))
    (hRf : 5 < R.frames) (hRl : (rest.map fun v => v.category).sum + 82 ≤ R.locals) (hRc : cells + 1 ≤ R.cells) (hRs : slots + 6 ≤ R.slots) (hc : cells + 1 ≤ mc) (hs : slots + 6 ≤ ms) :
    W p l e R s m args below meth c H locs cells slots (vx_MQ below zNo (zXC G cy A w0 (zE k)) args s mc ms A) (F0 m pc ls rest) := by
  obtain ⟨sa, hsa⟩ := hE.2.2.1 (is, text) hstr
  refine vx_throwS (names := ["java/lang/RuntimeException", "java/lang/Exception"]) hx hb hl hown hf1 hf2 (hts _ hk) (hts _ hini) hsa ?_ (fun w hw => List.all_eq_true.mp hgood w hw) (hE.1.narrow hA) (hE.2.1.narrow hA) hS hml.symm d0 d3 d4 d6 d9 (fun x hx => (htab x hx).elim) hRf hRl hRc hRs hlocks (fun t hal hz hq => ⟨(), trivial, ⟨rfl, hP.kept (fun k q hk => hq q.1 (hP k q hk).lt), va_K.moved hal hK, hD⟩, ?_⟩) hS.2.2 hc hs
  · refine vx_hat (B := zDw.map .declares ++ [.castable (zE k) (zE k)]) (fun w hw => hts w (hin w hw)) (fun w hw => by rw [hbad] at hw; exact hw) (fun w hw => ?_)
    rcases List.mem_append.mp hw with h | h
    · obtain ⟨y, hy, rfl⟩ := List.mem_map.mp h
      exact va_Nw.use rfl (hE.2.2.2.1 y hy)
    · rw [List.mem_singleton.mp h]
      exact va_Nw.use rfl (hE.2.2.2.2.1 k)
  · exact ⟨Nat.le_trans hS.1 hz, fun q h1 h2 => by rw [hq q (Nat.lt_of_lt_of_le h1 hS.1)]; exact hS.2.1 q h1 h2⟩
theorem z_thrW {cc : ByteArray} {ik is ic k : Nat} {text : String} {A : Nat → Prop} {w0 : va_W} {Ts : List Cond} (hx : p.tables.exec = Jvm.exec) (hb : c.code = cc) (hml : c.maxLocals = ls.size) (hl : l.stackTraces = false) (hown : s.vm.findClass RX10 = some m.cls) (hts : ∀ w ∈ Ts, w.before args s = true)
    (hk : Cond.classLink RX10 ik (zE k) ∈ Ts) (hini : Cond.initialized (zE k) ∈ Ts) (hstr : (is, text) ∈ zStrs) (hin : ∀ w ∈ (vx_atS RX10 ic (zE k) ["java/lang/RuntimeException", "java/lang/Exception"]).filter goodWord, w ∈ Ts)
    (hf1 : Bundle.fit (zE k) = true) (hf2 : ∀ n ∈ ["java/lang/RuntimeException", "java/lang/Exception"], Bundle.fit n = true)
    (hbad : (vx_atS RX10 ic (zE k) ["java/lang/RuntimeException", "java/lang/Exception"]).filter (fun w => !goodWord w) = zDw.map .declares ++ [.castable (zE k) (zE k)]) (hgood : (Cond.classLink RX10 ik (zE k) :: Cond.initialized (zE k) :: vx_atS RX10 ic (zE k) ["java/lang/RuntimeException", "java/lang/Exception"]).all vx_ot = true)
    (hE : zEx N0 s s.heap) (hA : ∀ q, A q → N0 ≤ q) (hP : va_P G vwCl w0 H) (hD : va_D A w0) (hK : zK G cy s) (hS : va_S A s.heap H locs) (htab : ∀ x ∈ c.exceptionTable.toList, False) (hlocks : meth.locks = false)
    (d0 : decode cc pc = .ok (.new ik, 3)) (d3 : decode cc (pc + 3) = .ok (.dup, 1)) (d4 : decode cc (pc + 4) = .ok (.ldc_w is, 3)) (d6 : decode cc (pc + 7) = .ok (.invokespecial ic, 3)) (d9 : decode cc (pc + 10) = .ok (.athrow, 1))
    (hRf : 5 < R.frames) (hRl : (rest.map fun v => v.category).sum + 82 ≤ R.locals) (hRc : cells + 1 ≤ R.cells) (hRs : slots + 6 ≤ R.slots) (hc : cells + 1 ≤ mc) (hs : slots + 6 ≤ ms) :
    W p l e R s m args below meth c H locs cells slots (vx_MQ below zNo (zXC G cy A w0 (zE k)) args s mc ms A) (F0 m pc ls rest) := by
  obtain ⟨sa, hsa⟩ := hE.2.2.1 (is, text) hstr
  refine vx_throwSW (names := ["java/lang/RuntimeException", "java/lang/Exception"]) hx hb hl hown hf1 hf2 (hts _ hk) (hts _ hini) hsa ?_ (fun w hw => List.all_eq_true.mp hgood w hw) (hE.1.narrow hA) (hE.2.1.narrow hA) hS hml.symm d0 d3 d4 d6 d9 (fun x hx => (htab x hx).elim) hRf hRl hRc hRs hlocks (fun t hal hz hq => ⟨(), trivial, ⟨rfl, hP.kept (fun k q hk => hq q.1 (hP k q hk).lt), va_K.moved hal hK, hD⟩, ?_⟩) hS.2.2 hc hs
  · refine vx_hat (B := zDw.map .declares ++ [.castable (zE k) (zE k)]) (fun w hw => hts w (hin w hw)) (fun w hw => by rw [hbad] at hw; exact hw) (fun w hw => ?_)
    rcases List.mem_append.mp hw with h | h
    · obtain ⟨y, hy, rfl⟩ := List.mem_map.mp h
      exact va_Nw.use rfl (hE.2.2.2.1 y hy)
    · rw [List.mem_singleton.mp h]
      exact va_Nw.use rfl (hE.2.2.2.2.1 k)
  · exact ⟨Nat.le_trans hS.1 hz, fun q h1 h2 => by rw [hq q (Nat.lt_of_lt_of_le h1 hS.1)]; exact hS.2.1 q h1 h2⟩
end ZX
