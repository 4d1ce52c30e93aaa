/-! starts of bodies, calls, ends -/
section ZB
variable {l : Launch} {G : va_G} {cy : Nat → ClassId}
theorem z_ofS {y : MethodName} {ws ws' : List Cond} {rm : Room} {av : List Value} {w0 : va_W} {Qc : Array Value → State → Outcome → State → Prop} {cc : ByteArray} {maxL : Nat} {ret : Option FieldType}
    (hy : plainName y.cls = true) (hw : ws = Cond.code y cc maxL ret :: ws') (hlen : (lg_sl av).length ≤ maxL)
    (body : ∀ (p : Program) (e : Env) (s : State) (m : MethodId) (below : List Frame) (meth : Method) (c : Code) (ls : Array Slot), p.tables.exec = Jvm.exec → c.code = cc → c.maxLocals = maxL → meth.sig.returnType = ret → (∀ w ∈ ws, w.before av.toArray s = true) → s.vm.findClass y.cls = some m.cls → meth.locks = false → va_P G vwCl w0 s.heap → zK G cy s → lv_has ls maxL (lv_args 0 av) →
      W p l e rm s m av.toArray below meth c s.heap [] 0 0 (MQ below Qc av.toArray s 0 0 (fun _ => False)) (F0 m 0 ls [])) : Met l y ws rm (zS G cy av w0) Qc 0 0 (fun _ => False) := by
  refine Met.ofW (cc := cc) (maxL := maxL) (ret := ret) hy hw ?_
  intro p e s m args below meth c s₁ B hml hv
  obtain ⟨rfl, hP, hK⟩ := hv
  have hl := lv_entry av (n := maxL) hlen
  rw [lg_entry_eq]
  exact body p e s m below meth c _ B.exec B.bytes hml B.returns (atoms_spec (ws := ws) B.pre) (findClass_of_methodNamed B.named) B.notSynchronized hP hK hl
theorem z_ofM {y : MethodName} {ws ws' : List Cond} {rm : Room} {av : List Value} {w0 : va_W} {sz : Nat} {Qc : (Nat → Prop) → Array Value → State → Outcome → State → Prop} {cc : ByteArray} {maxL mc ms : Nat} {ret : Option FieldType}
    (hy : plainName y.cls = true) (hw : ws = Cond.code y cc maxL ret :: ws') (hlen : (lg_sl av).length ≤ maxL)
    (body : ∀ (p : Program) (e : Env) (s : State) (m : MethodId) (below : List Frame) (meth : Method) (c : Code) (ls : Array Slot) (A : Nat → Prop), p.tables.exec = Jvm.exec → c.code = cc → c.maxLocals = maxL → meth.sig.returnType = ret → (∀ w ∈ ws, w.before av.toArray s = true) → s.vm.findClass y.cls = some m.cls → meth.locks = false → meth.name = y.name → va_P G vwCl w0 s.heap → zK G cy s → va_D A w0 → (∀ q : Nat, s.heap.size ≤ q → A q) → va_S A s.heap s.heap [] → lv_has ls maxL (lv_args 0 av) → sz = s.heap.size →
      W p l e rm s m av.toArray below meth c s.heap [] 0 0 (MQ below (Qc A) av.toArray s mc ms A) (F0 m 0 ls [])) : Met l y ws rm (zM G cy av sz w0) (Qc (va_A w0 sz)) mc ms (va_A w0 sz) := by
  refine Met.ofW (cc := cc) (maxL := maxL) (ret := ret) hy hw ?_
  intro p e s m args below meth c s₁ B hml hv
  obtain ⟨rfl, hsz, hP, hK, hD0⟩ := hv
  have hl := lv_entry av (n := maxL) hlen
  rw [lg_entry_eq]
  exact body p e s m below meth c _ (va_A w0 sz) B.exec B.bytes hml B.returns (atoms_spec (ws := ws) B.pre) (findClass_of_methodNamed B.named) B.notSynchronized (name_of_methodNamed B.named B.method).1 hP hK hD0.self (fun q h => Or.inr (by rw [← hsz]; exact h)) va_S.rf hl hsz.symm
end ZB
section ZC
variable {p : Program} {l : Launch} {e : Env} {R : Room} {s : State} {m : MethodId} {args : Array Value} {below : List Frame} {meth : Method} {c : Code} {H : Heap} {locs : List Loc} {cells slots : Nat} {Q : State → Prop}
variable {G : va_G} {cy : Nat → ClassId} {ww wc : va_W} {As av : List Value} {C : String} {b : Nat}
/-- what a call of a reading method asks -/
theorem z_pV {ci q0 : Nat} {fs : List Value} {q : vw_C} (hK : zK G cy s) (hP : va_P G vwCl ww H) (is : List Nat) (hs : is.filterMap (fun i => ww[i]?) = wc) (hc : vwCl[ci]? = some q) (hq : q.1 = C) (he : wc[q0]? = some (b, .inr (ci, fs))) : PreV s H C b (zS G cy (.ref b :: As) wc) As := by
  have hPc := hP.sub is hs
  subst hq
  exact ⟨fun a U g mk q => ⟨q.1, q.2.1, va_K.moved (u := U) (U := U.calling g mk a) (Vm.Alike.refl U.vm) q.2.2⟩, va_recv hK hPc hc he, fun U hU hW => ⟨rfl, by rw [hU]; exact hPc, va_K.moved hW.alike hK⟩⟩
theorem z_pS (hK : zK G cy s) (hP : va_P G vwCl ww H) (is : List Nat) (hs : is.filterMap (fun i => ww[i]?) = wc) : PreS s H (zS G cy As wc) As := by
  have hPc := hP.sub is hs
  exact ⟨fun a U g mk q => ⟨q.1, q.2.1, va_K.moved (u := U) (U := U.calling g mk a) (Vm.Alike.refl U.vm) q.2.2⟩, fun U hU hW => ⟨rfl, by rw [hU]; exact hPc, va_K.moved hW.alike hK⟩⟩
/-- .. of a writing one -/
theorem z_sub {A0 : Nat → Prop} (hP : va_P G vwCl ww H) (hD : va_D A0 ww) (is : List Nat) (hs : is.map (fun i => ww[i]?) = wc.map some) (hn : va_nd is = true) : va_P G vwCl wc H ∧ va_D (fun _ => True) wc := ⟨hP.sub is (z_map_sub hs), (hD.sub is hn hs).weaken (fun _ _ _ _ => trivial)⟩
theorem z_qM {av : List Value} (hK : zK G cy s) (h : va_P G vwCl wc H ∧ va_D (fun _ => True) wc) : FrameBlind (zM G cy av H.size wc) ∧ ∀ U : State, U.heap = H → s.WarmedH U.vm → zM G cy av H.size wc av.toArray U :=
  ⟨fun a U g mk q => ⟨q.1, q.2.1, q.2.2.1, va_K.moved (u := U) (U := U.calling g mk a) (Vm.Alike.refl U.vm) q.2.2.2.1, q.2.2.2.2⟩, fun U hU hW => ⟨rfl, by rw [hU], by rw [hU]; exact h.1, va_K.moved hW.alike hK, h.2⟩⟩
theorem z_pVM {A0 : Nat → Prop} {ci q0 : Nat} {fs : List Value} {q : vw_C} (hK : zK G cy s) (hP : va_P G vwCl ww H) (hD : va_D A0 ww) (is : List Nat) (hs : is.map (fun i => ww[i]?) = wc.map some) (hn : va_nd is = true) (hc : vwCl[ci]? = some q) (hq : q.1 = C) (he : wc[q0]? = some (b, .inr (ci, fs))) : PreV s H C b (zM G cy (.ref b :: As) H.size wc) As := by
  have h := z_sub hP hD is hs hn
  subst hq
  exact ⟨(z_qM hK h).1, va_recv hK h.1 hc he, (z_qM hK h).2⟩
theorem z_pSM {A0 : Nat → Prop} (hK : zK G cy s) (hP : va_P G vwCl ww H) (hD : va_D A0 ww) (is : List Nat) (hs : is.map (fun i => ww[i]?) = wc.map some) (hn : va_nd is = true) : PreS s H (zM G cy As H.size wc) As := z_qM hK (z_sub hP hD is hs hn)
/-- behind a call of a writing method -/
theorem z_back {A0 : Nat → Prop} {wr w1 w2 : va_W} {H1 : Heap} (hP : va_P G vwCl ww H) (hD : va_D A0 ww) (isC isR is2 : List Nat) (hC : isC.map (fun i => ww[i]?) = wc.map some) (hR : isR.map (fun i => ww[i]?) = wr.map some)
    (hn : (va_nd isR && (isR.all (fun i => decide (i ∉ isC)) && va_nd is2)) = true) (h2 : is2.map (fun i => (wr ++ w1)[i]?) = w2.map some)
    (hk : ∀ q : Nat, q < H.size → ¬ va_A wc H.size q → H1[q]? = H[q]?) (hF : ∀ q, va_A wc H.size q → A0 q) (hP1 : va_P G vwCl w1 H1) (hD1 : va_D (va_A wc H.size) w1) : va_P G vwCl w2 H1 ∧ va_D A0 w2 := by
  simp only [Bool.and_eq_true, List.all_eq_true, decide_eq_true_eq] at hn
  obtain ⟨h3, h4⟩ := va_join hP hD isC isR hC hR hn.1 hn.2.1 hk hF hP1 hD1
  exact ⟨h3.sub is2 (z_map_sub h2), h4.sub is2 hn.2.2 h2⟩
variable {pc : Nat} {ls : Array Slot} {rest st0 : List Value} {a : Array Value} {A0 : Nat → Prop} {H0 : Heap} {mc ms : Nat}
theorem z_cl {S : Type} {post : Int64 → S → Prop} {w1 : S → va_W} (hr : va_Run p l e R s m args below meth c H locs cells slots mc ms (F0 m pc ls st0) rest (va_Ql post (fun u t => zB G cy (va_A wc H.size) (w1 u) t) (va_A wc H.size) a) (va_A wc H.size))
    (hP : va_P G vwCl ww H) (hD : va_D A0 ww) (hS : va_S A0 H0 H locs) (hA : ∀ q, H0.size ≤ q → A0 q) (isC isR is2 : List Nat) (wr : va_W) (w2 : S → va_W) (hC : isC.map (fun i => ww[i]?) = wc.map some) (hR : isR.map (fun i => ww[i]?) = wr.map some)
    (hn : (va_nd isR && (isR.all (fun i => decide (i ∉ isC)) && va_nd is2)) = true) (h2 : ∀ u, is2.map (fun i => (wr ++ w1 u)[i]?) = (w2 u).map some)
    (kk : ∀ (r : Int64) (u : S) (H1 : Heap) (locs1 : List Loc), post r u → va_P G vwCl (w2 u) H1 → va_D A0 (w2 u) → va_S A0 H0 H1 locs1 → H.size ≤ H1.size → W p l e R s m args below meth c H1 locs1 (cells + mc) (slots + ms) Q (F0 m (pc + 3) ls (.long r :: rest))) : W p l e R s m args below meth c H locs cells slots Q (F0 m pc ls st0) := by
  have hF := va_free (wc := wc) hD hS hA isC hC
  refine va_calll hr hS (fun q _ h => hF q h) hF (fun r u t H1 locs1 ht hvm hw hB hz hk hS1 => ?_)
  obtain ⟨hP1, hK1, hD1⟩ := hB
  rw [ht] at hP1
  obtain ⟨g1, g2⟩ := z_back hP hD isC isR is2 hC hR hn (h2 u) hk hF hP1 hD1
  exact kk r u H1 locs1 hw g1 g2 hS1 hz
theorem z_ci {S : Type} {post : Int32 → S → Prop} {w1 : S → va_W} (hr : va_Run p l e R s m args below meth c H locs cells slots mc ms (F0 m pc ls st0) rest (va_Qi post (fun u t => zB G cy (va_A wc H.size) (w1 u) t) (va_A wc H.size) a) (va_A wc H.size))
    (hP : va_P G vwCl ww H) (hD : va_D A0 ww) (hS : va_S A0 H0 H locs) (hA : ∀ q, H0.size ≤ q → A0 q) (isC isR is2 : List Nat) (wr : va_W) (w2 : S → va_W) (hC : isC.map (fun i => ww[i]?) = wc.map some) (hR : isR.map (fun i => ww[i]?) = wr.map some)
    (hn : (va_nd isR && (isR.all (fun i => decide (i ∉ isC)) && va_nd is2)) = true) (h2 : ∀ u, is2.map (fun i => (wr ++ w1 u)[i]?) = (w2 u).map some)
    (kk : ∀ (r : Int32) (u : S) (H1 : Heap) (locs1 : List Loc), post r u → va_P G vwCl (w2 u) H1 → va_D A0 (w2 u) → va_S A0 H0 H1 locs1 → H.size ≤ H1.size → W p l e R s m args below meth c H1 locs1 (cells + mc) (slots + ms) Q (F0 m (pc + 3) ls (.int r :: rest))) : W p l e R s m args below meth c H locs cells slots Q (F0 m pc ls st0) := by
  have hF := va_free (wc := wc) hD hS hA isC hC
  refine va_calli hr hS (fun q _ h => hF q h) hF (fun r u t H1 locs1 ht hvm hw hB hz hk hS1 => ?_)
  obtain ⟨hP1, hK1, hD1⟩ := hB
  rw [ht] at hP1
  obtain ⟨g1, g2⟩ := z_back hP hD isC isR is2 hC hR hn (h2 u) hk hF hP1 hD1
  exact kk r u H1 locs1 hw g1 g2 hS1 hz
theorem z_cv {S : Type} {post : S → Prop} {w1 : S → va_W} (hr : va_Run p l e R s m args below meth c H locs cells slots mc ms (F0 m pc ls st0) rest (va_Qv post (fun u t => zB G cy (va_A wc H.size) (w1 u) t) (va_A wc H.size) a) (va_A wc H.size))
    (hP : va_P G vwCl ww H) (hD : va_D A0 ww) (hS : va_S A0 H0 H locs) (hA : ∀ q, H0.size ≤ q → A0 q) (isC isR is2 : List Nat) (wr : va_W) (w2 : S → va_W) (hC : isC.map (fun i => ww[i]?) = wc.map some) (hR : isR.map (fun i => ww[i]?) = wr.map some)
    (hn : (va_nd isR && (isR.all (fun i => decide (i ∉ isC)) && va_nd is2)) = true) (h2 : ∀ u, is2.map (fun i => (wr ++ w1 u)[i]?) = (w2 u).map some)
    (kk : ∀ (u : S) (H1 : Heap) (locs1 : List Loc), post u → va_P G vwCl (w2 u) H1 → va_D A0 (w2 u) → va_S A0 H0 H1 locs1 → H.size ≤ H1.size → W p l e R s m args below meth c H1 locs1 (cells + mc) (slots + ms) Q (F0 m (pc + 3) ls rest)) : W p l e R s m args below meth c H locs cells slots Q (F0 m pc ls st0) := by
  have hF := va_free (wc := wc) hD hS hA isC hC
  refine va_callv hr hS (fun q _ h => hF q h) hF (fun u t H1 locs1 ht hvm hw hB hz hk hS1 => ?_)
  obtain ⟨hP1, hK1, hD1⟩ := hB
  rw [ht] at hP1
  obtain ⟨g1, g2⟩ := z_back hP hD isC isR is2 hC hR hn (h2 u) hk hF hP1 hD1
  exact kk u H1 locs1 hw g1 g2 hS1 hz

variable {cc : ByteArray} {A : Nat → Prop}
theorem z_rSl (hexec : p.tables.exec = Jvm.exec) (hb : c.code = cc) (hr : meth.sig.returnType = some .long) (hlocks : meth.locks = false) {post : Int64 → Prop} {v : Int64} (hd : decode cc pc = .ok (.lreturn, 1)) (h : post v) : W p l e R s m args below meth c s.heap [] 0 0 (MQ below (vp_Sl post) args s 0 0 (fun _ => False)) (F0 m pc ls [.long v]) :=
  W.lret hexec hb hr (fun t ht _ => ⟨v, rfl, h, ht⟩) (fun q hq => nomatch hq) hd hlocks
theorem z_rSi (hexec : p.tables.exec = Jvm.exec) (hb : c.code = cc) (hr : meth.sig.returnType = some .int) (hlocks : meth.locks = false) {post : Int32 → Prop} {v : Int32} (hd : decode cc pc = .ok (.ireturn, 1)) (h : post v) : W p l e R s m args below meth c s.heap [] 0 0 (MQ below (vp_Si post) args s 0 0 (fun _ => False)) (F0 m pc ls [.int v]) :=
  W.iret hexec hb hr (fun t ht _ => ⟨v, rfl, h, ht⟩) (fun q hq => nomatch hq) hd hlocks
theorem z_rSz {ty : FieldType} (hexec : p.tables.exec = Jvm.exec) (hb : c.code = cc) (hr : meth.sig.returnType = some ty) (hlocks : meth.locks = false) {post : Int32 → Prop} {v : Int32} (hn : narrow ty (.int v) = .int v) (hd : decode cc pc = .ok (.ireturn, 1)) (h : post v) : W p l e R s m args below meth c s.heap [] 0 0 (MQ below (vp_Si post) args s 0 0 (fun _ => False)) (F0 m pc ls [.int v]) :=
  W.zret hexec hb hr hn (fun t ht _ => ⟨v, rfl, h, ht⟩) (fun q hq => nomatch hq) hd hlocks
theorem z_rMl {S : Type} {post : Int64 → S → Prop} {w1 : S → va_W} (hexec : p.tables.exec = Jvm.exec) (hb : c.code = cc) (hr : meth.sig.returnType = some .long) (hlocks : meth.locks = false) {v : Int64} (hd : decode cc pc = .ok (.lreturn, 1)) (u : S) (h : post v u) (hP : va_P G vwCl (w1 u) H) (hD : va_D A (w1 u)) (hK : zK G cy s) (hS : va_S A s.heap H locs) (hc : cells ≤ mc) (hs : slots ≤ ms) : W p l e R s m args below meth c H locs cells slots (MQ below (va_Ql post (fun u t => zB G cy A (w1 u) t) A) args s mc ms A) (F0 m pc ls [.long v]) :=
  W.widen hc hs (W.lret hexec hb hr (fun t ht hW => ⟨⟨v, u, rfl, h, by rw [ht]; exact hP, va_K.moved hW.alike hK, hD⟩, hS.F ht⟩) hS.2.2 hd hlocks)
theorem z_rMi {S : Type} {post : Int32 → S → Prop} {w1 : S → va_W} (hexec : p.tables.exec = Jvm.exec) (hb : c.code = cc) (hr : meth.sig.returnType = some .int) (hlocks : meth.locks = false) {v : Int32} (hd : decode cc pc = .ok (.ireturn, 1)) (u : S) (h : post v u) (hP : va_P G vwCl (w1 u) H) (hD : va_D A (w1 u)) (hK : zK G cy s) (hS : va_S A s.heap H locs) (hc : cells ≤ mc) (hs : slots ≤ ms) : W p l e R s m args below meth c H locs cells slots (MQ below (va_Qi post (fun u t => zB G cy A (w1 u) t) A) args s mc ms A) (F0 m pc ls [.int v]) :=
  W.widen hc hs (W.iret hexec hb hr (fun t ht hW => ⟨⟨v, u, rfl, h, by rw [ht]; exact hP, va_K.moved hW.alike hK, hD⟩, hS.F ht⟩) hS.2.2 hd hlocks)
theorem z_rMz {ty : FieldType} {S : Type} {post : Int32 → S → Prop} {w1 : S → va_W} (hexec : p.tables.exec = Jvm.exec) (hb : c.code = cc) (hr : meth.sig.returnType = some ty) (hlocks : meth.locks = false) {v : Int32} (hn : narrow ty (.int v) = .int v) (hd : decode cc pc = .ok (.ireturn, 1)) (u : S) (h : post v u) (hP : va_P G vwCl (w1 u) H) (hD : va_D A (w1 u)) (hK : zK G cy s) (hS : va_S A s.heap H locs) (hc : cells ≤ mc) (hs : slots ≤ ms) : W p l e R s m args below meth c H locs cells slots (MQ below (va_Qi post (fun u t => zB G cy A (w1 u) t) A) args s mc ms A) (F0 m pc ls [.int v]) :=
  W.widen hc hs (W.zret hexec hb hr hn (fun t ht hW => ⟨⟨v, u, rfl, h, by rw [ht]; exact hP, va_K.moved hW.alike hK, hD⟩, hS.F ht⟩) hS.2.2 hd hlocks)
theorem z_rMv {S : Type} {post : S → Prop} {w1 : S → va_W} (hexec : p.tables.exec = Jvm.exec) (hb : c.code = cc) (hr : meth.sig.returnType = none) (hlocks : meth.locks = false) (hd : decode cc pc = .ok (.return_, 1)) (u : S) (h : post u) (hP : va_P G vwCl (w1 u) H) (hD : va_D A (w1 u)) (hK : zK G cy s) (hS : va_S A s.heap H locs) (hc : cells ≤ mc) (hs : slots ≤ ms) : W p l e R s m args below meth c H locs cells slots (MQ below (va_Qv post (fun u t => zB G cy A (w1 u) t) A) args s mc ms A) (F0 m pc ls []) :=
  W.widen hc hs (W.vret hexec hb hr (fun t ht hW => ⟨⟨u, rfl, h, by rw [ht]; exact hP, va_K.moved hW.alike hK, hD⟩, hS.F ht⟩) hS.2.2 hd hlocks)
end ZC
