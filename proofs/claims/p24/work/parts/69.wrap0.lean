/-! the law's own methods, that catch -/
abbrev zMH (G : va_G) (cy : Nat → ClassId) (wd : Nat → Nat) (fo : Option Nat) (N0 : Nat) (av : List Value) (sz : Nat) (ws : va_W) : Array Value → State → Prop := va_Pc av (fun U => U.heap.size = sz ∧ N0 ≤ sz ∧ va_P G vwCl ws U.heap ∧ zK G cy U ∧ va_D (fun q => N0 ≤ q) ws ∧ zWd wd fo N0 U U.heap ∧ zEx N0 U U.heap)
theorem z_ofMH {l : Launch} {G : va_G} {cy : Nat → ClassId} {wd : Nat → Nat} {fo : Option Nat} {N0 : Nat} {y : MethodName} {ws ws' : List Cond} {rm : Room} {av : List Value} {w0 : va_W} {sz : Nat} {Qc : (Nat → Prop) → Array Value → State → Outcome → State → Prop} {cc : ByteArray} {maxL mc ms : Nat} {ret : Option FieldType} {hh : List (Nat × Nat × Nat × Nat)}
    (hy : plainName y.cls = true) (hw : ws = Cond.codeWith y cc maxL ret hh :: ws') (hlen : (lg_sl av).length ≤ maxL)
    (body : ∀ (p : Program) (e : Env) (s : State) (m : MethodId) (below : List Frame) (meth : Method) (c : Code) (ls : Array Slot) (A : Nat → Prop), p.tables.exec = Jvm.exec → c.code = cc → c.maxLocals = maxL → meth.sig.returnType = ret → (∀ w ∈ ws, w.before av.toArray s = true) → s.vm.findClass y.cls = some m.cls → meth.locks = false → va_P G vwCl w0 s.heap → zK G cy s → va_D A w0 → (∀ q : Nat, s.heap.size ≤ q → A q) → va_S A s.heap s.heap [] → lv_has ls maxL (lv_args 0 av) → sz = s.heap.size → N0 ≤ s.heap.size → (∀ q, A q → N0 ≤ q) → zWd wd fo N0 s s.heap → zEx N0 s s.heap → c.exceptionTable.toList = tableOf hh →
      W p l e rm s m av.toArray below meth c s.heap [] 0 0 (MQ below (Qc A) av.toArray s mc ms A) (F0 m 0 ls [])) : Met l y ws rm (zMH G cy wd fo N0 av sz w0) (Qc (va_A w0 sz)) mc ms (va_A w0 sz) := by
  refine va_MetW (cc := cc) (maxL := maxL) (ret := ret) (hh := hh) hy hw ?_
  intro p e s m args below meth c s₁ B hml hv
  obtain ⟨rfl, hsz, hN, hP, hK, hD0, hWd, hE⟩ := hv
  have hl := lv_entry av (n := maxL) hlen
  have hts := atoms_spec (ws := ws) B.pre
  have htab := vx_table (x := y) B (hts (Cond.codeWith y cc maxL ret hh) (by rw [hw]; exact List.mem_cons_self))
  rw [lg_entry_eq]
  refine body p e s m below meth c _ (va_A w0 sz) B.exec B.bytes hml B.returns hts (findClass_of_methodNamed B.named) B.notSynchronized hP hK hD0.self (fun q h => Or.inr (by rw [← hsz]; exact h)) va_S.rf hl hsz.symm (by rw [hsz]; exact hN) (fun q h => ?_) hWd hE htab
  rcases h with ⟨k, e9, h⟩ | h
  · exact hD0.2 k (q, e9) h
  · exact Nat.le_trans hN h
section ZH
variable {p : Program} {l : Launch} {e : Env} {R : Room} {s : State} {m : MethodId} {args : Array Value} {below : List Frame} {meth : Method} {c : Code} {H : Heap} {locs : List Loc} {cells slots : Nat} {Q : State → Prop}
variable {G : va_G} {cy : Nat → ClassId} {ww wc : va_W} {As av : List Value} {C : String} {b N0 : Nat} {wd : Nat → Nat} {fo : Option Nat}
theorem z_qH {A0 : Nat → Prop} (hK : zK G cy s) (hP : va_P G vwCl wc H) (hD : va_D A0 wc) (hS : va_S A0 s.heap H locs) (hN : N0 ≤ s.heap.size) (hA : ∀ q, A0 q → N0 ≤ q) (hWd : zWd wd fo N0 s s.heap) (hE : zEx N0 s s.heap) : FrameBlind (zMH G cy wd fo N0 av H.size wc) ∧ ∀ U : State, U.heap = H → s.WarmedH U.vm → zMH G cy wd fo N0 av H.size wc av.toArray U :=
  ⟨fun a U g mk q => ⟨q.1, q.2.1, q.2.2.1, q.2.2.2.1, va_K.moved (u := U) (U := U.calling g mk a) (Vm.Alike.refl U.vm) q.2.2.2.2.1, q.2.2.2.2.2.1, q.2.2.2.2.2.2.1.calling, q.2.2.2.2.2.2.2.calling⟩, fun U hU hW => ⟨rfl, by rw [hU], Nat.le_trans hN hS.1, by rw [hU]; exact hP, va_K.moved hW.alike hK, hD.weaken (fun _ _ _ h => hA _ h), by rw [hU]; exact (hWd.heap hS hA).warm hW, by rw [hU]; exact (hE.heap hS hA).warm hW⟩⟩
/-- a call of such a method that takes the cells wc of a world wc and wr -/
theorem z_pHP {A0 : Nat → Prop} {wr : va_W} (hK : zK G cy s) (hP : va_P G vwCl (wc ++ wr) H) (hD : va_D A0 (wc ++ wr)) (hS : va_S A0 s.heap H locs) (hN : N0 ≤ s.heap.size) (hA : ∀ q, A0 q → N0 ≤ q) (hWd : zWd wd fo N0 s s.heap) (hE : zEx N0 s s.heap) : PreS s H (zMH G cy wd fo N0 As H.size wc) As :=
  z_qH hK (z_P_l hP) (z_D_app.mp hD).1 hS hN hA hWd hE
theorem z_pSH {A0 : Nat → Prop} (hK : zK G cy s) (hP : va_P G vwCl ww H) (hD : va_D A0 ww) (hS : va_S A0 s.heap H locs) (hN : N0 ≤ s.heap.size) (hA : ∀ q, A0 q → N0 ≤ q) (hWd : zWd wd fo N0 s s.heap) (hE : zEx N0 s s.heap) (is : List Nat) (hs : is.map (fun i => ww[i]?) = wc.map some) (hn : va_nd is = true) : PreS s H (zMH G cy wd fo N0 As H.size wc) As :=
  z_qH hK (hP.sub is (z_map_sub hs)) (hD.sub is hn hs) hS hN hA hWd hE
end ZH
