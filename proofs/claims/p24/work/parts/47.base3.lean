/-! a constructor that makes an array of references -/
def zAO (U : State) : Prop := va_AO RX3 U ∧ va_Nw (.methodLinkNest RX10 27 yX9_init "MeterHouse") U ∧ va_Nw (.methodLinkNest RX10 41 yX6_init "MeterHouse") U
theorem zAO.warm {s U : State} (hW : s.WarmedH U.vm) (h : zAO s) : zAO U := ⟨va_AO.moved hW.alike h.1, va_Nw.warmM hW h.2.1, va_Nw.warmM hW h.2.2⟩
theorem zAO.calling {U : State} {g : JFrame} {mk : MethodId} {a : Array Value} (h : zAO U) : zAO (U.calling g mk a) := ⟨va_AO.moved (u := U) (U := U.calling g mk a) (Vm.Alike.refl U.vm) h.1, va_Nw.same rfl (u := U) (U := U.calling g mk a) rfl h.2.1, va_Nw.same rfl (u := U) (U := U.calling g mk a) rfl h.2.2⟩
abbrev zMO (G : va_G) (cy : Nat → ClassId) (av : List Value) (sz : Nat) (ws : va_W) : Array Value → State → Prop := va_Pc av (fun U => (U.heap.size = sz ∧ va_P G vwCl ws U.heap ∧ zK G cy U ∧ va_D (fun _ => True) ws) ∧ zAO U)
theorem z_ofMO {l : Launch} {G : va_G} {cy : Nat → ClassId} {y : MethodName} {ws ws' : List Cond} {rm : Room} {av : List Value} {w0 : va_W} {sz : Nat} {Qc : (Nat → Prop) → Array Value → State → Outcome → State → Prop} {cc : ByteArray} {maxL mc ms : Nat} {ret : Option FieldType}
    (hy : plainName y.cls = true) (hw : ws = Cond.code y cc maxL ret :: ws') (hlen : (lg_sl av).length ≤ maxL)
    (body : ∀ (p : Program) (e : Env) (s : State) (m : MethodId) (below : List Frame) (meth : Method) (c : Code) (ls : Array Slot) (A : Nat → Prop), p.tables.exec = Jvm.exec → c.code = cc → c.maxLocals = maxL → meth.sig.returnType = ret → (∀ w ∈ ws, w.before av.toArray s = true) → s.vm.findClass y.cls = some m.cls → meth.locks = false → meth.name = y.name → va_P G vwCl w0 s.heap → zK G cy s → zAO s → va_D A w0 → (∀ q : Nat, s.heap.size ≤ q → A q) → va_S A s.heap s.heap [] → lv_has ls maxL (lv_args 0 av) → sz = s.heap.size →
      W p l e rm s m av.toArray below meth c s.heap [] 0 0 (MQ below (Qc A) av.toArray s mc ms A) (F0 m 0 ls [])) : Met l y ws rm (zMO G cy av sz w0) (Qc (va_A w0 sz)) mc ms (va_A w0 sz) := by
  refine Met.ofW (cc := cc) (maxL := maxL) (ret := ret) hy hw ?_
  intro p e s m args below meth c s₁ B hml hv
  obtain ⟨rfl, ⟨hsz, hP, hK, hD0⟩, hAO⟩ := hv
  have hl := lv_entry av (n := maxL) hlen
  rw [lg_entry_eq]
  exact body p e s m below meth c _ (va_A w0 sz) B.exec B.bytes hml B.returns (atoms_spec (ws := ws) B.pre) (findClass_of_methodNamed B.named) B.notSynchronized (name_of_methodNamed B.named B.method).1 hP hK hAO hD0.self (fun q h => Or.inr (by rw [← hsz]; exact h)) va_S.rf hl hsz.symm
section ZC3
variable {p : Program} {l : Launch} {e : Env} {R : Room} {s : State} {m : MethodId} {args : Array Value} {below : List Frame} {meth : Method} {c : Code} {H : Heap} {locs : List Loc} {cells slots : Nat} {Q : State → Prop}
variable {cc : ByteArray} {pc : Nat} {ls : Array Slot} {rest : List Value} {G : va_G} {cy : Nat → ClassId} {ww wc : va_W} {As : List Value} {A : Nat → Prop} {H0 : Heap}
theorem z_pSMO {A0 : Nat → Prop} (hK : zK G cy s) (hAO : zAO s) (hP : va_P G vwCl ww H) (hD : va_D A0 ww) (is : List Nat) (hs : is.map (fun i => ww[i]?) = wc.map some) (hn : va_nd is = true) : PreS s H (zMO G cy As H.size wc) As := by
  have h := z_sub hP hD is hs hn
  exact ⟨fun a U g mk q => ⟨q.1, ⟨q.2.1.1, q.2.1.2.1, va_K.moved (u := U) (U := U.calling g mk a) (Vm.Alike.refl U.vm) q.2.1.2.2.1, q.2.1.2.2.2⟩, q.2.2.calling⟩, fun U hU hW => ⟨rfl, ⟨by rw [hU], by rw [hU]; exact h.1, va_K.moved hW.alike hK, h.2⟩, hAO.warm hW⟩⟩
theorem z_newQ {N index : Nat} {own : String} (hexec : p.tables.exec = Jvm.exec) (hb : c.code = cc) (hown : s.vm.findClass own = some m.cls) (hclink : (Cond.classLink own index RX3).before args s = true) (hAO : zAO s) (hK : zK G cy s) (hP : va_P G vwCl ww H) (hD : va_D A ww) (hS : va_S A H0 H locs) (hA : ∀ q, H0.size ≤ q → A q) (hN : N < 2 ^ 25) (hcells : cells + 1 ≤ R.cells) (hslots : slots + N ≤ R.slots) (hdg : decode cc pc = .ok (.anewarray index, 3))
    (kk : ∀ (q : Nat) (H1 : Heap), va_P G vwCl (ww ++ [zQ cy q N (fun _ => none)]) H1 → va_D A (ww ++ [zQ cy q N (fun _ => none)]) → va_S A H0 H1 locs → W p l e R s m args below meth c H1 locs (cells + 1) (slots + N) Q (F0 m (pc + 3) ls (.ref q :: rest))) : W p l e R s m args below meth c H locs cells slots Q (F0 m pc ls (.int (nI N) :: rest)) := by
  refine va_newq hexec hb hown hclink hAO.1 hK hP hD hS hA (nI_pos (by omega)) (nI_clamp (by omega)) (by show N * 4 ≤ 536870912; omega) hcells hslots hdg (fun q cA H1 hK1 hP1 hD1 hS1 => ?_)
  have e1 : va_RA s (cy 2) (.object RX3) := (hK.2 2 (cy 2, .object RX3) rfl).2
  have e2 : va_RA s cA (.object RX3) := (hK1.2 4 (cA, .object RX3) rfl).2
  obtain ⟨-, -, -, -, -, e3⟩ := e1
  obtain ⟨-, -, -, -, -, e4⟩ := e2
  have e5 : cy 2 = cA := Option.some.inj (e3.symm.trans e4)
  subst e5
  exact kk q H1 hP1 hD1 hS1
end ZC3
