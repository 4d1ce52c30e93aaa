abbrev zQr {S : Type} (post : Nat → S → Prop) (B : S → State → Prop) (A : Nat → Prop) : Array Value → State → Outcome → State → Prop := va_Qr (fun (_ : S) => True) (fun u ra t => post ra u ∧ B u t) A
section ZR
variable {p : Program} {l : Launch} {e : Env} {R : Room} {s : State} {m : MethodId} {args : Array Value} {below : List Frame} {meth : Method} {c : Code} {H : Heap} {locs : List Loc} {cells slots : Nat} {Q : State → Prop}
variable {cc : ByteArray} {pc : Nat} {ls : Array Slot} {rest st0 : List Value} {G : va_G} {cy : Nat → ClassId} {ww wc : va_W} {A A0 : Nat → Prop} {H0 : Heap} {mc ms : Nat} {a : Array Value}
theorem z_rMr {C : String} {S : Type} {post : Nat → S → Prop} {w1 : S → va_W} (hexec : p.tables.exec = Jvm.exec) (hb : c.code = cc) (hr : meth.sig.returnType = some (.object C)) (hlocks : meth.locks = false) {v : Nat} (hd : decode cc pc = .ok (.areturn, 1)) (u : S) (h : post v u) (hP : va_P G vwCl (w1 u) H) (hD : va_D A (w1 u)) (hK : zK G cy s) (hS : va_S A s.heap H locs) (hc : cells ≤ mc) (hs : slots ≤ ms) : W p l e R s m args below meth c H locs cells slots (MQ below (zQr post (fun u t => zB G cy A (w1 u) t) A) args s mc ms A) (F0 m pc ls [.ref v]) :=
  W.widen hc hs (W.aret hexec hb hr (Or.inl ⟨C, rfl⟩) (Or.inr ⟨v, rfl⟩) (fun t ht hW => ⟨⟨u, v, rfl, trivial, h, by rw [ht]; exact hP, va_K.moved hW.alike hK, hD⟩, hS.F ht⟩) hS.2.2 hd hlocks)
theorem z_cr {S : Type} {post : Nat → S → Prop} {w1 : S → va_W} (hr : va_Run p l e R s m args below meth c H locs cells slots mc ms (F0 m pc ls st0) rest (zQr post (fun u t => zB G cy (va_A wc H.size) (w1 u) t) (va_A wc H.size) a) (va_A wc H.size))
    (hP : va_P G vwCl ww H) (hD : va_D A0 ww) (hS : va_S A0 H0 H locs) (hA : ∀ q, H0.size ≤ q → A0 q) (isC isR is2 : List Nat) (wr : va_W) (w2 : S → va_W) (hC : isC.map (fun i => ww[i]?) = wc.map some) (hR : isR.map (fun i => ww[i]?) = wr.map some)
    (hn : (va_nd isR && (isR.all (fun i => decide (i ∉ isC)) && va_nd is2)) = true) (h2 : ∀ u, is2.map (fun i => (wr ++ w1 u)[i]?) = (w2 u).map some)
    (kk : ∀ (r : Nat) (u : S) (H1 : Heap) (locs1 : List Loc), post r u → va_P G vwCl (w2 u) H1 → va_D A0 (w2 u) → va_S A0 H0 H1 locs1 → H.size ≤ H1.size → W p l e R s m args below meth c H1 locs1 (cells + mc) (slots + ms) Q (F0 m (pc + 3) ls (.ref r :: rest))) : W p l e R s m args below meth c H locs cells slots Q (F0 m pc ls st0) := by
  have hF := va_free (wc := wc) hD hS hA isC hC
  refine va_callr hr hS (fun q _ h => hF q h) hF (fun u r t H1 locs1 ht hvm _ hBB hz hk hS1 => ?_)
  obtain ⟨hw, hB⟩ := hBB
  obtain ⟨hP1, hK1, hD1⟩ := hB
  rw [ht] at hP1
  obtain ⟨g1, g2⟩ := z_back hP hD isC isR is2 hC hR hn (h2 u) hk hF hP1 hD1
  exact kk r u H1 locs1 hw g1 g2 hS1 hz
end ZR
theorem z_sub16 {a : Nat} (h : a ≤ 16) : nI a - nI 16 ≤ 0 := (by decide +kernel : ∀ c : Fin 17, nI c.val - nI 16 ≤ 0) ⟨a, by omega⟩
