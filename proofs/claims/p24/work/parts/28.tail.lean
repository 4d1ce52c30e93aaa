/-! calls in a world with a tail; calls that take all of a world, in any order -/
theorem z_free {A0 : Nat → Prop} {ws wc : va_W} {H0 H : Heap} {locs : List Loc} (hD : va_D A0 ws) (hS : va_S A0 H0 H locs) (hA : ∀ q, H0.size ≤ q → A0 q) (hm : ∀ q ∈ wc, q ∈ ws) : ∀ q, va_A wc H.size q → A0 q := by
  intro q h
  rcases z_A_mem h with ⟨x, hx, rfl⟩ | h
  · exact (z_D_iff.mp hD).2 x (hm x hx)
  · exact hA q (Nat.le_trans hS.1 h)
theorem z_mem {is : List Nat} {u v : va_W} (h : is.map (fun i => u[i]?) = v.map some) : ∀ q ∈ v, q ∈ u := fun q hq => by
  have : some q ∈ is.map (fun i => u[i]?) := by rw [h]; exact List.mem_map_of_mem hq
  obtain ⟨i, -, hi⟩ := List.mem_map.mp this
  exact List.mem_of_getElem? hi
section ZT
variable {p : Program} {l : Launch} {e : Env} {R : Room} {s : State} {m : MethodId} {args : Array Value} {below : List Frame} {meth : Method} {c : Code} {H : Heap} {locs : List Loc} {cells slots : Nat} {Q : State → Prop}
variable {G : va_G} {cy : Nat → ClassId} {ww wc tl : va_W} {As av : List Value} {C : String} {b N0 : Nat}
variable {pc : Nat} {ls : Array Slot} {rest st0 : List Value} {a : Array Value} {A0 : Nat → Prop} {H0 : Heap} {mc ms : Nat} {nm : String}
theorem z_clT {S : Type} {post : Int64 → S → Prop} {w1 : S → va_W} (hr : va_Run p l e R s m args below meth c H locs cells slots mc ms (F0 m pc ls st0) rest (va_Ql post (fun u t => zB G cy (va_A wc H.size) (w1 u) t) (va_A wc H.size) a) (va_A wc H.size))
    (hP : va_P G vwCl (ww ++ tl) H) (hD : va_D A0 (ww ++ tl)) (hS : va_S A0 H0 H locs) (hA : ∀ q, H0.size ≤ q → A0 q) (isC isR is2 : List Nat) (wr : va_W) (w2 : S → va_W) (hC : isC.map (fun i => ww[i]?) = wc.map some) (hR : isR.map (fun i => ww[i]?) = wr.map some)
    (hn : (va_nd isR && (isR.all (fun i => decide (i ∉ isC)) && va_nd is2)) = true) (h2 : ∀ u, is2.map (fun i => (wr ++ w1 u)[i]?) = (w2 u).map some)
    (kk : ∀ (r : Int64) (u : S) (H1 : Heap) (locs1 : List Loc), post r u → va_P G vwCl (w2 u ++ tl) H1 → va_D A0 (w2 u ++ tl) → va_S A0 H0 H1 locs1 → H.size ≤ H1.size → W p l e R s m args below meth c H1 locs1 (cells + mc) (slots + ms) Q (F0 m (pc + 3) ls (.long r :: rest))) : W p l e R s m args below meth c H locs cells slots Q (F0 m pc ls st0) := by
  have hF := z_free (wc := wc) hD hS hA (fun q hq => List.mem_append_left _ (z_mem hC q hq))
  refine va_calll hr hS (fun q _ h => hF q h) hF (fun r u t H1 locs1 ht hvm hw hB hz hk hS1 => ?_)
  obtain ⟨hP1, hK1, hD1⟩ := hB
  rw [ht] at hP1
  obtain ⟨g1, g2⟩ := z_backT hP hD isC isR is2 hC hR hn (h2 u) hk hF hP1 hD1
  exact kk r u H1 locs1 hw g1 g2 hS1 hz
theorem z_clP {S : Type} {post : Int64 → S → Prop} {w1 : S → va_W} {wr : va_W} (hr : va_Run p l e R s m args below meth c H locs cells slots mc ms (F0 m pc ls st0) rest (va_Ql post (fun u t => zB G cy (va_A wc H.size) (w1 u) t) (va_A wc H.size) a) (va_A wc H.size))
    (hP : va_P G vwCl (wc ++ wr) H) (hD : va_D A0 (wc ++ wr)) (hS : va_S A0 H0 H locs) (hA : ∀ q, H0.size ≤ q → A0 q)
    (kk : ∀ (r : Int64) (u : S) (H1 : Heap) (locs1 : List Loc), post r u → va_P G vwCl (w1 u ++ wr) H1 → va_D A0 (w1 u ++ wr) → va_S A0 H0 H1 locs1 → H.size ≤ H1.size → W p l e R s m args below meth c H1 locs1 (cells + mc) (slots + ms) Q (F0 m (pc + 3) ls (.long r :: rest))) : W p l e R s m args below meth c H locs cells slots Q (F0 m pc ls st0) := by
  have hF := z_free (wc := wc) hD hS hA (fun q hq => List.mem_append_left _ hq)
  refine va_calll hr hS (fun q _ h => hF q h) hF (fun r u t H1 locs1 ht hvm hw hB hz hk hS1 => ?_)
  obtain ⟨hP1, hK1, hD1⟩ := hB
  rw [ht] at hP1
  obtain ⟨g1, g2⟩ := z_backP hP hD hk hF hP1 hD1
  exact kk r u H1 locs1 hw g1 g2 hS1 hz
theorem z_ciT {S : Type} {post : Int32 → S → Prop} {w1 : S → va_W} (hr : va_Run p l e R s m args below meth c H locs cells slots mc ms (F0 m pc ls st0) rest (va_Qi post (fun u t => zB G cy (va_A wc H.size) (w1 u) t) (va_A wc H.size) a) (va_A wc H.size))
    (hP : va_P G vwCl (ww ++ tl) H) (hD : va_D A0 (ww ++ tl)) (hS : va_S A0 H0 H locs) (hA : ∀ q, H0.size ≤ q → A0 q) (isC isR is2 : List Nat) (wr : va_W) (w2 : S → va_W) (hC : isC.map (fun i => ww[i]?) = wc.map some) (hR : isR.map (fun i => ww[i]?) = wr.map some)
    (hn : (va_nd isR && (isR.all (fun i => decide (i ∉ isC)) && va_nd is2)) = true) (h2 : ∀ u, is2.map (fun i => (wr ++ w1 u)[i]?) = (w2 u).map some)
    (kk : ∀ (r : Int32) (u : S) (H1 : Heap) (locs1 : List Loc), post r u → va_P G vwCl (w2 u ++ tl) H1 → va_D A0 (w2 u ++ tl) → va_S A0 H0 H1 locs1 → H.size ≤ H1.size → W p l e R s m args below meth c H1 locs1 (cells + mc) (slots + ms) Q (F0 m (pc + 3) ls (.int r :: rest))) : W p l e R s m args below meth c H locs cells slots Q (F0 m pc ls st0) := by
  have hF := z_free (wc := wc) hD hS hA (fun q hq => List.mem_append_left _ (z_mem hC q hq))
  refine va_calli hr hS (fun q _ h => hF q h) hF (fun r u t H1 locs1 ht hvm hw hB hz hk hS1 => ?_)
  obtain ⟨hP1, hK1, hD1⟩ := hB
  rw [ht] at hP1
  obtain ⟨g1, g2⟩ := z_backT hP hD isC isR is2 hC hR hn (h2 u) hk hF hP1 hD1
  exact kk r u H1 locs1 hw g1 g2 hS1 hz
theorem z_ciP {S : Type} {post : Int32 → S → Prop} {w1 : S → va_W} {wr : va_W} (hr : va_Run p l e R s m args below meth c H locs cells slots mc ms (F0 m pc ls st0) rest (va_Qi post (fun u t => zB G cy (va_A wc H.size) (w1 u) t) (va_A wc H.size) a) (va_A wc H.size))
    (hP : va_P G vwCl (wc ++ wr) H) (hD : va_D A0 (wc ++ wr)) (hS : va_S A0 H0 H locs) (hA : ∀ q, H0.size ≤ q → A0 q)
    (kk : ∀ (r : Int32) (u : S) (H1 : Heap) (locs1 : List Loc), post r u → va_P G vwCl (w1 u ++ wr) H1 → va_D A0 (w1 u ++ wr) → va_S A0 H0 H1 locs1 → H.size ≤ H1.size → W p l e R s m args below meth c H1 locs1 (cells + mc) (slots + ms) Q (F0 m (pc + 3) ls (.int r :: rest))) : W p l e R s m args below meth c H locs cells slots Q (F0 m pc ls st0) := by
  have hF := z_free (wc := wc) hD hS hA (fun q hq => List.mem_append_left _ hq)
  refine va_calli hr hS (fun q _ h => hF q h) hF (fun r u t H1 locs1 ht hvm hw hB hz hk hS1 => ?_)
  obtain ⟨hP1, hK1, hD1⟩ := hB
  rw [ht] at hP1
  obtain ⟨g1, g2⟩ := z_backP hP hD hk hF hP1 hD1
  exact kk r u H1 locs1 hw g1 g2 hS1 hz
theorem z_cvT {S : Type} {post : S → Prop} {w1 : S → va_W} (hr : va_Run p l e R s m args below meth c H locs cells slots mc ms (F0 m pc ls st0) rest (va_Qv post (fun u t => zB G cy (va_A wc H.size) (w1 u) t) (va_A wc H.size) a) (va_A wc H.size))
    (hP : va_P G vwCl (ww ++ tl) H) (hD : va_D A0 (ww ++ tl)) (hS : va_S A0 H0 H locs) (hA : ∀ q, H0.size ≤ q → A0 q) (isC isR is2 : List Nat) (wr : va_W) (w2 : S → va_W) (hC : isC.map (fun i => ww[i]?) = wc.map some) (hR : isR.map (fun i => ww[i]?) = wr.map some)
    (hn : (va_nd isR && (isR.all (fun i => decide (i ∉ isC)) && va_nd is2)) = true) (h2 : ∀ u, is2.map (fun i => (wr ++ w1 u)[i]?) = (w2 u).map some)
    (kk : ∀ (u : S) (H1 : Heap) (locs1 : List Loc), post u → va_P G vwCl (w2 u ++ tl) H1 → va_D A0 (w2 u ++ tl) → va_S A0 H0 H1 locs1 → H.size ≤ H1.size → W p l e R s m args below meth c H1 locs1 (cells + mc) (slots + ms) Q (F0 m (pc + 3) ls rest)) : W p l e R s m args below meth c H locs cells slots Q (F0 m pc ls st0) := by
  have hF := z_free (wc := wc) hD hS hA (fun q hq => List.mem_append_left _ (z_mem hC q hq))
  refine va_callv hr hS (fun q _ h => hF q h) hF (fun u t H1 locs1 ht hvm hw hB hz hk hS1 => ?_)
  obtain ⟨hP1, hK1, hD1⟩ := hB
  rw [ht] at hP1
  obtain ⟨g1, g2⟩ := z_backT hP hD isC isR is2 hC hR hn (h2 u) hk hF hP1 hD1
  exact kk u H1 locs1 hw g1 g2 hS1 hz
theorem z_cvP {S : Type} {post : S → Prop} {w1 : S → va_W} {wr : va_W} (hr : va_Run p l e R s m args below meth c H locs cells slots mc ms (F0 m pc ls st0) rest (va_Qv post (fun u t => zB G cy (va_A wc H.size) (w1 u) t) (va_A wc H.size) a) (va_A wc H.size))
    (hP : va_P G vwCl (wc ++ wr) H) (hD : va_D A0 (wc ++ wr)) (hS : va_S A0 H0 H locs) (hA : ∀ q, H0.size ≤ q → A0 q)
    (kk : ∀ (u : S) (H1 : Heap) (locs1 : List Loc), post u → va_P G vwCl (w1 u ++ wr) H1 → va_D A0 (w1 u ++ wr) → va_S A0 H0 H1 locs1 → H.size ≤ H1.size → W p l e R s m args below meth c H1 locs1 (cells + mc) (slots + ms) Q (F0 m (pc + 3) ls rest)) : W p l e R s m args below meth c H locs cells slots Q (F0 m pc ls st0) := by
  have hF := z_free (wc := wc) hD hS hA (fun q hq => List.mem_append_left _ hq)
  refine va_callv hr hS (fun q _ h => hF q h) hF (fun u t H1 locs1 ht hvm hw hB hz hk hS1 => ?_)
  obtain ⟨hP1, hK1, hD1⟩ := hB
  rw [ht] at hP1
  obtain ⟨g1, g2⟩ := z_backP hP hD hk hF hP1 hD1
  exact kk u H1 locs1 hw g1 g2 hS1 hz
theorem z_pVP {A0 : Nat → Prop} {wr : va_W} {ci : Nat} {fs : List Value} {q : vw_C} (hK : zK G cy s) (hP : va_P G vwCl (wc ++ wr) H) (hD : va_D A0 (wc ++ wr)) (hc : vwCl[ci]? = some q) (hq : q.1 = C) (q0 : Nat) (he : wc[q0]? = some (b, .inr (ci, fs))) : PreV s H C b (zM G cy (.ref b :: As) H.size wc) As := by
  have h : va_P G vwCl wc H ∧ va_D (fun _ => True) wc := ⟨z_P_l hP, (z_D_app.mp hD).1.weaken (fun _ _ _ _ => trivial)⟩
  subst hq
  exact ⟨(z_qM hK h).1, va_recv hK h.1 hc he, (z_qM hK h).2⟩
theorem z_pSP {A0 : Nat → Prop} {wr : va_W} (hK : zK G cy s) (hP : va_P G vwCl (wc ++ wr) H) (hD : va_D A0 (wc ++ wr)) : PreS s H (zM G cy As H.size wc) As :=
  z_qM hK ⟨z_P_l hP, (z_D_app.mp hD).1.weaken (fun _ _ _ _ => trivial)⟩
theorem z_cxT (hr : vx_Run p l e R s m args below meth c H locs cells slots mc ms (F0 m pc ls st0) rest (zNo a) (zXC G cy (va_A wc H.size) wc nm) (va_A wc H.size))
    (hP : va_P G vwCl (ww ++ tl) H) (hD : va_D A0 (ww ++ tl)) (hS : va_S A0 H0 H locs) (hA : ∀ q, H0.size ≤ q → A0 q) (isC isR is2 : List Nat) (wr : va_W) (hC : isC.map (fun i => ww[i]?) = wc.map some) (hR : isR.map (fun i => ww[i]?) = wr.map some)
    (hn : (va_nd isR && (isR.all (fun i => decide (i ∉ isC)) && va_nd is2)) = true) (h2 : is2.map (fun i => (wr ++ wc)[i]?) = ww.map some)
    (kk : ∀ (ce : Cell) (q9 : Addr) (H1 : Heap) (locs1 : List Loc), va_P G vwCl (ww ++ tl) H1 → va_D A0 (ww ++ tl) → va_S A0 H0 H1 locs1 → H1[q9]? = some ce → ce.vm = .none → s.vm.findClass nm = some ce.cls → vx_W p l e R s m args below meth c H1 locs1 (cells + mc) (slots + ms) Q (F0 m pc ls rest) q9) : W p l e R s m args below meth c H locs cells slots Q (F0 m pc ls st0) := by
  have hF := z_free (wc := wc) hD hS hA (fun q hq => List.mem_append_left _ (z_mem hC q hq))
  intro T hT X
  rcases hr T hT X with ⟨v, st₀, t, T', L, h0, X', hL, e1, e2, hq, st⟩ | ⟨q, st₀, t, T', L, E, ce, h0, X', hL, e1, e2, ⟨u, -, ⟨rfl, hP1, hK1, hD1⟩, hFr⟩, hce, hcv, hcl, st⟩
  · exact hq.elim
  · obtain ⟨k1, k2, k3⟩ := vx_keep h0 e1 hS (fun q _ h => hF q h) hF hL hFr
    rw [← e1] at hP1
    obtain ⟨g1, g2⟩ := z_backT hP hD isC isR is2 hC hR hn h2 k2 hF hP1 hD1
    obtain ⟨t2, a1, b1⟩ := kk ce q T'.heap (locs ++ L) g1 g2 k3 (by rw [e1]; exact hce) hcv hcl T' rfl X'
    exact ⟨t2, st.trans a1, b1⟩
end ZT
theorem z_bad1 : (vx_atS RX10 117 (zE 1) ["java/lang/RuntimeException", "java/lang/Exception"]).filter (fun w => !goodWord w) = zDw.map .declares ++ [.castable (zE 1) (zE 1)] := by decide +kernel
theorem z_bad2 : (vx_atS RX10 76 (zE 2) ["java/lang/RuntimeException", "java/lang/Exception"]).filter (fun w => !goodWord w) = zDw.map .declares ++ [.castable (zE 2) (zE 2)] := by decide +kernel
theorem z_bad3 : (vx_atS RX10 94 (zE 3) ["java/lang/RuntimeException", "java/lang/Exception"]).filter (fun w => !goodWord w) = zDw.map .declares ++ [.castable (zE 3) (zE 3)] := by decide +kernel
theorem z_good1 : (Cond.classLink RX10 113 (zE 1) :: Cond.initialized (zE 1) :: vx_atS RX10 117 (zE 1) ["java/lang/RuntimeException", "java/lang/Exception"]).all vx_ot = true := by decide +kernel
theorem z_good2 : (Cond.classLink RX10 72 (zE 2) :: Cond.initialized (zE 2) :: vx_atS RX10 76 (zE 2) ["java/lang/RuntimeException", "java/lang/Exception"]).all vx_ot = true := by decide +kernel
theorem z_good3 : (Cond.classLink RX10 90 (zE 3) :: Cond.initialized (zE 3) :: vx_atS RX10 94 (zE 3) ["java/lang/RuntimeException", "java/lang/Exception"]).all vx_ot = true := by decide +kernel
