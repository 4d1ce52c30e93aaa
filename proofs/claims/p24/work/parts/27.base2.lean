/-! more rows: ends and calls that give a reference or nothing, arrays of references, raw comparisons, worlds with a tail, worlds by permutation -/
section ZY
variable {p : Program} {l : Launch} {e : Env} {R : Room} {s : State} {m : MethodId} {args : Array Value} {below : List Frame} {meth : Method} {c : Code} {H : Heap} {locs : List Loc} {cells slots : Nat} {Q : State → Prop}
variable {cc : ByteArray} {pc : Nat} {ls : Array Slot} {rest : List Value} {G : va_G} {cy : Nat → ClassId} {ww : va_W} {ad i n : Nat} {A : Nat → Prop} {H0 : Heap}
theorem z_rSv (hexec : p.tables.exec = Jvm.exec) (hb : c.code = cc) (hr : meth.sig.returnType = none) (hlocks : meth.locks = false) {post : Unit → Prop} (hd : decode cc pc = .ok (.return_, 1)) (h : post ()) : W p l e R s m args below meth c s.heap [] 0 0 (MQ below (va_Sv post) args s 0 0 (fun _ => False)) (F0 m pc ls []) :=
  W.vret hexec hb hr (fun t ht _ => ⟨rfl, h, ht⟩) (fun q hq => nomatch hq) hd hlocks
theorem z_rSr {C : String} (hexec : p.tables.exec = Jvm.exec) (hb : c.code = cc) (hr : meth.sig.returnType = some (.object C)) (hlocks : meth.locks = false) {post : Nat → Prop} {a : Nat} (hd : decode cc pc = .ok (.areturn, 1)) (h : post a) : W p l e R s m args below meth c s.heap [] 0 0 (MQ below (va_Sr post Value.ref) args s 0 0 (fun _ => False)) (F0 m pc ls [.ref a]) :=
  W.aret hexec hb hr (Or.inl ⟨C, rfl⟩) (Or.inr ⟨a, rfl⟩) (fun t ht _ => ⟨a, rfl, h, ht⟩) (fun q hq => nomatch hq) hd hlocks
theorem z_aaldS {f : Nat → Option Nat} {v : Nat} (hexec : p.tables.exec = Jvm.exec) (hb : c.code = cc) (hK : zK G cy s) (hP : va_P G vwCl ww H) (q0 : Nat) (ha : ww[q0]? = some (ad, .inl (cy 2, n, .inr (.inr (.inr (.inr f)))))) (hin : i < n ∧ n < 2 ^ 31) (hv : f i = some v) (hdg : decode cc pc = .ok (.aaload, 1)) (k : W p l e R s m args below meth c H locs cells slots Q (F0 m (pc + 1) ls (.ref v :: rest))) : W p l e R s m args below meth c H locs cells slots Q (F0 m pc ls (.int (nI i) :: .ref ad :: rest)) := va_aldq hexec hb hK hP q0 2 ha rfl (vp_in_nI hin.1 hin.2) hdg (by rw [nI_clamp (by omega), hv]; exact k)
theorem z_aaldN {f : Nat → Option Nat} (hexec : p.tables.exec = Jvm.exec) (hb : c.code = cc) (hK : zK G cy s) (hP : va_P G vwCl ww H) (q0 : Nat) (ha : ww[q0]? = some (ad, .inl (cy 2, n, .inr (.inr (.inr (.inr f)))))) (hin : i < n ∧ n < 2 ^ 31) (hv : f i = none) (hdg : decode cc pc = .ok (.aaload, 1)) (k : W p l e R s m args below meth c H locs cells slots Q (F0 m (pc + 1) ls (.null :: rest))) : W p l e R s m args below meth c H locs cells slots Q (F0 m pc ls (.int (nI i) :: .ref ad :: rest)) := va_aldq hexec hb hK hP q0 2 ha rfl (vp_in_nI hin.1 hin.2) hdg (by rw [nI_clamp (by omega), hv]; exact k)

variable {x y : Int32} {a b : Int}
theorem z_jcmp_lt (hexec : p.tables.exec = Jvm.exec) (hb : c.code = cc) {off : Int} {tgt : Nat} (ha : x.toInt = a) (hy : y.toInt = b) (hdg : decode cc pc = .ok (.if_icmp .lt off, 3)) (ht : (pc : Int) + off = (tgt : Int)) (kt : a < b → W p l e R s m args below meth c H locs cells slots Q (F0 m tgt ls rest)) (kf : ¬ a < b → W p l e R s m args below meth c H locs cells slots Q (F0 m (pc + 3) ls rest)) : W p l e R s m args below meth c H locs cells slots Q (F0 m pc ls (.int y :: .int x :: rest)) := by
  have e9 : (x < y) ↔ (a < b) := by rw [← ha, ← hy]; exact Int32.lt_iff_toInt_lt
  exact lv_icmp_lt hexec hb hdg ht (fun q9 => kt (e9.mp q9)) (fun q9 => kf (mt e9.mpr q9))
theorem z_jf_lt (hexec : p.tables.exec = Jvm.exec) (hb : c.code = cc) {off : Int} {tgt : Nat} (ha : x.toInt = a) (hdg : decode cc pc = .ok (.ifCond .lt off, 3)) (ht : (pc : Int) + off = (tgt : Int)) (kt : a < 0 → W p l e R s m args below meth c H locs cells slots Q (F0 m tgt ls rest)) (kf : ¬ a < 0 → W p l e R s m args below meth c H locs cells slots Q (F0 m (pc + 3) ls rest)) : W p l e R s m args below meth c H locs cells slots Q (F0 m pc ls (.int x :: rest)) := by
  have e9 : (x < 0) ↔ (a < 0) := by rw [← ha]; exact Int32.lt_iff_toInt_lt
  exact lv_if_lt hexec hb hdg ht (fun q9 => kt (e9.mp q9)) (fun q9 => kf (mt e9.mpr q9))
theorem z_jcmp_ge (hexec : p.tables.exec = Jvm.exec) (hb : c.code = cc) {off : Int} {tgt : Nat} (ha : x.toInt = a) (hy : y.toInt = b) (hdg : decode cc pc = .ok (.if_icmp .ge off, 3)) (ht : (pc : Int) + off = (tgt : Int)) (kt : b ≤ a → W p l e R s m args below meth c H locs cells slots Q (F0 m tgt ls rest)) (kf : ¬ b ≤ a → W p l e R s m args below meth c H locs cells slots Q (F0 m (pc + 3) ls rest)) : W p l e R s m args below meth c H locs cells slots Q (F0 m pc ls (.int y :: .int x :: rest)) := by
  have e9 : (y ≤ x) ↔ (b ≤ a) := by rw [← ha, ← hy]; exact Int32.le_iff_toInt_le
  exact lv_icmp_ge hexec hb hdg ht (fun q9 => kt (e9.mp q9)) (fun q9 => kf (mt e9.mpr q9))
theorem z_jf_ge (hexec : p.tables.exec = Jvm.exec) (hb : c.code = cc) {off : Int} {tgt : Nat} (ha : x.toInt = a) (hdg : decode cc pc = .ok (.ifCond .ge off, 3)) (ht : (pc : Int) + off = (tgt : Int)) (kt : 0 ≤ a → W p l e R s m args below meth c H locs cells slots Q (F0 m tgt ls rest)) (kf : ¬ 0 ≤ a → W p l e R s m args below meth c H locs cells slots Q (F0 m (pc + 3) ls rest)) : W p l e R s m args below meth c H locs cells slots Q (F0 m pc ls (.int x :: rest)) := by
  have e9 : (0 ≤ x) ↔ (0 ≤ a) := by rw [← ha]; exact Int32.le_iff_toInt_le
  exact lv_if_ge hexec hb hdg ht (fun q9 => kt (e9.mp q9)) (fun q9 => kf (mt e9.mpr q9))
theorem z_jcmp_gt (hexec : p.tables.exec = Jvm.exec) (hb : c.code = cc) {off : Int} {tgt : Nat} (ha : x.toInt = a) (hy : y.toInt = b) (hdg : decode cc pc = .ok (.if_icmp .gt off, 3)) (ht : (pc : Int) + off = (tgt : Int)) (kt : b < a → W p l e R s m args below meth c H locs cells slots Q (F0 m tgt ls rest)) (kf : ¬ b < a → W p l e R s m args below meth c H locs cells slots Q (F0 m (pc + 3) ls rest)) : W p l e R s m args below meth c H locs cells slots Q (F0 m pc ls (.int y :: .int x :: rest)) := by
  have e9 : (y < x) ↔ (b < a) := by rw [← ha, ← hy]; exact Int32.lt_iff_toInt_lt
  exact lv_icmp_gt hexec hb hdg ht (fun q9 => kt (e9.mp q9)) (fun q9 => kf (mt e9.mpr q9))
theorem z_jf_gt (hexec : p.tables.exec = Jvm.exec) (hb : c.code = cc) {off : Int} {tgt : Nat} (ha : x.toInt = a) (hdg : decode cc pc = .ok (.ifCond .gt off, 3)) (ht : (pc : Int) + off = (tgt : Int)) (kt : 0 < a → W p l e R s m args below meth c H locs cells slots Q (F0 m tgt ls rest)) (kf : ¬ 0 < a → W p l e R s m args below meth c H locs cells slots Q (F0 m (pc + 3) ls rest)) : W p l e R s m args below meth c H locs cells slots Q (F0 m pc ls (.int x :: rest)) := by
  have e9 : (0 < x) ↔ (0 < a) := by rw [← ha]; exact Int32.lt_iff_toInt_lt
  exact lv_if_gt hexec hb hdg ht (fun q9 => kt (e9.mp q9)) (fun q9 => kf (mt e9.mpr q9))
theorem z_jcmp_le (hexec : p.tables.exec = Jvm.exec) (hb : c.code = cc) {off : Int} {tgt : Nat} (ha : x.toInt = a) (hy : y.toInt = b) (hdg : decode cc pc = .ok (.if_icmp .le off, 3)) (ht : (pc : Int) + off = (tgt : Int)) (kt : a ≤ b → W p l e R s m args below meth c H locs cells slots Q (F0 m tgt ls rest)) (kf : ¬ a ≤ b → W p l e R s m args below meth c H locs cells slots Q (F0 m (pc + 3) ls rest)) : W p l e R s m args below meth c H locs cells slots Q (F0 m pc ls (.int y :: .int x :: rest)) := by
  have e9 : (x ≤ y) ↔ (a ≤ b) := by rw [← ha, ← hy]; exact Int32.le_iff_toInt_le
  exact lv_icmp_le hexec hb hdg ht (fun q9 => kt (e9.mp q9)) (fun q9 => kf (mt e9.mpr q9))
theorem z_jf_le (hexec : p.tables.exec = Jvm.exec) (hb : c.code = cc) {off : Int} {tgt : Nat} (ha : x.toInt = a) (hdg : decode cc pc = .ok (.ifCond .le off, 3)) (ht : (pc : Int) + off = (tgt : Int)) (kt : a ≤ 0 → W p l e R s m args below meth c H locs cells slots Q (F0 m tgt ls rest)) (kf : ¬ a ≤ 0 → W p l e R s m args below meth c H locs cells slots Q (F0 m (pc + 3) ls rest)) : W p l e R s m args below meth c H locs cells slots Q (F0 m pc ls (.int x :: rest)) := by
  have e9 : (x ≤ 0) ↔ (a ≤ 0) := by rw [← ha]; exact Int32.le_iff_toInt_le
  exact lv_if_le hexec hb hdg ht (fun q9 => kt (e9.mp q9)) (fun q9 => kf (mt e9.mpr q9))
theorem z_jcmp_eq (hexec : p.tables.exec = Jvm.exec) (hb : c.code = cc) {off : Int} {tgt : Nat} (ha : x.toInt = a) (hy : y.toInt = b) (hdg : decode cc pc = .ok (.if_icmp .eq off, 3)) (ht : (pc : Int) + off = (tgt : Int)) (kt : a = b → W p l e R s m args below meth c H locs cells slots Q (F0 m tgt ls rest)) (kf : ¬ a = b → W p l e R s m args below meth c H locs cells slots Q (F0 m (pc + 3) ls rest)) : W p l e R s m args below meth c H locs cells slots Q (F0 m pc ls (.int y :: .int x :: rest)) := by
  have e9 : (x = y) ↔ (a = b) := by rw [← ha, ← hy]; exact Int32.toInt_inj.symm
  exact lv_icmp_eq hexec hb hdg ht (fun q9 => kt (e9.mp q9)) (fun q9 => kf (mt e9.mpr q9))
theorem z_jf_eq (hexec : p.tables.exec = Jvm.exec) (hb : c.code = cc) {off : Int} {tgt : Nat} (ha : x.toInt = a) (hdg : decode cc pc = .ok (.ifCond .eq off, 3)) (ht : (pc : Int) + off = (tgt : Int)) (kt : a = 0 → W p l e R s m args below meth c H locs cells slots Q (F0 m tgt ls rest)) (kf : ¬ a = 0 → W p l e R s m args below meth c H locs cells slots Q (F0 m (pc + 3) ls rest)) : W p l e R s m args below meth c H locs cells slots Q (F0 m pc ls (.int x :: rest)) := by
  have e9 : (x = 0) ↔ (a = 0) := by rw [← ha]; exact Int32.toInt_inj.symm
  exact lv_if_eq hexec hb hdg ht (fun q9 => kt (e9.mp q9)) (fun q9 => kf (mt e9.mpr q9))
theorem z_jcmp_ne (hexec : p.tables.exec = Jvm.exec) (hb : c.code = cc) {off : Int} {tgt : Nat} (ha : x.toInt = a) (hy : y.toInt = b) (hdg : decode cc pc = .ok (.if_icmp .ne off, 3)) (ht : (pc : Int) + off = (tgt : Int)) (kt : ¬ a = b → W p l e R s m args below meth c H locs cells slots Q (F0 m tgt ls rest)) (kf : a = b → W p l e R s m args below meth c H locs cells slots Q (F0 m (pc + 3) ls rest)) : W p l e R s m args below meth c H locs cells slots Q (F0 m pc ls (.int y :: .int x :: rest)) := by
  have e9 : (x = y) ↔ (a = b) := by rw [← ha, ← hy]; exact Int32.toInt_inj.symm
  exact lv_icmp_ne hexec hb hdg ht (fun q9 => kt (mt e9.mpr q9)) (fun q9 => kf (e9.mp q9))
theorem z_jf_ne (hexec : p.tables.exec = Jvm.exec) (hb : c.code = cc) {off : Int} {tgt : Nat} (ha : x.toInt = a) (hdg : decode cc pc = .ok (.ifCond .ne off, 3)) (ht : (pc : Int) + off = (tgt : Int)) (kt : ¬ a = 0 → W p l e R s m args below meth c H locs cells slots Q (F0 m tgt ls rest)) (kf : a = 0 → W p l e R s m args below meth c H locs cells slots Q (F0 m (pc + 3) ls rest)) : W p l e R s m args below meth c H locs cells slots Q (F0 m pc ls (.int x :: rest)) := by
  have e9 : (x = 0) ↔ (a = 0) := by rw [← ha]; exact Int32.toInt_inj.symm
  exact lv_if_ne hexec hb hdg ht (fun q9 => kt (mt e9.mpr q9)) (fun q9 => kf (e9.mp q9))
end ZY
/-! worlds by what they hold, in any order -/
theorem z_P_iff {G : va_G} {cl : List vw_C} {ws : va_W} {H : Heap} : va_P G cl ws H ↔ ∀ q ∈ ws, va_at G cl q H :=
  ⟨fun h q hq => by obtain ⟨k, hk⟩ := List.getElem?_of_mem hq; exact h k q hk, fun h k q hk => h q (List.mem_of_getElem? hk)⟩
theorem z_D_iff {A : Nat → Prop} {ws : va_W} : va_D A ws ↔ (ws.Pairwise (fun p q => p.1 ≠ q.1)) ∧ ∀ q ∈ ws, A q.1 := by
  constructor
  · intro h
    refine ⟨List.pairwise_iff_getElem.mpr (fun i j hi hj hij q => ?_), fun q hq => by obtain ⟨k, hk⟩ := List.getElem?_of_mem hq; exact h.2 k q hk⟩
    have := h.1 i j _ _ (List.getElem?_eq_getElem hi) (List.getElem?_eq_getElem hj) q
    omega
  · intro h
    refine ⟨fun i j p q hi hj hpq => ?_, fun k q hk => h.2 q (List.mem_of_getElem? hk)⟩
    obtain ⟨hi1, hi2⟩ := List.getElem?_eq_some_iff.mp hi
    obtain ⟨hj1, hj2⟩ := List.getElem?_eq_some_iff.mp hj
    have h2 := List.pairwise_iff_getElem.mp h.1
    rcases Nat.lt_trichotomy i j with h3 | h3 | h3
    · exact absurd (by rw [hi2, hj2]; exact hpq) (h2 i j hi1 hj1 h3)
    · exact h3
    · exact absurd (by rw [hi2, hj2]; exact hpq.symm) (h2 j i hj1 hi1 h3)
theorem z_P_perm {G : va_G} {cl : List vw_C} {w1 w2 : va_W} {H : Heap} (h : w1.Perm w2) (hP : va_P G cl w1 H) : va_P G cl w2 H := z_P_iff.mpr (fun q hq => z_P_iff.mp hP q (h.mem_iff.mpr hq))
theorem z_D_perm {A : Nat → Prop} {w1 w2 : va_W} (h : w1.Perm w2) (hD : va_D A w1) : va_D A w2 := by
  obtain ⟨h1, h2⟩ := z_D_iff.mp hD
  exact z_D_iff.mpr ⟨(h.pairwise_iff (fun {a b} h9 => Ne.symm h9)).mp h1, fun q hq => h2 q (h.mem_iff.mpr hq)⟩
theorem z_P_l {G : va_G} {cl : List vw_C} {w1 w2 : va_W} {H : Heap} (hP : va_P G cl (w1 ++ w2) H) : va_P G cl w1 H := z_P_iff.mpr (fun q hq => z_P_iff.mp hP q (List.mem_append_left _ hq))
theorem z_P_r {G : va_G} {cl : List vw_C} {w1 w2 : va_W} {H : Heap} (hP : va_P G cl (w1 ++ w2) H) : va_P G cl w2 H := z_P_iff.mpr (fun q hq => z_P_iff.mp hP q (List.mem_append_right _ hq))
theorem z_D_app {A : Nat → Prop} {w1 w2 : va_W} : va_D A (w1 ++ w2) ↔ va_D A w1 ∧ va_D A w2 ∧ ∀ p ∈ w1, ∀ q ∈ w2, p.1 ≠ q.1 := by
  rw [z_D_iff, z_D_iff, z_D_iff, List.pairwise_append]
  constructor
  · rintro ⟨⟨h1, h2, h3⟩, h4⟩
    exact ⟨⟨h1, fun q hq => h4 q (List.mem_append_left _ hq)⟩, ⟨h2, fun q hq => h4 q (List.mem_append_right _ hq)⟩, h3⟩
  · rintro ⟨⟨h1, h2⟩, ⟨h3, h4⟩, h5⟩
    exact ⟨⟨h1, h3, h5⟩, fun q hq => (List.mem_append.mp hq).elim (h2 q) (h4 q)⟩
theorem z_A_mem {ws : va_W} {sz q : Nat} (h : va_A ws sz q) : (∃ x ∈ ws, x.1 = q) ∨ sz ≤ q := by
  rcases h with ⟨k, e, h⟩ | h
  · exact Or.inl ⟨(q, e), List.mem_of_getElem? h, rfl⟩
  · exact Or.inr h
/-- behind a call that had the cells wc, of a world wc and wr -/
theorem z_backP {G : va_G} {A0 : Nat → Prop} {wc wr w1 : va_W} {H H1 : Heap} (hP : va_P G vwCl (wc ++ wr) H) (hD : va_D A0 (wc ++ wr)) (hk : ∀ q : Nat, q < H.size → ¬ va_A wc H.size q → H1[q]? = H[q]?) (hF : ∀ q, va_A wc H.size q → A0 q) (hP1 : va_P G vwCl w1 H1) (hD1 : va_D (va_A wc H.size) w1) : va_P G vwCl (w1 ++ wr) H1 ∧ va_D A0 (w1 ++ wr) := by
  obtain ⟨d1, d2, d3⟩ := z_D_app.mp hD
  have hr := z_P_r hP
  have out : ∀ q ∈ wr, q.1 < H.size ∧ ¬ va_A wc H.size q.1 := fun q hq => by
    have hl := (z_P_iff.mp hr q hq).lt
    refine ⟨hl, fun h => ?_⟩
    rcases z_A_mem h with ⟨x, hx, hxq⟩ | h
    · exact d3 x hx q hq hxq
    · omega
  refine ⟨va_P.app hP1 (z_P_iff.mpr (fun q hq => (z_P_iff.mp hr q hq).kept (hk q.1 (out q hq).1 (out q hq).2))), z_D_app.mpr ⟨hD1.weaken (fun _ _ _ h => hF _ h), d2, fun x hx q hq hxq => ?_⟩⟩
  have := (z_D_iff.mp hD1).2 x hx
  rw [hxq] at this
  exact (out q hq).2 this
/-- .. and a tail that the call doesn't touch -/
theorem z_backT {G : va_G} {A0 : Nat → Prop} {ww wc wr w1 w2 tl : va_W} {H H1 : Heap} (hP : va_P G vwCl (ww ++ tl) H) (hD : va_D A0 (ww ++ tl)) (isC isR is2 : List Nat) (hC : isC.map (fun i => ww[i]?) = wc.map some) (hR : isR.map (fun i => ww[i]?) = wr.map some)
    (hn : (va_nd isR && (isR.all (fun i => decide (i ∉ isC)) && va_nd is2)) = true) (h2 : is2.map (fun i => (wr ++ w1)[i]?) = w2.map some)
    (hk : ∀ q : Nat, q < H.size → ¬ va_A wc H.size q → H1[q]? = H[q]?) (hF : ∀ q, va_A wc H.size q → A0 q) (hP1 : va_P G vwCl w1 H1) (hD1 : va_D (va_A wc H.size) w1) : va_P G vwCl (w2 ++ tl) H1 ∧ va_D A0 (w2 ++ tl) := by
  obtain ⟨d1, d2, d3⟩ := z_D_app.mp hD
  obtain ⟨g1, g2⟩ := z_back (z_P_l hP) d1 isC isR is2 hC hR hn h2 hk hF hP1 hD1
  have mem : ∀ {is : List Nat} {u v : va_W}, is.map (fun i => u[i]?) = v.map some → ∀ q ∈ v, q ∈ u := fun {is u v} h q hq => by
    have : some q ∈ is.map (fun i => u[i]?) := by rw [h]; exact List.mem_map_of_mem hq
    obtain ⟨i, -, hi⟩ := List.mem_map.mp this
    exact List.mem_of_getElem? hi
  have hr := z_P_r hP
  have out : ∀ q ∈ tl, q.1 < H.size ∧ ¬ va_A wc H.size q.1 := fun q hq => by
    have hl := (z_P_iff.mp hr q hq).lt
    refine ⟨hl, fun h => ?_⟩
    rcases z_A_mem h with ⟨x, hx, hxq⟩ | h
    · exact d3 x (mem hC x hx) q hq hxq
    · omega
  refine ⟨va_P.app g1 (z_P_iff.mpr (fun q hq => (z_P_iff.mp hr q hq).kept (hk q.1 (out q hq).1 (out q hq).2))), z_D_app.mpr ⟨g2, d2, fun x hx q hq hxq => ?_⟩⟩
  rcases List.mem_append.mp (mem h2 x hx) with h | h
  · exact d3 x (mem hR x h) q hq hxq
  · have := (z_D_iff.mp hD1).2 x h
    rw [hxq] at this
    exact (out q hq).2 this
