/-! THE CLAIM OUT OF ONE WALK OF THE LAW'S BODY. Your part is whole_start (and what it stands on); all else here is the same for every law, but numbers. -/
def R_law : String := "MeterHouseLaw"
def lw_P (b : Addr) (xs : List Int32) (args : Array Value) (s : State) : Prop := args = #[.ref b] ∧ s.IntsAt b xs ∧ xs.length ≤ 260 ∧ (Jvm.Cond.and given_1 narrow_1).before args s = true
def lw_Q (_ : Array Value) (s : State) (o : Outcome) (t : State) : Prop := o = .returned (some (.int 1)) ∧ Framed s o t [] room_1.cells room_1.slots
def lw_Z (below : List Frame) (a : Array Value) (s : State) : State → Prop := fun t => ∃ o, t.status = .running ∧ Ended t below o ∧ lw_Q a s o t
/-- the law's own end, with 1 on the stack, nothing written that was there before, its room as the claim has it -/
theorem lw_ret {p : Program} {l : Launch} {e : Env} {s : State} {m : MethodId} {below : List Frame} {meth : Method} {c : Code} {b : Nat} (hx : p.tables.exec = Jvm.exec) (hb : c.code = code) (hr : meth.sig.returnType = ret) (hlocks : meth.locks = false) {pc : Nat} {H : Heap} {ls : Array Slot} (hdg : decode code pc = .ok (.ireturn, 1)) : W p l e room_1 s m #[Value.ref b] below meth c H [] room_1.cells room_1.slots (lw_Z below #[Value.ref b] s) (F0 m pc ls [.int 1]) := by
  intro T hT X
  obtain ⟨fs, hret, hrun, hended, hW, hframe⟩ := X.leave (v := some (.int 1)) (hlocks := hlocks) (fun h => by rw [hr] at h; cases h)
  have hmeth' : T.vm.method? m = some meth := X.method'
  refine ⟨T.setFrames fs, ?_, .returned (some (.int 1)), hrun, hended, rfl, ⟨_, rfl⟩, hW, hframe⟩
  jvm_step X.here [X.here.top, hx, hb, hdg, hmeth', hr, ret, narrow_b1]
  (try refine ⟨rfl, ?_⟩); (try refine ⟨rfl, ?_⟩)
  first | (intro acts; rw [hret _ acts rfl rfl rfl]) | rw [hret _ _ rfl rfl rfl]
  exact Steps.refl _
/-- what holds at the law's entry: the machine, the code, the tables' words (any of lw_tbl by 'hts w (by decide +kernel)'), the script of L ints xs at the cell b, what the Statement gives of the start (any of its parts by flat_of_before) -/
def lw_At (p : Program) (s : State) (m : MethodId) (meth : Method) (c : Code) (b L : Nat) (xs : Nat → Int32) : Prop :=
  p.tables.exec = Jvm.exec ∧ c.code = code ∧ meth.sig.returnType = ret ∧ c.maxLocals = 1 ∧ s.vm.findClass R_law = some m.cls ∧ (∀ w ∈ lw_tbl, w.before #[Value.ref b] s = true) ∧ va_X b L xs s s.heap ∧ b < s.heap.size ∧ meth.locks = false ∧ (Jvm.Cond.and given_1 narrow_1).before #[Value.ref b] s = true
section ZMXP
variable {s : State} {H : Heap} {locs : List Loc} {As : List Value} {b9 L N0 : Nat} {xs : Nat → Int32} {G : va_G} {cy : Nat → ClassId} {wd : Nat → Nat} {fo : Option Nat}
theorem z_pMX {A0 : Nat → Prop} (hK : zK G cy s) (hWd : zWd wd fo N0 s s.heap) (hE : zEx N0 s s.heap) (hAO : zAO s) (hX : va_X b9 L xs s s.heap) (hb9 : b9 < N0) (hN : N0 ≤ s.heap.size) (hS : va_S A0 s.heap H locs) (hA : ∀ q, A0 q → N0 ≤ q) : PreS s H (zMX G cy wd fo N0 b9 L xs As H.size) As :=
  ⟨fun a U g mk q => ⟨q.1, q.2.1, q.2.2.1, va_K.moved (u := U) (U := U.calling g mk a) (Vm.Alike.refl U.vm) q.2.2.2.1, q.2.2.2.2.1.calling, q.2.2.2.2.2.1.calling, q.2.2.2.2.2.2.1.calling, va_X.moved (u := U) (U := U.calling g mk a) (Vm.Alike.refl U.vm) q.2.2.2.2.2.2.2⟩, fun U hU hW => ⟨rfl, by rw [hU], Nat.le_trans hN hS.1, va_K.moved hW.alike hK, by rw [hU]; exact (hWd.heap hS hA).warm hW, by rw [hU]; exact (hE.heap hS hA).warm hW, hAO.warm hW, by rw [hU]; exact va_X.moved hW.alike (hX.kept (hS.2.1 b9 (by omega) (fun q => by have := hA b9 q; omega)))⟩⟩
end ZMXP
set_option maxHeartbeats 4000000 in
set_option maxRecDepth 100000 in
theorem whole_start {p : Program} {e : Env} {s : State} {m : MethodId} {below : List Frame} {meth : Method} {c : Code} (l : Launch) (hflags : l.flags = flags0) {b L : Nat} {xs : Nat → Int32} (hL : L ≤ 260) (C0 : lw_At p s m meth c b L xs) : W p l e room_1 s m #[Value.ref b] below meth c s.heap [] 0 0 (lw_Z below #[Value.ref b] s) (entryFrame m ([Value.ref b] : List Value).toArray 1) := by
  obtain ⟨hx, hb, hr, hml, hown, hts, hX, hbl, hlocks, hgv⟩ := C0
  have hl9 : l.stackTraces = false := by
    unfold Launch.stackTraces
    rw [hflags]
    decide +kernel
  have hown : s.vm.findClass RL = some m.cls := hown
  have hs := flat_of_before _ hgv
  obtain ⟨G, cy, hK⟩ := zst_K hts
  have hAO := zst_AO hts
  have hE := zst_Ex hts hs
  obtain ⟨wd, fo, hWd⟩ := zst_Wd hts hs
  have hA : ∀ q : Nat, s.heap.size ≤ q → (fun q : Nat => s.heap.size ≤ q) q := fun _ h => h
  have hS : va_S (fun q : Nat => s.heap.size ≤ q) s.heap s.heap [] := va_S.rf
  have hPn : ∀ H9 : Heap, va_P G vwCl ([] ++ []) H9 := fun _ k q h => by simp at h
  have hDn : va_D (fun q : Nat => s.heap.size ≤ q) ([] ++ []) := ⟨fun i j p q h => by simp at h, fun k q h => by simp at h⟩
  have hl := lv_entry ([.ref b]) (n := 1) (Nat.le_of_ble_eq_true rfl)
  rw [lg_entry_eq]
  generalize (lg_sl ([.ref b]) ++ List.replicate (1 - (lg_sl ([.ref b])).length) Slot.unset).toArray = ls at hl ⊢
  have hl : lv_has ls 1 [(0, .ref b)] := hl
  refine lv_aload_n hx hb dL_law_0 rfl (lv_at hl 0 rfl) ?_
  refine lv_iconst (v := nI 0) hx hb dL_law_1 (by decide) ?_
  refine z_ciP (wc := []) (wr := []) (va_runS (As := [.ref b, .int (nI 0)]) (rest := []) ⟨hx, hb, hml, hown, hwL_house hts⟩ (c_L_house l hl9 G cy wd fo s.heap.size _ b L xs hL hbl 0 (Nat.le_of_ble_eq_true rfl)) (va_cwS 2 (hwL_house hts) giL_house rfl rfl rfl (by decide +kernel) ⟨Nat.le_of_ble_eq_true rfl, Nat.le_of_ble_eq_true rfl⟩) (z_pMX hK hWd hE hAO hX hbl (Nat.le_refl _) hS (fun _ h => h)) rfl rfl hl.1 rfl (lv_room (Nat.le_of_ble_eq_true rfl)) dL_law_2 ⟨Nat.le_of_ble_eq_true rfl, Nat.le_of_ble_eq_true rfl⟩) (hPn _) hDn hS hA (fun r0 _ H0 locs0 hr0 _ _ hS _ => ?_)
  obtain rfl : r0 = nI 1 := hr0
  refine lv_if_eq hx hb dL_law_5 (tgt := 32) (by decide) (fun q => absurd q (by decide)) (fun _ => ?_)
  refine lv_aload_n hx hb dL_law_8 rfl (lv_at hl 0 rfl) ?_
  refine lv_sipush (v := nI 180) hx hb dL_law_9 (by decide) ?_
  refine z_ciP (wc := []) (wr := []) (va_runS (As := [.ref b, .int (nI 180)]) (rest := []) ⟨hx, hb, hml, hown, hwL_house hts⟩ (c_L_house l hl9 G cy wd fo s.heap.size _ b L xs hL hbl 180 (Nat.le_of_ble_eq_true rfl)) (va_cwS 2 (hwL_house hts) giL_house rfl rfl rfl (by decide +kernel) ⟨Nat.le_of_ble_eq_true rfl, Nat.le_of_ble_eq_true rfl⟩) (z_pMX hK hWd hE hAO hX hbl (Nat.le_refl _) hS (fun _ h => h)) rfl rfl hl.1 rfl (lv_room (Nat.le_of_ble_eq_true rfl)) dL_law_12 ⟨Nat.le_of_ble_eq_true rfl, Nat.le_of_ble_eq_true rfl⟩) (hPn _) hDn hS hA (fun r1 _ H1 locs1 hr1 _ _ hS _ => ?_)
  obtain rfl : r1 = nI 1 := hr1
  refine lv_if_eq hx hb dL_law_15 (tgt := 32) (by decide) (fun q => absurd q (by decide)) (fun _ => ?_)
  refine lv_aload_n hx hb dL_law_18 rfl (lv_at hl 0 rfl) ?_
  refine lv_sipush (v := nI 360) hx hb dL_law_19 (by decide) ?_
  refine z_ciP (wc := []) (wr := []) (va_runS (As := [.ref b, .int (nI 360)]) (rest := []) ⟨hx, hb, hml, hown, hwL_house hts⟩ (c_L_house l hl9 G cy wd fo s.heap.size _ b L xs hL hbl 360 (Nat.le_of_ble_eq_true rfl)) (va_cwS 2 (hwL_house hts) giL_house rfl rfl rfl (by decide +kernel) ⟨Nat.le_of_ble_eq_true rfl, Nat.le_of_ble_eq_true rfl⟩) (z_pMX hK hWd hE hAO hX hbl (Nat.le_refl _) hS (fun _ h => h)) rfl rfl hl.1 rfl (lv_room (Nat.le_of_ble_eq_true rfl)) dL_law_22 ⟨Nat.le_of_ble_eq_true rfl, Nat.le_of_ble_eq_true rfl⟩) (hPn _) hDn hS hA (fun r2 _ H2 locs2 hr2 _ _ hS _ => ?_)
  obtain rfl : r2 = nI 1 := hr2
  refine lv_if_eq hx hb dL_law_25 (tgt := 32) (by decide) (fun q => absurd q (by decide)) (fun _ => ?_)
  refine lv_iconst (v := nI 1) hx hb dL_law_28 (by decide) ?_
  refine lv_goto (tgt := 33) hx hb dL_law_29 (by decide) ?_
  exact va_forget (fun q hq => hS.2.2 q hq) (W.widen (Nat.le_of_ble_eq_true rfl) (Nat.le_of_ble_eq_true rfl) (lw_ret hx hb hr hlocks dL_law_33))
