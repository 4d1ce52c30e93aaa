/-! the law: what holds all along, orders of cells, the world between calls -/
theorem z_rot {u v tl : va_W} : (u ++ (v ++ tl)).Perm (v ++ (u ++ tl)) := by
  have h := (List.perm_append_comm (l₁ := u) (l₂ := v)).append_right tl
  rw [List.append_assoc, List.append_assoc] at h
  exact h
/-- the cells at some places -/
def zGet (ws : va_W) : List Nat → va_W
  | [] => []
  | i :: is => match ws[i]? with
    | some q => q :: zGet ws is
    | none => zGet ws is
theorem zGet_fm {ws : va_W} : ∀ {is : List Nat}, zGet ws is = is.filterMap (fun i => ws[i]?)
  | [] => rfl
  | i :: is => by
    rw [zGet, List.filterMap_cons, zGet_fm (is := is)]
    cases ws[i]? <;> rfl
theorem z_pm3 {ww u v tl : va_W} {n : Nat} (iu iv ir : List Nat) (hu : zGet ww iu = u) (hv : zGet ww iv = v) (hn : ww.length = n) (hp : (iu ++ (iv ++ ir)).isPerm (List.range n) = true) : (ww ++ tl).Perm (u ++ (v ++ (zGet ww ir ++ tl))) := by
  have h1 : ww.Perm (u ++ (v ++ zGet ww ir)) := by
    have h2 := ((List.isPerm_iff.mp hp).filterMap (fun i => ww[i]?)).symm
    rw [← hn, z_fm_range, List.filterMap_append, List.filterMap_append, ← zGet_fm, ← zGet_fm, ← zGet_fm, hu, hv] at h2
    exact h2
  have h3 := h1.append_right tl
  rw [List.append_assoc, List.append_assoc] at h3
  exact h3
/-- .. back, where the other cells are what they were -/
theorem z_pm3b {ww w0 u v tl : va_W} {n : Nat} (iu iv ir : List Nat) (hu : zGet ww iu = u) (hv : zGet ww iv = v) (hr : zGet ww ir = zGet w0 ir) (hn : ww.length = n) (hp : (iu ++ (iv ++ ir)).isPerm (List.range n) = true) : (v ++ (u ++ (zGet w0 ir ++ tl))).Perm (ww ++ tl) := by
  rw [← hr]
  exact z_rot.trans (z_pm3 (tl := tl) iu iv ir hu hv hn hp).symm
/-- where the first part has the points too -/
theorem z_pm3T {ww u v tl : va_W} {n : Nat} (iu iv ir : List Nat) (hu : zGet ww iu = u) (hv : zGet ww iv = v) (hn : ww.length = n) (hp : (iu ++ (iv ++ ir)).isPerm (List.range n) = true) : (ww ++ tl).Perm ((u ++ tl) ++ (v ++ zGet ww ir)) := by
  refine (z_pm3 (tl := tl) iu iv ir hu hv hn hp).trans ?_
  rw [List.append_assoc]
  refine List.Perm.append_left _ ?_
  have h := List.perm_append_comm (l₁ := v ++ zGet ww ir) (l₂ := tl)
  rw [List.append_assoc] at h
  exact h
theorem z_pm3Tb {ww w0 u v tl : va_W} {n : Nat} (iu iv ir : List Nat) (hu : zGet ww iu = u) (hv : zGet ww iv = v) (hr : zGet ww ir = zGet w0 ir) (hn : ww.length = n) (hp : (iu ++ (iv ++ ir)).isPerm (List.range n) = true) : (v ++ ((u ++ tl) ++ zGet w0 ir)).Perm (ww ++ tl) := by
  refine List.Perm.trans ?_ (z_pm3b (tl := tl) iu iv ir hu hv hr hn hp)
  refine List.Perm.append_left _ ?_
  rw [List.append_assoc]
  exact List.Perm.append_left _ List.perm_append_comm
theorem zAll_succ {n : Nat} {W : Nat → va_W} : zAll (n + 1) W = zAll n W ++ W n := by
  unfold zAll
  rw [List.range_succ, List.flatMap_append, List.flatMap_cons, List.flatMap_nil, List.append_nil]
abbrev zMo (h : Nat) (b : Nat → Nat) (T np : Nat) (th : Int32) : Nat × va_E := zO h 12 (.int (nI T) :: .ref (b 1) :: .int (nI np) :: .ref (b 3) :: .ref (b 4) :: .ref (b 5) :: .ref (b 6) :: .ref (b 7) :: .ref (b 8) :: .ref (b 9) :: .ref (b 10) :: .ref (b 11) :: .ref (b 12) :: .ref (b 13) :: .ref (b 14) :: .ref (b 15) :: .ref (b 16) :: .ref (b 17) :: .ref (b 18) :: .ref (b 19) :: .ref (b 20) :: .ref (b 21) :: .ref (b 22) :: .ref (b 23) :: .ref (b 24) :: .ref (b 25) :: .ref (b 26) :: .ref (b 27) :: .ref (b 28) :: .ref (b 29) :: .ref (b 30) :: .ref (b 31) :: .int th :: [])
theorem z_fm1 {ws : va_W} {q : Nat × va_E} (h : ws[0]? = some q) : [0].filterMap (fun i => ws[i]?) = [q] := by simp [h]
theorem z_ap0 {a b : va_W} {q : Nat × va_E} (h : a[0]? = some q) : (a ++ b)[0]? = some q := by
  cases a with
  | nil => cases h
  | cons x a => exact h
theorem z_memi {ws : va_W} {q : Nat × va_E} (h : q ∈ ws) : ∃ i : Nat, ws[i]? = some q := List.getElem?_of_mem h
/-- what holds all along the law's way -/
def zFix (p : Program) (l : Launch) (s : State) (m : MethodId) (args : Array Value) (c : Code) (b9 L : Nat) (xs : Nat → Int32) (G : va_G) (cy : Nat → ClassId) (wd : Nat → Nat) (fo : Option Nat) : Prop :=
  p.tables.exec = Jvm.exec ∧ c.code = cL_law ∧ c.maxLocals = 8 ∧ s.vm.findClass RL = some m.cls ∧ (∀ w ∈ lw_tbl, w.before args s = true) ∧ va_X b9 L xs s s.heap ∧ b9 < s.heap.size ∧ L ≤ 3072 ∧ l.stackTraces = false ∧ zK G cy s ∧ zWd wd fo s.heap.size s s.heap ∧ zEx s.heap.size s s.heap
