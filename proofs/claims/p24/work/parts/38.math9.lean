theorem z_fm_range {ww : va_W} : (List.range ww.length).filterMap (fun i => ww[i]?) = ww := by
  have h : (List.range ww.length).map (fun i => ww[i]?) = ww.map some := by
    apply List.ext_getElem?
    intro i
    by_cases hi : i < ww.length
    · rw [List.getElem?_map, List.getElem?_range hi, List.getElem?_map, List.getElem?_eq_getElem hi]; simp [List.getElem?_eq_getElem hi]
    · rw [List.getElem?_eq_none (by simpa using hi), List.getElem?_eq_none (by simpa using hi)]
  exact z_map_sub h
theorem z_permT {ww wu wr tl : va_W} {n : Nat} (iu ir : List Nat) (hu : iu.map (fun i => ww[i]?) = wu.map some) (hr : ir.map (fun i => ww[i]?) = wr.map some) (hn : ww.length = n) (hp : (iu ++ ir).isPerm (List.range n) = true) : (ww ++ tl).Perm ((wu ++ tl) ++ wr) := by
  have h1 : ww.Perm (wu ++ wr) := by
    have h2 := ((List.isPerm_iff.mp hp).filterMap (fun i => ww[i]?)).symm
    rw [← hn, z_fm_range, List.filterMap_append, z_map_sub hu, z_map_sub hr] at h2
    exact h2
  refine (h1.append_right tl).trans ?_
  rw [List.append_assoc, List.append_assoc]
  exact (List.perm_append_comm).append_left wu
def zPd (S : zPt) (T : Nat) : Nat → zPt
  | 0 => S
  | n + 1 => zPb (zPd S T n) (T + n + 1)
def zCps (f : Nat → Nat) (T : Nat) : Nat → Nat → Nat
  | 0 => f
  | n + 1 => z_cp (zCps f T n) (T + n + 1) 4
theorem zPd_ts {S : zPt} {T n : Nat} : q_ts (zPd S T n) = q_ts S := by
  induction n with
  | zero => rfl
  | succ n ih => exact ih
