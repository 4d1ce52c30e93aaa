/-! worlds of many points -/
abbrev zPt : Type := Nat × Nat × Nat × Nat × Nat × Nat × Int32 × Nat × Nat × Nat × (Nat → Nat) × (Nat → Nat) × Nat × Int32 × Int32 × (Nat → Nat) × Int64 × (Nat → Int64) × (Nat → Nat)
abbrev q_kd (S : zPt) : Nat := S.1
abbrev q_fi (S : zPt) : Nat := S.2.1
abbrev q_la (S : zPt) : Nat := S.2.2.1
abbrev q_tk (S : zPt) : Nat := S.2.2.2.1
abbrev q_pc (S : zPt) : Nat := S.2.2.2.2.1
abbrev q_ds (S : zPt) : Nat := S.2.2.2.2.2.1
abbrev q_dd (S : zPt) : Int32 := S.2.2.2.2.2.2.1
abbrev q_sz (S : zPt) : Nat := S.2.2.2.2.2.2.2.1
abbrev q_mu (S : zPt) : Nat := S.2.2.2.2.2.2.2.2.1
abbrev q_sh (S : zPt) : Nat := S.2.2.2.2.2.2.2.2.2.1
abbrev q_vo (S : zPt) : Nat → Nat := S.2.2.2.2.2.2.2.2.2.2.1
abbrev q_us (S : zPt) : Nat → Nat := S.2.2.2.2.2.2.2.2.2.2.2.1
abbrev q_ts (S : zPt) : Nat := S.2.2.2.2.2.2.2.2.2.2.2.2.1
abbrev q_td (S : zPt) : Int32 := S.2.2.2.2.2.2.2.2.2.2.2.2.2.1
abbrev q_md (S : zPt) : Int32 := S.2.2.2.2.2.2.2.2.2.2.2.2.2.2.1
abbrev q_hg (S : zPt) : Nat → Nat := S.2.2.2.2.2.2.2.2.2.2.2.2.2.2.2.1
abbrev q_ow (S : zPt) : Int64 := S.2.2.2.2.2.2.2.2.2.2.2.2.2.2.2.2.1
abbrev q_ce (S : zPt) : Nat → Int64 := S.2.2.2.2.2.2.2.2.2.2.2.2.2.2.2.2.2.1
abbrev q_bi (S : zPt) : Nat → Nat := S.2.2.2.2.2.2.2.2.2.2.2.2.2.2.2.2.2.2
abbrev zPb (S : zPt) (d : Nat) : zPt := (q_kd S, q_fi S, q_la S, q_tk S, q_pc S, q_ds S, q_dd S, q_sz S, q_mu S, q_sh S, q_vo S, q_us S, q_ts S, if nI d = q_td S then (-1) else q_td S, if nI d = q_td S then nI d else q_md S, va_up (q_hg S) d (if nI d = q_td S then q_ts S else q_hg S (d - 1)), q_ow S, q_ce S, q_bi S)
abbrev zPW (cy : Nat → ClassId) (a b : Nat → Nat) (S : zPt) : va_W := [zO (b 0) 4 [.int (nI (q_fi S)), .ref (b 1), .ref (b 7), .ref (b 10)], zO (b 1) 5 [.int (nI (q_kd S)), .int (nI (q_fi S)), .ref (a 1), .ref (a 4), .ref (b 3), .ref (b 5), .ref (b 2), .int (nI (q_la S)), .int (nI (q_tk S)), .long (lN (q_pc S)), .int (q_dd S), .int (nI (q_ds S))], zO (b 2) 3 [.long (lN (q_sz S)), .int (nI (q_mu S)), .int (nI (q_sh S))], zO (b 3) 6 [.ref (b 4)], zL cy (b 4) 1000 (fun j9 => lN ((q_vo S) j9)), zO (b 5) 6 [.ref (b 6)], zL cy (b 6) 1000 (fun j9 => lN ((q_us S) j9)), zO (b 7) 9 [.ref (b 8), .int (q_td S), .int (nI (q_ts S)), .int (q_md S)], zO (b 8) 6 [.ref (b 9)], zL cy (b 9) 1000 (fun j9 => lN ((q_hg S) j9)), zO (b 10) 1 [.ref (a 18), .ref (b 11), .ref (b 13), .long (q_ow S)], zO (b 11) 6 [.ref (b 12)], zL cy (b 12) 1000 (q_ce S), zO (b 13) 6 [.ref (b 14)], zL cy (b 14) 1000 (fun j9 => lN ((q_bi S) j9))]
def zAll (n : Nat) (W : Nat → va_W) : va_W := (List.range n).flatMap W
def zBut (n j : Nat) (W : Nat → va_W) : va_W := ((List.range n).filter (fun k => decide (k ≠ j))).flatMap W
def zUp {α : Type} (Y : Nat → α) (j : Nat) (x : α) : Nat → α := fun k => if k = j then x else Y k
theorem z_fm_perm {W : Nat → va_W} {l1 l2 : List Nat} (h : l1.Perm l2) : (l1.flatMap W).Perm (l2.flatMap W) := h.flatMap_right W
theorem zAll_perm {n j : Nat} {W : Nat → va_W} (hj : j < n) : (zAll n W).Perm (W j ++ zBut n j W) := by
  have h1 : (List.range n).Perm (j :: (List.range n).filter (fun k => decide (k ≠ j))) := by
    rw [List.perm_iff_count]
    intro x
    have hn := List.nodup_range (n := n)
    by_cases hx : x = j
    · subst hx
      rw [List.count_cons_self, List.count_eq_zero_of_not_mem (l := (List.range n).filter _) (by simp), hn.count, if_pos (List.mem_range.mpr hj)]
    · rw [List.count_cons_of_ne (Ne.symm hx), List.count_filter (by simp [hx])]
  exact z_fm_perm h1
theorem zBut_congr {n j : Nat} {W W' : Nat → va_W} (h : ∀ k, k ≠ j → W k = W' k) : zBut n j W = zBut n j W' := by
  unfold zBut
  have : ∀ l : List Nat, (∀ k ∈ l, k ≠ j) → l.flatMap W = l.flatMap W' := by
    intro l
    induction l with
    | nil => intro _; rfl
    | cons x l ih => intro hl; rw [List.flatMap_cons, List.flatMap_cons, h x (hl x (List.mem_cons_self ..)), ih (fun k hk => hl k (List.mem_cons_of_mem _ hk))]
  exact this _ (fun k hk => by simpa using (List.mem_filter.mp hk).2)
theorem z_getP {F : va_W} {n j : Nat} {W : Nat → va_W} (hj : j < n) : (F ++ zAll n W).Perm ((F ++ W j) ++ zBut n j W) := by
  rw [List.append_assoc]
  exact (zAll_perm hj).append_left F
theorem z_putP {F Wj : va_W} {n j : Nat} {W W' : Nat → va_W} (hj : j < n) (h : Wj = W' j) (hc : ∀ k, k ≠ j → W k = W' k) : ((F ++ Wj) ++ zBut n j W).Perm (F ++ zAll n W') := by
  rw [zBut_congr hc, h]
  exact (z_getP hj).symm
theorem zUp_at {α : Type} {Y : Nat → α} {j : Nat} {x : α} : zUp Y j x j = x := if_pos rfl
theorem zUp_ne {α : Type} {Y : Nat → α} {j k : Nat} {x : α} (h : k ≠ j) : zUp Y j x k = Y k := if_neg h
