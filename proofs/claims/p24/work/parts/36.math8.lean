theorem zUp_step {α : Type} {X Y : Nat → α} {f : α → α} {j n : Nat} (hj : j < n) (h : ∀ k, Y k = if k < j ∧ k < n then f (X k) else X k) : ∀ k, zUp Y j (f (Y j)) k = if k < j + 1 ∧ k < n then f (X k) else X k := by
  intro k
  by_cases hk : k = j
  · subst hk
    rw [zUp_at, h, if_neg (by omega), if_pos (by omega)]
  · rw [zUp_ne hk, h]
    by_cases h9 : k < j ∧ k < n
    · rw [if_pos h9, if_pos (by omega)]
    · rw [if_neg h9, if_neg (by omega)]
theorem zUp_skip {α : Type} {X Y : Nat → α} {f : α → α} {j n : Nat} (hj : ¬ j < n) (h : ∀ k, Y k = if k < j ∧ k < n then f (X k) else X k) : ∀ k, Y k = if k < j + 1 ∧ k < n then f (X k) else X k := by
  intro k
  rw [h]
  by_cases h9 : k < j ∧ k < n
  · rw [if_pos h9, if_pos (by omega)]
  · rw [if_neg h9, if_neg (by omega)]
theorem zAll_congr {n : Nat} {W W' : Nat → va_W} (h : ∀ k, k < n → W k = W' k) : zAll n W = zAll n W' := by
  unfold zAll
  have : ∀ l : List Nat, (∀ k ∈ l, k < n) → l.flatMap W = l.flatMap W' := by
    intro l
    induction l with
    | nil => intro _; rfl
    | cons x l ih => intro hl; rw [List.flatMap_cons, List.flatMap_cons, h x (hl x (List.mem_cons_self ..)), ih (fun k hk => hl k (List.mem_cons_of_mem _ hk))]
  exact this _ (fun k hk => List.mem_range.mp hk)
