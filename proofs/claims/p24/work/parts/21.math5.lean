/-! the reference's way to give what is left: one by one to the first of the greatest rests -/
theorem z_sm_shift {f : Nat → Nat} {a : Nat} : ∀ {n : Nat}, z_sm f a n = z_sm (fun i => f (a + i)) 0 n
  | 0 => rfl
  | n + 1 => by rw [z_sm, z_sm, z_sm_shift, Nat.zero_add]
theorem z_ct_shift {q : Nat → Nat} {v d a n : Nat} : z_ct q v (a + d) a n = z_ct (fun i => q (a + i)) v d 0 n := by
  unfold z_ct
  rw [z_sm_shift]
  refine z_sm_cong (fun i _ => ?_)
  show (if v < q (a + (0 + i)) ∨ (q (a + (0 + i)) = v ∧ a + (0 + i) < a + d) then 1 else 0) = (if v < q (a + (0 + i)) ∨ (q (a + (0 + i)) = v ∧ 0 + i < d) then 1 else 0)
  by_cases h : v < q (a + (0 + i)) ∨ (q (a + (0 + i)) = v ∧ a + (0 + i) < a + d)
  · rw [if_pos h, if_pos (by omega)]
  · rw [if_neg h, if_neg (by omega)]
/-- D: who has got one already -/
def z_up9 (D r : Nat → Nat) (M : Nat) : Prop := (∀ i, D i = 0 ∨ D i = 1) ∧ ∀ i j, i < M → j < M → D i = 1 → (r i < r j ∨ (r j = r i ∧ j < i)) → D j = 1
def z_rd (D r : Nat → Nat) (i : Nat) : Int64 := if D i = 1 then -1 else lN (r i)
/-- b is the first of the greatest among those ahead of k -/
def z_best (D r : Nat → Nat) (k b : Nat) : Prop := b < k ∧ ∀ j, j < k → z_rd D r j ≤ z_rd D r b ∧ (j < b → z_rd D r j < z_rd D r b)
theorem z_best_1 {D r : Nat → Nat} : z_best D r 1 0 := ⟨by omega, fun j hj => by
  rw [show j = 0 by omega]
  exact ⟨Int64.le_refl _, fun h => absurd h (Nat.lt_irrefl _)⟩⟩
theorem z_best_y {D r : Nat → Nat} {k b : Nat} (h : z_best D r k b) (h2 : z_rd D r b < z_rd D r k) : z_best D r (k + 1) k := ⟨by omega, fun j hj => by
  by_cases q : j = k
  · rw [q]; exact ⟨Int64.le_refl _, fun h => absurd h (Nat.lt_irrefl _)⟩
  · have := (h.2 j (by omega)).1
    rw [Int64.lt_iff_toInt_lt] at h2
    rw [Int64.le_iff_toInt_le] at this
    exact ⟨by rw [Int64.le_iff_toInt_le]; omega, fun _ => by rw [Int64.lt_iff_toInt_lt]; omega⟩⟩
theorem z_best_n {D r : Nat → Nat} {k b : Nat} (h : z_best D r k b) (h2 : ¬ z_rd D r b < z_rd D r k) : z_best D r (k + 1) b := ⟨by have := h.1; omega, fun j hj => by
  by_cases q : j = k
  · rw [q]
    rw [Int64.lt_iff_toInt_lt] at h2
    exact ⟨by rw [Int64.le_iff_toInt_le]; omega, fun h3 => absurd h3 (by have := h.1; omega)⟩
  · exact h.2 j (by omega)⟩
theorem z_rd_0 {D r : Nat → Nat} {i : Nat} (hD : D i = 0) : z_rd D r i = lN (r i) := by unfold z_rd; rw [if_neg (by omega)]
theorem z_rd_1 {D r : Nat → Nat} {i : Nat} (hD : D i = 1) : z_rd D r i = -1 := by unfold z_rd; rw [if_pos hD]
theorem z_best_out {D r : Nat → Nat} {M b : Nat} (hD : z_up9 D r M) (hb : z_best D r M b) (hr : ∀ i, i < M → r i < 2 ^ 62) (hc : z_sm D 0 M < M) : D b = 0 := by
  rcases hD.1 b with h | h
  · exact h
  exfalso
  have : M * 1 ≤ z_sm D 0 M := z_sm_ge (fun i hi => by
    rw [Nat.zero_add]
    rcases hD.1 i with h2 | h2
    · have h3 := (hb.2 i hi).1
      rw [z_rd_0 h2, z_rd_1 h, Int64.le_iff_toInt_le, pk_lT (by have := hr i hi; omega)] at h3
      have e : (-1 : Int64).toInt = -1 := rfl
      omega
    · omega)
  omega
theorem z_up_next {D r : Nat → Nat} {M b : Nat} (hD : z_up9 D r M) (hb : z_best D r M b) (hr : ∀ i, i < M → r i < 2 ^ 62) (h0 : D b = 0) : z_up9 (va_up D b 1) r M ∧ z_sm (va_up D b 1) 0 M = z_sm D 0 M + 1 := by
  have hbM := hb.1
  refine ⟨⟨fun i => ?_, fun i j hi hj h1 h2 => ?_⟩, ?_⟩
  · unfold va_up; split
    · exact Or.inr rfl
    · exact hD.1 i
  · by_cases q : j = b
    · unfold va_up; rw [if_pos q]
    · have ej : va_up D b 1 j = D j := if_neg q
      rw [ej]
      by_cases q2 : i = b
      · subst q2
        rcases hD.1 j with h3 | h3
        · exfalso
          have h4 := hb.2 j hj
          rw [z_rd_0 h3, z_rd_0 h0, pk_lLE (by have := hr j hj; omega) (by have := hr i hi; omega), pk_lLT (by have := hr j hj; omega) (by have := hr i hi; omega)] at h4
          omega
        · exact h3
      · rw [show va_up D b 1 i = D i from if_neg q2] at h1
        exact hD.2 i j hi hj h1 h2
  · have e : z_sm (va_up D b 1) 0 M = z_sm (fun i => D i + if i = 0 + b then 1 else 0) 0 M := z_sm_cong (fun i _ => by
      unfold va_up
      by_cases q : 0 + i = b
      · rw [if_pos q, if_pos (by omega), q, h0]
      · rw [if_neg q, if_neg (by omega)]; rfl)
    rw [e, z_sm_add, z_sm_one hbM]
theorem z_up_end {D r : Nat → Nat} {M T i : Nat} (hD : z_up9 D r M) (hT : z_sm D 0 M = T) (hi : i < M) : D i = if z_ct r (r i) i 0 M < T then 1 else 0 := by
  rcases hD.1 i with h | h
  · have h2 : z_sm D 0 M ≤ z_ct r (r i) i 0 M := z_sm_mono (fun j hj => by
      rw [Nat.zero_add]
      rcases hD.1 j with h3 | h3
      · omega
      · rw [if_pos, h3]
        · exact Nat.le_refl _
        by_cases h4 : r i < r j ∨ (r j = r i ∧ j < i)
        · exact h4
        · exfalso
          have hij : i ≠ j := fun q => by rw [q] at h; omega
          have := hD.2 j i hj hi h3 (by omega)
          omega)
    rw [if_neg (by omega), h]
  · have h2 : z_ct r (r i) i 0 M < z_sm D 0 M := z_sm_lt hi (fun j hj => by
      rw [Nat.zero_add]
      by_cases h4 : r i < r j ∨ (r j = r i ∧ j < i)
      · rw [if_pos h4, hD.2 i j hi hj h h4]; exact Nat.le_refl _
      · rw [if_neg h4]; exact Nat.zero_le _) (by
      rw [Nat.zero_add, if_neg (by omega), h]; omega)
    rw [if_pos (by omega), h]
theorem z_up_start {r : Nat → Nat} {M : Nat} : z_up9 (fun _ => 0) r M ∧ z_sm (fun _ => 0) 0 M = 0 :=
  ⟨⟨fun _ => Or.inl rfl, fun i j _ _ h => absurd (show (0 : Nat) = 1 from h) (by decide)⟩, by have := z_sm_le (f := fun _ => 0) (a := 0) (c := 0) (n := M) (fun _ _ => Nat.le_refl _); omega⟩
theorem z_pt_0 {U a n i : Nat} {w r : Nat → Nat} (hr : ∀ j, j < n → r j = z_rs U w (z_sm w a n) (a + j)) (hi : i < n) : z_fl U w (z_sm w a n) (a + i) + (if z_ct r (r i) i 0 n < z_left U w a n then 1 else 0) = z_pt U w a n (a + i) := by
  unfold z_pt
  rw [z_ct_shift, hr i hi, z_ct_cong (r := r) (r' := fun j => z_rs U w (z_sm w a n) (a + j)) (fun j hj => by rw [Nat.zero_add]; exact hr j hj)]
theorem z_negi {x y : Nat} (h : x < y) (hy : y < 2 ^ 30) : ¬ (0 : Int32) ≤ nI x - nI y := fun q => by
  have := pk_sneg hy h
  rw [Int32.le_iff_toInt_le] at q
  rw [Int32.lt_iff_toInt_lt] at this
  omega
theorem z_addi {x y z : Nat} (h : y ≤ x + z) : nI x - nI y + nI z = nI (x + z - y) := by
  have e : nI (x + z - y) + nI y = nI x + nI z := by rw [nI_add, nI_add, Nat.sub_add_cancel h]
  rw [← Int32.add_sub_cancel (nI (x + z - y)) (nI y), e, Int32.sub_eq_add_neg, Int32.sub_eq_add_neg, Int32.add_assoc, Int32.add_assoc, Int32.add_comm (-nI y)]
theorem z_ti {x : Nat} (h : x < 2 ^ 31) : (nI x).toInt = (x : Int) := nI_toInt h
