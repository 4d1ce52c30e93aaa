/-! what a division gives, together -/
theorem z_rank {q : Nat → Nat} {a : Nat} : ∀ (n L : Nat), z_sm (fun d => if z_ct q (q d) d a n < L then 1 else 0) a n = if L ≤ n then L else n
  | 0, L => by
    show 0 = _
    split <;> omega
  | n + 1, L => by
    have he : z_ct q (q (a + n)) (a + n) a (n + 1) = z_cg q (q (a + n)) a n := by
      show z_ct q (q (a + n)) (a + n) a n + (if q (a + n) < q (a + n) ∨ (q (a + n) = q (a + n) ∧ a + n < a + n) then 1 else 0) = _
      rw [if_neg (by omega), Nat.add_zero]
      exact z_ct_n
    have hd : ∀ i, i < n → z_ct q (q (a + i)) (a + i) a (n + 1) = if z_cg q (q (a + n)) a n ≤ z_ct q (q (a + i)) (a + i) a n then z_ct q (q (a + i)) (a + i) a n + 1 else z_ct q (q (a + i)) (a + i) a n := by
      intro i hi
      show z_ct q (q (a + i)) (a + i) a n + (if q (a + i) < q (a + n) ∨ (q (a + n) = q (a + i) ∧ a + n < a + i) then 1 else 0) = _
      by_cases h : q (a + i) < q (a + n)
      · rw [if_pos (Or.inl h), if_pos (z_cg_ct h)]
      · have hl : z_ct q (q (a + i)) (a + i) a n < z_cg q (q (a + n)) a n := by
          refine z_sm_lt hi (fun j _ => ?_) ?_
          · split <;> split <;> omega
          · rw [if_neg (by omega), if_pos (by omega)]
            exact Nat.zero_lt_one
        rw [if_neg (by omega), if_neg (Nat.not_le.mpr hl), Nat.add_zero]
    have hr : z_cg q (q (a + n)) a n ≤ n := z_cg_le
    show z_sm (fun d => if z_ct q (q d) d a (n + 1) < L then 1 else 0) a n + (if z_ct q (q (a + n)) (a + n) a (n + 1) < L then 1 else 0) = _
    rw [he]
    by_cases hL : z_cg q (q (a + n)) a n < L
    · rw [if_pos hL, z_sm_cong (g := fun d => if z_ct q (q d) d a n < L - 1 then 1 else 0) (fun i hi => ?_), z_rank n (L - 1)]
      · split <;> split <;> omega
      · show (if z_ct q (q (a + i)) (a + i) a (n + 1) < L then 1 else 0) = if z_ct q (q (a + i)) (a + i) a n < L - 1 then 1 else 0
        rw [hd i hi]
        by_cases h1 : z_cg q (q (a + n)) a n ≤ z_ct q (q (a + i)) (a + i) a n
        · rw [if_pos h1]
          split <;> split <;> omega
        · rw [if_neg h1]
          split <;> split <;> omega
    · rw [if_neg hL, z_sm_cong (g := fun d => if z_ct q (q d) d a n < L then 1 else 0) (fun i hi => ?_), z_rank n L]
      · split <;> split <;> omega
      · show (if z_ct q (q (a + i)) (a + i) a (n + 1) < L then 1 else 0) = if z_ct q (q (a + i)) (a + i) a n < L then 1 else 0
        rw [hd i hi]
        by_cases h1 : z_cg q (q (a + n)) a n ≤ z_ct q (q (a + i)) (a + i) a n
        · rw [if_pos h1]
          split <;> split <;> omega
        · rw [if_neg h1]
/-- all parts of an amount are the amount -/
theorem z_pt_sum {U a n : Nat} {w : Nat → Nat} (h : z_sm w a n ≠ 0) : z_sm (z_pt U w a n) a n = U := by
  have h1 : z_sm (z_pt U w a n) a n = z_sm (z_fl U w (z_sm w a n)) a n + z_sm (fun d => if z_ct (z_rs U w (z_sm w a n)) (z_rs U w (z_sm w a n) d) d a n < z_left U w a n then 1 else 0) a n := z_sm_add
  rw [h1, z_rank n]
  have h2 := z_left_le (u := U) (w := w) (a := a) (n := n)
  rw [if_pos h2.1]
  have h3 : z_left U w a n = U - z_sm (z_fl U w (z_sm w a n)) a n := if_neg h
  have h4 := h2.2 h
  omega
theorem z_over_sum {f p : Nat → Nat} {a n : Nat} : z_sm (z_over f p a n) a n = z_sm f a n := z_sm_cong (fun _ hi => z_over_in hi)
