theorem z_over_cong {f f' p : Nat → Nat} {a n : Nat} (h : ∀ d, a ≤ d → d < a + n → f d = f' d) : z_over f p a n = z_over f' p a n := by
  funext d; unfold z_over
  by_cases h2 : a ≤ d ∧ d < a + n
  · rw [if_pos h2, if_pos h2, h d h2.1 h2.2]
  · rw [if_neg h2, if_neg h2]
theorem z_nm1 {x : Nat} (h : x < 2 ^ 31) : ¬ nI x = -1 := fun q => by
  have := congrArg Int32.toInt q
  rw [nI_toInt h] at this
  have e : (-1 : Int32).toInt = -1 := rfl
  omega
