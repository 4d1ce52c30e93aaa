/-! digits of a word, read one by one; same states -/
theorem z_dg_b {u : Nat} (hu : u ≤ 190000000) : ∃ D, D = sb_dg u ∧ 1 ≤ D ∧ D ≤ 9 ∧ u < 10 ^ D ∧ (D = 1 ∨ 10 ^ (D - 1) ≤ u) := by
  have key : ∀ k, 1 ≤ k → k ≤ 9 → u < 10 ^ k → (k = 1 ∨ 10 ^ (k - 1) ≤ u) → ∃ D, D = sb_dg u ∧ 1 ≤ D ∧ D ≤ 9 ∧ u < 10 ^ D ∧ (D = 1 ∨ 10 ^ (D - 1) ≤ u) := fun k a b c d => ⟨k, z_dgk k a (by omega) (Or.inr c) d, a, b, c, d⟩
  by_cases h1 : u < 10 ^ 1
  · exact key 1 (by decide) (by decide) h1 (Or.inl rfl)
  by_cases h2 : u < 10 ^ 2
  · exact key 2 (by decide) (by decide) h2 (Or.inr (Nat.not_lt.mp h1))
  by_cases h3 : u < 10 ^ 3
  · exact key 3 (by decide) (by decide) h3 (Or.inr (Nat.not_lt.mp h2))
  by_cases h4 : u < 10 ^ 4
  · exact key 4 (by decide) (by decide) h4 (Or.inr (Nat.not_lt.mp h3))
  by_cases h5 : u < 10 ^ 5
  · exact key 5 (by decide) (by decide) h5 (Or.inr (Nat.not_lt.mp h4))
  by_cases h6 : u < 10 ^ 6
  · exact key 6 (by decide) (by decide) h6 (Or.inr (Nat.not_lt.mp h5))
  by_cases h7 : u < 10 ^ 7
  · exact key 7 (by decide) (by decide) h7 (Or.inr (Nat.not_lt.mp h6))
  by_cases h8 : u < 10 ^ 8
  · exact key 8 (by decide) (by decide) h8 (Or.inr (Nat.not_lt.mp h7))
  · exact key 9 (by decide) (by decide) (Nat.lt_of_le_of_lt hu (by decide)) (Or.inr (Nat.not_lt.mp h8))
theorem z_lead {u D : Nat} (h1 : ¬ D = 1) (h2 : u < 10 ^ D) (h3 : D = 1 ∨ 10 ^ (D - 1) ≤ u) (h0 : 1 ≤ D) : ¬ 48 + u / 10 ^ (D - 1) % 10 = 48 := by
  have h4 := h3.resolve_left h1
  have h5 : 0 < 10 ^ (D - 1) := Nat.pow_pos (by decide)
  have h6 : 1 ≤ u / 10 ^ (D - 1) := (Nat.le_div_iff_mul_le h5).mpr (by omega)
  have h7 : u / 10 ^ (D - 1) < 10 := (Nat.div_lt_iff_lt_mul h5).mpr (by
    have : 10 ^ D = 10 ^ (D - 1) * 10 := by rw [← Nat.pow_succ]; congr 1; omega
    omega)
  omega
theorem z_dgs {u D i nv : Nat} (hi : i < D) (h : nv = u / 10 ^ (D - i)) : 10 * nv + (48 + u / 10 ^ (D - (1 + i)) % 10) - 48 = u / 10 ^ (D - (i + 1)) := by
  have e : D - i = (D - (i + 1)) + 1 := by omega
  rw [h, show 1 + i = i + 1 by omega, e, Nat.pow_succ, ← Nat.div_div_eq_div_mul]
  omega
theorem z_nv_lt {u D i nv : Nat} (h : nv = u / 10 ^ (D - i)) (hu : u ≤ 190000000) : nv ≤ 190000000 := by
  rw [h]
  exact Nat.le_trans (Nat.div_le_self _ _) hu
/-- nothing that a later call shows is another -/
def zSame (σ s9 : zHo) : Prop := zOk s9 ∧ s_np s9 = s_np σ ∧ s_T s9 = s_T σ ∧ s_g s9 = s_g σ ∧ s_ic s9 = s_ic σ ∧ s_P s9 = s_P σ
theorem zSame_rf {σ : zHo} (h : zOk σ) : zSame σ σ := ⟨h, rfl, rfl, rfl, rfl, rfl⟩
theorem zSame_uW {σ : zHo} {w p q : Nat → Nat} (h : zOk σ) : zSame σ (uW σ w p q) := ⟨h, rfl, rfl, rfl, rfl, rfl⟩
theorem zSame_tr {σ s8 s9 : zHo} (h : zSame σ s8) (h2 : zSame s8 s9) : zSame σ s9 := ⟨h2.1, h2.2.1.trans h.2.1, h2.2.2.1.trans h.2.2.1, h2.2.2.2.1.trans h.2.2.2.1, h2.2.2.2.2.1.trans h.2.2.2.2.1, h2.2.2.2.2.2.trans h.2.2.2.2.2⟩
