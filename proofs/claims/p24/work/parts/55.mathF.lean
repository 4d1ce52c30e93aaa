abbrev zVol (fs su ro vo pc kd dg : Nat → Nat) (np d : Nat) : Nat → Nat := fun sp => z_sm (fun i => if fs i ≤ d ∧ su (1000 * i + d) = sp then z_un (ro i) (fun j8 => vo (1000 * i + j8)) (pc i) (kd i) dg d else 0) 0 np
theorem z_sm4 (f : Nat → Nat) : f 0 + f 1 + f 2 + f 3 = z_sm f 0 4 := by
  show _ = (((0 + f (0 + 0)) + f (0 + 1)) + f (0 + 2)) + f (0 + 3)
  simp only [Nat.zero_add]
theorem z_sm4_le {u t : Nat → Nat} {P : Nat → Prop} [DecidablePred P] {c : Nat} : ∀ {n : Nat}, (∀ i, i < n → u i ≤ c) → z_sm (fun s => z_sm (fun i => if P i ∧ t i = s then u i else 0) 0 n) 0 4 ≤ n * c
  | 0, _ => by rw [← z_sm4]; simp [z_sm]
  | n + 1, h => by
    have ih := z_sm4_le (u := u) (t := t) (P := P) (c := c) (n := n) (fun i hi => h i (by omega))
    have h1 := h n (by omega)
    rw [← z_sm4] at ih ⊢
    simp only [z_sm, Nat.zero_add] at ih ⊢
    rw [Nat.add_mul, Nat.one_mul]
    by_cases hp : P n
    · have e : ∀ s, (P n ∧ t n = s) ↔ t n = s := fun s => ⟨fun q => q.2, fun q => ⟨hp, q⟩⟩
      simp only [e]
      by_cases h0 : t n = 0
      · simp only [h0, if_pos, if_neg (show ¬ (0 : Nat) = 1 by decide), if_neg (show ¬ (0 : Nat) = 2 by decide), if_neg (show ¬ (0 : Nat) = 3 by decide)]
        omega
      · by_cases h2 : t n = 1
        · simp only [h2, if_pos, if_neg (show ¬ (1 : Nat) = 0 by decide), if_neg (show ¬ (1 : Nat) = 2 by decide), if_neg (show ¬ (1 : Nat) = 3 by decide)]
          omega
        · by_cases h3 : t n = 2
          · simp only [h3, if_pos, if_neg (show ¬ (2 : Nat) = 0 by decide), if_neg (show ¬ (2 : Nat) = 1 by decide), if_neg (show ¬ (2 : Nat) = 3 by decide)]
            omega
          · rw [if_neg h0, if_neg h2, if_neg h3]
            by_cases h4 : t n = 3
            · rw [if_pos h4]; omega
            · rw [if_neg h4]; omega
    · have e : ∀ s, ¬ (P n ∧ t n = s) := fun s q => hp q.1
      simp only [if_neg (e _)]
      omega
theorem z_vol4 {fs su ro vo pc kd dg : Nat → Nat} {np d : Nat} (hnp : np ≤ 8) (hpc : ∀ k, k < np → pc k ≤ 2000000000) (hvo : ∀ i, vo i ≤ 10000001) (hg : ∀ d, dg d ≤ 30) : z_sm (zVol fs su ro vo pc kd dg np d) 0 4 ≤ 1600000000 := by
  have h := z_sm4_le (u := fun i => z_un (ro i) (fun j8 => vo (1000 * i + j8)) (pc i) (kd i) dg d) (t := fun i => su (1000 * i + d)) (P := fun i => fs i ≤ d) (c := 190000000) (n := np) (fun i hi => z_un_le (hvo _) (hpc i hi) (hg _))
  have h2 := Nat.mul_le_mul_right 190000000 hnp
  exact Nat.le_trans h (Nat.le_trans h2 (by decide))
theorem z_absl_ge {x y : Nat} (h : y ≤ x) : lN x - lN y = lN (z_abs x y) := by
  rw [z_abs, if_neg (by omega), lN_sub h]
theorem z_absl_lt {x y : Nat} (h : ¬ y ≤ x) : -(lN x - lN y) = lN (z_abs x y) := by
  rw [Int64.neg_sub, z_abs, if_pos (by omega), lN_sub (by omega)]
def zSv (sv : Nat → Int32) (v : Nat → Int64) (d n i : Nat) : Int32 := if 4 * d ≤ i ∧ i < 4 * d + n then (v (i - 4 * d)).toInt32 else sv i
theorem zSv_0 {sv : Nat → Int32} {v : Nat → Int64} {d : Nat} : zSv sv v d 0 = sv := by
  funext i
  rw [zSv, if_neg (by omega)]
theorem zSv_up {sv : Nat → Int32} {v : Nat → Int64} {d n : Nat} {x : Int64} (h : x = v n) : upd (zSv sv v d n) (4 * d + n) x.toInt32 = zSv sv v d (n + 1) := by
  funext i
  unfold upd zSv
  by_cases q : i = 4 * d + n
  · rw [if_pos q, if_pos (by omega), q, h, show 4 * d + n - 4 * d = n by omega]
  · rw [if_neg q]
    by_cases q2 : 4 * d ≤ i ∧ i < 4 * d + n
    · rw [if_pos q2, if_pos (by omega)]
    · rw [if_neg q2, if_neg (by omega)]
theorem z_pt_none {u : Nat} {w : Nat → Nat} {a n d : Nat} (h : z_sm w a n = 0) : z_pt u w a n d = 0 := by
  unfold z_pt z_left z_fl
  rw [h, Nat.div_zero, if_pos rfl, if_neg (Nat.not_lt_zero _)]
