/-! numbers: weights, sums, uses, parts by the greatest rests -/
def z_wt (k g : Nat) : Nat := if k = 0 then 10 else if k = 1 then 10 + g else 5 + 3 * g
def z_sm (f : Nat → Nat) (a : Nat) : Nat → Nat
  | 0 => 0
  | n + 1 => z_sm f a n + f (a + n)
def z_use (size mult shown number : Nat) : Nat := (if number < shown then number + size - shown else number - shown) * mult
theorem z_sm_cong {f g : Nat → Nat} {a : Nat} : ∀ {n : Nat}, (∀ i, i < n → f (a + i) = g (a + i)) → z_sm f a n = z_sm g a n
  | 0, _ => rfl
  | n + 1, h => by rw [z_sm, z_sm, z_sm_cong (fun i hi => h i (by omega)), h n (by omega)]
theorem z_sm_le {f : Nat → Nat} {a c : Nat} : ∀ {n : Nat}, (∀ i, i < n → f (a + i) ≤ c) → z_sm f a n ≤ n * c
  | 0, _ => by simp [z_sm]
  | n + 1, h => by
    have h1 := z_sm_le (n := n) (fun i hi => h i (by omega))
    have h2 := h n (by omega)
    rw [z_sm, Nat.succ_mul]
    omega
theorem z_sm_ge {f : Nat → Nat} {a c : Nat} : ∀ {n : Nat}, (∀ i, i < n → c ≤ f (a + i)) → n * c ≤ z_sm f a n
  | 0, _ => by simp [z_sm]
  | n + 1, h => by
    have h1 := z_sm_ge (n := n) (fun i hi => h i (by omega))
    have h2 := h n (by omega)
    rw [z_sm, Nat.succ_mul]
    omega
theorem z_sm_part {f : Nat → Nat} {a : Nat} : ∀ {n i : Nat}, i < n → f (a + i) ≤ z_sm f a n
  | 0, i, h => absurd h (Nat.not_lt_zero i)
  | n + 1, i, h => by
    rw [z_sm]
    by_cases q : i = n
    · subst q; omega
    · have := z_sm_part (f := f) (a := a) (n := n) (i := i) (by omega)
      omega
theorem z_sm_add {f g : Nat → Nat} {a : Nat} : ∀ {n : Nat}, z_sm (fun d => f d + g d) a n = z_sm f a n + z_sm g a n
  | 0 => rfl
  | n + 1 => by rw [z_sm, z_sm, z_sm, z_sm_add]; omega
theorem z_sm_mul {f : Nat → Nat} {a c : Nat} : ∀ {n : Nat}, z_sm (fun d => c * f d) a n = c * z_sm f a n
  | 0 => rfl
  | n + 1 => by rw [z_sm, z_sm, z_sm_mul, Nat.mul_add]
theorem z_sm_zero {f : Nat → Nat} {a n : Nat} (h : z_sm f a n = 0) : ∀ i, i < n → f (a + i) = 0 := fun i hi => by
  have := z_sm_part (f := f) (a := a) hi
  omega
theorem z_wt_le {k g : Nat} (h : g ≤ 30) : z_wt k g ≤ 95 := by unfold z_wt; split <;> (try split) <;> omega
theorem z_wt_ge {k g : Nat} : 5 ≤ z_wt k g := by unfold z_wt; split <;> (try split) <;> omega
/-- an amount by weights w over n places from a on: what is rounded down, the rests, what is left, a place's rank by its rest, its part -/
def z_fl (u : Nat) (w : Nat → Nat) (all d : Nat) : Nat := u * w d / all
def z_rs (u : Nat) (w : Nat → Nat) (all d : Nat) : Nat := u * w d % all
def z_left (u : Nat) (w : Nat → Nat) (a n : Nat) : Nat := if z_sm w a n = 0 then 0 else u - z_sm (z_fl u w (z_sm w a n)) a n
/-- how many of the places a, .., a + n - 1 have a rest above v, or v and lie ahead of d -/
def z_ct (r : Nat → Nat) (v d a : Nat) : Nat → Nat
  | 0 => 0
  | n + 1 => z_ct r v d a n + if v < r (a + n) ∨ (r (a + n) = v ∧ a + n < d) then 1 else 0
def z_pt (u : Nat) (w : Nat → Nat) (a n d : Nat) : Nat := z_fl u w (z_sm w a n) d + if z_ct (z_rs u w (z_sm w a n)) (z_rs u w (z_sm w a n) d) d a n < z_left u w a n then 1 else 0
theorem z_ct_le {r : Nat → Nat} {v d a : Nat} : ∀ n, z_ct r v d a n ≤ n
  | 0 => Nat.le_refl _
  | n + 1 => by
    have := z_ct_le (r := r) (v := v) (d := d) (a := a) n
    rw [z_ct]; split <;> omega
theorem z_ct_cong {r r' : Nat → Nat} {v d a : Nat} : ∀ {n : Nat}, (∀ i, i < n → r (a + i) = r' (a + i)) → z_ct r v d a n = z_ct r' v d a n
  | 0, _ => rfl
  | n + 1, h => by rw [z_ct, z_ct, z_ct_cong (fun i hi => h i (by omega)), h n (by omega)]
/-- what is left over is less than the places -/
theorem z_left_le {u : Nat} {w : Nat → Nat} {a n : Nat} : z_left u w a n ≤ n ∧ (z_sm w a n ≠ 0 → z_sm (z_fl u w (z_sm w a n)) a n ≤ u) := by
  unfold z_left
  by_cases h0 : z_sm w a n = 0
  · rw [if_pos h0]; exact ⟨Nat.zero_le _, fun h => absurd h0 h⟩
  rw [if_neg h0]
  generalize hA : z_sm w a n = A at h0
  have e1 : z_sm (fun d => u * w d) a n = u * A := by rw [z_sm_mul, hA]
  have e2 : z_sm (fun d => A * z_fl u w A d + z_rs u w A d) a n = z_sm (fun d => u * w d) a n := z_sm_cong (fun i _ => Nat.div_add_mod (u * w (a + i)) A)
  rw [z_sm_add, z_sm_mul, e1] at e2
  have e3 : z_sm (z_rs u w A) a n ≤ n * A := z_sm_le (fun i _ => Nat.le_of_lt (Nat.mod_lt _ (by omega)))
  have e4 : A * z_sm (z_fl u w A) a n ≤ A * u := by rw [Nat.mul_comm A u]; omega
  have e5 : z_sm (z_fl u w A) a n ≤ u := Nat.le_of_mul_le_mul_left e4 (by omega)
  refine ⟨?_, fun _ => e5⟩
  have e6 : A * (u - z_sm (z_fl u w A) a n) ≤ A * n := by
    rw [Nat.mul_sub, Nat.mul_comm A u, Nat.mul_comm A n]; omega
  exact Nat.le_of_mul_le_mul_left e6 (by omega)
def z_fill (g : Nat → Nat) (t a n d : Nat) : Nat := if a ≤ d ∧ d < a + n then t else g d
theorem z_fill_0 {g : Nat → Nat} {t a : Nat} : z_fill g t a 0 = g := by
  funext d; unfold z_fill; rw [if_neg (by omega)]
theorem z_fill_at {g : Nat → Nat} {t a n : Nat} : z_fill g t a n (a + n) = g (a + n) := by
  unfold z_fill; rw [if_neg (by omega)]
theorem z_fill_up {g : Nat → Nat} {t a n : Nat} : va_up (z_fill g t a n) (a + n) t = z_fill g t a (n + 1) := by
  funext d; unfold z_fill va_up
  by_cases h : d = a + n
  · rw [if_pos h, if_pos (by omega)]
  · rw [if_neg h]
    show (if a ≤ d ∧ d < a + n then t else g d) = _
    by_cases h2 : a ≤ d ∧ d < a + n
    · rw [if_pos h2, if_pos (by omega)]
    · rw [if_neg h2, if_neg (by omega)]
theorem z_fill_same {g : Nat → Nat} {t a n : Nat} (h : g (a + n) = t) : z_fill g t a n = z_fill g t a (n + 1) := by
  rw [← z_fill_up]
  funext d; unfold va_up
  by_cases h2 : d = a + n
  · rw [if_pos h2, h2, z_fill_at, h]
  · rw [if_neg h2]
theorem z_ge0 {x : Int32} (h : ¬ x < 0) : 0 ≤ x.toInt := by
  rw [Int32.lt_iff_toInt_lt] at h
  have : (0 : Int32).toInt = 0 := rfl
  omega
theorem z_lt0 {x : Int32} (h : x < 0) : x.toInt < 0 := by
  rw [Int32.lt_iff_toInt_lt] at h
  have : (0 : Int32).toInt = 0 := rfl
  omega
theorem z_xl {x : Int32} {n : Nat} (hn : n < 2 ^ 31) : lN n ≤ x.toInt64 ↔ (n : Int) ≤ x.toInt := by
  rw [Int64.le_iff_toInt_le, Int32.toInt_toInt64, lN_toInt hn]
/-- x - y of two longs, x the smaller -/
theorem z_negl {x y : Nat} (h : x < y) (hy : y < 2 ^ 31) : ¬ lN 0 ≤ lN x - lN y := by
  rw [Int64.le_iff_toInt_le, Int64.toInt_sub, lN_toInt (by decide), lN_toInt (show x < 2 ^ 31 by omega), lN_toInt hy, Int.bmod_eq_of_le (by omega) (by omega)]
  omega
theorem z_addl {x y z : Nat} (h : y ≤ x + z) : lN x - lN y + lN z = lN (x + z - y) := by
  have e : lN (x + z - y) + lN y = lN x + lN z := by rw [lN_add, lN_add, Nat.sub_add_cancel h]
  rw [← Int64.add_sub_cancel (lN (x + z - y)) (lN y), e, Int64.sub_eq_add_neg, Int64.sub_eq_add_neg, Int64.add_assoc, Int64.add_assoc, Int64.add_comm (-lN y)]
