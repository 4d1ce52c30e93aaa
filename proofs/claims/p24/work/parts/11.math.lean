/-! numbers: weights, sums, uses, parts by the greatest rests -/
def z_wt (k g : Nat) : Nat := if k = 0 then 10 else if k = 1 then 10 + g else 5 + 3 * g
def z_sm (f : Nat → Nat) (a : Nat) : Nat → Nat
  | 0 => 0
  | n + 1 => z_sm f a n + f (a + n)
def z_use (size mult shown number : Nat) : Nat := (if number < shown then number + size - shown else number - shown) * mult
theorem z_sm_cong {f g : Nat → Nat} {a : Nat} : ∀ {n : Nat}, (∀ i, i < n → f (a + i) = g (a + i)) → z_sm f a n = z_sm g a n
  | 0, _ => rfl
  | n + 1, h => by rw [z_sm, z_sm, z_sm_cong (fun i hi => h i (by omega)), h n (by omega)]
theorem z_sm_le {f : Nat → Nat} {a c : Nat} : ∀ {n : Nat}, (∀ i, i < n → f (a + i) ≤ c) → z_sm f a n ≤ n * c
  | 0, _ => by simp [z_sm]
  | n + 1, h => by
    have h1 := z_sm_le (n := n) (fun i hi => h i (by omega))
    have h2 := h n (by omega)
    rw [z_sm, Nat.succ_mul]
    omega
theorem z_sm_ge {f : Nat → Nat} {a c : Nat} : ∀ {n : Nat}, (∀ i, i < n → c ≤ f (a + i)) → n * c ≤ z_sm f a n
  | 0, _ => by simp [z_sm]
  | n + 1, h => by
    have h1 := z_sm_ge (n := n) (fun i hi => h i (by omega))
    have h2 := h n (by omega)
    rw [z_sm, Nat.succ_mul]
    omega
theorem z_sm_part {f : Nat → Nat} {a : Nat} : ∀ {n i : Nat}, i < n → f (a + i) ≤ z_sm f a n
  | 0, i, h => absurd h (Nat.not_lt_zero i)
  | n + 1, i, h => by
    rw [z_sm]
    by_cases q : i = n
    · subst q; omega
    · have := z_sm_part (f := f) (a := a) (n := n) (i := i) (by omega)
      omega
theorem z_sm_add {f g : Nat → Nat} {a : Nat} : ∀ {n : Nat}, z_sm (fun d => f d + g d) a n = z_sm f a n + z_sm g a n
  | 0 => rfl
  | n + 1 => by rw [z_sm, z_sm, z_sm, z_sm_add]; omega
theorem z_sm_mul {f : Nat → Nat} {a c : Nat} : ∀ {n : Nat}, z_sm (fun d => c * f d) a n = c * z_sm f a n
  | 0 => rfl
  | n + 1 => by rw [z_sm, z_sm, z_sm_mul, Nat.mul_add]
theorem z_sm_zero {f : Nat → Nat} {a n : Nat} (h : z_sm f a n = 0) : ∀ i, i < n → f (a + i) = 0 := fun i hi => by
  have := z_sm_part (f := f) (a := a) hi
  omega
theorem z_wt_le {k g : Nat} (h : g ≤ 30) : z_wt k g ≤ 95 := by unfold z_wt; split <;> (try split) <;> omega
theorem z_wt_ge {k g : Nat} : 5 ≤ z_wt k g := by unfold z_wt; split <;> (try split) <;> omega
/-- an amount by weights w over n places from a on: what is rounded down, the rests, what is left, a place's rank by its rest, its part -/
def z_fl (u : Nat) (w : Nat → Nat) (all d : Nat) : Nat := u * w d / all
def z_rs (u : Nat) (w : Nat → Nat) (all d : Nat) : Nat := u * w d % all
def z_left (u : Nat) (w : Nat → Nat) (a n : Nat) : Nat := if z_sm w a n = 0 then 0 else u - z_sm (z_fl u w (z_sm w a n)) a n
/-- how many of the places a, .., a + n - 1 have a rest above v, or v and lie ahead of d -/
def z_ct (r : Nat → Nat) (v d a n : Nat) : Nat := z_sm (fun i => if v < r i ∨ (r i = v ∧ i < d) then 1 else 0) a n
def z_pt (u : Nat) (w : Nat → Nat) (a n d : Nat) : Nat := z_fl u w (z_sm w a n) d + if z_ct (z_rs u w (z_sm w a n)) (z_rs u w (z_sm w a n) d) d a n < z_left u w a n then 1 else 0
theorem z_ct_cong {r r' : Nat → Nat} {v d a n : Nat} (h : ∀ i, i < n → r (a + i) = r' (a + i)) : z_ct r v d a n = z_ct r' v d a n := z_sm_cong (fun i hi => by rw [h i hi])
theorem z_sm_mono {f g : Nat → Nat} {a : Nat} : ∀ {n : Nat}, (∀ i, i < n → f (a + i) ≤ g (a + i)) → z_sm f a n ≤ z_sm g a n
  | 0, _ => Nat.le_refl _
  | n + 1, h => by
    have h1 := z_sm_mono (n := n) (fun i hi => h i (by omega))
    have h2 := h n (by omega)
    rw [z_sm, z_sm]; omega
theorem z_sm_lt {f g : Nat → Nat} {a : Nat} : ∀ {n k : Nat}, k < n → (∀ i, i < n → f (a + i) ≤ g (a + i)) → f (a + k) < g (a + k) → z_sm f a n < z_sm g a n
  | 0, k, hk, _, _ => absurd hk (Nat.not_lt_zero k)
  | n + 1, k, hk, h, hx => by
    have h2 := h n (by omega)
    rw [z_sm, z_sm]
    by_cases q : k = n
    · subst q
      have h1 := z_sm_mono (f := f) (g := g) (a := a) (n := k) (fun i hi => h i (by omega))
      omega
    · have h1 := z_sm_lt (f := f) (g := g) (a := a) (n := n) (k := k) (by omega) (fun i hi => h i (by omega)) hx
      omega
/-- how many have a rest of G or above -/
def z_cg (q : Nat → Nat) (G a n : Nat) : Nat := z_sm (fun i => if G ≤ q i then 1 else 0) a n
theorem z_cg_le {q : Nat → Nat} {G a n : Nat} : z_cg q G a n ≤ n := by
  have := z_sm_le (f := fun i => if G ≤ q i then 1 else 0) (a := a) (c := 1) (n := n) (fun i _ => by split <;> omega)
  unfold z_cg; omega
theorem z_cg_0 {q : Nat → Nat} {a n : Nat} : z_cg q 0 a n = n := by
  have h1 := z_sm_ge (f := fun i => if 0 ≤ q i then 1 else 0) (a := a) (c := 1) (n := n) (fun i _ => by simp)
  have h2 := z_cg_le (q := q) (G := 0) (a := a) (n := n)
  unfold z_cg at *; omega
theorem z_ct_a {q : Nat → Nat} {v a n : Nat} : z_ct q v a a n = z_cg q (v + 1) a n := z_sm_cong (fun i _ => by
  by_cases h : v + 1 ≤ q (a + i)
  · rw [if_pos h, if_pos (by omega)]
  · rw [if_neg h, if_neg (by omega)])
theorem z_ct_n {q : Nat → Nat} {v a n : Nat} : z_ct q v (a + n) a n = z_cg q v a n := z_sm_cong (fun i hi => by
  by_cases h : v ≤ q (a + i)
  · rw [if_pos h, if_pos (by omega)]
  · rw [if_neg h, if_neg (by omega)])
theorem z_sm_one {a k : Nat} : ∀ {n : Nat}, k < n → z_sm (fun i => if i = a + k then 1 else 0) a n = 1
  | 0, h => absurd h (Nat.not_lt_zero k)
  | n + 1, h => by
    rw [z_sm]
    by_cases q : k = n
    · subst q
      have : z_sm (fun i => if i = a + k then 1 else 0) a k = 0 := by
        have := z_sm_le (f := fun i => if i = a + k then 1 else 0) (a := a) (c := 0) (n := k) (fun i hi => by rw [if_neg (by omega)]; omega)
        omega
      rw [this, if_pos rfl]
    · rw [z_sm_one (n := n) (by omega), if_neg (by omega)]
theorem z_ct_s {q : Nat → Nat} {v a n k : Nat} (hk : k < n) : z_ct q v (a + (k + 1)) a n = z_ct q v (a + k) a n + if q (a + k) = v then 1 else 0 := by
  by_cases h : q (a + k) = v
  · rw [if_pos h]
    have e : z_sm (fun i => (if v < q i ∨ (q i = v ∧ i < a + k) then 1 else 0) + (if i = a + k then 1 else 0)) a n = z_ct q v (a + (k + 1)) a n := z_sm_cong (fun i _ => by
      by_cases h2 : a + i = a + k
      · rw [if_pos h2, h2, if_neg (by omega), if_pos (by omega)]
      · rw [if_neg h2]
        by_cases h3 : v < q (a + i) ∨ (q (a + i) = v ∧ a + i < a + k)
        · rw [if_pos h3, if_pos (by omega)]
        · rw [if_neg h3, if_neg (by omega)])
    rw [← e, z_sm_add, z_sm_one hk]; rfl
  · rw [if_neg h]
    exact z_sm_cong (fun i _ => by
      by_cases h3 : v < q (a + i) ∨ (q (a + i) = v ∧ a + i < a + k)
      · rw [if_pos h3, if_pos (by omega)]
      · rw [if_neg h3, if_neg (fun h4 => h3 (by
          rcases h4 with h4 | ⟨h4, h5⟩
          · exact Or.inl h4
          · refine Or.inr ⟨h4, ?_⟩
            rcases Nat.lt_or_ge (a + i) (a + k) with h6 | h6
            · exact h6
            · rw [show a + i = a + k by omega] at h4
              exact absurd h4 h))])
theorem z_cg_ct {q : Nat → Nat} {G a n d : Nat} (h : q d < G) : z_cg q G a n ≤ z_ct q (q d) d a n := z_sm_mono (fun i _ => by
  by_cases h2 : G ≤ q (a + i)
  · rw [if_pos h2, if_pos (by omega)]; exact Nat.le_refl _
  · rw [if_neg h2]; omega)
theorem z_ct_mono {q : Nat → Nat} {v a n d e : Nat} (h : d ≤ e) : z_ct q v d a n ≤ z_ct q v e a n := z_sm_mono (fun i _ => by
  by_cases h2 : v < q (a + i) ∨ (q (a + i) = v ∧ a + i < d)
  · rw [if_pos h2, if_pos (by omega)]; exact Nat.le_refl _
  · rw [if_neg h2]; omega)
theorem z_cg_s {q : Nat → Nat} {v a n i : Nat} (hi : i < n) (h : q (a + i) = v) : z_cg q (v + 1) a n < z_cg q v a n := z_sm_lt hi (fun j _ => by
  by_cases h2 : v + 1 ≤ q (a + j)
  · rw [if_pos h2, if_pos (by omega)]; exact Nat.le_refl _
  · rw [if_neg h2]; omega) (by rw [if_neg (by omega), if_pos (by omega)]; omega)
/-- 1 more than the greatest below B, or 0 -/
def z_gr (q : Nat → Nat) (B a : Nat) : Nat → Nat
  | 0 => 0
  | n + 1 => if q (a + n) < B ∧ z_gr q B a n ≤ q (a + n) then q (a + n) + 1 else z_gr q B a n
theorem z_gr_up {q : Nat → Nat} {B a : Nat} : ∀ {n i : Nat}, i < n → q (a + i) < B → q (a + i) < z_gr q B a n
  | 0, i, h, _ => absurd h (Nat.not_lt_zero i)
  | n + 1, i, h, hB => by
    rw [z_gr]
    by_cases e : i = n
    · subst e
      by_cases h2 : z_gr q B a i ≤ q (a + i)
      · rw [if_pos ⟨hB, h2⟩]; omega
      · rw [if_neg (by omega)]; omega
    · have := z_gr_up (n := n) (i := i) (by omega) hB
      split <;> omega
theorem z_gr_at {q : Nat → Nat} {B a : Nat} : ∀ n, z_gr q B a n = 0 ∨ ∃ i, i < n ∧ q (a + i) < B ∧ q (a + i) + 1 = z_gr q B a n
  | 0 => Or.inl rfl
  | n + 1 => by
    rw [z_gr]
    by_cases h2 : q (a + n) < B ∧ z_gr q B a n ≤ q (a + n)
    · rw [if_pos h2]; exact Or.inr ⟨n, by omega, h2.1, rfl⟩
    · rw [if_neg h2]
      rcases z_gr_at (q := q) (B := B) (a := a) n with h | ⟨i, h, h3, h4⟩
      · exact Or.inl h
      · exact Or.inr ⟨i, by omega, h3, h4⟩
theorem z_gr_iff {q : Nat → Nat} {B a n i : Nat} (hi : i < n) : z_gr q B a n ≤ q (a + i) ↔ B ≤ q (a + i) := by
  constructor
  · intro h
    rcases Nat.lt_or_ge (q (a + i)) B with h2 | h2
    · have := z_gr_up hi h2; omega
    · exact h2
  · intro h
    rcases z_gr_at (q := q) (B := B) (a := a) n with h2 | ⟨j, _, h3, h4⟩
    · omega
    · omega
theorem z_cg_gr {q : Nat → Nat} {B a n : Nat} : z_cg q (z_gr q B a n) a n = z_cg q B a n := z_sm_cong (fun i hi => by
  by_cases h : B ≤ q (a + i)
  · rw [if_pos h, if_pos ((z_gr_iff hi).mpr h)]
  · rw [if_neg h, if_neg (fun h2 => h ((z_gr_iff hi).mp h2))])
theorem z_cg_no {q : Nat → Nat} {B a n : Nat} (h : ∀ i, i < n → q (a + i) < B) : z_cg q B a n = 0 := by
  have := z_sm_le (f := fun i => if B ≤ q i then 1 else 0) (a := a) (c := 0) (n := n) (fun i hi => by rw [if_neg (by have := h i hi; omega)]; omega)
  unfold z_cg; omega
def z_m (G : Nat) : Int64 := lN G - lN 1
theorem z_m_s (v : Nat) : z_m (v + 1) = lN v := by unfold z_m; rw [lN_sub (by omega)]; rfl
theorem z_m_0 : z_m 0 = -1 := by decide
theorem z_m_le {x G : Nat} (hx : x < 2 ^ 62) (hG : G < 2 ^ 62) : lN x ≤ z_m G ↔ x + 1 ≤ G := by
  cases G with
  | zero =>
    rw [z_m_0, Int64.le_iff_toInt_le, pk_lT (by omega)]
    have : (-1 : Int64).toInt = -1 := by decide
    rw [this]; omega
  | succ v => rw [z_m_s, pk_lLE (by omega) (by omega)]; omega
/-- the parts, once the places with a rest of G or above have theirs -/
def z_p1 (p q : Nat → Nat) (L a n G d : Nat) : Nat := p d + if (a ≤ d ∧ d < a + n) ∧ G ≤ q d ∧ z_ct q (q d) d a n < L then 1 else 0
/-- .. and those with the rest v ahead of e -/
def z_p2 (p q : Nat → Nat) (L a n v e d : Nat) : Nat := p d + if (a ≤ d ∧ d < a + n) ∧ (v < q d ∨ (q d = v ∧ d < e)) ∧ z_ct q (q d) d a n < L then 1 else 0
def z_pe (p q : Nat → Nat) (L a n d : Nat) : Nat := p d + if (a ≤ d ∧ d < a + n) ∧ z_ct q (q d) d a n < L then 1 else 0
theorem z_pif {x : Nat} {c d : Prop} [Decidable c] [Decidable d] (h : c ↔ d) : (x + if c then 1 else 0) = x + if d then 1 else 0 := by
  by_cases e : c
  · rw [if_pos e, if_pos (h.mp e)]
  · rw [if_neg e, if_neg (fun z => e (h.mpr z))]
theorem z_p1_start {p q : Nat → Nat} {L a n G : Nat} (h : L = 0 ∨ z_cg q G a n = 0) : z_p1 p q L a n G = p := by
  funext d
  unfold z_p1
  rw [if_neg, Nat.add_zero]
  rintro ⟨⟨h1, h2⟩, h3, h4⟩
  rcases h with h | h
  · omega
  · have := z_sm_part (f := fun i => if G ≤ q i then 1 else 0) (a := a) (n := n) (i := d - a) (by omega)
    have e : z_sm (fun i => if G ≤ q i then 1 else 0) a n = 0 := h
    rw [e, show a + (d - a) = d by omega, if_pos h3] at this
    omega
theorem z_p1_end {p q : Nat → Nat} {L a n G : Nat} (h : L ≤ z_cg q G a n) : z_p1 p q L a n G = z_pe p q L a n := by
  funext d
  unfold z_p1 z_pe
  refine z_pif ⟨fun h1 => ⟨h1.1, h1.2.2⟩, fun h1 => ⟨h1.1, ?_, h1.2⟩⟩
  rcases Nat.lt_or_ge (q d) G with h2 | h2
  · have := z_cg_ct (q := q) (a := a) (n := n) h2
    omega
  · exact h2
theorem z_p2_0 {p q : Nat → Nat} {L a n v : Nat} : z_p1 p q L a n (v + 1) = z_p2 p q L a n v (a + 0) := by
  funext d
  unfold z_p1 z_p2
  exact z_pif ⟨fun h => ⟨h.1, Or.inl (by omega), h.2.2⟩, fun h => ⟨h.1, by omega, h.2.2⟩⟩
theorem z_p2_no {p q : Nat → Nat} {L a n v k : Nat} (h : ¬ q (a + k) = v) : z_p2 p q L a n v (a + k) = z_p2 p q L a n v (a + (k + 1)) := by
  funext d
  unfold z_p2
  refine z_pif ⟨fun h1 => ⟨h1.1, by omega, h1.2.2⟩, fun h1 => ⟨h1.1, ?_, h1.2.2⟩⟩
  rcases h1.2.1 with h2 | ⟨h2, h3⟩
  · exact Or.inl h2
  · refine Or.inr ⟨h2, ?_⟩
    rcases Nat.lt_or_ge d (a + k) with h6 | h6
    · exact h6
    · rw [show d = a + k by omega] at h2
      exact absurd h2 h
theorem z_p2_up {p q : Nat → Nat} {L a n v k : Nat} (hk : k < n) (h : q (a + k) = v) (ho : z_ct q v (a + k) a n < L) : va_up (z_p2 p q L a n v (a + k)) (a + k) (z_p2 p q L a n v (a + k) (a + k) + 1) = z_p2 p q L a n v (a + (k + 1)) := by
  funext d
  unfold va_up
  by_cases e : d = a + k
  · rw [if_pos e]; subst e
    unfold z_p2
    rw [if_neg (by omega), if_pos ⟨by omega, by omega, by rw [h]; exact ho⟩]
  · rw [if_neg e]
    unfold z_p2
    exact z_pif ⟨fun h1 => ⟨h1.1, by omega, h1.2.2⟩, fun h1 => ⟨h1.1, by omega, h1.2.2⟩⟩
theorem z_p2_n {p q : Nat → Nat} {L a n v k : Nat} (h : k = n ∨ L ≤ z_ct q v (a + k) a n) : z_p2 p q L a n v (a + k) = z_p1 p q L a n v := by
  funext d
  unfold z_p2 z_p1
  refine z_pif ⟨fun h1 => ⟨h1.1, by omega, h1.2.2⟩, fun h1 => ⟨h1.1, ?_, h1.2.2⟩⟩
  rcases h with h | h
  · omega
  rcases Nat.lt_or_ge v (q d) with h2 | h2
  · exact Or.inl h2
  refine Or.inr ⟨by omega, ?_⟩
  rcases Nat.lt_or_ge d (a + k) with h3 | h3
  · exact h3
  have e : q d = v := by omega
  have := z_ct_mono (q := q) (v := v) (a := a) (n := n) h3
  rw [← e] at this h
  rw [e] at this h
  have h4 := h1.2.2
  rw [e] at h4
  omega
/-- what is left over is less than the places -/
theorem z_left_le {u : Nat} {w : Nat → Nat} {a n : Nat} : z_left u w a n ≤ n ∧ (z_sm w a n ≠ 0 → z_sm (z_fl u w (z_sm w a n)) a n ≤ u) := by
  unfold z_left
  by_cases h0 : z_sm w a n = 0
  · rw [if_pos h0]; exact ⟨Nat.zero_le _, fun h => absurd h0 h⟩
  rw [if_neg h0]
  generalize hA : z_sm w a n = A at h0
  have e1 : z_sm (fun d => u * w d) a n = u * A := by rw [z_sm_mul, hA]
  have e2 : z_sm (fun d => A * z_fl u w A d + z_rs u w A d) a n = z_sm (fun d => u * w d) a n := z_sm_cong (fun i _ => Nat.div_add_mod (u * w (a + i)) A)
  rw [z_sm_add, z_sm_mul, e1] at e2
  have e3 : z_sm (z_rs u w A) a n ≤ n * A := z_sm_le (fun i _ => Nat.le_of_lt (Nat.mod_lt _ (by omega)))
  have e4 : A * z_sm (z_fl u w A) a n ≤ A * u := by rw [Nat.mul_comm A u]; omega
  have e5 : z_sm (z_fl u w A) a n ≤ u := Nat.le_of_mul_le_mul_left e4 (by omega)
  refine ⟨?_, fun _ => e5⟩
  have e6 : A * (u - z_sm (z_fl u w A) a n) ≤ A * n := by
    rw [Nat.mul_sub, Nat.mul_comm A u, Nat.mul_comm A n]; omega
  exact Nat.le_of_mul_le_mul_left e6 (by omega)
def z_fill (g : Nat → Nat) (t a n d : Nat) : Nat := if a ≤ d ∧ d < a + n then t else g d
theorem z_fill_0 {g : Nat → Nat} {t a : Nat} : z_fill g t a 0 = g := by
  funext d; unfold z_fill; rw [if_neg (by omega)]
theorem z_fill_at {g : Nat → Nat} {t a n : Nat} : z_fill g t a n (a + n) = g (a + n) := by
  unfold z_fill; rw [if_neg (by omega)]
theorem z_fill_up {g : Nat → Nat} {t a n : Nat} : va_up (z_fill g t a n) (a + n) t = z_fill g t a (n + 1) := by
  funext d; unfold z_fill va_up
  by_cases h : d = a + n
  · rw [if_pos h, if_pos (by omega)]
  · rw [if_neg h]
    show (if a ≤ d ∧ d < a + n then t else g d) = _
    by_cases h2 : a ≤ d ∧ d < a + n
    · rw [if_pos h2, if_pos (by omega)]
    · rw [if_neg h2, if_neg (by omega)]
theorem z_fill_same {g : Nat → Nat} {t a n : Nat} (h : g (a + n) = t) : z_fill g t a n = z_fill g t a (n + 1) := by
  rw [← z_fill_up]
  funext d; unfold va_up
  by_cases h2 : d = a + n
  · rw [if_pos h2, h2, z_fill_at, h]
  · rw [if_neg h2]
theorem z_ge0 {x : Int32} (h : ¬ x < 0) : 0 ≤ x.toInt := by
  rw [Int32.lt_iff_toInt_lt] at h
  have : (0 : Int32).toInt = 0 := rfl
  omega
theorem z_lt0 {x : Int32} (h : x < 0) : x.toInt < 0 := by
  rw [Int32.lt_iff_toInt_lt] at h
  have : (0 : Int32).toInt = 0 := rfl
  omega
theorem z_xl {x : Int32} {n : Nat} (hn : n < 2 ^ 31) : lN n ≤ x.toInt64 ↔ (n : Int) ≤ x.toInt := by
  rw [Int64.le_iff_toInt_le, Int32.toInt_toInt64, lN_toInt hn]
/-- x - y of two longs, x the smaller -/
theorem z_negl {x y : Nat} (h : x < y) (hy : y < 2 ^ 31) : ¬ lN 0 ≤ lN x - lN y := by
  rw [Int64.le_iff_toInt_le, Int64.toInt_sub, lN_toInt (by decide), lN_toInt (show x < 2 ^ 31 by omega), lN_toInt hy, Int.bmod_eq_of_le (by omega) (by omega)]
  omega
theorem z_addl {x y z : Nat} (h : y ≤ x + z) : lN x - lN y + lN z = lN (x + z - y) := by
  have e : lN (x + z - y) + lN y = lN x + lN z := by rw [lN_add, lN_add, Nat.sub_add_cancel h]
  rw [← Int64.add_sub_cancel (lN (x + z - y)) (lN y), e, Int64.sub_eq_add_neg, Int64.sub_eq_add_neg, Int64.add_assoc, Int64.add_assoc, Int64.add_comm (-lN y)]
theorem z_p1_gr {p q : Nat → Nat} {L a n B : Nat} : z_p1 p q L a n (z_gr q B a n) = z_p1 p q L a n B := by
  funext d
  unfold z_p1
  refine z_pif ⟨fun h1 => ⟨h1.1, ?_, h1.2.2⟩, fun h1 => ⟨h1.1, ?_, h1.2.2⟩⟩
  · have := (z_gr_iff (q := q) (B := B) (a := a) (n := n) (i := d - a) (by omega)).mp
    rw [show a + (d - a) = d by omega] at this
    exact this h1.2.1
  · have := (z_gr_iff (q := q) (B := B) (a := a) (n := n) (i := d - a) (by omega)).mpr
    rw [show a + (d - a) = d by omega] at this
    exact this h1.2.1
theorem z_ct_cg {q : Nat → Nat} {v a n k : Nat} (h : k ≤ n) : z_ct q v (a + k) a n ≤ z_cg q v a n := by
  rw [← z_ct_n]; exact z_ct_mono (by omega)
def z_att (q : Nat → Nat) (a b G : Nat) : Prop := G = 0 ∨ ∃ i, a + i < b ∧ q (a + i) + 1 = G
theorem z_att_gr {q : Nat → Nat} {B a b : Nat} : z_att q a b (z_gr q B a (b - a)) := by
  rcases z_gr_at (q := q) (B := B) (a := a) (b - a) with h9 | ⟨i9, h9, h8, h7⟩
  · exact Or.inl h9
  · exact Or.inr ⟨i9, by omega, h7⟩
def z_low (q : Nat → Nat) (T B a b : Nat) : Prop := T = 0 ∨ ∀ i, a + i < b → q (a + i) < B
theorem z_low_gr {q : Nat → Nat} {T B a b : Nat} (h : z_low q T B a b) : T = 0 ∨ z_cg q (z_gr q B a (b - a)) a (b - a) = 0 := by
  rw [z_cg_gr]
  exact h.imp id (fun h => z_cg_no (fun i hi => h i (by omega)))
def z_over (f p : Nat → Nat) (a n d : Nat) : Nat := if a ≤ d ∧ d < a + n then f d else p d
theorem z_over_0 {f p : Nat → Nat} {a : Nat} : z_over f p a 0 = p := by
  funext d; unfold z_over; rw [if_neg (by omega)]
theorem z_over_in {f p : Nat → Nat} {a n i : Nat} (h : i < n) : z_over f p a n (a + i) = f (a + i) := by
  unfold z_over; rw [if_pos (by omega)]
theorem z_over_up {f p : Nat → Nat} {a n x : Nat} (h : x = f (a + n)) : va_up (z_over f p a n) (a + n) x = z_over f p a (n + 1) := by
  funext d; unfold z_over va_up
  by_cases h2 : d = a + n
  · rw [if_pos h2, if_pos (by omega), h, h2]
  · rw [if_neg h2]
    show (if a ≤ d ∧ d < a + n then f d else p d) = _
    by_cases h3 : a ≤ d ∧ d < a + n
    · rw [if_pos h3, if_pos (by omega)]
    · rw [if_neg h3, if_neg (by omega)]
theorem z_sm_more {f : Nat → Nat} {a j : Nat} : ∀ {n : Nat}, j ≤ n → z_sm f a j ≤ z_sm f a n
  | 0, h => by rw [Nat.le_zero.mp h]; exact Nat.le_refl _
  | n + 1, h => by
    by_cases q : j = n + 1
    · rw [q]; exact Nat.le_refl _
    · have := z_sm_more (f := f) (a := a) (j := j) (n := n) (by omega)
      rw [z_sm]; omega
theorem z_over_end {U : Nat} {w p q : Nat → Nat} {a n : Nat} : z_pe (z_over (z_fl U w (z_sm w a n)) p a n) (z_over (z_rs U w (z_sm w a n)) q a n) (z_left U w a n) a n = z_over (z_pt U w a n) p a n := by
  funext d
  unfold z_pe
  by_cases h : a ≤ d ∧ d < a + n
  · have e1 : ∀ g h' : Nat → Nat, z_over g h' a n d = g d := fun g h' => if_pos h
    rw [e1, e1, e1, z_pt, z_ct_cong (r' := z_rs U w (z_sm w a n)) (fun i hi => z_over_in hi)]
    exact z_pif ⟨fun z => z.2, fun z => ⟨h, z⟩⟩
  · have e1 : ∀ g h' : Nat → Nat, z_over g h' a n d = h' d := fun g h' => if_neg h
    rw [e1, e1, if_neg (fun z => h z.1)]; exact (e1 _ _).symm
