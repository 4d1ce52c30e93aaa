/-! bills, by sums -/
def zS8 (f : Nat → Int64) : Nat → Int64
  | 0 => lN 0
  | n + 1 => zS8 f n + f n
theorem z_i64a {x y z : Int64} : x + (y - z) + z = x + y := by grind
theorem zS8_cong {f g : Nat → Int64} : ∀ {n : Nat}, (∀ i, i < n → f i = g i) → zS8 f n = zS8 g n
  | 0, _ => rfl
  | n + 1, h => by
    show zS8 f n + f n = zS8 g n + g n
    rw [zS8_cong (fun i hi => h i (by omega)), h n (by omega)]
theorem zS8_up {f : Nat → Int64} {k : Nat} {x : Int64} : ∀ {n : Nat}, k < n → zS8 (vp_updL f k x) n = zS8 f n + (x - f k)
  | 0, h => absurd h (Nat.not_lt_zero _)
  | n + 1, h => by
    show zS8 (vp_updL f k x) n + vp_updL f k x n = zS8 f n + f n + (x - f k)
    by_cases e : k = n
    · subst e
      rw [zS8_cong (g := f) (fun i hi => z_upLj (by omega)), z_upLk]
      grind
    · rw [zS8_up (by omega), z_upLj (fun q => e (Eq.symm q))]
      grind
theorem z_lN0 : lN 0 = (0 : Int64) := rfl
theorem zS8_in2 {bi : Nat → Nat} {ce inc : Nat → Int64} {d sp K mb : Nat} (hsp : sp < 4) (hb : bi d < 4) : zS8 (z_in2 bi ce inc d sp K mb) 4 = zS8 inc 4 + (z_due bi ce d sp K mb - z_bk bi ce d sp) := by
  unfold z_in2
  rw [zS8_up hsp]
  by_cases e : bi d = sp
  · rw [z_in1, if_pos e, z_bk, if_pos e, z_lN0]
    grind
  · have h : zS8 (z_in1 bi ce inc d sp) 4 = zS8 inc 4 + -(ce d) := by
      rw [z_in1, if_neg e, zS8_up hb]
      grind
    rw [h, z_bk, if_neg e]
    grind
theorem zBl_bi {hg K mb : Nat → Nat} {x : zBs} {fi : Nat} (hh : ∀ d, hg d < 4) (hx : ∀ d, x.2.2.1 d < 4) : ∀ (n d : Nat), (zBl hg K mb x fi n).2.2.1 d < 4
  | 0, d => hx d
  | n + 1, d => by
    show va_up (zBl hg K mb x fi n).2.2.1 (fi + n) (hg (fi + n)) d < 4
    by_cases e : d = fi + n
    · rw [e, va_upk]
      exact hh _
    · rw [va_upj e]
      exact zBl_bi hh hx n d
theorem zBl_sum {hg K mb : Nat → Nat} {x : zBs} {fi : Nat} (hh : ∀ d, hg d < 4) (hx : ∀ d, x.2.2.1 d < 4) : ∀ n : Nat, zS8 (zBl hg K mb x fi n).1 4 = zS8 x.1 4 + ((zBl hg K mb x fi n).2.2.2 - x.2.2.2)
  | 0 => by
    show zS8 x.1 4 = zS8 x.1 4 + (x.2.2.2 - x.2.2.2)
    grind
  | n + 1 => by
    have ih := zBl_sum (K := K) (mb := mb) (fi := fi) hh hx n
    have hs := zS8_in2 (bi := (zBl hg K mb x fi n).2.2.1) (ce := (zBl hg K mb x fi n).2.1) (inc := (zBl hg K mb x fi n).1) (d := fi + n) (K := K (fi + n)) (mb := mb (fi + n)) (hh (fi + n)) (zBl_bi hh hx n _)
    show zS8 (z_in2 (zBl hg K mb x fi n).2.2.1 (zBl hg K mb x fi n).2.1 (zBl hg K mb x fi n).1 (fi + n) (hg (fi + n)) (K (fi + n)) (mb (fi + n))) 4 = zS8 x.1 4 + ((zBl hg K mb x fi n).2.2.2 + (z_due (zBl hg K mb x fi n).2.2.1 (zBl hg K mb x fi n).2.1 (fi + n) (hg (fi + n)) (K (fi + n)) (mb (fi + n)) - z_bk (zBl hg K mb x fi n).2.2.1 (zBl hg K mb x fi n).2.1 (fi + n) (hg (fi + n))) - x.2.2.2)
    rw [hs, ih]
    grind
/-- a day that is billed right -/
def zRt (hg K mb : Nat → Nat) (ce : Nat → Int64) (bi : Nat → Nat) (d : Nat) : Prop := bi d = hg d ∧ z_du (lN (K d) - ce d) (mb d) = lN 0
theorem z_du_0 {mb : Nat} : z_du (lN 0) mb = lN 0 := by
  unfold z_du
  split <;> rfl
theorem zRt_step {hg K mb : Nat → Nat} {x : zBs} {d : Nat} : zRt hg K mb (zBst hg K mb x d).2.1 (zBst hg K mb x d).2.2.1 d := by
  refine ⟨va_upk, ?_⟩
  show z_du (lN (K d) - vp_updL (z_ce1 x.2.2.1 x.2.1 d (hg d)) d (z_ce1 x.2.2.1 x.2.1 d (hg d) d + z_due x.2.2.1 x.2.1 d (hg d) (K d) (mb d)) d) (mb d) = lN 0
  rw [z_upLk, z_due]
  generalize z_ce1 x.2.2.1 x.2.1 d (hg d) d = c
  by_cases h : lN 0 < lN (K d) - c ∧ mb d = 0
  · rw [show z_du (lN (K d) - c) (mb d) = lN 0 from if_pos h, show lN (K d) - (c + lN 0) = lN (K d) - c by rw [z_lN0]; grind]
    exact if_pos h
  · rw [show z_du (lN (K d) - c) (mb d) = lN (K d) - c from if_neg h, show lN (K d) - (c + (lN (K d) - c)) = lN 0 by rw [z_lN0]; grind]
    exact z_du_0
theorem zRt_keep {hg K mb : Nat → Nat} {x : zBs} {d e : Nat} (h : zRt hg K mb x.2.1 x.2.2.1 e) (hd : e ≠ d) : zRt hg K mb (zBst hg K mb x d).2.1 (zBst hg K mb x d).2.2.1 e := by
  refine ⟨(va_upj hd).trans h.1, ?_⟩
  show z_du (lN (K e) - vp_updL (z_ce1 x.2.2.1 x.2.1 d (hg d)) d _ e) (mb e) = lN 0
  rw [z_upLj hd]
  have : z_ce1 x.2.2.1 x.2.1 d (hg d) e = x.2.1 e := by
    unfold z_ce1
    split
    · rfl
    · exact z_upLj hd
  rw [this]
  exact h.2
theorem zRt_all {hg K mb : Nat → Nat} {x : zBs} {fi : Nat} : ∀ (n i : Nat), i < n → zRt hg K mb (zBl hg K mb x fi n).2.1 (zBl hg K mb x fi n).2.2.1 (fi + i)
  | 0, i, h => absurd h (Nat.not_lt_zero _)
  | n + 1, i, h => by
    by_cases e : i = n
    · subst e
      exact zRt_step
    · exact zRt_keep (zRt_all n i (by omega)) (by omega)
/-- a second bill tells nothing -/
theorem zBl_again {hg K mb : Nat → Nat} {x : zBs} {fi : Nat} : ∀ (n : Nat), (∀ i, i < n → zRt hg K mb x.2.1 x.2.2.1 (fi + i)) → (zBl hg K mb x fi n).2.2.2 = x.2.2.2 ∧ (∀ d, (zBl hg K mb x fi n).2.1 d = x.2.1 d) ∧ ∀ d, (zBl hg K mb x fi n).2.2.1 d = x.2.2.1 d
  | 0, _ => ⟨rfl, fun _ => rfl, fun _ => rfl⟩
  | n + 1, h => by
    obtain ⟨i1, i2, i3⟩ := zBl_again (x := x) n (fun i hi => h i (by omega))
    obtain ⟨r1, r2⟩ := h n (by omega)
    have e1 : (zBl hg K mb x fi n).2.2.1 (fi + n) = hg (fi + n) := (i3 _).trans r1
    have e2 : z_ce1 (zBl hg K mb x fi n).2.2.1 (zBl hg K mb x fi n).2.1 (fi + n) (hg (fi + n)) = (zBl hg K mb x fi n).2.1 := if_pos e1
    have e3 : z_due (zBl hg K mb x fi n).2.2.1 (zBl hg K mb x fi n).2.1 (fi + n) (hg (fi + n)) (K (fi + n)) (mb (fi + n)) = lN 0 := by
      unfold z_due
      rw [e2, i2]
      exact r2
    have e4 : z_bk (zBl hg K mb x fi n).2.2.1 (zBl hg K mb x fi n).2.1 (fi + n) (hg (fi + n)) = lN 0 := if_pos e1
    refine ⟨?_, fun d => ?_, fun d => ?_⟩
    · show (zBl hg K mb x fi n).2.2.2 + (z_due _ _ (fi + n) (hg (fi + n)) (K (fi + n)) (mb (fi + n)) - z_bk _ _ (fi + n) (hg (fi + n))) = _
      rw [e3, e4, i1, z_lN0]
      grind
    · show vp_updL (z_ce1 (zBl hg K mb x fi n).2.2.1 (zBl hg K mb x fi n).2.1 (fi + n) (hg (fi + n))) (fi + n) (z_ce1 (zBl hg K mb x fi n).2.2.1 (zBl hg K mb x fi n).2.1 (fi + n) (hg (fi + n)) (fi + n) + z_due _ _ (fi + n) (hg (fi + n)) (K (fi + n)) (mb (fi + n))) d = _
      rw [e2, e3]
      by_cases e : d = fi + n
      · rw [e, z_upLk, i2, z_lN0]
        grind
      · rw [z_upLj e, i2]
    · show va_up (zBl hg K mb x fi n).2.2.1 (fi + n) (hg (fi + n)) d = _
      by_cases e : d = fi + n
      · rw [e, va_upk]
        exact Eq.symm r1
      · rw [va_upj e, i3]
