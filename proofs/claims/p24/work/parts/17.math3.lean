/-! numbers of readings -/
theorem z_use_le {sz mu sh nb : Nat} (h1 : sz ≤ 1000000) (h2 : mu ≤ 10) (h3 : sh < sz) (h4 : nb < sz) : z_use sz mu sh nb ≤ 10000000 := by
  unfold z_use
  have h5 : (if nb < sh then nb + sz - sh else nb - sh) ≤ 1000000 := by split <;> omega
  exact Nat.le_trans (Nat.mul_le_mul h5 h2) (by omega)
def z_un (la : Nat) (vo : Nat → Nat) (pc k : Nat) (g : Nat → Nat) (d : Nat) : Nat := if d < la then vo d else pc * z_wt k (g d) / 1000
/-- the latest reading up to a day -/
def z_ru (us : Nat → Nat) (fi : Nat) : Nat → Nat
  | 0 => 0
  | d + 1 => if fi < d + 1 ∧ us (d + 1) = 0 then z_ru us fi d else d + 1
theorem z_ru_le {us : Nat → Nat} {fi : Nat} : ∀ d, z_ru us fi d ≤ d
  | 0 => Nat.le_refl _
  | d + 1 => by
    have := z_ru_le (us := us) (fi := fi) d
    rw [z_ru]; split <;> omega
theorem z_ru_ge {us : Nat → Nat} {fi : Nat} : ∀ {d}, fi ≤ d → fi ≤ z_ru us fi d
  | 0, h => h
  | d + 1, h => by
    rw [z_ru]
    by_cases q : fi < d + 1 ∧ us (d + 1) = 0
    · rw [if_pos q]; exact z_ru_ge (by omega)
    · rw [if_neg q]; exact h
/-- nothing between -/
theorem z_ru_skip {us : Nat → Nat} {fi x : Nat} : ∀ {d}, fi ≤ x → x ≤ d → (∀ y, x < y → y ≤ d → us y = 0) → z_ru us fi d = z_ru us fi x
  | 0, _, h, _ => by rw [Nat.le_zero.mp h]
  | d + 1, h0, h, h2 => by
    by_cases q : x = d + 1
    · rw [q]
    · rw [z_ru, if_pos ⟨by omega, h2 (d + 1) (by omega) (Nat.le_refl _)⟩]
      exact z_ru_skip h0 (by omega) (fun y h3 h4 => h2 y h3 (by omega))
theorem z_ru_at {us : Nat → Nat} {fi : Nat} : ∀ {d}, d ≤ fi ∨ us d ≠ 0 → z_ru us fi d = d
  | 0, _ => rfl
  | d + 1, h => by rw [z_ru, if_neg (by omega)]
theorem z_ru_cong {us us' : Nat → Nat} {fi : Nat} : ∀ {d}, (∀ y, y ≤ d → us y = us' y) → z_ru us fi d = z_ru us' fi d
  | 0, _ => rfl
  | d + 1, h => by rw [z_ru, z_ru, h (d + 1) (Nat.le_refl _), z_ru_cong (d := d) (fun y h2 => h y (by omega))]
theorem z_pt_cong {U a n d : Nat} {w w' : Nat → Nat} (h : ∀ i, i < n → w (a + i) = w' (a + i)) (h1 : a ≤ d) (h2 : d < a + n) : z_pt U w a n d = z_pt U w' a n d := by
  have e1 : z_sm w a n = z_sm w' a n := z_sm_cong h
  have hd : w d = w' d := by
    have := h (d - a) (by omega)
    rw [show a + (d - a) = d by omega] at this
    exact this
  have e2 : ∀ A i, i < n → z_rs U w A (a + i) = z_rs U w' A (a + i) := fun A i hi => by unfold z_rs; rw [h i hi]
  have e3 : ∀ A i, i < n → z_fl U w A (a + i) = z_fl U w' A (a + i) := fun A i hi => by unfold z_fl; rw [h i hi]
  have e4 : ∀ A, z_sm (z_fl U w A) a n = z_sm (z_fl U w' A) a n := fun A => z_sm_cong (e3 A)
  unfold z_pt z_left
  rw [e1, e4]
  have e5 : ∀ A, z_rs U w A d = z_rs U w' A d := fun A => by unfold z_rs; rw [hd]
  have e6 : ∀ A, z_fl U w A d = z_fl U w' A d := fun A => by unfold z_fl; rw [hd]
  rw [e5, e6, z_ct_cong (e2 _)]
def z_pace (U : Nat) (w : Nat → Nat) (a n : Nat) : Nat := U * 1000 / z_sm w a n
theorem z_pace_cong {U a n : Nat} {w w' : Nat → Nat} (h : ∀ i, i < n → w (a + i) = w' (a + i)) : z_pace U w a n = z_pace U w' a n := by
  unfold z_pace; rw [z_sm_cong h]
/-- what the readings say: uses, volumes, pace -/
def z_con (us vo w : Nat → Nat) (fi la pc : Nat) : Prop :=
  fi ≤ la ∧ (∀ d, us d ≠ 0 → fi < d ∧ d ≤ la) ∧ (fi < la → us la ≠ 0) ∧ (∀ d, us d ≤ 10000001) ∧
  (∀ b, us b ≠ 0 → ∀ d, z_ru us fi (b - 1) ≤ d → d < b → vo d = z_pt (us b - 1) w (z_ru us fi (b - 1)) (b - z_ru us fi (b - 1)) d) ∧
  pc = if la = fi then 1000 else z_pace (us la - 1) w (z_ru us fi (la - 1)) (la - z_ru us fi (la - 1))
theorem z_con_0 {w : Nat → Nat} {fi : Nat} : z_con (fun _ => 0) (fun _ => 0) w fi fi 1000 :=
  ⟨Nat.le_refl _, fun d h => absurd rfl h, fun h => absurd h (Nat.lt_irrefl _), fun _ => Nat.zero_le _, fun b h => absurd rfl h, by rw [if_pos rfl]⟩
theorem z_con_w {us vo w w' : Nat → Nat} {fi la pc : Nat} (h : z_con us vo w fi la pc) (hw : ∀ d, d < la → w d = w' d) : z_con us vo w' fi la pc := by
  obtain ⟨h1, h2, h3, h4, h5, h6⟩ := h
  refine ⟨h1, h2, h3, h4, fun b hb d hd1 hd2 => ?_, ?_⟩
  · rw [h5 b hb d hd1 hd2]
    have := (h2 b hb).2
    exact z_pt_cong (fun i hi => hw _ (by omega)) hd1 (by omega)
  · rw [h6]
    by_cases q : la = fi
    · rw [if_pos q, if_pos q]
    · have := z_ru_le (us := us) (fi := fi) (la - 1)
      rw [if_neg q, if_neg q]; exact z_pace_cong (fun i hi => hw _ (by omega))
theorem z_ru_la {us vo w : Nat → Nat} {fi la pc d : Nat} (h : z_con us vo w fi la pc) (hd : la ≤ d) : z_ru us fi d = la := by
  obtain ⟨h1, h2, h3, -⟩ := h
  rw [z_ru_skip (x := la) h1 hd (fun y h4 h5 => by
    by_cases q : us y = 0
    · exact q
    · have := (h2 y q).2; omega)]
  rcases Nat.lt_or_ge fi la with q | q
  · exact z_ru_at (Or.inr (h3 q))
  · exact z_ru_at (Or.inl q)
theorem z_con_take {us vo w : Nat → Nat} {fi la pc d U : Nat} (h : z_con us vo w fi la pc) (hd : la < d) (hU : U ≤ 10000000) : z_con (va_up us d (U + 1)) (z_over (z_pt U w la (d - la)) vo la (d - la)) w fi d (z_pace U w la (d - la)) := by
  have hla := z_ru_la h (show la ≤ d - 1 by omega)
  obtain ⟨h1, h2, h3, h4, h5, h6⟩ := h
  have eu : ∀ y, y ≠ d → va_up us d (U + 1) y = us y := fun y hy => if_neg hy
  have ed : va_up us d (U + 1) d = U + 1 := if_pos rfl
  have er : ∀ y, y < d → z_ru (va_up us d (U + 1)) fi y = z_ru us fi y := fun y hy => z_ru_cong (fun x hx => eu x (by omega))
  refine ⟨by omega, fun y hy => ?_, fun _ => by rw [ed]; omega, fun y => ?_, fun b hb y hy1 hy2 => ?_, ?_⟩
  · by_cases q : y = d
    · omega
    · rw [eu y q] at hy
      have := h2 y hy; omega
  · by_cases q : y = d
    · rw [q, ed]; omega
    · rw [eu y q]; exact h4 y
  · by_cases q : b = d
    · subst q
      rw [er _ (by omega), hla] at hy1 ⊢
      rw [ed]
      show (if la ≤ y ∧ y < la + (b - la) then _ else _) = _
      rw [if_pos (by omega)]; rfl
    · rw [eu b q] at hb ⊢
      have h7 := h2 b hb
      rw [er _ (by omega)] at hy1 ⊢
      rw [← h5 b hb y hy1 hy2]
      show (if la ≤ y ∧ y < la + (d - la) then _ else _) = _
      rw [if_neg (by omega)]
  · rw [if_neg (by omega), ed, er _ (by omega), hla]; rfl
def z_beh (us : Nat → Nat) (d : Nat) (r : Int32) : Prop := (∃ x, r = nI x ∧ d < x ∧ x < 1000 ∧ us x ≠ 0 ∧ ∀ y, d < y → y < x → us y = 0) ∨ (r = -1 ∧ ∀ y, d < y → y < 1000 → us y = 0)
theorem z_anew_b {us vo w : Nat → Nat} {fi la pc d b : Nat} (h : z_con us vo w fi la pc) (h1 : fi ≤ d) (h2 : d < b) (h3 : us b ≠ 0) (h4 : ∀ y, d < y → y < b → us y = 0) : d < la ∧ z_pt (us b - 1) w (z_ru us fi d) (b - z_ru us fi d) d = vo d := by
  obtain ⟨g1, g2, g3, g4, g5, g6⟩ := h
  have e : z_ru us fi (b - 1) = z_ru us fi d := z_ru_skip h1 (by omega) (fun y hy1 hy2 => h4 y hy1 (by omega))
  have h5 := g2 b h3
  have h6 := z_ru_le (us := us) (fi := fi) d
  refine ⟨by omega, ?_⟩
  rw [g5 b h3 d (by rw [e]; exact h6) h2, e]
theorem z_anew_n {us vo w : Nat → Nat} {fi la pc d : Nat} (h : z_con us vo w fi la pc) (hla : la < 1000) (h1 : fi ≤ d) (h4 : ∀ y, d < y → y < 1000 → us y = 0) : la ≤ d := by
  rcases Nat.lt_or_ge d la with q | q
  · exact absurd (h4 la q hla) (h.2.2.1 (by omega))
  · exact q
theorem z_pt_w {U a n d : Nat} {w v9 : Nat → Nat} (h : a ≤ d ∧ d < a + n) : z_pt U (z_over w v9 a n) a n d = z_pt U w a n d := z_pt_cong (fun i hi => z_over_in hi) h.1 h.2
