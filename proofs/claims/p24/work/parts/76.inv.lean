/-! the state of class and reference together, what holds between calls, and that it goes on to hold -/
theorem va_upk {α : Type} {f : Nat → α} {k : Nat} {x : α} : va_up f k x k = x := if_pos rfl
theorem va_upj {α : Type} {f : Nat → α} {k j : Nat} {x : α} (h : j ≠ k) : va_up f k x j = f j := if_neg h
theorem z_updk {f : Nat → Int32} {k : Nat} {x : Int32} : upd f k x k = x := if_pos rfl
theorem z_updj {f : Nat → Int32} {k j : Nat} {x : Int32} (h : j ≠ k) : upd f k x j = f j := if_neg h
theorem z_upLk {f : Nat → Int64} {k : Nat} {x : Int64} : vp_updL f k x k = x := if_pos rfl
theorem z_upLj {f : Nat → Int64} {k j : Nat} {x : Int64} (h : j ≠ k) : vp_updL f k x j = f j := if_neg h
abbrev zMk (kd fs ro rd pc dn : Nat → Nat) (dO : Nat → Int32) (dt mu sh : Nat → Nat) (vq us : Nat → Nat → Nat) (cT : Nat → Nat) (cO mO : Nat → Int32) (hq : Nat → Nat → Nat) (ac : Nat → Int64) (cq : Nat → Nat → Int64) (bq : Nat → Nat → Nat) (k : Nat) : zPt := (kd k, fs k, ro k, rd k, pc k, dn k, dO k, 10 ^ dt k, mu k, sh k, vq k, us k, cT k, cO k, mO k, hq k, ac k, cq k, bq k)
def zI0 (np T : Nat) (pt : Nat → Option Nat) (pa : Nat → Nat → Nat) (g fl ru : Nat → Nat) : Prop := T ≤ 900 ∧ np ≤ 8 ∧ (∀ d, g d ≤ 30) ∧ (∀ d, fl d ≤ 1000000000) ∧ (∀ d, ru d ≤ 3) ∧ ∀ k, pt k = if k < np then some (pa k 0) else none
def zP1 (T k : Nat) (g kd fs dt mu sh ro pc dn : Nat → Nat) (dO : Nat → Int32) (vq us : Nat → Nat → Nat) : Prop := kd k < 3 ∧ 3 ≤ dt k ∧ dt k ≤ 6 ∧ mu k ≤ 10 ∧ sh k < 10 ^ dt k ∧ ro k ≤ T ∧ pc k ≤ 2000000000 ∧ z_con (us k) (vq k) (fun j8 => z_wt (kd k) (g j8)) (fs k) (ro k) (pc k) ∧ (dO k = -1 ∨ ∃ dq, dO k = nI dq ∧ dq ≤ T ∧ (ro k < dq → dn k < 10 ^ dt k)) ∧ ∀ d, vq k d ≤ 10000001
def zI1 (np T : Nat) (g kd fs dt mu sh ro pc dn : Nat → Nat) (dO : Nat → Int32) (vq us : Nat → Nat → Nat) : Prop := (∀ k, k < np → zP1 T k g kd fs dt mu sh ro pc dn dO vq us) ∧ ∀ k, np ≤ k → dn k = 0
def zP2 (T k : Nat) (fs : Nat → Nat) (cO mO : Nat → Int32) (bf su : Nat → Nat) (hq : Nat → Nat → Nat) : Prop := (cO k = -1 ∨ ∃ dq, cO k = nI dq ∧ T < dq ∧ dq < 1000) ∧ (mO k = -1 ∨ ∃ dq, mO k = nI dq ∧ fs k < dq ∧ dq ≤ T ∧ bf k = su (1000 * k + dq - 1)) ∧ (∀ d, hq k d < 4) ∧ fs k ≤ T ∧ ∀ j, j < 1000 → hq k j = su (1000 * k + j)
def zI2 (np T : Nat) (fs : Nat → Nat) (cO mO : Nat → Int32) (cT bf su : Nat → Nat) (hq : Nat → Nat → Nat) : Prop := (∀ k, k < np → zP2 T k fs cO mO bf su hq) ∧ (∀ k, cT k < 4) ∧ (∀ i, su i < 4) ∧ (∀ k, np ≤ k → cT k = 0) ∧ ∀ i, 1000 * np ≤ i → su i = 0
def zI3 (np : Nat) (vo : Nat → Nat) (vq : Nat → Nat → Nat) : Prop := (∀ k, k < np → ∀ j, j < 1000 → vq k j = vo (1000 * k + j)) ∧ (∀ i, vo i ≤ 10000001) ∧ ∀ i, 1000 * np ≤ i → vo i = 0
def zI4 (np : Nat) (bi : Nat → Nat) (bd : Nat → Int64) (bq : Nat → Nat → Nat) (cq : Nat → Nat → Int64) (ac ic rc : Nat → Int64) : Prop := (∀ k, k < np → (∀ j, j < 1000 → bq k j = bi (1000 * k + j) ∧ cq k j = bd (1000 * k + j)) ∧ ∀ d, bq k d < 4) ∧ (∀ i, bi i < 4) ∧ (∀ i, 1000 * np ≤ i → bi i = 0 ∧ bd i = lN 0) ∧ (∀ k, np ≤ k → ac k = lN 0) ∧ ic = rc
def zTf (T : Nat) (f f2 : Nat → Nat) : Prop := (∀ s, s < 4 → ∀ d, d ≤ T → f (s * 1000 + d) = f2 (1000 * s + d)) ∧ (∀ s, s < 4 → ∀ d, T ≤ d → d < 1000 → f2 (1000 * s + d) = f2 (1000 * s + T)) ∧ (∀ i, f2 i ≤ 1000) ∧ ∀ i, f i ≤ 1000
def zI5 (T : Nat) (tf tb tr lo bl hi : Nat → Nat) : Prop := zTf T tf lo ∧ zTf T tb bl ∧ zTf T tr hi
def zI6 (rs : Nat → Int64) (sv : Nat → Int32) : Prop := ∀ d, d < 1000 → ∀ s, s < 4 → sv (4 * d + s) = (rs (s * 1000 + d)).toInt32
def zI7 (n nc : Nat) (cd : Nat → Nat) (tk : Nat → Int64) : Prop := nc ≤ n ∧ (∀ i, cd i < 2 ^ 31) ∧ ∀ co, co < 2 ^ 31 → co % 97 = co / 97 % 97 → (zHas cd nc co ↔ zTk tk (co / 97))
/-! tariffs -/
theorem zTf_day {T : Nat} {f f2 : Nat → Nat} (hT : T < 900) (h : zTf T f f2) : zTf (T + 1) (z_cp f (T + 1) 4) f2 := by
  obtain ⟨h1, h2, h3, h4⟩ := h
  refine ⟨fun s hs d hd => ?_, fun s hs d hd1 hd2 => ?_, h3, fun i => ?_⟩
  · unfold z_cp
    by_cases e : d = T + 1
    · subst e
      rw [if_pos (by omega), show s * 1000 + (T + 1) - 1 = s * 1000 + T by omega, h1 s hs T (Nat.le_refl _), h2 s hs (T + 1) (by omega) (by omega)]
    · rw [if_neg (by omega), h1 s hs d (by omega)]
  · rw [h2 s hs d (by omega) hd2, h2 s hs (T + 1) (by omega) (by omega)]
  · unfold z_cp
    split
    · exact h4 _
    · exact h4 _
theorem zTf_days {T : Nat} {f f2 : Nat → Nat} (h : zTf T f f2) : ∀ {n : Nat}, T + n ≤ 900 → zTf (T + n) (zCps f T n) f2
  | 0, _ => h
  | n + 1, hn => zTf_day (T := T + n) (by omega) (zTf_days h (n := n) (by omega))
theorem zTf_tell {T sp x : Nat} {f f2 : Nat → Nat} (hT : T ≤ 900) (hsp : sp < 4) (hx : x ≤ 1000) (h : zTf T f f2) : zTf T (va_up f (sp * 1000 + T) x) (z_fill f2 x (1000 * sp + T) (1000 - T)) := by
  obtain ⟨h1, h2, h3, h4⟩ := h
  refine ⟨fun s hs d hd => ?_, fun s hs d hd1 hd2 => ?_, fun i => ?_, fun i => ?_⟩
  · unfold va_up z_fill
    by_cases e : s * 1000 + d = sp * 1000 + T
    · rw [if_pos e, if_pos (by omega)]
    · rw [if_neg e, if_neg (by omega), h1 s hs d hd]
  · unfold z_fill
    by_cases e : s = sp
    · rw [if_pos (by omega), if_pos (by omega)]
    · rw [if_neg (by omega), if_neg (by omega), h2 s hs d hd1 hd2]
  · unfold z_fill
    split
    · exact hx
    · exact h3 i
  · unfold va_up
    split
    · exact hx
    · exact h4 i
theorem zI5_days {T n : Nat} {tf tb tr lo bl hi : Nat → Nat} (h : zI5 T tf tb tr lo bl hi) (hn : T + n ≤ 900) : zI5 (T + n) (zCps tf T n) (zCps tb T n) (zCps tr T n) lo bl hi := ⟨zTf_days h.1 hn, zTf_days h.2.1 hn, zTf_days h.2.2 hn⟩
/-! readings -/
theorem z_pt_le {U a n d : Nat} {w : Nat → Nat} (h1 : a ≤ d) (h2 : d < a + n) : z_pt U w a n d ≤ U + 1 := by
  have h := z_sm_part (f := w) (a := a) (n := n) (i := d - a) (by omega)
  rw [show a + (d - a) = d by omega] at h
  have h3 : U * w d / z_sm w a n ≤ U := Nat.div_le_of_le_mul (by rw [Nat.mul_comm (z_sm w a n)]; exact Nat.mul_le_mul_left U h)
  unfold z_pt z_fl
  split <;> omega
theorem z_pace_le {U a n : Nat} {kd : Nat} {g : Nat → Nat} (hU : U ≤ 10000000) (hn : 0 < n) : z_pace U (fun j8 => z_wt kd (g j8)) a n ≤ 2000000000 := by
  have h1 := z_sm_ge (f := fun j8 => z_wt kd (g j8)) (a := a) (c := 5) (n := n) (fun i _ => z_wt_ge)
  unfold z_pace
  have h2 : U * 1000 / z_sm (fun j8 => z_wt kd (g j8)) a n ≤ U * 1000 / 5 := Nat.div_le_div_left (by omega) (by decide)
  omega
theorem zI1_weather {np T x1 m t : Nat} {g kd fs dt mu sh ro pc dn : Nat → Nat} {dO : Nat → Int32} {vq us : Nat → Nat → Nat} (h : zI1 np T g kd fs dt mu sh ro pc dn dO vq us) (hx : T ≤ x1) : zI1 np T (z_fill g t x1 m) kd fs dt mu sh ro pc dn dO vq us := by
  refine ⟨fun k hk => ?_, h.2⟩
  obtain ⟨a1, a2, a3, a4, a5, a6, a7, a8, a9⟩ := h.1 k hk
  refine ⟨a1, a2, a3, a4, a5, a6, a7, z_con_w a8 (fun d hd => ?_), a9⟩
  show z_wt (kd k) (g d) = z_wt (kd k) (z_fill g t x1 m d)
  unfold z_fill
  rw [if_neg (by omega)]
theorem z_fill_le {g : Nat → Nat} {t a n c : Nat} (hg : ∀ d, g d ≤ c) (ht : t ≤ c) (d : Nat) : z_fill g t a n d ≤ c := by
  unfold z_fill
  split
  · exact ht
  · exact hg d
theorem zI0_weather {np T x1 m t : Nat} {pt : Nat → Option Nat} {pa : Nat → Nat → Nat} {g fl ru : Nat → Nat} (h : zI0 np T pt pa g fl ru) (ht : t ≤ 30) : zI0 np T pt pa (z_fill g t x1 m) fl ru := ⟨h.1, h.2.1, z_fill_le h.2.2.1 ht, h.2.2.2⟩
theorem zI1_doubt {np T k nb : Nat} {g kd fs dt mu sh ro pc dn : Nat → Nat} {dO : Nat → Int32} {vq us : Nat → Nat → Nat} (h : zI1 np T g kd fs dt mu sh ro pc dn dO vq us) (hk : k < np) (hnb : nb < 10 ^ dt k) : zI1 np T g kd fs dt mu sh ro pc (va_up dn k nb) (upd dO k (nI T)) vq us := by
  refine ⟨fun j hj => ?_, fun j hj => by rw [va_upj (by omega)]; exact h.2 j hj⟩
  obtain ⟨a1, a2, a3, a4, a5, a6, a7, a8, a9, a10⟩ := h.1 j hj
  refine ⟨a1, a2, a3, a4, a5, a6, a7, a8, ?_, a10⟩
  by_cases e : j = k
  · subst e
    rw [z_updk, va_upk]
    exact Or.inr ⟨T, rfl, Nat.le_refl _, fun _ => hnb⟩
  · rw [z_updj e, va_upj e]
    exact a9
theorem zI1_take {np T k d nb : Nat} {g kd fs dt mu sh ro pc dn : Nat → Nat} {dO : Nat → Int32} {vq us : Nat → Nat → Nat} (h : zI1 np T g kd fs dt mu sh ro pc dn dO vq us) (hk : k < np) (hnb : nb < 10 ^ dt k) (hd : ro k < d) (hdT : d ≤ T) :
    zI1 np T g kd fs dt mu (va_up sh k nb) (va_up ro k d) (va_up pc k (z_pace (z_use (10 ^ dt k) (mu k) (sh k) nb) (fun j8 => z_wt (kd k) (g j8)) (ro k) (d - ro k))) dn dO (zUp vq k (z_over (z_pt (z_use (10 ^ dt k) (mu k) (sh k) nb) (fun j8 => z_wt (kd k) (g j8)) (ro k) (d - ro k)) (vq k) (ro k) (d - ro k))) (zUp us k (va_up (us k) d (z_use (10 ^ dt k) (mu k) (sh k) nb + 1))) := by
  refine ⟨fun j hj => ?_, h.2⟩
  obtain ⟨a1, a2, a3, a4, a5, a6, a7, a8, a9, a10⟩ := h.1 j hj
  unfold zP1
  by_cases e : j = k
  · subst e
    have hU : z_use (10 ^ dt j) (mu j) (sh j) nb ≤ 10000000 := z_use_le (Nat.pow_le_pow_right (by decide) a3 : 10 ^ dt j ≤ 10 ^ 6) a4 a5 hnb
    rw [va_upk, va_upk, va_upk, zUp_at, zUp_at]
    refine ⟨a1, a2, a3, a4, hnb, hdT, z_pace_le hU (by omega), z_con_take a8 hd hU, ?_, fun d9 => ?_⟩
    · rcases a9 with q | ⟨dq, q1, q2, q3⟩
      · exact Or.inl q
      · exact Or.inr ⟨dq, q1, q2, fun q => q3 (by omega)⟩
    · unfold z_over
      split
      · rename_i q
        have := z_pt_le (U := z_use (10 ^ dt j) (mu j) (sh j) nb) (w := fun j8 => z_wt (kd j) (g j8)) q.1 q.2
        omega
      · exact a10 d9
  · rw [va_upj e, va_upj e, va_upj e, zUp_ne e, zUp_ne e]
    exact ⟨a1, a2, a3, a4, a5, a6, a7, a8, a9, a10⟩
theorem zI1_meter {np T k d9 m9 : Nat} {g kd fs dt mu sh ro pc dn : Nat → Nat} {dO : Nat → Int32} {vq us : Nat → Nat → Nat} (h : zI1 np T g kd fs dt mu sh ro pc dn dO vq us) (hr : ro k = T) (h1 : 3 ≤ d9) (h2 : d9 ≤ 6) (h3 : m9 ≤ 10) :
    zI1 np T g kd fs (va_up dt k d9) (va_up mu k m9) (va_up sh k 0) ro pc dn dO vq us := by
  refine ⟨fun j hj => ?_, h.2⟩
  obtain ⟨a1, a2, a3, a4, a5, a6, a7, a8, a9, a10⟩ := h.1 j hj
  unfold zP1
  by_cases e : j = k
  · subst e
    rw [va_upk, va_upk, va_upk]
    refine ⟨a1, h1, h2, h3, Nat.pow_pos (by decide), a6, a7, a8, ?_, a10⟩
    rcases a9 with q | ⟨dq, q1, q2, q3⟩
    · exact Or.inl q
    · exact Or.inr ⟨dq, q1, q2, fun q => absurd q (by omega)⟩
  · rw [va_upj e, va_upj e, va_upj e]
    exact ⟨a1, a2, a3, a4, a5, a6, a7, a8, a9, a10⟩
theorem zI3_take {np k r d U : Nat} {w vo : Nat → Nat} {vq : Nat → Nat → Nat} (h : zI3 np vo vq) (hk : k < np) (hd : r < d) (hd9 : d ≤ 1000) (hU : U ≤ 10000000) :
    zI3 np (fun i9 => if 1000 * k + r ≤ i9 ∧ i9 < 1000 * k + d then (z_pt U w r (d - r)) (i9 - 1000 * k) else vo i9) (zUp vq k (z_over (z_pt U w r (d - r)) (vq k) r (d - r))) := by
  obtain ⟨h1, h2, h3⟩ := h
  refine ⟨fun j hj x hx => ?_, fun i => ?_, fun i hi => ?_⟩
  · by_cases e : j = k
    · subst e
      rw [zUp_at]
      unfold z_over
      show _ = (if 1000 * j + r ≤ 1000 * j + x ∧ 1000 * j + x < 1000 * j + d then (z_pt U w r (d - r)) (1000 * j + x - 1000 * j) else vo (1000 * j + x))
      by_cases q : r ≤ x ∧ x < d
      · rw [if_pos (by omega), if_pos (by omega), show 1000 * j + x - 1000 * j = x by omega]
      · rw [if_neg (by omega), if_neg (by omega), h1 j hj x hx]
    · rw [zUp_ne e]
      show _ = (if 1000 * k + r ≤ 1000 * j + x ∧ 1000 * j + x < 1000 * k + d then (z_pt U w r (d - r)) (1000 * j + x - 1000 * k) else vo (1000 * j + x))
      rw [if_neg (by omega), h1 j hj x hx]
  · show (if 1000 * k + r ≤ i ∧ i < 1000 * k + d then (z_pt U w r (d - r)) (i - 1000 * k) else vo i) ≤ 10000001
    split
    · have := z_pt_le (U := U) (w := w) (a := r) (n := d - r) (d := i - 1000 * k) (by omega) (by omega)
      omega
    · exact h2 i
  · show (if 1000 * k + r ≤ i ∧ i < 1000 * k + d then (z_pt U w r (d - r)) (i - 1000 * k) else vo i) = 0
    rw [if_neg (by omega)]
    exact h3 i hi
/-! suppliers -/
theorem zI2_change {np T k sp d : Nat} {fs : Nat → Nat} {cO mO : Nat → Int32} {cT bf su : Nat → Nat} {hq : Nat → Nat → Nat} (h : zI2 np T fs cO mO cT bf su hq) (hk : k < np) (hsp : sp < 4) (h1 : T < d) (h2 : d < 1000) : zI2 np T fs (upd cO k (nI d)) mO (va_up cT k sp) bf su hq := by
  obtain ⟨a1, a2, a3, a4, a5⟩ := h
  refine ⟨fun j hj => ?_, fun j => ?_, a3, fun j hj => by rw [va_upj (by omega)]; exact a4 j hj, a5⟩
  · obtain ⟨b1, b2⟩ := a1 j hj
    refine ⟨?_, b2⟩
    by_cases e : j = k
    · subst e
      rw [z_updk]
      exact Or.inr ⟨d, rfl, h1, h2⟩
    · rw [z_updj e]
      exact b1
  · unfold va_up
    split
    · exact hsp
    · exact a2 j
theorem zI2_object {np T k : Nat} {fs : Nat → Nat} {cO mO : Nat → Int32} {cT bf su : Nat → Nat} {hq : Nat → Nat → Nat} (h : zI2 np T fs cO mO cT bf su hq) : zI2 np T fs (upd cO k (-1)) mO cT bf su hq := by
  refine ⟨fun j hj => ?_, h.2⟩
  obtain ⟨b1, b2⟩ := h.1 j hj
  refine ⟨?_, b2⟩
  by_cases e : j = k
  · subst e
    rw [z_updk]
    exact Or.inl rfl
  · rw [z_updj e]
    exact b1
theorem zI2_reverse {np T k dq : Nat} {fs : Nat → Nat} {cO mO : Nat → Int32} {cT bf su : Nat → Nat} {hq : Nat → Nat → Nat} (h : zI2 np T fs cO mO cT bf su hq) (hk : k < np) (hT : T ≤ 900) (hd : 0 < dq) (hdT : dq ≤ T) (hb : bf k = su (1000 * k + dq - 1)) : zI2 np T fs cO (upd mO k (-1)) cT bf (z_fill su (bf k) (1000 * k + dq) (T + 1 - dq)) (zUp hq k (z_fill (hq k) (hq k (dq - 1)) dq (T + 1 - dq))) := by
  obtain ⟨a1, a2, a3, a4, a5⟩ := h
  have hb4 : bf k < 4 := by rw [hb]; exact a3 _
  refine ⟨fun j hj => ?_, a2, fun i => ?_, a4, fun i hi => ?_⟩
  · obtain ⟨b1, b2, b3, b4, b5⟩ := a1 j hj
    by_cases e : j = k
    · subst e
      unfold zP2
      rw [z_updk, zUp_at]
      refine ⟨b1, Or.inl rfl, fun d => ?_, b4, fun x hx => ?_⟩
      · unfold z_fill
        split
        · exact b3 _
        · exact b3 _
      · unfold z_fill
        by_cases q : dq ≤ x ∧ x < T + 1
        · rw [if_pos (by omega), if_pos (by omega), hb, b5 (dq - 1) (by omega), show 1000 * j + dq - 1 = 1000 * j + (dq - 1) by omega]
        · rw [if_neg (by omega), if_neg (by omega), b5 x hx]
    · unfold zP2
      rw [z_updj e, zUp_ne e]
      refine ⟨b1, ?_, b3, b4, fun x hx => ?_⟩
      · rcases b2 with q | ⟨d2, q1, q2, q3, q4⟩
        · exact Or.inl q
        · refine Or.inr ⟨d2, q1, q2, q3, ?_⟩
          unfold z_fill
          rw [if_neg (by omega)]
          exact q4
      · unfold z_fill
        rw [if_neg (by omega)]
        exact b5 x hx
  · unfold z_fill
    split
    · exact hb4
    · exact a3 i
  · unfold z_fill
    rw [if_neg (by omega)]
    exact a5 i hi
/-- the class's row of suppliers, behind n days -/
def zHn (cT : Nat → Nat) (np T : Nat) (x : zDs) (hq : Nat → Nat → Nat) : Nat → Nat → Nat → Nat
  | 0 => hq
  | n + 1 => fun j => va_up (zHn cT np T x hq n j) (T + n + 1) (if nI (T + n + 1) = (zDn cT np T x n).1 j then cT j else zHn cT np T x hq n j (T + n + 1 - 1))
theorem zI2_day {np T : Nat} {fs : Nat → Nat} {cO mO : Nat → Int32} {cT bf su : Nat → Nat} {hq : Nat → Nat → Nat} (h : zI2 np T fs cO mO cT bf su hq) (hT : T < 900) :
    zI2 np (T + 1) fs (z_bC cO (T + 1) np) (z_bM cO mO (T + 1) np) cT (z_bB cO bf su (T + 1) np) (z_bS su cO cT (T + 1) np) (fun j => va_up (hq j) (T + 1) (if nI (T + 1) = cO j then cT j else hq j (T + 1 - 1))) := by
  obtain ⟨a1, a2, a3, a4, a5⟩ := h
  refine ⟨fun j hj => ?_, a2, fun i => ?_, a4, fun i hi => ?_⟩
  · obtain ⟨b1, b2, b3, b4, b5⟩ := a1 j hj
    have e1 : (1000 * j + (T + 1)) % 1000 = T + 1 := by omega
    have e2 : (1000 * j + (T + 1)) / 1000 = j := by omega
    refine ⟨?_, ?_, fun d => ?_, by omega, fun x hx => ?_⟩
    · unfold z_bC
      by_cases q : cO j = nI (T + 1)
      · rw [if_pos ⟨hj, q⟩]
        exact Or.inl rfl
      · rw [if_neg (fun z => q z.2)]
        rcases b1 with z | ⟨dq, z1, z2, z3⟩
        · exact Or.inl z
        · refine Or.inr ⟨dq, z1, ?_, z3⟩
          have : dq ≠ T + 1 := fun z => q (by rw [z1, z])
          omega
    · unfold z_bM z_bB
      by_cases q : cO j = nI (T + 1)
      · rw [if_pos ⟨hj, q⟩, if_pos ⟨hj, q⟩]
        refine Or.inr ⟨T + 1, rfl, by omega, Nat.le_refl _, ?_⟩
        unfold z_bS
        rw [if_neg (by omega)]
      · rw [if_neg (fun z => q z.2), if_neg (fun z => q z.2)]
        rcases b2 with z | ⟨dq, z1, z2, z3, z4⟩
        · exact Or.inl z
        · refine Or.inr ⟨dq, z1, z2, by omega, ?_⟩
          unfold z_bS
          rw [if_neg (by omega)]
          exact z4
    · show va_up (hq j) (T + 1) _ d < 4
      unfold va_up
      split
      · split
        · exact a2 j
        · exact b3 _
      · exact b3 d
    · show va_up (hq j) (T + 1) _ x = _
      unfold va_up z_bS
      by_cases q : x = T + 1
      · subst q
        have c1 : (1000 * j + (T + 1)) % 1000 = T + 1 ∧ (1000 * j + (T + 1)) / 1000 < np := ⟨e1, by rw [e2]; exact hj⟩
        rw [if_pos (rfl : T + 1 = T + 1), if_pos c1, e2]
        by_cases z : cO j = nI (T + 1)
        · rw [if_pos z.symm, if_pos z]
        · rw [if_neg (fun y => z y.symm), if_neg z, b5 _ (by omega), show 1000 * j + (T + 1) - 1 = 1000 * j + (T + 1 - 1) by omega]
      · rw [if_neg q, if_neg (by omega), b5 x hx]
  · unfold z_bS
    split
    · split
      · exact a2 _
      · exact a3 _
    · exact a3 i
  · unfold z_bS
    rw [if_neg (by omega)]
    exact a5 i hi
theorem zI2_days {np T : Nat} {fs : Nat → Nat} {cO mO : Nat → Int32} {cT bf su : Nat → Nat} {hq : Nat → Nat → Nat} (h : zI2 np T fs cO mO cT bf su hq) : ∀ {n : Nat}, T + n ≤ 900 →
    zI2 np (T + n) fs (zDn cT np T (cO, mO, bf, su) n).1 (zDn cT np T (cO, mO, bf, su) n).2.1 cT (zDn cT np T (cO, mO, bf, su) n).2.2.1 (zDn cT np T (cO, mO, bf, su) n).2.2.2 (zHn cT np T (cO, mO, bf, su) hq n)
  | 0, _ => h
  | n + 1, hn => zI2_day (T := T + n) (zI2_days h (n := n) (by omega)) (by omega)
theorem zPd_mk {kd fs ro rd pc dn : Nat → Nat} {dO : Nat → Int32} {dt mu sh : Nat → Nat} {vq us : Nat → Nat → Nat} {cT : Nat → Nat} {cO mO : Nat → Int32} {hq : Nat → Nat → Nat} {ac : Nat → Int64} {cq : Nat → Nat → Int64} {bq : Nat → Nat → Nat} {bf su : Nat → Nat} {np T k : Nat} (hk : k < np) : ∀ {n : Nat},
    zPd (zMk kd fs ro rd pc dn dO dt mu sh vq us cT cO mO hq ac cq bq k) T n = zMk kd fs ro rd pc dn dO dt mu sh vq us cT (zDn cT np T (cO, mO, bf, su) n).1 (zDn cT np T (cO, mO, bf, su) n).2.1 (zHn cT np T (cO, mO, bf, su) hq n) ac cq bq k
  | 0 => rfl
  | n + 1 => by
    rw [zPd, zPd_mk hk (n := n) (bf := bf) (su := su)]
    have e1 : (if nI (T + n + 1) = (zDn cT np T (cO, mO, bf, su) n).1 k then (-1 : Int32) else (zDn cT np T (cO, mO, bf, su) n).1 k) = (zDn cT np T (cO, mO, bf, su) (n + 1)).1 k := by
      show _ = z_bC (zDn cT np T (cO, mO, bf, su) n).1 (T + n + 1) np k
      unfold z_bC
      by_cases q : (zDn cT np T (cO, mO, bf, su) n).1 k = nI (T + n + 1)
      · rw [if_pos q.symm, if_pos ⟨hk, q⟩]
      · rw [if_neg (fun z => q z.symm), if_neg (fun z => q z.2)]
    have e2 : (if nI (T + n + 1) = (zDn cT np T (cO, mO, bf, su) n).1 k then nI (T + n + 1) else (zDn cT np T (cO, mO, bf, su) n).2.1 k) = (zDn cT np T (cO, mO, bf, su) (n + 1)).2.1 k := by
      show _ = z_bM (zDn cT np T (cO, mO, bf, su) n).1 (zDn cT np T (cO, mO, bf, su) n).2.1 (T + n + 1) np k
      unfold z_bM
      by_cases q : (zDn cT np T (cO, mO, bf, su) n).1 k = nI (T + n + 1)
      · rw [if_pos q.symm, if_pos ⟨hk, q⟩]
      · rw [if_neg (fun z => q z.symm), if_neg (fun z => q z.2)]
    unfold zMk
    rw [← e1, ← e2]
    rfl
