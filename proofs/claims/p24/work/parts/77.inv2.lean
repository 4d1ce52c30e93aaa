theorem zI1_days {np T n : Nat} {g kd fs dt mu sh ro pc dn : Nat → Nat} {dO : Nat → Int32} {vq us : Nat → Nat → Nat} (h : zI1 np T g kd fs dt mu sh ro pc dn dO vq us) : zI1 np (T + n) g kd fs dt mu sh ro pc dn dO vq us := by
  refine ⟨fun j hj => ?_, h.2⟩
  obtain ⟨a1, a2, a3, a4, a5, a6, a7, a8, a9, a10⟩ := h.1 j hj
  refine ⟨a1, a2, a3, a4, a5, by omega, a7, a8, ?_, a10⟩
  rcases a9 with q | ⟨dq, q1, q2, q3⟩
  · exact Or.inl q
  · exact Or.inr ⟨dq, q1, by omega, q3⟩
theorem zI0_days {np T n : Nat} {pt : Nat → Option Nat} {pa : Nat → Nat → Nat} {g fl ru : Nat → Nat} (h : zI0 np T pt pa g fl ru) (hn : T + n ≤ 900) : zI0 np (T + n) pt pa g fl ru := ⟨hn, h.2⟩
/-! a new point -/
theorem zI0_point {np T : Nat} {pt : Nat → Option Nat} {pa : Nat → Nat → Nat} {g fl ru nb : Nat → Nat} (h : zI0 np T pt pa g fl ru) (hn : np < 8) : zI0 (np + 1) T (va_up pt np (some (nb 0))) (zUp pa np nb) g fl ru := by
  obtain ⟨a1, a2, a3, a4, a5, a6⟩ := h
  refine ⟨a1, by omega, a3, a4, a5, fun k => ?_⟩
  by_cases e : k = np
  · subst e
    rw [va_upk, zUp_at, if_pos (by omega)]
  · rw [va_upj e, zUp_ne e, a6]
    by_cases q : k < np
    · rw [if_pos q, if_pos (by omega)]
    · rw [if_neg q, if_neg (by omega)]
theorem zI1_point {np T kd9 d9 mv sh9 : Nat} {g kd fs dt mu sh ro pc dn : Nat → Nat} {dO : Nat → Int32} {vq us : Nat → Nat → Nat} (h : zI1 np T g kd fs dt mu sh ro pc dn dO vq us) (hkd : kd9 < 3) (h1 : 3 ≤ d9) (h2 : d9 ≤ 6) (h3 : mv ≤ 10) (h4 : sh9 < 10 ^ d9) :
    zI1 (np + 1) T g (va_up kd np kd9) (va_up fs np T) (va_up dt np d9) (va_up mu np mv) (va_up sh np sh9) (va_up ro np T) (va_up pc np 1000) dn (upd dO np (-1)) (zUp vq np (fun _ => 0)) (zUp us np (fun _ => 0)) := by
  refine ⟨fun j hj => ?_, fun j hj => h.2 j (by omega)⟩
  unfold zP1
  by_cases e : j = np
  · subst e
    rw [va_upk, va_upk, va_upk, va_upk, va_upk, va_upk, va_upk, z_updk, zUp_at, zUp_at]
    exact ⟨hkd, h1, h2, h3, h4, Nat.le_refl _, by decide, z_con_0, Or.inl rfl, fun _ => Nat.zero_le _⟩
  · obtain ⟨a1, a2, a3, a4, a5, a6, a7, a8, a9, a10⟩ := h.1 j (by omega)
    rw [va_upj e, va_upj e, va_upj e, va_upj e, va_upj e, va_upj e, va_upj e, z_updj e, zUp_ne e, zUp_ne e]
    exact ⟨a1, a2, a3, a4, a5, a6, a7, a8, a9, a10⟩
theorem zI2_point {np T sp : Nat} {fs : Nat → Nat} {cO mO : Nat → Int32} {cT bf su : Nat → Nat} {hq : Nat → Nat → Nat} (h : zI2 np T fs cO mO cT bf su hq) (hT : T ≤ 900) (hsp : sp < 4) : zI2 (np + 1) T (va_up fs np T) (upd cO np (-1)) (upd mO np (-1)) cT bf (va_up su (1000 * np + T) sp) (zUp hq np (va_up (fun _ => 0) T sp)) := by
  obtain ⟨a1, a2, a3, a4, a5⟩ := h
  refine ⟨fun j hj => ?_, a2, fun i => ?_, fun j hj => a4 j (by omega), fun i hi => ?_⟩
  · unfold zP2
    by_cases e : j = np
    · subst e
      rw [z_updk, z_updk, va_upk, zUp_at]
      refine ⟨Or.inl rfl, Or.inl rfl, fun d => ?_, Nat.le_refl _, fun x hx => ?_⟩
      · unfold va_up
        split
        · exact hsp
        · exact (by decide : 0 < 4)
      · unfold va_up
        by_cases q : x = T
        · rw [if_pos q, if_pos (by omega)]
        · rw [if_neg q, if_neg (by omega), a5 _ (by omega)]
    · obtain ⟨b1, b2, b3, b4, b5⟩ := a1 j (by omega)
      rw [z_updj e, z_updj e, va_upj e, zUp_ne e]
      refine ⟨b1, ?_, b3, b4, fun x hx => ?_⟩
      · rcases b2 with q | ⟨dq, q1, q2, q3, q4⟩
        · exact Or.inl q
        · exact Or.inr ⟨dq, q1, q2, q3, by rw [va_upj (by omega)]; exact q4⟩
      · rw [va_upj (by omega)]
        exact b5 x hx
  · unfold va_up
    split
    · exact hsp
    · exact a3 i
  · rw [va_upj (by omega)]
    exact a5 i (by omega)
theorem zI3_point {np : Nat} {vo : Nat → Nat} {vq : Nat → Nat → Nat} (h : zI3 np vo vq) : zI3 (np + 1) vo (zUp vq np (fun _ => 0)) := by
  obtain ⟨h1, h2, h3⟩ := h
  refine ⟨fun j hj x hx => ?_, h2, fun i hi => h3 i (by omega)⟩
  by_cases e : j = np
  · subst e
    rw [zUp_at, h3 _ (by omega)]
  · rw [zUp_ne e]
    exact h1 j (by omega) x hx
theorem zI4_point {np : Nat} {bi : Nat → Nat} {bd : Nat → Int64} {bq : Nat → Nat → Nat} {cq : Nat → Nat → Int64} {ac ic rc : Nat → Int64} (h : zI4 np bi bd bq cq ac ic rc) : zI4 (np + 1) bi bd (zUp bq np (fun _ => 0)) (zUp cq np (fun _ => lN 0)) ac ic rc := by
  obtain ⟨h1, h2, h3, h4, h5⟩ := h
  refine ⟨fun j hj => ?_, h2, fun i hi => h3 i (by omega), fun j hj => h4 j (by omega), h5⟩
  by_cases e : j = np
  · subst e
    rw [zUp_at, zUp_at]
    refine ⟨fun x hx => ?_, fun _ => (by decide : 0 < 4)⟩
    have := h3 (1000 * j + x) (by omega)
    exact ⟨this.1.symm, this.2.symm⟩
  · rw [zUp_ne e, zUp_ne e]
    exact h1 j (by omega)
theorem zMk_point {kd fs ro rd pc dn : Nat → Nat} {dO : Nat → Int32} {dt mu sh : Nat → Nat} {vq us : Nat → Nat → Nat} {cT : Nat → Nat} {cO mO : Nat → Int32} {hq : Nat → Nat → Nat} {ac : Nat → Int64} {cq : Nat → Nat → Int64} {bq : Nat → Nat → Nat} {np T kd9 d9 mv sh9 sp : Nat} (h1 : dn np = 0) (h2 : cT np = 0) (h3 : ac np = lN 0) :
    zMk (va_up kd np kd9) (va_up fs np T) (va_up ro np T) (va_up rd np 1) (va_up pc np 1000) dn (upd dO np (-1)) (va_up dt np d9) (va_up mu np mv) (va_up sh np sh9) (zUp vq np (fun _ => 0)) (zUp us np (fun _ => 0)) cT (upd cO np (-1)) (upd mO np (-1)) (zUp hq np (va_up (fun _ => 0) T sp)) ac (zUp cq np (fun _ => lN 0)) (zUp bq np (fun _ => 0)) np = zPn kd9 T (10 ^ d9) mv sh9 sp := by
  unfold zMk zPn
  rw [va_upk, va_upk, va_upk, va_upk, va_upk, va_upk, va_upk, va_upk, z_updk, z_updk, z_updk, zUp_at, zUp_at, zUp_at, zUp_at, zUp_at, h1, h2, h3]
/-! bills -/
theorem z_ce2_at {bi : Nat → Nat} {ce : Nat → Int64} {d sp K mb j : Nat} (h : j ≠ d) : z_ce2 bi ce d sp K mb j = ce j := by
  unfold z_ce2
  rw [z_upLj h]
  unfold z_ce1
  split
  · rfl
  · rw [z_upLj h]
theorem z_ce1_eq {bi bi' : Nat → Nat} {ce ce' : Nat → Int64} {d e sp : Nat} (h1 : bi d = bi' e) (h2 : ce d = ce' e) : z_ce1 bi ce d sp d = z_ce1 bi' ce' e sp e := by
  unfold z_ce1
  rw [h1]
  split
  · exact h2
  · rw [z_upLk, z_upLk]
theorem z_due_eq {bi bi' : Nat → Nat} {ce ce' : Nat → Int64} {d e sp K mb : Nat} (h1 : bi d = bi' e) (h2 : ce d = ce' e) : z_due bi ce d sp K mb = z_due bi' ce' e sp K mb := by
  unfold z_due
  rw [z_ce1_eq h1 h2]
theorem z_bk_eq {bi bi' : Nat → Nat} {ce ce' : Nat → Int64} {d e sp : Nat} (h1 : bi d = bi' e) (h2 : ce d = ce' e) : z_bk bi ce d sp = z_bk bi' ce' e sp := by
  unfold z_bk
  rw [h1, h2]
theorem z_ce2_eq {bi bi' : Nat → Nat} {ce ce' : Nat → Int64} {d e sp K mb : Nat} (h1 : bi d = bi' e) (h2 : ce d = ce' e) : z_ce2 bi ce d sp K mb d = z_ce2 bi' ce' e sp K mb e := by
  unfold z_ce2
  rw [z_upLk, z_upLk, z_ce1_eq h1 h2, z_due_eq h1 h2]
theorem z_in1_eq {bi bi' : Nat → Nat} {ce ce' inc : Nat → Int64} {d e sp : Nat} (h1 : bi d = bi' e) (h2 : ce d = ce' e) : z_in1 bi ce inc d sp = z_in1 bi' ce' inc e sp := by
  unfold z_in1
  rw [h1, h2]
theorem z_in2_eq {bi bi' : Nat → Nat} {ce ce' inc : Nat → Int64} {d e sp K mb : Nat} (h1 : bi d = bi' e) (h2 : ce d = ce' e) : z_in2 bi ce inc d sp K mb = z_in2 bi' ce' inc e sp K mb := by
  unfold z_in2
  rw [z_in1_eq h1 h2, z_due_eq h1 h2]
/-- what class and reference have of a bill, so far -/
def zBq (k : Nat) (bd : Nat → Int64) (bi : Nat → Nat) (x y : zBs) : Prop := x.1 = y.1 ∧ (∀ j, j < 1000 → x.2.1 j = y.2.1 (1000 * k + j)) ∧ (∀ j, j < 1000 → x.2.2.1 j = y.2.2.1 (1000 * k + j)) ∧ x.2.2.2 = y.2.2.2 ∧ (∀ i, (i < 1000 * k ∨ 1000 * k + 1000 ≤ i) → y.2.1 i = bd i ∧ y.2.2.1 i = bi i) ∧ (∀ i, y.2.2.1 i < 4) ∧ ∀ d, x.2.2.1 d < 4
theorem zBq_step {k T d : Nat} {bd : Nat → Int64} {bi hg su K K' : Nat → Nat} {x y : zBs} (h : zBq k bd bi x y) (hd : d < 1000) (hh : hg d = su (1000 * k + d)) (h4 : hg d < 4) (hK : K d = K' d) : zBq k bd bi (zBst hg K (zBm T) x d) (zRst su K' T k y d) := by
  obtain ⟨h1, h2, h3, h5, h6, h7, h8⟩ := h
  have e1 := h3 d hd
  have e2 := h2 d hd
  have em : zBm T d = z_mb T d := rfl
  unfold zBst zRst
  refine ⟨?_, fun j hj => ?_, fun j hj => ?_, ?_, fun i hi => ?_, fun i => ?_, fun i => ?_⟩
  · show z_in2 x.2.2.1 x.2.1 x.1 d (hg d) (K d) (zBm T d) = z_in2 y.2.2.1 y.2.1 y.1 (1000 * k + d) (su (1000 * k + d)) (K' d) (z_mb T d)
    rw [hK, em, hh, h1]
    exact z_in2_eq e1 e2
  · show z_ce2 x.2.2.1 x.2.1 d (hg d) (K d) (zBm T d) j = z_ce2 y.2.2.1 y.2.1 (1000 * k + d) (su (1000 * k + d)) (K' d) (z_mb T d) (1000 * k + j)
    rw [hK, em, hh]
    by_cases q : j = d
    · subst q
      exact z_ce2_eq e1 e2
    · rw [z_ce2_at q, z_ce2_at (by omega), h2 j hj]
  · show va_up x.2.2.1 d (hg d) j = va_up y.2.2.1 (1000 * k + d) (su (1000 * k + d)) (1000 * k + j)
    by_cases q : j = d
    · subst q
      rw [va_upk, va_upk, hh]
    · rw [va_upj q, va_upj (by omega), h3 j hj]
  · show x.2.2.2 + (z_due x.2.2.1 x.2.1 d (hg d) (K d) (zBm T d) - z_bk x.2.2.1 x.2.1 d (hg d)) = y.2.2.2 + (z_due y.2.2.1 y.2.1 (1000 * k + d) (su (1000 * k + d)) (K' d) (z_mb T d) - z_bk y.2.2.1 y.2.1 (1000 * k + d) (su (1000 * k + d)))
    rw [hK, em, hh, h5, z_due_eq e1 e2, z_bk_eq e1 e2]
  · show z_ce2 y.2.2.1 y.2.1 (1000 * k + d) (su (1000 * k + d)) (K' d) (z_mb T d) i = bd i ∧ va_up y.2.2.1 (1000 * k + d) (su (1000 * k + d)) i = bi i
    rw [z_ce2_at (by omega), va_upj (by omega)]
    exact h6 i hi
  · show va_up y.2.2.1 (1000 * k + d) (su (1000 * k + d)) i < 4
    unfold va_up
    split
    · rw [← hh]; exact h4
    · exact h7 i
  · show va_up x.2.2.1 d (hg d) i < 4
    unfold va_up
    split
    · exact h4
    · exact h8 i
theorem z_un_eq {la pc kd d : Nat} {v v' g : Nat → Nat} (h : v d = v' d) : z_un la v pc kd g d = z_un la v' pc kd g d := by
  unfold z_un
  rw [h]
theorem zBq_all {np T k : Nat} {g kd fs ro pc : Nat → Nat} {cO mO : Nat → Int32} {cT bf su : Nat → Nat} {hq : Nat → Nat → Nat} {vo : Nat → Nat} {vq : Nat → Nat → Nat} {bi : Nat → Nat} {bd : Nat → Int64} {bq : Nat → Nat → Nat} {cq : Nat → Nat → Int64} {ac ic rc : Nat → Int64} {tf tb tr lo bl hi : Nat → Nat}
    (h2 : zI2 np T fs cO mO cT bf su hq) (h3 : zI3 np vo vq) (h4 : zI4 np bi bd bq cq ac ic rc) (h5 : zI5 T tf tb tr lo bl hi) (hk : k < np) (hT : T ≤ 900) : ∀ {m : Nat}, fs k + m ≤ T →
    zBq k bd bi (zBl (hq k) (zBK tf tb tr (vq k) g (hq k) (ro k) (pc k) (kd k)) (zBm T) (ic, cq k, bq k, lN 0) (fs k) m) (zRB su (zRK su lo bl hi ro vo pc kd g k) T k (rc, bd, bi, lN 0) (fs k) m)
  | 0, _ => by
    obtain ⟨a1, a2, a3, a4, a5⟩ := h4
    obtain ⟨b1, b2⟩ := a1 k hk
    exact ⟨a5, fun j hj => (b1 j hj).2, fun j hj => (b1 j hj).1, rfl, fun i _ => ⟨rfl, rfl⟩, a2, b2⟩
  | m + 1, hm => by
    have ih := zBq_all (g := g) (kd := kd) (ro := ro) (pc := pc) h2 h3 h4 h5 hk hT (m := m) (by omega)
    obtain ⟨-, -, c1, -, c2⟩ := h2.1 k hk
    have hd : fs k + m < 1000 := by omega
    have hs := c2 (fs k + m) hd
    refine zBq_step ih hd hs (c1 _) ?_
    show z_cost (z_un (ro k) (vq k) (pc k) (kd k) g (fs k + m)) (tf (hq k (fs k + m) * 1000 + (fs k + m))) (tb (hq k (fs k + m) * 1000 + (fs k + m))) (tr (hq k (fs k + m) * 1000 + (fs k + m))) = z_cost (z_un (ro k) (fun j8 => vo (1000 * k + j8)) (pc k) (kd k) g (fs k + m)) (lo (1000 * su (1000 * k + (fs k + m)) + (fs k + m))) (bl (1000 * su (1000 * k + (fs k + m)) + (fs k + m))) (hi (1000 * su (1000 * k + (fs k + m)) + (fs k + m)))
    rw [h5.1.1 _ (c1 _) _ (by omega), h5.2.1.1 _ (c1 _) _ (by omega), h5.2.2.1 _ (c1 _) _ (by omega), hs, z_un_eq (v' := fun j8 => vo (1000 * k + j8)) (h3.1 k hk _ hd)]
theorem zI4_bill {np k : Nat} {bi : Nat → Nat} {bd : Nat → Int64} {bq : Nat → Nat → Nat} {cq : Nat → Nat → Int64} {ac ic rc : Nat → Int64} {x y : zBs} {z : Int64} (h : zI4 np bi bd bq cq ac ic rc) (hk : k < np) (hq : zBq k bd bi x y) : zI4 np y.2.2.1 y.2.1 (zUp bq k x.2.2.1) (zUp cq k x.2.1) (vp_updL ac k z) x.1 y.1 := by
  obtain ⟨a1, a2, a3, a4, a5⟩ := h
  obtain ⟨h1, h2, h3, h5, h6, h7, h8⟩ := hq
  refine ⟨fun j hj => ?_, h7, fun i hi => ?_, fun j hj => by rw [z_upLj (by omega)]; exact a4 j hj, h1⟩
  · by_cases e : j = k
    · subst e
      rw [zUp_at, zUp_at]
      exact ⟨fun i hi => ⟨h3 i hi, h2 i hi⟩, h8⟩
    · rw [zUp_ne e, zUp_ne e]
      refine ⟨fun i hi => ?_, (a1 j hj).2⟩
      have := h6 (1000 * j + i) (by omega)
      rw [this.1, this.2]
      exact (a1 j hj).1 i hi
  · have := h6 i (by omega)
    rw [this.1, this.2]
    exact a3 i hi
theorem zI4_ac {np k : Nat} {bi : Nat → Nat} {bd : Nat → Int64} {bq : Nat → Nat → Nat} {cq : Nat → Nat → Int64} {ac ic rc : Nat → Int64} {z : Int64} (h : zI4 np bi bd bq cq ac ic rc) (hk : k < np) : zI4 np bi bd bq cq (vp_updL ac k z) ic rc :=
  ⟨h.1, h.2.1, h.2.2.1, fun j hj => by rw [z_upLj (by omega)]; exact h.2.2.2.1 j hj, h.2.2.2.2⟩
/-! codes -/
theorem zHas_up {cd : Nat → Nat} {nc co c : Nat} : zHas (va_up cd nc co) (nc + 1) c ↔ c = co ∨ zHas cd nc c := by
  constructor
  · rintro ⟨i, h1, h2⟩
    by_cases e : i = nc
    · subst e
      rw [va_upk] at h2
      exact Or.inl h2.symm
    · rw [va_upj e] at h2
      exact Or.inr ⟨i, by omega, h2⟩
  · rintro (h | ⟨i, h1, h2⟩)
    · exact ⟨nc, by omega, by rw [va_upk, h]⟩
    · exact ⟨i, by omega, by rw [va_upj (by omega)]; exact h2⟩
theorem zI7_credit {n nc co : Nat} {cd : Nat → Nat} {tk : Nat → Int64} (h : zI7 n nc cd tk) (hco : co < 2 ^ 31) (hv : co % 97 = co / 97 % 97) : zI7 (n + 1) (nc + 1) (va_up cd nc co) (zTs tk (co / 97)) := by
  obtain ⟨h1, h2, h3⟩ := h
  refine ⟨by omega, fun i => ?_, fun c hc hc2 => ?_⟩
  · unfold va_up
    split
    · exact hco
    · exact h2 i
  · rw [zHas_up, z_tk, h3 c hc hc2]
    have : c = co ↔ c / 97 = co / 97 := by omega
    rw [this]
theorem zI7_next {n nc : Nat} {cd : Nat → Nat} {tk : Nat → Int64} (h : zI7 n nc cd tk) : zI7 (n + 1) nc cd tk := ⟨by have := h.1; omega, h.2⟩
/-! settlement -/
theorem zVs_fw {np d : Nat} {X : Nat → zPt} {g w0 : Nat → Nat} : ∀ {m : Nat}, np ≤ m → zVs np X g d w0 m = zVs np X g d w0 np := by
  intro m hm
  induction m with
  | zero => rw [show np = 0 by omega]
  | succ m ih =>
    by_cases e : np = m + 1
    · rw [e]
    · rw [zVs, if_neg (by omega), ih (by omega)]
theorem zVs_vol {np d T : Nat} {g kd fs ro rd pc dn : Nat → Nat} {dO : Nat → Int32} {dt mu sh : Nat → Nat} {vq us : Nat → Nat → Nat} {cT : Nat → Nat} {cO mO : Nat → Int32} {hq : Nat → Nat → Nat} {ac : Nat → Int64} {cq : Nat → Nat → Int64} {bq : Nat → Nat → Nat} {bf su vo w4 : Nat → Nat}
    (h2 : zI2 np T fs cO mO cT bf su hq) (h3 : zI3 np vo vq) (hd : d < 1000) : ∀ {m : Nat}, m ≤ np → ∀ s, s < 4 →
    zVs np (zMk kd fs ro rd pc dn dO dt mu sh vq us cT cO mO hq ac cq bq) g d (z_fill w4 0 0 4) m s = z_sm (fun i => if fs i ≤ d ∧ su (1000 * i + d) = s then z_un (ro i) (fun j8 => vo (1000 * i + j8)) (pc i) (kd i) g d else 0) 0 m
  | 0, _, s, hs => by
    show z_fill w4 0 0 4 s = 0
    unfold z_fill
    rw [if_pos (by omega)]
  | m + 1, hm, s, hs => by
    have ih := fun s hs => zVs_vol (g := g) (kd := kd) (ro := ro) (rd := rd) (pc := pc) (dn := dn) (dO := dO) (dt := dt) (mu := mu) (sh := sh) (us := us) (ac := ac) (cq := cq) (bq := bq) (w4 := w4) h2 h3 hd (m := m) (by omega) s hs
    obtain ⟨-, -, c1, -, c2⟩ := h2.1 m (by omega)
    have e1 : su (1000 * m + d) = hq m d := (c2 d hd).symm
    have e2 : z_un (ro m) (vq m) (pc m) (kd m) g d = z_un (ro m) (fun j8 => vo (1000 * m + j8)) (pc m) (kd m) g d := z_un_eq (h3.1 m (by omega) d hd)
    rw [zVs, z_sm, Nat.zero_add]
    by_cases q : fs m ≤ d
    · rw [if_pos ⟨by omega, q⟩]
      show va_up _ (hq m d) (_ + z_un (ro m) (vq m) (pc m) (kd m) g d) s = _
      by_cases z : s = hq m d
      · subst z
        rw [va_upk, ih _ hs, if_pos ⟨q, e1⟩, e2]
      · rw [va_upj z, ih s hs, if_neg (fun y => z (by rw [← y.2, e1])), Nat.add_zero]
    · rw [if_neg (fun y => q y.2), if_neg (fun y => q y.1), ih s hs, Nat.add_zero]
theorem zVs_eq {np d T : Nat} {g kd fs ro rd pc dn : Nat → Nat} {dO : Nat → Int32} {dt mu sh : Nat → Nat} {vq us : Nat → Nat → Nat} {cT : Nat → Nat} {cO mO : Nat → Int32} {hq : Nat → Nat → Nat} {ac : Nat → Int64} {cq : Nat → Nat → Int64} {bq : Nat → Nat → Nat} {bf su vo w4 : Nat → Nat}
    (h2 : zI2 np T fs cO mO cT bf su hq) (h3 : zI3 np vo vq) (hd : d < 1000) (hnp : np ≤ 8) (s : Nat) (hs : s < 4) :
    zVs np (zMk kd fs ro rd pc dn dO dt mu sh vq us cT cO mO hq ac cq bq) g d (z_fill w4 0 0 4) 8 s = zVol fs su ro vo pc kd g np d s := by
  rw [zVs_fw hnp]
  exact zVs_vol h2 h3 hd (Nat.le_refl _) s hs
theorem zI6_settle {rs : Nat → Int64} {sv : Nat → Int32} {fl w V : Nat → Nat} {d : Nat} (h : zI6 rs sv) (hd : d < 1000) (hw : ∀ s, s < 4 → w s = V s) :
    zI6 (zSt fl w rs d) (zSv sv (fun s9 => lN (V s9) + z_part (fl d) (z_sm V 0 4) (z_pt (z_abs (fl d) (z_sm V 0 4)) V 0 4 s9)) d 4) := by
  have hs : z_sm w 0 4 = z_sm V 0 4 := z_sm_cong (fun i hi => by rw [Nat.zero_add]; exact hw i hi)
  intro e he s hs4
  show _ = (z_res rs (fun s9 => lN (w s9) + z_part (fl d) (z_sm w 0 4) (z_pt (z_abs (fl d) (z_sm w 0 4)) w 0 4 s9)) d 4 (s * 1000 + e)).toInt32
  unfold zSv z_res
  by_cases q : e = d
  · subst q
    rw [if_pos (by omega), if_pos (by omega), show 4 * e + s - 4 * e = s by omega, show (s * 1000 + e) / 1000 = s by omega]
    show (lN (V s) + z_part (fl e) (z_sm V 0 4) (z_pt (z_abs (fl e) (z_sm V 0 4)) V 0 4 s)).toInt32 = (lN (w s) + z_part (fl e) (z_sm w 0 4) (z_pt (z_abs (fl e) (z_sm w 0 4)) w 0 4 s)).toInt32
    rw [hs, hw s hs4, z_pt_cong (w := w) (w' := V) (fun i hi => by rw [Nat.zero_add]; exact hw i hi) (Nat.zero_le _) (by omega)]
  · rw [if_neg (by omega), if_neg (by omega)]
    exact h e he s hs4
theorem zI0_runs {np T d : Nat} {pt : Nat → Option Nat} {pa : Nat → Nat → Nat} {g fl ru : Nat → Nat} (h : zI0 np T pt pa g fl ru) (hr : ru d < 3) : zI0 np T pt pa g fl (va_up ru d (ru d + 1)) := by
  obtain ⟨a1, a2, a3, a4, a5, a6⟩ := h
  refine ⟨a1, a2, a3, a4, fun i => ?_, a6⟩
  unfold va_up
  split
  · omega
  · exact a5 i
theorem zI0_inflow {np T d u : Nat} {pt : Nat → Option Nat} {pa : Nat → Nat → Nat} {g fl ru : Nat → Nat} (h : zI0 np T pt pa g fl ru) (hu : u ≤ 1000000000) : zI0 np T pt pa g (va_up fl d u) ru := by
  obtain ⟨a1, a2, a3, a4, a5, a6⟩ := h
  refine ⟨a1, a2, a3, fun i => ?_, a5, a6⟩
  unfold va_up
  split
  · exact hu
  · exact a4 i
def zU2 (f : Nat → Nat) (q : Nat) : Nat → Nat
  | 2 => q
  | n => f n
theorem zI0_meter {np T k q : Nat} {pt : Nat → Option Nat} {pa : Nat → Nat → Nat} {g fl ru : Nat → Nat} (h : zI0 np T pt pa g fl ru) : zI0 np T pt (zUp pa k (zU2 (pa k) q)) g fl ru := by
  obtain ⟨a1, a2, a3, a4, a5, a6⟩ := h
  refine ⟨a1, a2, a3, a4, a5, fun j => ?_⟩
  by_cases e : j = k
  · subst e
    rw [zUp_at]
    exact a6 j
  · rw [zUp_ne e]
    exact a6 j
