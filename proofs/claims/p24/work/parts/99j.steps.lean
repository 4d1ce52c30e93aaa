/-! what holds between the steps of a house -/
def zJ (σ : zHo) (cc ff uu : Nat → Int32) (cn j : Nat) : Prop := zOk σ ∧ cc 0 = nI (s_np σ) ∧ cc 1 = nI (s_T σ) ∧ cc 2 = nI cn ∧ cn ≤ 999 * j ∧ s_T σ ≤ 9 * j ∧ zSum σ cn ∧ (∀ k, k < s_np σ → ff k = nI (q_fi (s_P σ k))) ∧ zUk σ uu
section ZJJ
variable {σ s9 : zHo} {cc ff uu u2 : Nat → Int32} {cn j : Nat}
theorem zJ_kp (h : zJ σ cc ff uu cn j) (hk : zKp σ s9) (hu : zUk s9 u2) : zJ s9 cc ff u2 cn (j + 1) := by
  obtain ⟨h1, h2, h3, h4, h5, h6, h7, h8, h9⟩ := h
  refine ⟨hk.1, by rw [hk.2.1]; exact h2, by rw [hk.2.2.1]; exact h3, h4, by omega, by rw [hk.2.2.1]; omega, zSum_kp h7 hk, fun k hk9 => ?_, hu⟩
  rw [(hk.2.2.2.2 k).1]
  exact h8 k (by rw [← hk.2.1]; exact hk9)
theorem zJ_ch (h : zJ σ cc ff uu cn j) (hk : zKp σ s9) (hu : ∀ i, zUv (s_P s9 i) = zUv (s_P σ i)) : zJ s9 cc ff uu cn (j + 1) := zJ_kp h hk (zUk_same h.2.2.2.2.2.2.2.2 hk.2.1 hu)
theorem zKp_lk (h : zLk σ s9) : zKp σ s9 := ⟨h.1, h.2.1, h.2.2.1, h.2.2.2.2.1, fun j => by rw [h.2.2.2.2.2]; exact ⟨rfl, rfl⟩⟩
theorem zJ_lk (h : zJ σ cc ff uu cn j) (hk : zLk σ s9) : zJ s9 cc ff uu cn (j + 1) := zJ_ch h (zKp_lk hk) (fun i => by rw [hk.2.2.2.2.2])
theorem zJ_same (h : zJ σ cc ff uu cn j) (hk : zSame σ s9) : zJ s9 cc ff uu cn j := by
  obtain ⟨h1, h2, h3, h4, h5, h6, h7, h8, h9⟩ := h
  obtain ⟨k1, k2, k3, k4, k5, k6⟩ := hk
  refine ⟨k1, by rw [k2]; exact h2, by rw [k3]; exact h3, h4, h5, by rw [k3]; exact h6, ?_, fun k hk9 => by rw [k6]; exact h8 k (by rw [← k2]; exact hk9), zUk_same h9 k2 (fun i => by rw [k6])⟩
  unfold zSum
  rw [k5, k2, k6]
  exact h7
theorem zJ_bp (h : zJ σ cc ff uu cn j) {u1 : Nat → Int32} (hk : zBp σ cc cn u1 s9) : ∃ c9, zJ s9 u1 ff uu c9 (j + 1) := by
  obtain ⟨h1, h2, h3, h4, h5, h6, h7, h8, h9⟩ := h
  obtain ⟨k1, k2, k3, k4, ⟨c9, k5, k6, k7⟩, k8, k9⟩ := hk
  refine ⟨c9, k1, by rw [k8, k2]; exact h2, by rw [k9, k3]; exact h3, k5, by omega, by rw [k3]; omega, k7, fun k hk9 => ?_, zUk_same h9 k2 (fun i => (k4 i).1)⟩
  rw [(k4 k).2]
  exact h8 k (by rw [← k2]; exact hk9)
theorem zPk_g {T x1 m t : Nat} {g : Nat → Nat} {S : zPt} (h : zPk T g S) (hx : T ≤ x1) : zPk T (z_fill g t x1 m) S := by
  obtain ⟨a1, a2, a3, a4, a5, a6, a7, a8, a9⟩ := h
  refine ⟨a1, a2, a3, a4, a5, a6, a7, z_con_w a8 (fun d hd => ?_), a9⟩
  show z_wt (q_kd S) (g d) = z_wt (q_kd S) (z_fill g t x1 m d)
  unfold z_fill
  rw [if_neg (by omega)]
theorem zJ_weather {x1 m t : Nat} (h : zJ σ cc ff uu cn j) (hx : s_T σ ≤ x1) (ht : t ≤ 30) (he : s9 = (s_nc σ, s_np σ, s_T σ, s_pt σ, z_fill (s_g σ) t x1 m, s_w9 σ, s_p9 σ, s_q9 σ, s_tf σ, s_tb σ, s_tr σ, s_ic σ, s_fl σ, s_ru σ, s_rs σ, s_w4 σ, s_p4 σ, s_q4 σ, s_cd σ, s_P σ, s_pa σ)) : zJ s9 cc ff uu cn j := by
  subst he
  obtain ⟨⟨g1, g2, g3, g4, g5, g6, g7, g8, g9, g10⟩, h2, h3, h4, h5, h6, h7, h8, h9⟩ := h
  exact ⟨⟨g1, g2, g3, z_fill_le g4 ht, g5, g6, g7, g8, g9, fun k hk => zPk_g (g10 k hk) hx⟩, h2, h3, h4, h5, h6, h7, h8, h9⟩
theorem zJ_tariff {sp x y z : Nat} (h : zJ σ cc ff uu cn j) (hy : y ≤ 1000) {f9 r9 : Nat → Nat} (he : s9 = (s_nc σ, s_np σ, s_T σ, s_pt σ, s_g σ, s_w9 σ, s_p9 σ, s_q9 σ, f9, va_up (s_tb σ) (sp * 1000 + s_T σ) y, r9, s_ic σ, s_fl σ, s_ru σ, s_rs σ, s_w4 σ, s_p4 σ, s_q4 σ, s_cd σ, s_P σ, s_pa σ)) : zJ s9 cc ff uu cn (j + 1) := by
  subst he
  obtain ⟨⟨g1, g2, g3, g4, g5, g6, g7, g8, g9, g10⟩, h2, h3, h4, h5, h6, h7, h8, h9⟩ := h
  refine ⟨⟨g1, g2, g3, g4, g5, g6, fun i => ?_, g8, g9, g10⟩, h2, h3, h4, by omega, Nat.le_trans h6 (by omega), h7, h8, h9⟩
  show va_up (s_tb σ) (sp * 1000 + s_T σ) y i ≤ 1000
  by_cases e : i = sp * 1000 + s_T σ
  · rw [e, va_upk]
    exact hy
  · rw [va_upj e]
    exact g7 i
theorem zJ_up (h : zJ σ cc ff uu cn j) : zJ σ cc ff uu cn (j + 1) := by
  obtain ⟨h1, h2, h3, h4, h5, h6, h7⟩ := h
  exact ⟨h1, h2, h3, h4, by omega, by omega, h7⟩
theorem zSup_pb {T : Nat} {S : zPt} (h : zSup T S) (hT : T < 900) (hf : q_fi S ≤ T) : zSup (T + 1) (zPb S (T + 1)) := by
  obtain ⟨h1, h2, h3, h4⟩ := h
  have hh : ∀ d, q_hg (zPb S (T + 1)) d = va_up (q_hg S) (T + 1) (if nI (T + 1) = q_td S then q_ts S else q_hg S T) d := fun d => rfl
  refine ⟨fun d => ?_, h2, ?_, ?_⟩
  · rw [hh]
    by_cases e : d = T + 1
    · rw [e, va_upk]
      split
      · exact h2
      · exact h1 _
    · rw [va_upj e]
      exact h1 d
  · show (if nI (T + 1) = q_td S then (-1 : Int32) else q_td S) = -1 ∨ ∃ dq, (if nI (T + 1) = q_td S then (-1 : Int32) else q_td S) = nI dq ∧ T + 1 < dq ∧ dq < 1000 ∧ q_ts S ≠ q_hg (zPb S (T + 1)) (T + 1)
    by_cases c : nI (T + 1) = q_td S
    · rw [if_pos c]
      exact Or.inl rfl
    · rw [if_neg c]
      rcases h3 with q | ⟨dq, q1, q2, q3, q4⟩
      · exact Or.inl q
      · refine Or.inr ⟨dq, q1, ?_, q3, ?_⟩
        · have : ¬ dq = T + 1 := fun e => c (by rw [q1, e])
          omega
        · rw [hh, va_upk, if_neg c]
          exact q4
  · show (if nI (T + 1) = q_td S then nI (T + 1) else q_md S) = -1 ∨ ∃ dq, (if nI (T + 1) = q_td S then nI (T + 1) else q_md S) = nI dq ∧ q_fi S < dq ∧ dq ≤ T + 1 ∧ q_hg (zPb S (T + 1)) (dq - 1) ≠ q_hg (zPb S (T + 1)) (T + 1)
    by_cases c : nI (T + 1) = q_td S
    · rw [if_pos c]
      refine Or.inr ⟨T + 1, rfl, by omega, Nat.le_refl _, ?_⟩
      rw [hh, hh, va_upk, if_pos c, va_upj (by omega), Nat.add_sub_cancel]
      rcases h3 with q | ⟨dq, q1, q2, q3, q4⟩
      · exact absurd (c.trans q) (z_nm1 (by omega))
      · exact fun q => q4 (Eq.symm q)
    · rw [if_neg c]
      rcases h4 with q | ⟨dq, q1, q2, q3, q4⟩
      · exact Or.inl q
      · refine Or.inr ⟨dq, q1, q2, by omega, ?_⟩
        rw [hh, hh, va_upk, if_neg c, va_upj (by omega)]
        exact q4
theorem zPk_pb {T : Nat} {g : Nat → Nat} {S : zPt} (h : zPk T g S) (hT : T < 900) : zPk (T + 1) g (zPb S (T + 1)) := by
  have hf := zPk_con h
  obtain ⟨a1, a2, a3, a4, a5, a6, a7, a8, a9, a10, a11, a12⟩ := h
  refine ⟨a1, a2, a3, a4, a5, Nat.le_succ_of_le a6, a7, a8, ?_, a10, zSup_pb a11 hT (Nat.le_trans hf a6), a12⟩
  rcases a9 with q | ⟨dq, q1, q2, q3⟩
  · exact Or.inl q
  · exact Or.inr ⟨dq, q1, by omega, q3⟩
theorem zPk_pd {T : Nat} {g : Nat → Nat} {S : zPt} (h : zPk T g S) : ∀ n, T + n ≤ 900 → zPk (T + n) g (zPd S T n) ∧ zUv (zPd S T n) = zUv S ∧ q_fi (zPd S T n) = q_fi S ∧ q_ow (zPd S T n) = q_ow S
  | 0, _ => ⟨h, rfl, rfl, rfl⟩
  | n + 1, hn => by
    obtain ⟨i1, i2, i3, i4⟩ := zPk_pd h n (by omega)
    refine ⟨zPk_pb (T := T + n) i1 (by omega), ?_, i3, i4⟩
    exact (zUv_ext rfl rfl rfl rfl rfl rfl : zUv (zPb (zPd S T n) (T + n + 1)) = zUv (zPd S T n)).trans i2
theorem zCps_le {f : Nat → Nat} {T c : Nat} (h : ∀ i, f i ≤ c) : ∀ n i, zCps f T n i ≤ c
  | 0, i => h i
  | n + 1, i => by
    show z_cp (zCps f T n) (T + n + 1) 4 i ≤ c
    unfold z_cp
    split
    · exact zCps_le h n _
    · exact zCps_le h n _
theorem zJ_pass {n : Nat} (h : zJ σ cc ff uu cn j) (hn : n ≤ 9) (hT : s_T σ + n ≤ 900) (he : s9 = (s_nc σ, s_np σ, s_T σ + n, s_pt σ, s_g σ, s_w9 σ, s_p9 σ, s_q9 σ, zCps (s_tf σ) (s_T σ) n, zCps (s_tb σ) (s_T σ) n, zCps (s_tr σ) (s_T σ) n, s_ic σ, s_fl σ, s_ru σ, s_rs σ, s_w4 σ, s_p4 σ, s_q4 σ, s_cd σ, (fun j8 => zPd (s_P σ j8) (s_T σ) n), s_pa σ)) : zJ s9 (upd cc 1 (nI (s_T σ + n))) ff uu cn (j + 1) := by
  obtain ⟨⟨g1, g2, g3, g4, g5, g6, g7, g8, g9, g10⟩, h2, h3, h4, h5, h6, h7, h8, h9⟩ := h
  have hp : ∀ k, k < s_np σ → _ := fun k hk => zPk_pd (g10 k hk) n hT
  have e1 : s_np s9 = s_np σ := by rw [he]
  have e2 : s_P s9 = fun j8 => zPd (s_P σ j8) (s_T σ) n := by rw [he]
  have e3 : s_T s9 = s_T σ + n := by rw [he]
  have e4 : s_ic s9 = s_ic σ := by rw [he]
  refine ⟨?_, ?_, ?_, ?_, by omega, by rw [e3]; omega, ?_, fun k hk => ?_, fun k hk i hi => ?_⟩
  · rw [he]
    exact ⟨hT, g2, g3, g4, g5, g6, fun i => zCps_le g7 n i, g8, g9, fun k hk => (hp k hk).1⟩
  · rw [z_updj (by decide), e1]
    exact h2
  · rw [z_updk, e3]
  · rw [z_updj (by decide)]
    exact h4
  · unfold zSum
    rw [e4, e1, e2, zS8_cong (f := fun j8 => q_ow (zPd (s_P σ j8) (s_T σ) n)) (g := fun j8 => q_ow (s_P σ j8)) (fun k hk => (hp k hk).2.2.2)]
    exact h7
  · rw [e2]
    show ff k = nI (q_fi (zPd (s_P σ k) (s_T σ) n))
    rw [(hp k (by rw [← e1]; exact hk)).2.2.1]
    exact h8 k (by rw [← e1]; exact hk)
  · rw [e2]
    show uu (6 * k + i) = zUv (zPd (s_P σ k) (s_T σ) n) i
    rw [(hp k (by rw [← e1]; exact hk)).2.1]
    exact h9 k (by rw [← e1]; exact hk) i hi
theorem zPk_pn {T kd dg mv sh sp : Nat} {g : Nat → Nat} (h1 : kd < 3) (h2 : 3 ≤ dg) (h3 : dg ≤ 6) (h4 : 1 ≤ mv) (h5 : mv ≤ 10) (h6 : sh < 10 ^ dg) (h7 : sp < 4) : zPk T g (zPn kd T (10 ^ dg) mv sh sp) := by
  refine ⟨h1, ⟨dg, h2, h3, rfl⟩, h4, h5, h6, Nat.le_refl _, (by decide : 1000 ≤ 2000000000), z_con_0, Or.inl rfl, fun _ => Nat.zero_le _, ⟨fun d => ?_, (by decide : 0 < 4), Or.inl rfl, Or.inl rfl⟩, fun _ => (by decide : 0 < 4)⟩
  show va_up (fun _ => 0) T sp d < 4
  by_cases e : d = T
  · rw [e, va_upk]
    exact h7
  · rw [va_upj e]
    exact (by decide : 0 < 4)
def zNw (uu : Nat → Int32) (n T sh dg mv : Nat) : Nat → Int32 := upd (upd (upd (upd (upd (upd uu (6 * n) (nI T)) (6 * n + 1) (nI sh)) (6 * n + 2) (nI dg)) (6 * n + 3) (nI mv)) (6 * n + 4) (nI 1)) (6 * n + 5) (-1)
theorem zUv_pn {kd T dg mv sh sp : Nat} : zUv (zPn kd T (10 ^ dg) mv sh sp) 0 = nI T ∧ zUv (zPn kd T (10 ^ dg) mv sh sp) 1 = nI sh ∧ zUv (zPn kd T (10 ^ dg) mv sh sp) 2 = nI (zDg (10 ^ dg)) ∧ zUv (zPn kd T (10 ^ dg) mv sh sp) 3 = nI mv ∧ zUv (zPn kd T (10 ^ dg) mv sh sp) 4 = nI 1 ∧ zUv (zPn kd T (10 ^ dg) mv sh sp) 5 = if (-1 : Int32) ≤ nI T then -1 else -1 := ⟨rfl, rfl, rfl, rfl, rfl, rfl⟩
theorem zJ_point {kd dg mv sh sp : Nat} {u : Nat → Nat} (h : zJ σ cc ff uu cn j) (hn : s_np σ < 8) (h1 : kd < 3) (h2 : 3 ≤ dg) (h3 : dg ≤ 6) (h4 : 1 ≤ mv) (h5 : mv ≤ 10) (h6 : sh < 10 ^ dg) (h7 : sp < 4) (he : s9 = (s_nc σ, s_np σ + 1, s_T σ, va_up (s_pt σ) (s_np σ) (some (u 0)), s_g σ, s_w9 σ, s_p9 σ, s_q9 σ, s_tf σ, s_tb σ, s_tr σ, s_ic σ, s_fl σ, s_ru σ, s_rs σ, s_w4 σ, s_p4 σ, s_q4 σ, s_cd σ, zUp (s_P σ) (s_np σ) (zPn kd (s_T σ) (10 ^ dg) mv sh sp), zUp (s_pa σ) (s_np σ) u)) : zJ s9 (upd cc 0 (nI (s_np σ + 1))) (upd ff (s_np σ) (nI (s_T σ))) (zNw uu (s_np σ) (s_T σ) sh dg mv) cn (j + 1) := by
  obtain ⟨⟨g1, g2, g3, g4, g5, g6, g7, g8, g9, g10⟩, k2, k3, k4, k5, k6, k7, k8, k9⟩ := h
  have e1 : s_np s9 = s_np σ + 1 := by rw [he]
  have e2 : s_P s9 = zUp (s_P σ) (s_np σ) (zPn kd (s_T σ) (10 ^ dg) mv sh sp) := by rw [he]
  have e3 : s_T s9 = s_T σ := by rw [he]
  have e4 : s_ic s9 = s_ic σ := by rw [he]
  have hpn := zPk_pn (T := s_T σ) (g := s_g σ) h1 h2 h3 h4 h5 h6 h7
  refine ⟨?_, ?_, ?_, ?_, by omega, by rw [e3]; omega, ?_, fun k hk => ?_, fun k hk i hi => ?_⟩
  · rw [he]
    refine ⟨g1, hn, fun k => ?_, g4, g5, g6, g7, g8, g9, fun k hk => ?_⟩
    · show va_up (s_pt σ) (s_np σ) (some (u 0)) k = if k < s_np σ + 1 then some (zUp (s_pa σ) (s_np σ) u k 0) else none
      by_cases e : k = s_np σ
      · rw [e, va_upk, zUp_at, if_pos (Nat.lt_succ_self _)]
      · rw [va_upj e, zUp_ne e, g3 k]
        by_cases c : k < s_np σ
        · rw [if_pos c, if_pos (by omega)]
        · rw [if_neg c, if_neg (by omega)]
    · show zPk (s_T σ) (s_g σ) (zUp (s_P σ) (s_np σ) (zPn kd (s_T σ) (10 ^ dg) mv sh sp) k)
      by_cases e : k = s_np σ
      · rw [e, zUp_at]
        exact hpn
      · rw [zUp_ne e]
        have hk9 : k < s_np σ + 1 := hk
        exact g10 k (by omega)
  · rw [z_updk, e1]
  · rw [z_updj (by decide), e3]
    exact k3
  · rw [z_updj (by decide)]
    exact k4
  · unfold zSum
    rw [e4, e1, e2]
    show zS8 (s_ic σ) 4 = lN cn + (zS8 (fun j8 => q_ow (zUp (s_P σ) (s_np σ) (zPn kd (s_T σ) (10 ^ dg) mv sh sp) j8)) (s_np σ) + q_ow (zUp (s_P σ) (s_np σ) (zPn kd (s_T σ) (10 ^ dg) mv sh sp) (s_np σ)))
    rw [zUp_at, zS8_cong (f := fun j8 => q_ow (zUp (s_P σ) (s_np σ) (zPn kd (s_T σ) (10 ^ dg) mv sh sp) j8)) (g := fun j8 => q_ow (s_P σ j8)) (fun k hk => by
      show q_ow (zUp (s_P σ) (s_np σ) _ k) = q_ow (s_P σ k)
      rw [zUp_ne (by omega)])]
    have k7' : zS8 (s_ic σ) 4 = lN cn + zS8 (fun j8 => q_ow (s_P σ j8)) (s_np σ) := k7
    show zS8 (s_ic σ) 4 = lN cn + (zS8 (fun j8 => q_ow (s_P σ j8)) (s_np σ) + lN 0)
    rw [k7', z_lN0]
    grind
  · rw [e2]
    by_cases e : k = s_np σ
    · rw [e, zUp_at, z_updk]
    · rw [zUp_ne e, z_updj e]
      exact k8 k (by omega)
  · rw [e2]
    unfold zNw
    by_cases e : k = s_np σ
    · rw [e, zUp_at]
      obtain ⟨t0, t1, t2, t3, t4, t5⟩ := zUv_pn (kd := kd) (T := s_T σ) (dg := dg) (mv := mv) (sh := sh) (sp := sp)
      rcases (show i = 0 ∨ i = 1 ∨ i = 2 ∨ i = 3 ∨ i = 4 ∨ i = 5 by omega) with rfl | rfl | rfl | rfl | rfl | rfl
      · rw [t0, z_updj (by omega), z_updj (by omega), z_updj (by omega), z_updj (by omega), z_updj (by omega)]
        exact z_updk
      · rw [t1, z_updj (by omega), z_updj (by omega), z_updj (by omega), z_updj (by omega), z_updk]
      · rw [t2, z_updj (by omega), z_updj (by omega), z_updj (by omega), z_updk, zDg_10 h2 h3]
      · rw [t3, z_updj (by omega), z_updj (by omega), z_updk]
      · rw [t4, z_updj (by omega), z_updk]
      · rw [t5, z_updk]
        split <;> rfl
    · rw [zUp_ne e, z_updj (by omega), z_updj (by omega), z_updj (by omega), z_updj (by omega), z_updj (by omega), z_updj (by omega)]
      exact k9 k (by omega) i hi
end ZJJ
/-- a house that is new -/
def zS0 : zHo := (0, 0, 0, fun _ => none, z_fill (fun _ => 0) 10 0 1000, fun _ => 0, fun _ => 0, fun _ => 0, fun _ => 0, fun _ => 0, fun _ => 0, fun j9 => lN ((fun _ => 0) j9), fun _ => 0, fun _ => 0, fun j9 => lN ((fun _ => 0) j9), fun _ => 0, fun _ => 0, fun _ => 0, fun _ => 0, fun _ => zPn 0 0 1000 1 0 0, fun _ _ => 0)
theorem zJ_0 : zJ zS0 (fun j9 => nI ((fun _ => 0) j9)) (fun j9 => nI ((fun _ => 0) j9)) (fun j9 => nI ((fun _ => 0) j9)) 0 0 := by
  refine ⟨⟨by decide, by decide, fun k => by show none = if k < 0 then _ else none; rw [if_neg (Nat.not_lt_zero _)], fun d => z_fill_le (fun _ => Nat.zero_le _) (by decide) d, fun _ => Nat.zero_le _, fun _ => Nat.zero_le _, fun _ => Nat.zero_le _, by decide, fun _ => (by decide : 0 < 2 ^ 31), fun k hk => absurd hk (Nat.not_lt_zero _)⟩, rfl, rfl, rfl, by decide, by decide, ?_, fun k hk => absurd hk (Nat.not_lt_zero _), fun k hk => absurd hk (Nat.not_lt_zero _)⟩
  show (((lN 0 + lN 0) + lN 0) + lN 0) + lN 0 = lN 0 + lN 0
  decide
