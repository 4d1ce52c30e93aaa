/-! the law's own rows of a house's points; what readings spread -/
def zDg (sz : Nat) : Nat := if sz = 1000 then 3 else if sz = 10000 then 4 else if sz = 100000 then 5 else 6
theorem zDg_10 {dg : Nat} (h1 : 3 ≤ dg) (h2 : dg ≤ 6) : zDg (10 ^ dg) = dg := by
  rcases (show dg = 3 ∨ dg = 4 ∨ dg = 5 ∨ dg = 6 by omega) with rfl | rfl | rfl | rfl <;> decide +kernel
theorem zDg_p {T : Nat} {g : Nat → Nat} {S : zPt} (h : zPk T g S) : 3 ≤ zDg (q_sz S) ∧ zDg (q_sz S) ≤ 6 ∧ 10 ^ zDg (q_sz S) = q_sz S := by
  obtain ⟨-, ⟨dg, h1, h2, h3⟩, -⟩ := h
  rw [h3, zDg_10 h1 h2]
  exact ⟨h1, h2, rfl⟩
def zUv (S : zPt) : Nat → Int32
  | 0 => nI (q_la S)
  | 1 => nI (q_sh S)
  | 2 => nI (zDg (q_sz S))
  | 3 => nI (q_mu S)
  | 4 => nI (q_tk S)
  | _ => if q_dd S ≤ nI (q_la S) then -1 else q_dd S
def zUk (σ : zHo) (uu : Nat → Int32) : Prop := ∀ k, k < s_np σ → ∀ j, j < 6 → uu (6 * k + j) = zUv (s_P σ k) j
def zKp (σ s9 : zHo) : Prop := zOk s9 ∧ s_np s9 = s_np σ ∧ s_T s9 = s_T σ ∧ s_ic s9 = s_ic σ ∧ ∀ j, q_fi (s_P s9 j) = q_fi (s_P σ j) ∧ q_ow (s_P s9 j) = q_ow (s_P σ j)
theorem zKp_rf {σ : zHo} (h : zOk σ) : zKp σ σ := ⟨h, rfl, rfl, rfl, fun _ => ⟨rfl, rfl⟩⟩
theorem zAt_k {σ s9 : zHo} {k : Nat} {S : zPt} (h : zAt k σ s9 S) : s_P s9 k = S := by rw [h.2.2.2.2.2, zUp_at]
theorem zKp_at {σ s9 : zHo} {k : Nat} {S : zPt} (h : zAt k σ s9 S) (h1 : q_fi S = q_fi (s_P σ k)) (h2 : q_ow S = q_ow (s_P σ k)) : zKp σ s9 := by
  refine ⟨h.1, h.2.1, h.2.2.1, h.2.2.2.2.1, fun j => ?_⟩
  rw [h.2.2.2.2.2]
  by_cases e : j = k
  · subst e
    rw [zUp_at]
    exact ⟨h1, h2⟩
  · rw [zUp_ne e]
    exact ⟨rfl, rfl⟩
theorem zUk_at {σ s9 : zHo} {k : Nat} {S : zPt} {uu u2 : Nat → Int32} (hu : zUk σ uu) (h : zAt k σ s9 S) (h1 : ∀ j, j < 6 → u2 (6 * k + j) = zUv S j) (h2 : ∀ i, (i < 6 * k ∨ 6 * k + 6 ≤ i) → u2 i = uu i) : zUk s9 u2 := by
  intro j hj i hi
  rw [h.2.2.2.2.2]
  by_cases e : j = k
  · subst e
    rw [zUp_at]
    exact h1 i hi
  · rw [zUp_ne e, h2 (6 * j + i) (by omega)]
    exact hu j (by rw [← h.2.1]; exact hj) i hi
theorem zUk_same {σ s9 : zHo} {uu : Nat → Int32} (hu : zUk σ uu) (hn : s_np s9 = s_np σ) (h : ∀ j, zUv (s_P s9 j) = zUv (s_P σ j)) : zUk s9 uu := fun k hk j hj => by
  rw [h]
  exact hu k (by rw [← hn]; exact hk) j hj
theorem z_use_mod {sz mu sh nb : Nat} (h1 : sh < sz) (h2 : nb < sz) : (nb + sz - sh) % sz * mu = z_use sz mu sh nb := by
  unfold z_use
  by_cases h : nb < sh
  · rw [if_pos h, Nat.mod_eq_of_lt (by omega)]
  · rw [if_neg h, show nb + sz - sh = (nb - sh) + sz by omega, Nat.add_mod_right, Nat.mod_eq_of_lt (by omega)]
theorem z_raw9 {nb sh sz : Nat} (h : sh ≤ nb + sz) : nI nb - nI sh + nI sz = nI (nb + sz - sh) := by
  have h1 : nI (nb + sz - sh) + nI sh = nI nb + nI sz := by rw [nI_add, nI_add, Nat.sub_add_cancel h]
  grind
theorem z_sm5 {kd a n : Nat} {g : Nat → Nat} : n * 5 ≤ z_sm (fun j8 => z_wt kd (g j8)) a n := z_sm_ge (fun _ _ => z_wt_ge)
theorem z_sm95 {kd a n : Nat} {g : Nat → Nat} (hg : ∀ d, g d ≤ 30) : z_sm (fun j8 => z_wt kd (g j8)) a n ≤ n * 95 := z_sm_le (fun _ _ => z_wt_le (hg _))
theorem z_take_sum {S : zPt} {g : Nat → Nat} {d nb : Nat} (h : q_la S < d) : z_sm (q_vo (zTake S g d nb)) (q_la S) (d - q_la S) = z_use (q_sz S) (q_mu S) (q_sh S) nb := by
  have h5 := z_sm5 (kd := q_kd S) (a := q_la S) (n := d - q_la S) (g := g)
  exact z_over_sum.trans (z_pt_sum (by omega))
theorem z_use_div {sz mu sh nb : Nat} (h1 : sh < sz) (h2 : nb < sz) (h3 : 1 ≤ mu) : (sh + z_use sz mu sh nb / mu) % sz = nb := by
  rw [← z_use_mod h1 h2, Nat.mul_div_cancel _ (by omega)]
  by_cases h : nb < sh
  · rw [Nat.mod_eq_of_lt (show nb + sz - sh < sz by omega), show sh + (nb + sz - sh) = nb + sz by omega, Nat.add_mod_right, Nat.mod_eq_of_lt h2]
  · rw [show nb + sz - sh = (nb - sh) + sz by omega, Nat.add_mod_right, Nat.mod_eq_of_lt (show nb - sh < sz by omega), show sh + (nb - sh) = nb by omega, Nat.mod_eq_of_lt h2]
theorem z_n8 {n : Nat} (hn : n < 2 ^ 31) : ¬ nI n = -70008 := fun q => by
  have h := congrArg Int32.toInt q
  rw [nI_toInt hn] at h
  have h2 : (-70008 : Int32).toInt = -70008 := by decide
  omega
theorem z_n8b {n : Nat} (hn : n < 2 ^ 31) : ¬ -70008 = nI n := fun q => z_n8 hn (Eq.symm q)
theorem z_nIj {a b : Nat} (h : nI a = nI b) (ha : a < 2 ^ 31) (hb : b < 2 ^ 31) : a = b := (nI_eq ha hb).mp h
theorem zUv_at {σ s9 : zHo} {k : Nat} {S : zPt} (h : zAt k σ s9 S) (h1 : zUv S = zUv (s_P σ k)) : ∀ j, zUv (s_P s9 j) = zUv (s_P σ j) := fun j => by
  rw [h.2.2.2.2.2]
  by_cases e : j = k
  · subst e
    rw [zUp_at]
    exact h1
  · rw [zUp_ne e]
theorem zUv_s {S : zPt} : zUv S 0 = nI (q_la S) ∧ zUv S 1 = nI (q_sh S) ∧ zUv S 2 = nI (zDg (q_sz S)) ∧ zUv S 3 = nI (q_mu S) ∧ zUv S 4 = nI (q_tk S) ∧ zUv S 5 = if q_dd S ≤ nI (q_la S) then -1 else q_dd S := ⟨rfl, rfl, rfl, rfl, rfl, rfl⟩
theorem zUv_tk {S : zPt} {g : Nat → Nat} {d nb : Nat} : zUv (zTake S g d nb) 0 = nI d ∧ zUv (zTake S g d nb) 1 = nI nb ∧ zUv (zTake S g d nb) 2 = nI (zDg (q_sz S)) ∧ zUv (zTake S g d nb) 3 = nI (q_mu S) ∧ zUv (zTake S g d nb) 4 = nI (q_tk S + 1) ∧ zUv (zTake S g d nb) 5 = if q_dd S ≤ nI d then -1 else q_dd S := ⟨rfl, rfl, rfl, rfl, rfl, rfl⟩
theorem zUv_mt {S : zPt} {g : Nat → Nat} {d nb dg mv : Nat} : zUv (zMtr (zTake S g d nb) dg mv) 0 = nI d ∧ zUv (zMtr (zTake S g d nb) dg mv) 1 = nI 0 ∧ zUv (zMtr (zTake S g d nb) dg mv) 2 = nI (zDg (10 ^ dg)) ∧ zUv (zMtr (zTake S g d nb) dg mv) 3 = nI mv ∧ zUv (zMtr (zTake S g d nb) dg mv) 4 = nI (q_tk S + 1) ∧ zUv (zMtr (zTake S g d nb) dg mv) 5 = if q_dd S ≤ nI d then -1 else q_dd S := ⟨rfl, rfl, rfl, rfl, rfl, rfl⟩
theorem zUv_db {S : zPt} {T nb : Nat} : zUv (zDb S T nb) 0 = nI (q_la S) ∧ zUv (zDb S T nb) 1 = nI (q_sh S) ∧ zUv (zDb S T nb) 2 = nI (zDg (q_sz S)) ∧ zUv (zDb S T nb) 3 = nI (q_mu S) ∧ zUv (zDb S T nb) 4 = nI (q_tk S) ∧ zUv (zDb S T nb) 5 = if nI T ≤ nI (q_la S) then -1 else nI T := ⟨rfl, rfl, rfl, rfl, rfl, rfl⟩
theorem z_dd_le {T d : Nat} {g : Nat → Nat} {S : zPt} (h : zPk T g S) (hd : T ≤ d) (hd9 : d < 2 ^ 31) : q_dd S ≤ nI d ∨ q_dd S = -1 := by
  rcases zPk_dd h with q | ⟨dq, q1, q2, -⟩
  · exact Or.inr q
  · exact Or.inl (by rw [q1]; exact (nI_leI (by omega) hd9).mpr (by omega))
theorem zUk_tk {σ s9 : zHo} {k d nb : Nat} {uu : Nat → Int32} (hu : zUk σ uu) (hk : k < s_np σ) (h : zAt k σ s9 (zTake (s_P σ k) (s_g σ) d nb)) (hd : q_dd (s_P σ k) ≤ nI d ∨ q_dd (s_P σ k) = -1) : zUk s9 (upd (upd (upd (upd uu (6 * k) (nI d)) (6 * k + 1) (nI nb)) (6 * k + 4) (nI (q_tk (s_P σ k) + 1))) (6 * k + 5) (-1)) := by
  obtain ⟨t0, t1, t2, t3, t4, t5⟩ := zUv_tk (S := s_P σ k) (g := s_g σ) (d := d) (nb := nb)
  obtain ⟨e0, e1, e2, e3, e4, e5⟩ := zUv_s (S := s_P σ k)
  refine zUk_at hu h (fun j hj => ?_) (fun i hi => ?_)
  · rcases (show j = 0 ∨ j = 1 ∨ j = 2 ∨ j = 3 ∨ j = 4 ∨ j = 5 by omega) with rfl | rfl | rfl | rfl | rfl | rfl
    · rw [t0, z_updj (by omega), z_updj (by omega), z_updj (by omega)]
      exact z_updk
    · rw [t1, z_updj (by omega), z_updj (by omega), z_updk]
    · rw [t2, z_updj (by omega), z_updj (by omega), z_updj (by omega), z_updj (by omega), hu k hk 2 (by decide), e2]
    · rw [t3, z_updj (by omega), z_updj (by omega), z_updj (by omega), z_updj (by omega), hu k hk 3 (by decide), e3]
    · rw [t4, z_updj (by omega), z_updk]
    · rw [t5, z_updk]
      rcases hd with q | q
      · rw [if_pos q]
      · rw [q]
        split <;> rfl
  · rw [z_updj (by omega), z_updj (by omega), z_updj (by omega), z_updj (by omega)]
theorem zUk_xg {σ s9 : zHo} {k d nb dg mv : Nat} {uu : Nat → Int32} (hu : zUk σ uu) (h : zAt k σ s9 (zMtr (zTake (s_P σ k) (s_g σ) d nb) dg mv)) (h1 : 3 ≤ dg) (h2 : dg ≤ 6) (hd : q_dd (s_P σ k) ≤ nI d ∨ q_dd (s_P σ k) = -1) : zUk s9 (upd (upd (upd (upd (upd (upd uu (6 * k) (nI d)) (6 * k + 1) (nI 0)) (6 * k + 2) (nI dg)) (6 * k + 3) (nI mv)) (6 * k + 4) (nI (q_tk (s_P σ k) + 1))) (6 * k + 5) (-1)) := by
  obtain ⟨t0, t1, t2, t3, t4, t5⟩ := zUv_mt (S := s_P σ k) (g := s_g σ) (d := d) (nb := nb) (dg := dg) (mv := mv)
  refine zUk_at hu h (fun j hj => ?_) (fun i hi => ?_)
  · rcases (show j = 0 ∨ j = 1 ∨ j = 2 ∨ j = 3 ∨ j = 4 ∨ j = 5 by omega) with rfl | rfl | rfl | rfl | rfl | rfl
    · rw [t0, z_updj (by omega), z_updj (by omega), z_updj (by omega), z_updj (by omega), z_updj (by omega)]
      exact z_updk
    · rw [t1, z_updj (by omega), z_updj (by omega), z_updj (by omega), z_updj (by omega), z_updk]
    · rw [t2, z_updj (by omega), z_updj (by omega), z_updj (by omega), z_updk, zDg_10 h1 h2]
    · rw [t3, z_updj (by omega), z_updj (by omega), z_updk]
    · rw [t4, z_updj (by omega), z_updk]
    · rw [t5, z_updk]
      rcases hd with q | q
      · rw [if_pos q]
      · rw [q]
        split <;> rfl
  · rw [z_updj (by omega), z_updj (by omega), z_updj (by omega), z_updj (by omega), z_updj (by omega), z_updj (by omega)]
theorem zUk_db {σ s9 : zHo} {k nb : Nat} {uu : Nat → Int32} (hu : zUk σ uu) (hk : k < s_np σ) (hT : s_T σ ≤ 900) (h : zAt k σ s9 (zDb (s_P σ k) (s_T σ) nb)) (hl : q_la (s_P σ k) < s_T σ) : zUk s9 (upd uu (6 * k + 5) (nI (s_T σ))) := by
  obtain ⟨t0, t1, t2, t3, t4, t5⟩ := zUv_db (S := s_P σ k) (T := s_T σ) (nb := nb)
  obtain ⟨e0, e1, e2, e3, e4, e5⟩ := zUv_s (S := s_P σ k)
  refine zUk_at hu h (fun j hj => ?_) (fun i hi => ?_)
  · rcases (show j = 0 ∨ j = 1 ∨ j = 2 ∨ j = 3 ∨ j = 4 ∨ j = 5 by omega) with rfl | rfl | rfl | rfl | rfl | rfl
    · rw [t0, z_updj (by omega), hu k hk 0 (by decide), e0]
    · rw [t1, z_updj (by omega), hu k hk 1 (by decide), e1]
    · rw [t2, z_updj (by omega), hu k hk 2 (by decide), e2]
    · rw [t3, z_updj (by omega), hu k hk 3 (by decide), e3]
    · rw [t4, z_updj (by omega), hu k hk 4 (by decide), e4]
    · rw [t5, z_updk]
      exact Eq.symm (z_dds (by omega) hl)
  · rw [z_updj (by omega)]
