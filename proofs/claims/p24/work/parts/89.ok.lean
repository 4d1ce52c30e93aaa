/-! what holds of a house between calls: of a point, of all; the changes -/
def zSup (T : Nat) (S : zPt) : Prop := (∀ d, q_hg S d < 4) ∧ q_ts S < 4 ∧ (q_td S = -1 ∨ ∃ dq, q_td S = nI dq ∧ T < dq ∧ dq < 1000 ∧ q_ts S ≠ q_hg S T) ∧ (q_md S = -1 ∨ ∃ dq, q_md S = nI dq ∧ q_fi S < dq ∧ dq ≤ T ∧ q_hg S (dq - 1) ≠ q_hg S T)
def zPk (T : Nat) (g : Nat → Nat) (S : zPt) : Prop := q_kd S < 3 ∧ (∃ dg, 3 ≤ dg ∧ dg ≤ 6 ∧ q_sz S = 10 ^ dg) ∧ 1 ≤ q_mu S ∧ q_mu S ≤ 10 ∧ q_sh S < q_sz S ∧ q_la S ≤ T ∧ q_pc S ≤ 2000000000 ∧ z_con (q_us S) (q_vo S) (fun j8 => z_wt (q_kd S) (g j8)) (q_fi S) (q_la S) (q_pc S) ∧ (q_dd S = -1 ∨ ∃ dq, q_dd S = nI dq ∧ dq ≤ T ∧ (q_la S < dq → q_ds S < q_sz S)) ∧ (∀ i, q_vo S i ≤ 10000001) ∧ zSup T S ∧ ∀ d, q_bi S d < 4
def zOk (σ : zHo) : Prop := s_T σ ≤ 900 ∧ s_np σ ≤ 8 ∧ (∀ k, s_pt σ k = if k < s_np σ then some (s_pa σ k 0) else none) ∧ (∀ d, s_g σ d ≤ 30) ∧ (∀ d, s_fl σ d ≤ 1000000000) ∧ (∀ d, s_ru σ d ≤ 3) ∧ (∀ i, s_tb σ i ≤ 1000) ∧ s_nc σ ≤ 512 ∧ (∀ i, s_cd σ i < 2 ^ 31) ∧ ∀ k, k < s_np σ → zPk (s_T σ) (s_g σ) (s_P σ k)
def uP (σ : zHo) (k : Nat) (S : zPt) : zHo := (s_nc σ, s_np σ, s_T σ, s_pt σ, s_g σ, s_w9 σ, s_p9 σ, s_q9 σ, s_tf σ, s_tb σ, s_tr σ, s_ic σ, s_fl σ, s_ru σ, s_rs σ, s_w4 σ, s_p4 σ, s_q4 σ, s_cd σ, zUp (s_P σ) k S, s_pa σ)
def uW (σ : zHo) (w p q : Nat → Nat) : zHo := (s_nc σ, s_np σ, s_T σ, s_pt σ, s_g σ, w, p, q, s_tf σ, s_tb σ, s_tr σ, s_ic σ, s_fl σ, s_ru σ, s_rs σ, s_w4 σ, s_p4 σ, s_q4 σ, s_cd σ, s_P σ, s_pa σ)
def uM (σ : zHo) (k m : Nat) : zHo := (s_nc σ, s_np σ, s_T σ, s_pt σ, s_g σ, s_w9 σ, s_p9 σ, s_q9 σ, s_tf σ, s_tb σ, s_tr σ, s_ic σ, s_fl σ, s_ru σ, s_rs σ, s_w4 σ, s_p4 σ, s_q4 σ, s_cd σ, s_P σ, zUp (s_pa σ) k (fun i9 => if i9 = 2 then m else s_pa σ k i9))
def zDb (S : zPt) (T nb : Nat) : zPt := (q_kd S, q_fi S, q_la S, q_tk S, q_pc S, nb, nI T, q_sz S, q_mu S, q_sh S, q_vo S, q_us S, q_ts S, q_td S, q_md S, q_hg S, q_ow S, q_ce S, q_bi S)
def zTake (S : zPt) (g : Nat → Nat) (d nb : Nat) : zPt := (q_kd S, q_fi S, d, q_tk S + 1, z_pace (z_use (q_sz S) (q_mu S) (q_sh S) nb) (fun j8 => z_wt (q_kd S) (g j8)) (q_la S) (d - q_la S), q_ds S, q_dd S, q_sz S, q_mu S, nb, z_over (z_pt (z_use (q_sz S) (q_mu S) (q_sh S) nb) (fun j8 => z_wt (q_kd S) (g j8)) (q_la S) (d - q_la S)) (q_vo S) (q_la S) (d - q_la S), va_up (q_us S) d (z_use (q_sz S) (q_mu S) (q_sh S) nb + 1), q_ts S, q_td S, q_md S, q_hg S, q_ow S, q_ce S, q_bi S)
def zMtr (S : zPt) (dg mv : Nat) : zPt := (q_kd S, q_fi S, q_la S, q_tk S, q_pc S, q_ds S, q_dd S, 10 ^ dg, mv, 0, q_vo S, q_us S, q_ts S, q_td S, q_md S, q_hg S, q_ow S, q_ce S, q_bi S)
def zTel (S : zPt) (sp d : Nat) : zPt := (q_kd S, q_fi S, q_la S, q_tk S, q_pc S, q_ds S, q_dd S, q_sz S, q_mu S, q_sh S, q_vo S, q_us S, sp, nI d, q_md S, q_hg S, q_ow S, q_ce S, q_bi S)
def zObj (S : zPt) : zPt := (q_kd S, q_fi S, q_la S, q_tk S, q_pc S, q_ds S, q_dd S, q_sz S, q_mu S, q_sh S, q_vo S, q_us S, q_ts S, -1, q_md S, q_hg S, q_ow S, q_ce S, q_bi S)
def zRev (S : zPt) (T dq : Nat) : zPt := (q_kd S, q_fi S, q_la S, q_tk S, q_pc S, q_ds S, q_dd S, q_sz S, q_mu S, q_sh S, q_vo S, q_us S, q_ts S, q_td S, -1, z_fill (q_hg S) (q_hg S (dq - 1)) dq (T + 1 - dq), q_ow S, q_ce S, q_bi S)
theorem zOk_uP {σ : zHo} {k : Nat} {S : zPt} (h : zOk σ) (hS : zPk (s_T σ) (s_g σ) S) : zOk (uP σ k S) := by
  obtain ⟨h1, h2, h3, h4, h5, h6, h7, h8, h9, h10⟩ := h
  refine ⟨h1, h2, h3, h4, h5, h6, h7, h8, h9, fun j hj => ?_⟩
  show zPk (s_T σ) (s_g σ) (zUp (s_P σ) k S j)
  by_cases e : j = k
  · rw [e, zUp_at]
    exact hS
  · rw [zUp_ne e]
    exact h10 j hj
theorem zOk_uW {σ : zHo} {w p q : Nat → Nat} (h : zOk σ) : zOk (uW σ w p q) := h
theorem zOk_uM {σ : zHo} {k m : Nat} (h : zOk σ) : zOk (uM σ k m) := by
  obtain ⟨h1, h2, h3, h4⟩ := h
  refine ⟨h1, h2, fun j => ?_, h4⟩
  refine (h3 j).trans ?_
  show (if j < s_np σ then some (s_pa σ j 0) else none) = if j < s_np σ then some (zUp (s_pa σ) k (fun i9 => if i9 = 2 then m else s_pa σ k i9) j 0) else none
  by_cases e : j = k
  · subst e
    rw [zUp_at]
    rfl
  · rw [zUp_ne e]
theorem zPk_sz {T : Nat} {g : Nat → Nat} {S : zPt} (h : zPk T g S) : q_sz S ≤ 1000000 := by
  obtain ⟨-, ⟨dg, h1, h2, h3⟩, -⟩ := h
  rw [h3]
  exact Nat.pow_le_pow_right (by decide) h2
theorem zPk_doubt {T nb : Nat} {g : Nat → Nat} {S : zPt} (h : zPk T g S) (hnb : nb < q_sz S) : zPk T g (zDb S T nb) := by
  obtain ⟨a1, a2, a3, a4, a5, a6, a7, a8, a9, a10⟩ := h
  exact ⟨a1, a2, a3, a4, a5, a6, a7, a8, Or.inr ⟨T, rfl, Nat.le_refl _, fun _ => hnb⟩, a10⟩
theorem zPk_take {T d nb : Nat} {g : Nat → Nat} {S : zPt} (h : zPk T g S) (hnb : nb < q_sz S) (hd : q_la S < d) (hdT : d ≤ T) : zPk T g (zTake S g d nb) := by
  have hz := zPk_sz h
  obtain ⟨a1, a2, a3, a4, a5, a6, a7, a8, a9, a10, a11⟩ := h
  have hU : z_use (q_sz S) (q_mu S) (q_sh S) nb ≤ 10000000 := z_use_le hz a4 a5 hnb
  refine ⟨a1, a2, a3, a4, hnb, hdT, z_pace_le hU (by omega), z_con_take a8 hd hU, ?_, fun d9 => ?_, a11⟩
  · rcases a9 with q | ⟨dq, q1, q2, q3⟩
    · exact Or.inl q
    · exact Or.inr ⟨dq, q1, q2, fun q => q3 (Nat.lt_trans hd q)⟩
  · show z_over (z_pt (z_use (q_sz S) (q_mu S) (q_sh S) nb) (fun j8 => z_wt (q_kd S) (g j8)) (q_la S) (d - q_la S)) (q_vo S) (q_la S) (d - q_la S) d9 ≤ 10000001
    unfold z_over
    split
    · rename_i q
      have := z_pt_le (U := z_use (q_sz S) (q_mu S) (q_sh S) nb) (w := fun j8 => z_wt (q_kd S) (g j8)) q.1 q.2
      omega
    · exact a10 d9
theorem zPk_mtr {T dg mv : Nat} {g : Nat → Nat} {S : zPt} (h : zPk T g S) (hl : q_la S = T) (h1 : 3 ≤ dg) (h2 : dg ≤ 6) (h3 : 1 ≤ mv) (h4 : mv ≤ 10) : zPk T g (zMtr S dg mv) := by
  obtain ⟨a1, a2, a3, a4, a5, a6, a7, a8, a9, a10⟩ := h
  refine ⟨a1, ⟨dg, h1, h2, rfl⟩, h3, h4, Nat.pow_pos (by decide), a6, a7, a8, ?_, a10⟩
  rcases a9 with q | ⟨dq, q1, q2, q3⟩
  · exact Or.inl q
  · exact Or.inr ⟨dq, q1, q2, fun q => absurd (show q_la S < dq from q) (by omega)⟩
theorem zPk_sup {T : Nat} {g : Nat → Nat} {S S9 : zPt} (h : zPk T g S) (hs : zSup T S9) (he : S9 = (q_kd S, q_fi S, q_la S, q_tk S, q_pc S, q_ds S, q_dd S, q_sz S, q_mu S, q_sh S, q_vo S, q_us S, q_ts S9, q_td S9, q_md S9, q_hg S9, q_ow S9, q_ce S9, q_bi S9)) (hb : ∀ d, q_bi S9 d < 4) : zPk T g S9 := by
  obtain ⟨a1, a2, a3, a4, a5, a6, a7, a8, a9, a10, a11⟩ := h
  rw [he] at hs ⊢
  exact ⟨a1, a2, a3, a4, a5, a6, a7, a8, a9, a10, hs, hb⟩
theorem zSup_tel {T sp d : Nat} {S : zPt} (h : zSup T S) (hsp : sp < 4) (h1 : T < d) (h2 : d < 1000) (h3 : ¬ q_hg S T = sp) : zSup T (zTel S sp d) := ⟨h.1, hsp, Or.inr ⟨d, rfl, h1, h2, fun q => h3 (Eq.symm q)⟩, h.2.2.2⟩
theorem zSup_obj {T : Nat} {S : zPt} (h : zSup T S) : zSup T (zObj S) := ⟨h.1, h.2.1, Or.inl rfl, h.2.2.2⟩
theorem zSup_rev {T dq : Nat} {S : zPt} (h : zSup T S) (ht : q_td S = -1) : zSup T (zRev S T dq) := by
  refine ⟨fun d => ?_, h.2.1, Or.inl ht, Or.inl rfl⟩
  show z_fill (q_hg S) (q_hg S (dq - 1)) dq (T + 1 - dq) d < 4
  unfold z_fill
  split <;> exact h.1 _
theorem zRev_hg {T dq : Nat} {S : zPt} (h : dq ≤ T) : q_hg (zRev S T dq) T = q_hg S (dq - 1) := by
  show z_fill (q_hg S) (q_hg S (dq - 1)) dq (T + 1 - dq) T = _
  unfold z_fill
  rw [if_pos (by omega)]
theorem zPk_con {T : Nat} {g : Nat → Nat} {S : zPt} (h : zPk T g S) : q_fi S ≤ q_la S := h.2.2.2.2.2.2.2.1.1
