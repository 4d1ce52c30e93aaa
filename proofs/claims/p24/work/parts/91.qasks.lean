/-! what asks answers, as one -/
theorem z_relw {l : Launch} {y : MethodName} {ws : List Cond} {rm : Room} {G : va_G} {cy : Nat → ClassId} {wd : Nat → Nat} {fo : Option Nat} {N0 : Nat} {av : List Value} {sz mc ms : Nat} {a : Nat → Nat} {σ : zHo} {rel rel' : Int32 → zHo → Prop} (h : zHi l y ws rm G cy wd fo N0 av sz a σ rel mc ms) (hr : ∀ r u, rel r u → rel' r u) : zHi l y ws rm G cy wd fo N0 av sz a σ rel' mc ms := by
  refine z_mmono h (fun _ _ q => q) (fun _ q => q) (fun A U o t _ _ hQ => ?_)
  obtain ⟨⟨r, u, ho, hp, hB⟩, hF⟩ := hQ
  exact ⟨⟨r, u, ho, hr r u hp, hB⟩, hF⟩
abbrev zR9 : Room := { frames := 8, cells := 1, slots := 6, locals := 200 }
/-- only the point k is another, by the readings or the changes -/
def zAt (k : Nat) (σ s9 : zHo) (S : zPt) : Prop := zOk s9 ∧ s_np s9 = s_np σ ∧ s_T s9 = s_T σ ∧ s_g s9 = s_g σ ∧ s_ic s9 = s_ic σ ∧ s_P s9 = zUp (s_P σ) k S
theorem zAt_1 {σ : zHo} {k : Nat} {S : zPt} (h : zOk σ) (hS : zPk (s_T σ) (s_g σ) S) : zAt k σ (uP σ k S) S := ⟨zOk_uP h hS, rfl, rfl, rfl, rfl, rfl⟩
theorem zAt_2 {σ : zHo} {k : Nat} {S : zPt} {w p q : Nat → Nat} (h : zOk σ) (hS : zPk (s_T σ) (s_g σ) S) : zAt k σ (uP (uW σ w p q) k S) S := ⟨zOk_uP (zOk_uW h) hS, rfl, rfl, rfl, rfl, rfl⟩
theorem zAt_3 {σ : zHo} {k m : Nat} {S : zPt} {w p q : Nat → Nat} (h : zOk σ) (hS : zPk (s_T σ) (s_g σ) S) : zAt k σ (uP (uW (uM σ k m) w p q) k S) S := ⟨zOk_uP (zOk_uW (zOk_uM h)) hS, rfl, rfl, rfl, rfl, rfl⟩
section ZOA
variable {σ : zHo} {k : Nat}
theorem zOk_T (h : zOk σ) : s_T σ ≤ 900 := h.1
theorem zOk_np (h : zOk σ) : s_np σ ≤ 8 := h.2.1
theorem zOk_k8 (h : zOk σ) (hk : k < s_np σ) : k < 8 := Nat.lt_of_lt_of_le hk h.2.1
theorem zOk_pt (h : zOk σ) (hk : k < s_np σ) : s_pt σ k = some (s_pa σ k 0) := (h.2.2.1 k).trans (if_pos hk)
theorem zOk_g (h : zOk σ) : ∀ d, s_g σ d ≤ 30 := h.2.2.2.1
theorem zOk_P (h : zOk σ) (hk : k < s_np σ) : zPk (s_T σ) (s_g σ) (s_P σ k) := h.2.2.2.2.2.2.2.2.2 k hk
end ZOA
section ZPA
variable {T : Nat} {g : Nat → Nat} {S : zPt}
theorem zPk_kd (h : zPk T g S) : q_kd S < 3 := h.1
theorem zPk_mu1 (h : zPk T g S) : 1 ≤ q_mu S := h.2.2.1
theorem zPk_mu (h : zPk T g S) : q_mu S ≤ 10 := h.2.2.2.1
theorem zPk_sh (h : zPk T g S) : q_sh S < q_sz S := h.2.2.2.2.1
theorem zPk_la (h : zPk T g S) : q_la S ≤ T := h.2.2.2.2.2.1
theorem zPk_pc (h : zPk T g S) : q_pc S ≤ 2000000000 := h.2.2.2.2.2.2.1
theorem zPk_cn (h : zPk T g S) : z_con (q_us S) (q_vo S) (fun j8 => z_wt (q_kd S) (g j8)) (q_fi S) (q_la S) (q_pc S) := h.2.2.2.2.2.2.2.1
theorem zPk_dd (h : zPk T g S) : q_dd S = -1 ∨ ∃ dq, q_dd S = nI dq ∧ dq ≤ T ∧ (q_la S < dq → q_ds S < q_sz S) := h.2.2.2.2.2.2.2.2.1
theorem zPk_vo (h : zPk T g S) : ∀ i, q_vo S i ≤ 10000001 := h.2.2.2.2.2.2.2.2.2.1
theorem zPk_su (h : zPk T g S) : zSup T S := h.2.2.2.2.2.2.2.2.2.2.1
theorem zPk_bi (h : zPk T g S) : ∀ d, q_bi S d < 4 := h.2.2.2.2.2.2.2.2.2.2.2
end ZPA
theorem z_m1t : (-1 : Int32).toInt = -1 := by decide
theorem z_m1 {x : Int32} {n : Nat} (h : x = nI n) (hn : n < 2 ^ 31) : ¬ x.toInt = -1 := by
  rw [h, nI_toInt hn]
  omega
theorem z_m1le {n : Nat} (hn : n < 2 ^ 31) : (-1 : Int32) ≤ nI n := by
  rw [Int32.le_iff_toInt_le, nI_toInt hn, z_m1t]
  omega
def zRd (σ : zHo) (k nb : Nat) (r : Int32) (s9 : zHo) : Prop := (q_la (s_P σ k) = s_T σ ∧ r = -70008 ∧ s9 = σ) ∨ (q_la (s_P σ k) < s_T σ ∧ ¬ z_use (q_sz (s_P σ k)) (q_mu (s_P σ k)) (q_sh (s_P σ k)) nb ≤ 20 * z_sm (fun j8 => z_wt (q_kd (s_P σ k)) (s_g σ j8)) (q_la (s_P σ k)) (s_T σ - q_la (s_P σ k)) ∧ r = -1 ∧ zAt k σ s9 (zDb (s_P σ k) (s_T σ) nb)) ∨ (q_la (s_P σ k) < s_T σ ∧ z_use (q_sz (s_P σ k)) (q_mu (s_P σ k)) (q_sh (s_P σ k)) nb ≤ 20 * z_sm (fun j8 => z_wt (q_kd (s_P σ k)) (s_g σ j8)) (q_la (s_P σ k)) (s_T σ - q_la (s_P σ k)) ∧ r = nI (z_use (q_sz (s_P σ k)) (q_mu (s_P σ k)) (q_sh (s_P σ k)) nb) ∧ zAt k σ s9 (zTake (s_P σ k) (s_g σ) (s_T σ) nb))
def zCf (σ : zHo) (k : Nat) (r : Int32) (s9 : zHo) : Prop := (q_dd (s_P σ k) ≤ nI (q_la (s_P σ k)) ∧ r = -70008 ∧ s9 = σ) ∨ ∃ dq, q_dd (s_P σ k) = nI dq ∧ q_la (s_P σ k) < dq ∧ dq ≤ s_T σ ∧ q_ds (s_P σ k) < q_sz (s_P σ k) ∧ r = nI (z_use (q_sz (s_P σ k)) (q_mu (s_P σ k)) (q_sh (s_P σ k)) (q_ds (s_P σ k))) ∧ zAt k σ s9 (zTake (s_P σ k) (s_g σ) dq (q_ds (s_P σ k)))
def zXg (σ : zHo) (k nb d8 : Nat) (r : Int32) (s9 : zHo) : Prop := (q_la (s_P σ k) = s_T σ ∧ r = -70008 ∧ s9 = σ) ∨ (q_la (s_P σ k) < s_T σ ∧ r = nI (z_use (q_sz (s_P σ k)) (q_mu (s_P σ k)) (q_sh (s_P σ k)) nb) ∧ zAt k σ s9 (zMtr (zTake (s_P σ k) (s_g σ) (s_T σ) nb) (3 + d8 % 4) (1 + d8 / 4 % 10)))
def zCh (σ : zHo) (k sp d : Nat) (r : Int32) (s9 : zHo) : Prop := ((¬ q_td (s_P σ k) = -1 ∨ q_hg (s_P σ k) (s_T σ) = sp) ∧ r = -70008 ∧ s9 = σ) ∨ (q_td (s_P σ k) = -1 ∧ ¬ q_hg (s_P σ k) (s_T σ) = sp ∧ r = nI (q_hg (s_P σ k) (s_T σ)) ∧ zAt k σ s9 (zTel (s_P σ k) sp d))
def zOb (σ : zHo) (k : Nat) (r : Int32) (s9 : zHo) : Prop := (q_td (s_P σ k) = -1 ∧ r = -70008 ∧ s9 = σ) ∨ ∃ dq, q_td (s_P σ k) = nI dq ∧ s_T σ < dq ∧ dq < 1000 ∧ r = nI dq ∧ zAt k σ s9 (zObj (s_P σ k))
def zRv (σ : zHo) (k : Nat) (r : Int32) (s9 : zHo) : Prop := ((¬ q_td (s_P σ k) = -1 ∨ q_md (s_P σ k) = -1) ∧ r = -70008 ∧ s9 = σ) ∨ ∃ dq, q_td (s_P σ k) = -1 ∧ q_md (s_P σ k) = nI dq ∧ q_fi (s_P σ k) < dq ∧ dq ≤ s_T σ ∧ q_hg (s_P σ k) (dq - 1) ≠ q_hg (s_P σ k) (s_T σ) ∧ r = nI (s_T σ - dq + 1) ∧ zAt k σ s9 (zRev (s_P σ k) (s_T σ) dq)
theorem q_read (l : Launch) (hl9 : l.stackTraces = false) (G : va_G) (cy : Nat → ClassId) (wd : Nat → Nat) (fo : Option Nat) (N0 sz0 : Nat) (a : Nat → Nat) (sg : zHo) (hO : zOk sg) (k : Nat) (hkn : k < s_np sg) (nb : Nat) (hnb : nb < q_sz (s_P sg k)) (d9 : Int32) : zHi l yL_asks wsL_asks zR9 G cy wd fo N0 [.ref (a 0), .int (nI 0), .int (nI k), .int (nI nb), .int d9] sz0 a sg (zRd sg k nb) 1 6 := by
  have hp := zOk_P hO hkn
  by_cases h1 : q_la (s_P sg k) = s_T sg
  · exact z_relw (k_e3_read l hl9 G cy wd fo N0 sz0 a sg k hkn (zOk_k8 hO hkn) (zOk_pt hO hkn) hO.1 (zPk_sz hp) (zPk_mu hp) (zPk_sh hp) nb hnb h1 d9) (fun r u h => Or.inl ⟨h1, h⟩)
  · have h2 : q_la (s_P sg k) < s_T sg := Nat.lt_of_le_of_ne (zPk_la hp) h1
    by_cases h3 : z_use (q_sz (s_P sg k)) (q_mu (s_P sg k)) (q_sh (s_P sg k)) nb ≤ 20 * z_sm (fun j8 => z_wt (q_kd (s_P sg k)) (s_g sg j8)) (q_la (s_P sg k)) (s_T sg - q_la (s_P sg k))
    · refine z_relw (k_c_read l hl9 G cy wd fo N0 sz0 a sg k hkn (zOk_k8 hO hkn) (zOk_pt hO hkn) hO.1 (zPk_sz hp) (zPk_mu hp) (zPk_sh hp) nb hnb (zPk_kd hp) (zOk_g hO) h2 h3 d9) (fun r u h => ?_)
      obtain ⟨hr, w2, p2, q2, hs⟩ := h
      exact Or.inr (Or.inr ⟨h2, h3, hr, by rw [hs]; exact zAt_2 (σ := sg) (k := k) (S := zTake (s_P sg k) (s_g sg) (s_T sg) nb) hO (zPk_take hp hnb h2 (Nat.le_refl _))⟩)
    · refine z_relw (k_c2_read l hl9 G cy wd fo N0 sz0 a sg k hkn (zOk_k8 hO hkn) (zOk_pt hO hkn) hO.1 (zPk_sz hp) (zPk_mu hp) (zPk_sh hp) nb hnb (zPk_kd hp) (zOk_g hO) h2 h3 d9) (fun r u h => ?_)
      exact Or.inr (Or.inl ⟨h2, h3, h.1, by rw [h.2]; exact zAt_1 (σ := sg) (k := k) (S := zDb (s_P sg k) (s_T sg) nb) hO (zPk_doubt hp hnb)⟩)
theorem q_confirm (l : Launch) (hl9 : l.stackTraces = false) (G : va_G) (cy : Nat → ClassId) (wd : Nat → Nat) (fo : Option Nat) (N0 sz0 : Nat) (a : Nat → Nat) (sg : zHo) (hO : zOk sg) (k : Nat) (hkn : k < s_np sg) (b8 d9 : Int32) : zHi l yL_asks wsL_asks zR9 G cy wd fo N0 [.ref (a 0), .int (nI 1), .int (nI k), .int b8, .int d9] sz0 a sg (zCf sg k) 1 6 := by
  have hp := zOk_P hO hkn
  have hT := hO.1
  have hl := zPk_la hp
  by_cases h1 : q_dd (s_P sg k) ≤ nI (q_la (s_P sg k))
  · exact z_relw (k_e3_confirm l hl9 G cy wd fo N0 sz0 a sg k hkn (zOk_k8 hO hkn) (zOk_pt hO hkn) hO.1 h1 b8 d9) (fun r u h => Or.inl ⟨h1, h⟩)
  · rcases zPk_dd hp with q | ⟨dq, q1, q2, q3⟩
    · exact absurd (by rw [q]; exact z_m1le (by omega)) h1
    · have h2 : q_la (s_P sg k) < dq := by
        by_cases h : q_la (s_P sg k) < dq
        · exact h
        · exact absurd (by rw [q1]; exact (nI_leI (by omega) (by omega)).mpr (by omega)) h1
      refine z_relw (k_c_confirm l hl9 G cy wd fo N0 sz0 a sg k hkn (zOk_k8 hO hkn) (zOk_pt hO hkn) hO.1 (zPk_sz hp) (zPk_mu hp) (zPk_sh hp) (q3 h2) (zPk_kd hp) (zOk_g hO) dq q2 h2 q1 b8 d9) (fun r u h => ?_)
      obtain ⟨hr, w2, p2, q2', hs⟩ := h
      rw [← q1] at hs
      exact Or.inr ⟨dq, q1, h2, q2, q3 h2, hr, by rw [hs]; exact zAt_2 (σ := sg) (k := k) (S := zTake (s_P sg k) (s_g sg) dq (q_ds (s_P sg k))) hO (zPk_take hp (q3 h2) h2 q2)⟩
theorem q_exchange (l : Launch) (hl9 : l.stackTraces = false) (G : va_G) (cy : Nat → ClassId) (wd : Nat → Nat) (fo : Option Nat) (N0 sz0 : Nat) (a : Nat → Nat) (sg : zHo) (hO : zOk sg) (k : Nat) (hkn : k < s_np sg) (nb : Nat) (hnb : nb < q_sz (s_P sg k)) (d8 : Nat) (hd8 : d8 < 40) : zHi l yL_asks wsL_asks zR9 G cy wd fo N0 [.ref (a 0), .int (nI 2), .int (nI k), .int (nI nb), .int (nI d8)] sz0 a sg (zXg sg k nb d8) 1 6 := by
  have hp := zOk_P hO hkn
  by_cases h1 : q_la (s_P sg k) = s_T sg
  · exact z_relw (k_e3_exchange l hl9 G cy wd fo N0 sz0 a sg k hkn (zOk_k8 hO hkn) (zOk_pt hO hkn) hO.1 (zPk_sz hp) (zPk_mu hp) (zPk_sh hp) nb hnb h1 d8 hd8) (fun r u h => Or.inl ⟨h1, h⟩)
  · have h2 : q_la (s_P sg k) < s_T sg := Nat.lt_of_le_of_ne (zPk_la hp) h1
    refine z_relw (k_c_exchange l hl9 G cy wd fo N0 sz0 a sg k hkn (zOk_k8 hO hkn) (zOk_pt hO hkn) hO.1 (zPk_sz hp) (zPk_mu hp) (zPk_sh hp) nb hnb (zPk_kd hp) (zOk_g hO) h2 d8 hd8) (fun r u h => ?_)
    obtain ⟨hr, m, w2, p2, q2, hs⟩ := h
    exact Or.inr ⟨h2, hr, by rw [hs]; exact zAt_3 (σ := sg) (k := k) (m := m) (S := zMtr (zTake (s_P sg k) (s_g sg) (s_T sg) nb) (3 + d8 % 4) (1 + d8 / 4 % 10)) hO (zPk_mtr (zPk_take hp hnb h2 (Nat.le_refl _)) rfl (by omega) (by omega) (by omega) (by omega))⟩
theorem q_change (l : Launch) (hl9 : l.stackTraces = false) (G : va_G) (cy : Nat → ClassId) (wd : Nat → Nat) (fo : Option Nat) (N0 sz0 : Nat) (a : Nat → Nat) (sg : zHo) (hO : zOk sg) (k : Nat) (hkn : k < s_np sg) (sp d : Nat) (hsp : sp < 4) (hd0 : s_T sg < d) (hd : d < 1000) : zHi l yL_asks wsL_asks zR9 G cy wd fo N0 [.ref (a 0), .int (nI 3), .int (nI k), .int (nI sp), .int (nI d)] sz0 a sg (zCh sg k sp d) 1 6 := by
  have hp := zOk_P hO hkn
  have hs := zPk_su hp
  by_cases h1 : q_td (s_P sg k) = -1
  · by_cases h2 : q_hg (s_P sg k) (s_T sg) = sp
    · exact z_relw (k_e3_change l hl9 G cy wd fo N0 sz0 a sg k hkn (zOk_k8 hO hkn) (zOk_pt hO hkn) hO.1 hs.1 sp d hsp hd0 hd (Or.inr h2)) (fun r u h => Or.inl ⟨Or.inr h2, h⟩)
    · refine z_relw (k_c_change l hl9 G cy wd fo N0 sz0 a sg k hkn (zOk_k8 hO hkn) (zOk_pt hO hkn) hO.1 hs.1 sp d hsp hd0 hd (by rw [h1]; exact z_m1t) h2) (fun r u h => ?_)
      exact Or.inr ⟨h1, h2, h.1, by rw [h.2]; exact zAt_1 (σ := sg) (k := k) (S := zTel (s_P sg k) sp d) hO (zPk_sup (S := s_P sg k) hp (zSup_tel hs hsp hd0 hd h2) rfl (zPk_bi (S := s_P sg k) hp))⟩
  · have h3 : ¬ (q_td (s_P sg k)).toInt = -1 := by
      rcases hs.2.2.1 with q | ⟨dq, q1, q2, q3, -⟩
      · exact absurd q h1
      · exact z_m1 q1 (by omega)
    exact z_relw (k_e3_change l hl9 G cy wd fo N0 sz0 a sg k hkn (zOk_k8 hO hkn) (zOk_pt hO hkn) hO.1 hs.1 sp d hsp hd0 hd (Or.inl h3)) (fun r u h => Or.inl ⟨Or.inl h1, h⟩)
theorem q_object (l : Launch) (hl9 : l.stackTraces = false) (G : va_G) (cy : Nat → ClassId) (wd : Nat → Nat) (fo : Option Nat) (N0 sz0 : Nat) (a : Nat → Nat) (sg : zHo) (hO : zOk sg) (k : Nat) (hkn : k < s_np sg) (b8 d9 : Int32) : zHi l yL_asks wsL_asks zR9 G cy wd fo N0 [.ref (a 0), .int (nI 4), .int (nI k), .int b8, .int d9] sz0 a sg (zOb sg k) 1 6 := by
  have hp := zOk_P hO hkn
  have hs := zPk_su hp
  rcases hs.2.2.1 with q | ⟨dq, q1, q2, q3, q4⟩
  · exact z_relw (k_e3_object l hl9 G cy wd fo N0 sz0 a sg k hkn (zOk_k8 hO hkn) (zOk_pt hO hkn) hO.1 (by rw [q]; exact z_m1t) b8 d9) (fun r u h => Or.inl ⟨q, h⟩)
  · refine z_relw (k_c_object l hl9 G cy wd fo N0 sz0 a sg k hkn (zOk_k8 hO hkn) (zOk_pt hO hkn) hO.1 (z_m1 q1 (by omega)) b8 d9) (fun r u h => ?_)
    exact Or.inr ⟨dq, q1, q2, q3, h.1.trans q1, by rw [h.2]; exact zAt_1 (σ := sg) (k := k) (S := zObj (s_P sg k)) hO (zPk_sup (S := s_P sg k) hp (zSup_obj hs) rfl (zPk_bi (S := s_P sg k) hp))⟩
theorem q_reverse (l : Launch) (hl9 : l.stackTraces = false) (G : va_G) (cy : Nat → ClassId) (wd : Nat → Nat) (fo : Option Nat) (N0 sz0 : Nat) (a : Nat → Nat) (sg : zHo) (hO : zOk sg) (k : Nat) (hkn : k < s_np sg) (b8 d9 : Int32) : zHi l yL_asks wsL_asks zR9 G cy wd fo N0 [.ref (a 0), .int (nI 5), .int (nI k), .int b8, .int d9] sz0 a sg (zRv sg k) 1 6 := by
  have hp := zOk_P hO hkn
  have hs := zPk_su hp
  by_cases h1 : q_td (s_P sg k) = -1
  · rcases hs.2.2.2 with q | ⟨dq, q1, q2, q3, q4⟩
    · exact z_relw (k_e3_reverse l hl9 G cy wd fo N0 sz0 a sg k hkn (zOk_k8 hO hkn) (zOk_pt hO hkn) hO.1 (Or.inr q) b8 d9) (fun r u h => Or.inl ⟨Or.inr q, h⟩)
    · refine z_relw (k_c_reverse l hl9 G cy wd fo N0 sz0 a sg k hkn (zOk_k8 hO hkn) (zOk_pt hO hkn) hO.1 dq (by rw [h1]; exact z_m1t) (by omega) q3 q1 b8 d9) (fun r u h => ?_)
      exact Or.inr ⟨dq, h1, q1, q2, q3, q4, h.1, by rw [h.2]; exact zAt_1 (σ := sg) (k := k) (S := zRev (s_P sg k) (s_T sg) dq) hO (zPk_sup (S := s_P sg k) hp (zSup_rev hs h1) rfl (zPk_bi (S := s_P sg k) hp))⟩
  · have h3 : ¬ (q_td (s_P sg k)).toInt = -1 := by
      rcases hs.2.2.1 with q | ⟨dq, q1, q2, q3, -⟩
      · exact absurd q h1
      · exact z_m1 q1 (by omega)
    exact z_relw (k_e3_reverse l hl9 G cy wd fo N0 sz0 a sg k hkn (zOk_k8 hO hkn) (zOk_pt hO hkn) hO.1 (Or.inl h3) b8 d9) (fun r u h => Or.inl ⟨Or.inl h1, h⟩)
