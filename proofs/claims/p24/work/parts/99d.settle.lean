/-! settlements, by sums -/
theorem z_sm_up4 {f : Nat → Nat} {h u : Nat} (hh : h < 4) : z_sm (va_up f h (f h + u)) 0 4 = z_sm f 0 4 + u := by
  show (((0 + va_up f h (f h + u) (0 + 0)) + va_up f h (f h + u) (0 + 1)) + va_up f h (f h + u) (0 + 2)) + va_up f h (f h + u) (0 + 3) = (((0 + f (0 + 0)) + f (0 + 1)) + f (0 + 2)) + f (0 + 3) + u
  rcases (show h = 0 ∨ h = 1 ∨ h = 2 ∨ h = 3 by omega) with rfl | rfl | rfl | rfl <;> simp [va_up] <;> omega
theorem zVs_sum {np d : Nat} {X : Nat → zPt} {g w0 : Nat → Nat} (hh : ∀ k, k < np → q_hg (X k) d < 4) : ∀ j, z_sm (zVs np X g d w0 j) 0 4 = z_sm w0 0 4 + z_sm (fun i => if i < np ∧ q_fi (X i) ≤ d then z_un (q_la (X i)) (q_vo (X i)) (q_pc (X i)) (q_kd (X i)) g d else 0) 0 j
  | 0 => rfl
  | j + 1 => by
    have ih := zVs_sum (w0 := w0) (g := g) hh j
    show z_sm (if j < np ∧ q_fi (X j) ≤ d then va_up (zVs np X g d w0 j) (q_hg (X j) d) (zVs np X g d w0 j (q_hg (X j) d) + z_un (q_la (X j)) (q_vo (X j)) (q_pc (X j)) (q_kd (X j)) g d) else zVs np X g d w0 j) 0 4 = z_sm w0 0 4 + (z_sm (fun i => if i < np ∧ q_fi (X i) ≤ d then z_un (q_la (X i)) (q_vo (X i)) (q_pc (X i)) (q_kd (X i)) g d else 0) 0 j + (if 0 + j < np ∧ q_fi (X (0 + j)) ≤ d then z_un (q_la (X (0 + j))) (q_vo (X (0 + j))) (q_pc (X (0 + j))) (q_kd (X (0 + j))) g d else 0))
    rw [Nat.zero_add]
    by_cases c : j < np ∧ q_fi (X j) ≤ d
    · rw [if_pos c, if_pos c, z_sm_up4 (hh j c.1), ih]
      omega
    · rw [if_neg c, if_neg c, ih]
      omega
theorem z_sm_tl {f : Nat → Nat} {n : Nat} (h : ∀ i, n ≤ i → f i = 0) : ∀ m, z_sm f 0 (n + m) = z_sm f 0 n
  | 0 => rfl
  | m + 1 => by
    show z_sm f 0 (n + m) + f (0 + (n + m)) = _
    rw [z_sm_tl h m, h _ (by omega), Nat.add_zero]
/-- all volumes of a day -/
def zVl (σ : zHo) (d n : Nat) : Nat := z_sm (fun k => if q_fi (s_P σ k) ≤ d then z_un (q_la (s_P σ k)) (q_vo (s_P σ k)) (q_pc (s_P σ k)) (q_kd (s_P σ k)) (s_g σ) d else 0) 0 n
theorem zVs_vl {σ : zHo} {d : Nat} (hO : zOk σ) : z_sm (zVs (s_np σ) (s_P σ) (s_g σ) d (z_fill (s_w4 σ) 0 0 4) 8) 0 4 = zVl σ d (s_np σ) := by
  rw [zVs_sum (fun k hk => (zPk_su (zOk_P hO hk)).1 d)]
  have h0 : z_sm (z_fill (s_w4 σ) 0 0 4) 0 4 = 0 := by
    exact (z_sm_cong (f := z_fill (s_w4 σ) 0 0 4) (g := fun _ => 0) (fun i hi => by unfold z_fill; rw [if_pos (by omega)])).trans rfl
  rw [h0, Nat.zero_add]
  have hn := hO.2.1
  rw [show (8 : Nat) = s_np σ + (8 - s_np σ) by omega, z_sm_tl (fun i hi => if_neg (by omega))]
  refine z_sm_cong (fun i hi => ?_)
  rw [Nat.zero_add]
  by_cases c : q_fi (s_P σ i) ≤ d
  · rw [if_pos ⟨hi, c⟩, if_pos c]
  · rw [if_neg (fun q => c q.2), if_neg c]
theorem zVl_le {σ : zHo} {d n : Nat} (hO : zOk σ) (hn : n ≤ s_np σ) : zVl σ d n ≤ 1520000000 := by
  have h := hO.2.1
  have h1 : zVl σ d n ≤ n * 190000000 := z_sm_le (fun i hi => by
    rw [Nat.zero_add]
    split
    · have hp := zOk_P hO (show i < s_np σ by omega)
      exact z_un_le (zPk_vo hp d) (zPk_pc hp) (zOk_g hO d)
    · exact Nat.zero_le _)
  omega
theorem z_n64 {x : Int64} (h1 : -2147483648 ≤ x.toInt) (h2 : x.toInt < 2147483648) : x.toInt32.toInt64 = x := by
  apply Int64.toInt.inj
  rw [Int32.toInt_toInt64, Int64.toInt_toInt32, Int.bmod_eq_of_le (by omega) (by omega)]
theorem zS8_lN {f : Nat → Nat} : ∀ n, zS8 (fun s => lN (f s)) n = lN (z_sm f 0 n)
  | 0 => rfl
  | n + 1 => by
    show zS8 (fun s => lN (f s)) n + lN (f n) = lN (z_sm f 0 n + f (0 + n))
    rw [zS8_lN n, lN_add, Nat.zero_add]
theorem zS8_add {f g : Nat → Int64} : ∀ n, zS8 (fun s => f s + g s) n = zS8 f n + zS8 g n
  | 0 => rfl
  | n + 1 => by
    show zS8 (fun s => f s + g s) n + (f n + g n) = zS8 f n + f n + (zS8 g n + g n)
    rw [zS8_add n]
    grind
theorem zS8_neg {f : Nat → Int64} : ∀ n, zS8 (fun s => -(f s)) n = -(zS8 f n)
  | 0 => by
    show lN 0 = -(lN 0)
    decide
  | n + 1 => by
    show zS8 (fun s => -(f s)) n + -(f n) = -(zS8 f n + f n)
    rw [zS8_neg n]
    grind
theorem z_res_at {rs v : Nat → Int64} {d s : Nat} (hd : d < 1000) (hs : s < 4) : z_res rs v d 4 (s * 1000 + d) = v s := by
  unfold z_res
  rw [if_pos (by omega), show (s * 1000 + d) / 1000 = s by omega]
/-- what the suppliers have of a day, together -/
theorem zSt_sum {fl w : Nat → Nat} {rs : Nat → Int64} {d : Nat} (hd : d < 1000) (hf : fl d ≤ 1000000000) (hw : z_sm w 0 4 ≤ 1600000000) : zS8 (fun s => (zSt fl w rs d (s * 1000 + d)).toInt32.toInt64) 4 = if z_sm w 0 4 = 0 then lN 0 else lN (fl d) := by
  have hpart : ∀ s, s < 4 → w s ≤ z_sm w 0 4 := fun s hs => by
    have h := z_sm_part (f := w) (a := 0) (n := 4) hs
    rw [Nat.zero_add] at h
    exact h
  by_cases h0 : z_sm w 0 4 = 0
  · rw [if_pos h0, zS8_cong (g := fun _ => lN 0) (fun s hs => ?_)]
    · rfl
    · show (z_res rs _ d 4 (s * 1000 + d)).toInt32.toInt64 = lN 0
      rw [z_res_at hd hs]
      have hws : w s = 0 := by have := hpart s hs; omega
      rw [hws, z_pt_none h0]
      unfold z_part
      split <;> rfl
  · rw [if_neg h0]
    have hps := z_pt_sum (U := z_abs (fl d) (z_sm w 0 4)) h0
    have hpp : ∀ s, s < 4 → z_pt (z_abs (fl d) (z_sm w 0 4)) w 0 4 s ≤ z_abs (fl d) (z_sm w 0 4) := fun s hs => by
      have h := z_sm_part (f := z_pt (z_abs (fl d) (z_sm w 0 4)) w 0 4) (a := 0) (n := 4) hs
      rw [Nat.zero_add, hps] at h
      exact h
    by_cases hc : fl d < z_sm w 0 4
    · have ha : z_abs (fl d) (z_sm w 0 4) = z_sm w 0 4 - fl d := if_pos hc
      rw [zS8_cong (g := fun s => lN (w s) + -(lN (z_pt (z_abs (fl d) (z_sm w 0 4)) w 0 4 s))) (fun s hs => ?_), zS8_add, zS8_neg, zS8_lN, zS8_lN, hps, ha]
      · rw [← Int64.sub_eq_add_neg, lN_sub (Nat.sub_le _ _)]
        congr 1
        omega
      · show (z_res rs _ d 4 (s * 1000 + d)).toInt32.toInt64 = _
        rw [z_res_at hd hs, show z_part (fl d) (z_sm w 0 4) (z_pt (z_abs (fl d) (z_sm w 0 4)) w 0 4 s) = -(lN (z_pt (z_abs (fl d) (z_sm w 0 4)) w 0 4 s)) from if_pos hc]
        have b1 := hpart s hs
        have b2 := hpp s hs
        rw [ha] at b2 ⊢
        have e : (lN (w s) + -(lN (z_pt (z_sm w 0 4 - fl d) w 0 4 s))).toInt = (w s : Int) - (z_pt (z_sm w 0 4 - fl d) w 0 4 s : Nat) := by
          rw [← Int64.sub_eq_add_neg, Int64.toInt_sub, pk_lT (by omega), pk_lT (by omega), Int.bmod_eq_of_le (by omega) (by omega)]
        exact z_n64 (by rw [e]; omega) (by rw [e]; omega)
    · have ha : z_abs (fl d) (z_sm w 0 4) = fl d - z_sm w 0 4 := if_neg hc
      rw [zS8_cong (g := fun s => lN (w s) + lN (z_pt (z_abs (fl d) (z_sm w 0 4)) w 0 4 s)) (fun s hs => ?_), zS8_add, zS8_lN, zS8_lN, hps, ha, lN_add]
      · congr 1
        omega
      · show (z_res rs _ d 4 (s * 1000 + d)).toInt32.toInt64 = _
        rw [z_res_at hd hs, show z_part (fl d) (z_sm w 0 4) (z_pt (z_abs (fl d) (z_sm w 0 4)) w 0 4 s) = lN (z_pt (z_abs (fl d) (z_sm w 0 4)) w 0 4 s) from if_neg hc]
        have b1 := hpart s hs
        have b2 := hpp s hs
        rw [ha] at b2 ⊢
        have e : (lN (w s) + lN (z_pt (fl d - z_sm w 0 4) w 0 4 s)).toInt = ((w s + z_pt (fl d - z_sm w 0 4) w 0 4 s : Nat) : Int) := by
          rw [lN_add, pk_lT (by omega)]
        exact z_n64 (by rw [e]; omega) (by rw [e]; omega)
def zLk (σ s9 : zHo) : Prop := zOk s9 ∧ s_np s9 = s_np σ ∧ s_T s9 = s_T σ ∧ s_g s9 = s_g σ ∧ s_ic s9 = s_ic σ ∧ s_P s9 = s_P σ
def zIn (σ : zHo) (d u9 : Nat) (r : Int32) (s9 : zHo) : Prop := (0 < s_ru σ d ∧ r = -70008 ∧ s9 = σ) ∨ (s_ru σ d = 0 ∧ r = nI (s_fl σ d) ∧ zLk σ s9 ∧ s_ru s9 d = 0 ∧ s_fl s9 d = u9)
def zSe (σ : zHo) (d : Nat) (r : Int32) (s9 : zHo) : Prop := (s_ru σ d = 3 ∧ r = -70008 ∧ s9 = σ) ∨ (s_ru σ d < 3 ∧ r = nI (s_ru σ d + 1) ∧ zLk σ s9 ∧ s_ru s9 d = s_ru σ d + 1 ∧ zS8 (fun s => (s_rs s9 (s * 1000 + d)).toInt32.toInt64) 4 = if zVl σ d (s_np σ) = 0 then lN 0 else lN (s_fl σ d))
theorem q_inflow (l : Launch) (hl9 : l.stackTraces = false) (G : va_G) (cy : Nat → ClassId) (wd : Nat → Nat) (fo : Option Nat) (N0 sz0 : Nat) (a : Nat → Nat) (sg : zHo) (hO : zOk sg) (d u9 : Nat) (hd : d < s_T sg) (hu : u9 ≤ 1000000000) (d9 : Int32) : zHi l yL_asks wsL_asks zR9 G cy wd fo N0 [.ref (a 0), .int (nI 8), .int (nI d), .int (nI u9), .int d9] sz0 a sg (zIn sg d u9) 1 6 := by
  by_cases h : s_ru sg d = 0
  · refine z_relw (k_c_inflow l hl9 G cy wd fo N0 sz0 a sg hO.1 d u9 hd hu h d9) (fun r u q => ?_)
    obtain ⟨h1, h2⟩ := q
    obtain ⟨g1, g2, g3, g4, g5, g6, g7, g8, g9, g10⟩ := hO
    refine Or.inr ⟨h, h1, ?_, by rw [h2]; exact h, by rw [h2]; exact va_upk⟩
    rw [h2]
    refine ⟨⟨g1, g2, g3, g4, fun i => ?_, g6, g7, g8, g9, g10⟩, rfl, rfl, rfl, rfl, rfl⟩
    show va_up (s_fl sg) d u9 i ≤ 1000000000
    by_cases e : i = d
    · rw [e, va_upk]
      exact hu
    · rw [va_upj e]
      exact g5 i
  · exact z_relw (k_e3_inflow l hl9 G cy wd fo N0 sz0 a sg hO.1 d u9 hd hu (by omega) (hO.2.2.2.2.2.1 d) d9) (fun r u q => Or.inl ⟨by omega, q⟩)
theorem q_settle (l : Launch) (hl9 : l.stackTraces = false) (G : va_G) (cy : Nat → ClassId) (wd : Nat → Nat) (fo : Option Nat) (N0 sz0 : Nat) (a : Nat → Nat) (sg : zHo) (hO : zOk sg) (d : Nat) (hd : d < s_T sg) (b8 d9 : Int32) : zHi l yL_asks wsL_asks zR9 G cy wd fo N0 [.ref (a 0), .int (nI 7), .int (nI d), .int b8, .int d9] sz0 a sg (zSe sg d) 1 6 := by
  have hT := hO.1
  have hr := hO.2.2.2.2.2.1 d
  by_cases h : s_ru sg d = 3
  · exact z_relw (k_e3_settle l hl9 G cy wd fo N0 sz0 a sg hO.1 d hd h b8 d9) (fun r u q => Or.inl ⟨h, q⟩)
  · have hv := zVs_vl (d := d) hO
    have hvl := zVl_le (d := d) hO (Nat.le_refl _)
    refine z_relw (k_c_settle l hl9 G cy wd fo N0 sz0 a sg hO.2.1 hO.2.2.1 hO.1 d hd hO.2.2.2.1 (by omega) (hO.2.2.2.2.1 d) (fun k hk => ?_) (by rw [hv]; omega) b8 d9) (fun r u q => ?_)
    · have hp := zOk_P hO hk
      have h1 := zPk_la hp
      have h2 := zPk_con hp
      have h3 := zPk_pc hp
      exact ⟨zPk_kd hp, (zPk_su hp).1 d, by omega, by omega, by omega⟩
    · obtain ⟨h1, w5, p5, q5, h2⟩ := q
      obtain ⟨g1, g2, g3, g4, g5, g6, g7, g8, g9, g10⟩ := hO
      refine Or.inr ⟨by omega, h1, ?_, by rw [h2]; exact va_upk, ?_⟩
      · rw [h2]
        refine ⟨⟨g1, g2, g3, g4, g5, fun i => ?_, g7, g8, g9, g10⟩, rfl, rfl, rfl, rfl, rfl⟩
        show va_up (s_ru sg) d (s_ru sg d + 1) i ≤ 3
        by_cases e : i = d
        · rw [e, va_upk]
          omega
        · rw [va_upj e]
          exact g6 i
      · rw [h2, ← hv]
        exact zSt_sum (by omega) (g5 d) (by rw [hv]; omega)
