/-- the digits of v from the place of w's own digits on are written -/
def zGr (t : Nat → Nat) (a v n : Nat) : Nat → Nat := fun j => if a + n ≤ j ∧ j < a + sb_dg v then sb_dec v (j - a) else t j
/-- w is v without its last digits -/
def zGw (v w : Nat) : Prop := sb_dg w ≤ sb_dg v ∧ w = v / 10 ^ (sb_dg v - sb_dg w)
theorem zGw_0 {v : Nat} : zGw v v := ⟨Nat.le_refl _, by rw [Nat.sub_self, Nat.pow_zero, Nat.div_one]⟩
theorem zGr_0 {t : Nat → Nat} {a v : Nat} : zGr t a v (sb_dg v) = t := by
  funext j
  rw [zGr, if_neg (by omega)]
theorem zGr_up {t : Nat → Nat} {a v n x : Nat} (hn : n < sb_dg v) (hx : x = sb_dec v n) : va_up (zGr t a v (n + 1)) (a + n) x = zGr t a v n := by
  funext j
  unfold va_up zGr
  by_cases q : j = a + n
  · rw [if_pos q, if_pos (by omega), hx, q, show a + n - a = n by omega]
  · rw [if_neg q]
    by_cases q2 : a + (n + 1) ≤ j ∧ j < a + sb_dg v
    · rw [if_pos q2, if_pos (by omega)]
    · rw [if_neg q2, if_neg (by omega)]
theorem zGw_dec0 {v w : Nat} (h : zGw v w) : 48 + w % 10 = sb_dec v (sb_dg w - 1) := by
  have hd := sb_dg_in w
  obtain ⟨h1, h2⟩ := h
  show _ = 48 + v / 10 ^ (sb_dg v - 1 - (sb_dg w - 1)) % 10
  rw [show sb_dg v - 1 - (sb_dg w - 1) = sb_dg v - sb_dg w by omega, ← h2]
theorem zGw_dec1 {v w : Nat} (h : zGw v w) (hw : 2 ≤ sb_dg w) : 48 + w / 10 % 10 = sb_dec v (sb_dg w - 2) := by
  obtain ⟨h1, h2⟩ := h
  show _ = 48 + v / 10 ^ (sb_dg v - 1 - (sb_dg w - 2)) % 10
  rw [show sb_dg v - 1 - (sb_dg w - 2) = (sb_dg v - sb_dg w) + 1 by omega, Nat.pow_succ, ← Nat.div_div_eq_div_mul, ← h2]
theorem zGw_next {v w : Nat} (h : zGw v w) (hw : 100 ≤ w) (hw2 : w < 2 ^ 31) : zGw v (w / 100) := by
  have hd := sb_dg100 hw hw2
  have hd1 := sb_dg_in (w / 100)
  obtain ⟨h1, h2⟩ := h
  refine ⟨by omega, ?_⟩
  rw [show sb_dg v - sb_dg (w / 100) = (sb_dg v - sb_dg w) + 2 by omega, Nat.pow_add, ← Nat.div_div_eq_div_mul, ← h2]
theorem zG_step {t : Nat → Nat} {a v w : Nat} (h : zGw v w) (hw : 100 ≤ w) (hw2 : w < 2 ^ 31) : va_up (va_up (zGr t a v (sb_dg w)) (a + sb_dg w - 1) (48 + w % 100 % 10)) (a + sb_dg w - 1 - 1) (48 + w % 100 / 10) = zGr t a v (sb_dg (w / 100)) := by
  have hd := sb_dg100 hw hw2
  have hd1 := sb_dg_in (w / 100)
  have h0 := h.1
  have e1 := zGr_up (t := t) (a := a) (v := v) (n := sb_dg (w / 100) + 1) (x := 48 + w % 100 % 10) (by omega) (by rw [show w % 100 % 10 = w % 10 by omega, zGw_dec0 h, hd]; rfl)
  have e2 := zGr_up (t := t) (a := a) (v := v) (n := sb_dg (w / 100)) (x := 48 + w % 100 / 10) (by omega) (by rw [show w % 100 / 10 = w / 10 % 10 by omega, zGw_dec1 h (by omega), hd]; rfl)
  rw [hd, show a + (sb_dg (w / 100) + 2) - 1 = a + (sb_dg (w / 100) + 1) by omega, show a + (sb_dg (w / 100) + 1) - 1 = a + sb_dg (w / 100) by omega]
  rw [show sb_dg (w / 100) + 2 = sb_dg (w / 100) + 1 + 1 from rfl, e1, e2]
theorem z_dg1 {w : Nat} (h : w < 10) : sb_dg w = 1 := by
  unfold sb_dg
  rw [if_pos h]
theorem z_dg2 {w : Nat} (h : ¬ w < 10) (h2 : w < 100) : sb_dg w = 2 := by
  unfold sb_dg
  rw [if_neg h, if_pos h2]
theorem zG_end1 {t : Nat → Nat} {a v w : Nat} (h : zGw v w) (hw : w < 10) : va_up (zGr t a v (sb_dg w)) (a + sb_dg w - 1) (48 + w % 10) = zGr t a v 0 := by
  have h0 := h.1
  have e := zGw_dec0 h
  rw [z_dg1 hw] at h0 e ⊢
  exact zGr_up (n := 0) (by omega) e
theorem zG_end2 {t : Nat → Nat} {a v w : Nat} (h : zGw v w) (hw : ¬ w < 10) (hw2 : w < 100) : va_up (va_up (zGr t a v (sb_dg w)) (a + sb_dg w - 1) (48 + w % 10)) (a + sb_dg w - 1 - 1) (48 + w / 10) = zGr t a v 0 := by
  have h0 := h.1
  have e := zGw_dec0 h
  have e1 := zGw_dec1 h (by rw [z_dg2 hw hw2]; exact Nat.le_refl 2)
  rw [z_dg2 hw hw2] at h0 e e1 ⊢
  rw [show a + 2 - 1 = a + 1 by omega, show a + 1 - 1 = a + 0 by omega]
  have f1 := zGr_up (t := t) (a := a) (v := v) (n := 1) (by omega) e
  have f2 := zGr_up (t := t) (a := a) (v := v) (n := 0) (by omega) (show 48 + w / 10 = sb_dec v 0 by rw [show w / 10 = w / 10 % 10 by omega]; exact e1)
  rw [show (2 : Nat) = 1 + 1 from rfl, f1, show (1 : Nat) = 0 + 1 from rfl, f2]
theorem z_dgk {w : Nat} (k : Nat) (h1 : 1 ≤ k) (h2 : k ≤ 10) (h3 : k = 10 ∨ w < 10 ^ k) (h4 : k = 1 ∨ 10 ^ (k - 1) ≤ w) : k = sb_dg w := by
  rcases (show k = 1 ∨ k = 2 ∨ k = 3 ∨ k = 4 ∨ k = 5 ∨ k = 6 ∨ k = 7 ∨ k = 8 ∨ k = 9 ∨ k = 10 by omega) with rfl | rfl | rfl | rfl | rfl | rfl | rfl | rfl | rfl | rfl
  all_goals (unfold sb_dg; simp only [Nat.reducePow, Nat.reduceSub, Nat.reduceEqDiff, false_or, true_or] at h3 h4)
  all_goals (repeat' split)
  all_goals omega
theorem z_cpy2 {t : Nat → Nat} {off : Nat} (h : off < 2 ^ 31) : va_cpy (fun j => ([47, 115] : List Int32).getD j 0) (fun j9 => nI (t j9)) (nI 0).toNatClampNeg (nI off).toNatClampNeg (nI 2).toNatClampNeg = fun j9 => nI (va_up (va_up t off 47) (off + 1) 115 j9) := by
  rw [nI_clamp h, nI_clamp (by decide), nI_clamp (by decide)]
  funext j
  unfold va_cpy va_up
  by_cases h1 : j = off + 1
  · rw [if_pos (by omega), if_pos h1, show 0 + (j - off) = 1 by omega]; rfl
  · rw [if_neg h1]
    by_cases h2 : j = off
    · rw [if_pos (by omega), if_pos h2, show 0 + (j - off) = 0 by omega]; rfl
    · rw [if_neg (by omega), if_neg h2]
theorem z_min16 {c : Nat} (h : c ≤ 16) : (if nI 16 < nI c then nI 16 else nI c) = nI c := (by decide +kernel : ∀ c : Fin 17, (if nI 16 < nI c.val then nI 16 else nI c.val) = nI c.val) ⟨c, by omega⟩
theorem zGr_full {t : Nat → Nat} {a v j : Nat} : zGr t a v 0 j = if a ≤ j ∧ j < a + sb_dg v then sb_dec v (j - a) else t j := rfl
theorem zW_sign {la un sp d pl c : Nat} (hc : c = if d < la then 109 else 101) (hsp : sp < 4) (hpl : pl < 0 + 1 + sb_dg un + 2 + sb_dg sp) : zGr (va_up (va_up (zGr (va_up (fun _ => 0) 0 c) (0 + 1) un 0) (0 + 1 + sb_dg un) 47) (0 + 1 + sb_dg un + 1) 115) (0 + 1 + sb_dg un + 2) sp 0 pl = z_sign la un sp d pl := by
  have h1 := sb_dg_in un
  have h2 : sb_dg sp = 1 := z_dg1 (by omega)
  rw [h2] at hpl
  rw [zGr_full, h2, z_sign]
  by_cases a1 : pl = 0
  · rw [if_neg (by omega), if_pos a1]
    unfold va_up
    rw [if_neg (by omega), if_neg (by omega), zGr_full, if_neg (by omega), if_pos a1, hc]
  · by_cases a2 : pl ≤ sb_dg un
    · rw [if_neg (by omega), if_neg a1, if_pos a2]
      unfold va_up
      rw [if_neg (by omega), if_neg (by omega), zGr_full, if_pos (by omega)]
      show 48 + un / 10 ^ (sb_dg un - 1 - (pl - (0 + 1))) % 10 = _
      rw [show sb_dg un - 1 - (pl - (0 + 1)) = sb_dg un - pl by omega]
    · rw [if_neg a1, if_neg a2]
      by_cases a3 : pl = sb_dg un + 1
      · rw [if_neg (by omega), if_pos a3]
        unfold va_up
        rw [if_neg (by omega), if_pos (by omega)]
      · by_cases a4 : pl = sb_dg un + 2
        · rw [if_neg (by omega), if_neg a3, if_pos a4]
          unfold va_up
          rw [if_pos (by omega)]
        · rw [if_pos (by omega), if_neg a3, if_neg a4, if_pos (by omega)]
          show 48 + sp / 10 ^ (sb_dg sp - 1 - (pl - (0 + 1 + sb_dg un + 2))) % 10 = _
          rw [h2, show 1 - 1 - (pl - (0 + 1 + sb_dg un + 2)) = 0 by omega, Nat.pow_zero, Nat.div_one, Nat.mod_eq_of_lt (by omega)]
theorem zW_blank {la un sp d pl : Nat} (hsp : sp < 4) (hpl : ¬ pl < 0 + 1 + sb_dg un + 2 + sb_dg sp) : z_sign la un sp d pl = 32 := by
  have h1 := sb_dg_in un
  have h2 : sb_dg sp = 1 := z_dg1 (by omega)
  rw [z_sign, if_neg (by omega), if_neg (by omega), if_neg (by omega), if_neg (by omega), if_neg (by omega)]
theorem zW_dg {un : Nat} (h : un ≤ 190000000) : sb_dg un ≤ 9 := by
  unfold sb_dg
  (repeat' split) <;> omega
theorem zW_lt {c un sp j : Nat} (hc : c < 128) : zGr (va_up (va_up (zGr (va_up (fun _ => 0) 0 c) (0 + 1) un 0) (0 + 1 + sb_dg un) 47) (0 + 1 + sb_dg un + 1) 115) (0 + 1 + sb_dg un + 2) sp 0 j < 128 := by
  have dd : ∀ v i, sb_dec v i < 128 := fun v i => by
    show 48 + v / 10 ^ (sb_dg v - 1 - i) % 10 < 128
    have := Nat.mod_lt (v / 10 ^ (sb_dg v - 1 - i)) (show 0 < 10 by decide)
    omega
  rw [zGr_full]
  split
  · exact dd _ _
  · unfold va_up
    split
    · decide
    · split
      · decide
      · rw [zGr_full]
        split
        · exact dd _ _
        · split
          · exact hc
          · show 0 < 128; decide
