/-! the reference: a day begins, bills, words -/
def z_bS (su : Nat → Nat) (cO : Nat → Int32) (cT : Nat → Nat) (t n i : Nat) : Nat := if i % 1000 = t ∧ i / 1000 < n then (if cO (i / 1000) = nI t then cT (i / 1000) else su (i - 1)) else su i
def z_bC (cO : Nat → Int32) (t n k : Nat) : Int32 := if k < n ∧ cO k = nI t then -1 else cO k
def z_bM (cO mO : Nat → Int32) (t n k : Nat) : Int32 := if k < n ∧ cO k = nI t then nI t else mO k
def z_bB (cO : Nat → Int32) (bf su : Nat → Nat) (t n k : Nat) : Nat := if k < n ∧ cO k = nI t then su (1000 * k + t - 1) else bf k
theorem z_b_0 {su cT bf : Nat → Nat} {cO mO : Nat → Int32} {t : Nat} : su = z_bS su cO cT t 0 ∧ cO = z_bC cO t 0 ∧ mO = z_bM cO mO t 0 ∧ bf = z_bB cO bf su t 0 := by
  refine ⟨?_, ?_, ?_, ?_⟩ <;> funext i <;> simp [z_bS, z_bC, z_bM, z_bB]
theorem z_bS_ahead {su cT : Nat → Nat} {cO : Nat → Int32} {t n : Nat} (h0 : 0 < t) (h1 : t < 1000) : z_bS su cO cT t n (1000 * n + t - 1) = su (1000 * n + t - 1) := by
  unfold z_bS; rw [if_neg (by omega)]
theorem z_bS_n {su cT : Nat → Nat} {cO : Nat → Int32} {t n : Nat} (h0 : 0 < t) (h1 : t < 1000) (h : ¬ cO n = nI t) : va_up (z_bS su cO cT t n) (1000 * n + t) (su (1000 * n + t - 1)) = z_bS su cO cT t (n + 1) := by
  funext i; unfold va_up
  by_cases q : i = 1000 * n + t
  · rw [if_pos q, z_bS, if_pos (by omega), show i / 1000 = n by omega, if_neg h, q]
  · rw [if_neg q]; unfold z_bS
    by_cases q2 : i % 1000 = t ∧ i / 1000 < n
    · rw [if_pos q2, if_pos (show i % 1000 = t ∧ i / 1000 < n + 1 by omega)]
    · rw [if_neg q2, if_neg (show ¬ (i % 1000 = t ∧ i / 1000 < n + 1) by omega)]
theorem z_bS_y {su cT : Nat → Nat} {cO : Nat → Int32} {t n x : Nat} (h0 : 0 < t) (h1 : t < 1000) (h : cO n = nI t) : va_up (va_up (z_bS su cO cT t n) (1000 * n + t) x) (1000 * n + t) (cT n) = z_bS su cO cT t (n + 1) := by
  funext i; unfold va_up
  by_cases q : i = 1000 * n + t
  · rw [if_pos q, z_bS, if_pos (by omega), show i / 1000 = n by omega, if_pos h]
  · rw [if_neg q, if_neg q]; unfold z_bS
    by_cases q2 : i % 1000 = t ∧ i / 1000 < n
    · rw [if_pos q2, if_pos (show i % 1000 = t ∧ i / 1000 < n + 1 by omega)]
    · rw [if_neg q2, if_neg (show ¬ (i % 1000 = t ∧ i / 1000 < n + 1) by omega)]
theorem z_b_n {su bf : Nat → Nat} {cO mO : Nat → Int32} {t n : Nat} (h : ¬ cO n = nI t) : z_bC cO t n = z_bC cO t (n + 1) ∧ z_bM cO mO t n = z_bM cO mO t (n + 1) ∧ z_bB cO bf su t n = z_bB cO bf su t (n + 1) := by
  have e : ∀ k, (k < n ∧ cO k = nI t) ↔ (k < n + 1 ∧ cO k = nI t) := fun k => ⟨fun q => ⟨by omega, q.2⟩, fun q => ⟨by
    rcases Nat.lt_or_ge k n with q2 | q2
    · exact q2
    · exact absurd q.2 (by rw [show k = n by omega]; exact h), q.2⟩⟩
  refine ⟨?_, ?_, ?_⟩ <;> funext k
  · unfold z_bC; simp only [e k]
  · unfold z_bM; simp only [e k]
  · unfold z_bB; simp only [e k]
theorem z_b_y {su bf : Nat → Nat} {cO mO : Nat → Int32} {t n : Nat} (h : cO n = nI t) : upd (z_bC cO t n) n (-1) = z_bC cO t (n + 1) ∧ upd (z_bM cO mO t n) n (nI t) = z_bM cO mO t (n + 1) ∧ va_up (z_bB cO bf su t n) n (su (1000 * n + t - 1)) = z_bB cO bf su t (n + 1) := by
  refine ⟨?_, ?_, ?_⟩ <;> funext k
  · unfold upd z_bC
    by_cases q : k = n
    · rw [if_pos q, if_pos ⟨by omega, by rw [q]; exact h⟩]
    · rw [if_neg q]
      by_cases q2 : k < n ∧ cO k = nI t
      · rw [if_pos q2, if_pos ⟨by omega, q2.2⟩]
      · rw [if_neg q2, if_neg (fun q3 => q2 ⟨by omega, q3.2⟩)]
  · unfold upd z_bM
    by_cases q : k = n
    · rw [if_pos q, if_pos ⟨by omega, by rw [q]; exact h⟩]
    · rw [if_neg q]
      by_cases q2 : k < n ∧ cO k = nI t
      · rw [if_pos q2, if_pos ⟨by omega, q2.2⟩]
      · rw [if_neg q2, if_neg (fun q3 => q2 ⟨by omega, q3.2⟩)]
  · unfold va_up z_bB
    by_cases q : k = n
    · rw [if_pos q, if_pos ⟨by omega, by rw [q]; exact h⟩, q]
    · rw [if_neg q]
      by_cases q2 : k < n ∧ cO k = nI t
      · rw [if_pos q2, if_pos ⟨by omega, q2.2⟩]
      · rw [if_neg q2, if_neg (fun q3 => q2 ⟨by omega, q3.2⟩)]
theorem z_cost_le {u f b r : Nat} (h : ¬ b < u) : u * f = z_cost u f b r := by
  unfold z_cost; rw [if_neg h, Nat.sub_self, Nat.zero_mul]; rfl
theorem z_cost_gt {u f b r : Nat} (h : b < u) : b * f + (u - b) * r = z_cost u f b r := by
  unfold z_cost; rw [if_pos h]
def z_mb (T d : Nat) : Nat := if T - d ≤ 100 then 1 else 0
theorem z_r1 (m : Int64) : lN 0 + m = m - lN 0 := by rw [lN_0, Int64.zero_add, Int64.sub_zero]
theorem z_r2 (b m : Int64) : lN 0 - b + m = m - b := by rw [lN_0, Int64.zero_sub, Int64.add_comm, Int64.sub_eq_add_neg]
theorem z_va_same {f : Nat → Nat} {k x : Nat} (h : f k = x) : va_up f k x = f := by
  funext i; unfold va_up; split
  · rename_i q; rw [q, h]
  · rfl
/-- the figures of a number -/
theorem z_dg {u m : Nat} (h1 : 1 ≤ m) (h2 : m ≤ 10) (h3 : u < 10 ^ m) (h4 : m = 1 ∨ 10 ^ (m - 1) ≤ u) : sb_dg u = m := by
  unfold sb_dg
  rcases (show m = 1 ∨ m = 2 ∨ m = 3 ∨ m = 4 ∨ m = 5 ∨ m = 6 ∨ m = 7 ∨ m = 8 ∨ m = 9 ∨ m = 10 by omega) with rfl | rfl | rfl | rfl | rfl | rfl | rfl | rfl | rfl | rfl <;> simp at h3 h4 <;> (repeat' split) <;> omega
/-- the sign of a word -/
def z_sign (la u sp d place : Nat) : Nat := if place = 0 then (if d < la then 109 else 101) else if place ≤ sb_dg u then 48 + u / 10 ^ (sb_dg u - place) % 10 else if place = sb_dg u + 1 then 47 else if place = sb_dg u + 2 then 115 else if place = sb_dg u + 3 then 48 + sp else 32
theorem z_un_le {la pc k d : Nat} {vo g : Nat → Nat} (h1 : vo d ≤ 10000001) (h2 : pc ≤ 2000000000) (h3 : g d ≤ 30) : z_un la vo pc k g d ≤ 190000000 := by
  unfold z_un
  split
  · omega
  · have := Nat.mul_le_mul h2 (z_wt_le (k := k) h3)
    omega
theorem z_chr {x : Nat} (h : x < 65536) : ((nI x).toUInt32 % 65536).toInt32 = nI x := by
  rw [pk_char, pk_tn (by omega), Nat.mod_eq_of_lt h]
