/-! numbers of suppliers, tariffs, bills, settlement -/
/-- the day d begins: each supplier has the tariff of the day ahead -/
def z_cp (f : Nat → Nat) (d n i : Nat) : Nat := if i % 1000 = d ∧ i / 1000 < n then f (i - 1) else f i
theorem z_cp_0 {f : Nat → Nat} {d : Nat} : z_cp f d 0 = f := by
  funext i; unfold z_cp; rw [if_neg (by omega)]
theorem z_cp_up {f : Nat → Nat} {d n : Nat} (h0 : 0 < d) (h1 : d < 1000) : va_up (z_cp f d n) (n * 1000 + d) (z_cp f d n (n * 1000 + d - 1)) = z_cp f d (n + 1) := by
  funext i; unfold va_up
  have e : z_cp f d n (n * 1000 + d - 1) = f (n * 1000 + d - 1) := by unfold z_cp; rw [if_neg (by omega)]
  by_cases h : i = n * 1000 + d
  · rw [if_pos h, e, z_cp, if_pos (by omega), h]
  · rw [if_neg h]; unfold z_cp
    by_cases h2 : i % 1000 = d ∧ i / 1000 < n
    · rw [if_pos h2, if_pos (by omega)]
    · rw [if_neg h2, if_neg (by omega)]
def z_cost (u f b r : Nat) : Nat := (if b < u then b else u) * f + (u - if b < u then b else u) * r
theorem z_min {x y : Nat} (hx : x < 2 ^ 63) (hy : y < 2 ^ 63) : (if lN y < lN x then lN y else lN x) = lN (if y < x then y else x) := by
  by_cases h : y < x
  · rw [if_pos h, if_pos ((pk_lLT hy hx).mpr h)]
  · rw [if_neg h, if_neg (fun q => h ((pk_lLT hy hx).mp q))]
/-- a bill of a day -/
def z_ce1 (bi : Nat → Nat) (ce : Nat → Int64) (d sp : Nat) : Nat → Int64 := if bi d = sp then ce else vp_updL ce d (lN 0)
def z_in1 (bi : Nat → Nat) (ce inc : Nat → Int64) (d sp : Nat) : Nat → Int64 := if bi d = sp then inc else vp_updL inc (bi d) (inc (bi d) + -(ce d))
def z_bk (bi : Nat → Nat) (ce : Nat → Int64) (d sp : Nat) : Int64 := if bi d = sp then lN 0 else ce d
def z_du (m : Int64) (mb : Nat) : Int64 := if lN 0 < m ∧ mb = 0 then lN 0 else m
def z_due (bi : Nat → Nat) (ce : Nat → Int64) (d sp K mb : Nat) : Int64 := z_du (lN K - z_ce1 bi ce d sp d) mb
def z_ce2 (bi : Nat → Nat) (ce : Nat → Int64) (d sp K mb : Nat) : Nat → Int64 := vp_updL (z_ce1 bi ce d sp) d (z_ce1 bi ce d sp d + z_due bi ce d sp K mb)
def z_in2 (bi : Nat → Nat) (ce inc : Nat → Int64) (d sp K mb : Nat) : Nat → Int64 := vp_updL (z_in1 bi ce inc d sp) sp (z_in1 bi ce inc d sp sp + z_due bi ce d sp K mb)
/-- a settlement -/
def z_abs (x y : Nat) : Nat := if x < y then y - x else x - y
theorem z_mabs {x y : Nat} (hx : x < 2 ^ 62) (hy : y < 2 ^ 62) : (if 0 < lN x - lN y then lN x - lN y else -(lN x - lN y)) = lN (z_abs x y) := by
  unfold z_abs
  have e0 : (0 : Int64) = lN 0 := rfl
  by_cases h : x < y
  · have e : lN x - lN y = -(lN (y - x)) := by rw [← lN_sub (by omega), Int64.neg_sub]
    rw [if_pos h, e, Int64.neg_neg, if_neg]
    rw [Int64.lt_iff_toInt_lt, Int64.toInt_neg, pk_lT (by omega), Int.bmod_eq_of_le (by omega) (by omega)]
    have : (0 : Int64).toInt = 0 := rfl
    omega
  · rw [if_neg h, lN_sub (by omega)]
    by_cases h2 : x - y = 0
    · rw [h2]; rfl
    · rw [if_pos]
      rw [e0, pk_lLT (by omega) (by omega)]; omega
def z_part (loss9 all9 pt : Nat) : Int64 := if loss9 < all9 then -(lN pt) else lN pt
/-- the results of a day: what the suppliers have and their part -/
def z_res (rs : Nat → Int64) (v : Nat → Int64) (d n i : Nat) : Int64 := if i % 1000 = d ∧ i / 1000 < n then v (i / 1000) else rs i
theorem z_res_0 {rs v : Nat → Int64} {d : Nat} : z_res rs v d 0 = rs := by
  funext i; unfold z_res; rw [if_neg (by omega)]
theorem z_res_up {rs v : Nat → Int64} {d n : Nat} {x : Int64} (h1 : d < 1000) (hx : x = v n) : vp_updL (z_res rs v d n) (n * 1000 + d) x = z_res rs v d (n + 1) := by
  funext i; unfold vp_updL
  by_cases h : i = n * 1000 + d
  · rw [if_pos h, z_res, if_pos (by omega), hx, show i / 1000 = n by omega]
  · rw [if_neg h]; unfold z_res
    by_cases h2 : i % 1000 = d ∧ i / 1000 < n
    · rw [if_pos h2, if_pos (by omega)]
    · rw [if_neg h2, if_neg (by omega)]
theorem z_ge0l {x y : Nat} (hx : x < 2 ^ 62) (hy : y < 2 ^ 62) : lN 0 ≤ lN x - lN y ↔ y ≤ x := by
  rw [Int64.le_iff_toInt_le, Int64.toInt_sub, pk_lT (show (0 : Nat) < 2 ^ 63 by decide), pk_lT (show x < 2 ^ 63 by omega), pk_lT (show y < 2 ^ 63 by omega), Int.bmod_eq_of_le (by omega) (by omega)]
  omega
