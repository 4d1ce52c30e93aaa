/-- what was billed of a point, behind so many days: incomes, cents, billers, more -/
abbrev zBs : Type := (Nat → Int64) × (Nat → Int64) × (Nat → Nat) × Int64
def zBst (hg K mb : Nat → Nat) (x : zBs) (d : Nat) : zBs := (z_in2 x.2.2.1 x.2.1 x.1 d (hg d) (K d) (mb d), z_ce2 x.2.2.1 x.2.1 d (hg d) (K d) (mb d), va_up x.2.2.1 d (hg d), x.2.2.2 + (z_due x.2.2.1 x.2.1 d (hg d) (K d) (mb d) - z_bk x.2.2.1 x.2.1 d (hg d)))
def zBl (hg K mb : Nat → Nat) (x : zBs) (fi : Nat) : Nat → zBs
  | 0 => x
  | j + 1 => zBst hg K mb (zBl hg K mb x fi j) (fi + j)
abbrev zBK (f b q vo g hg : Nat → Nat) (la pc kd : Nat) : Nat → Nat := fun d => z_cost (z_un la vo pc kd g d) (f (hg d * 1000 + d)) (b (hg d * 1000 + d)) (q (hg d * 1000 + d))
abbrev zBm (T : Nat) : Nat → Nat := fun d => if T - d ≤ 100 then 1 else 0
theorem zBs_step {hg K mb : Nat → Nat} {x x0 : zBs} {fi j v : Nat} (h : x = zBl hg K mb x0 fi j) (hm : mb (fi + j) = v) : (z_in2 x.2.2.1 x.2.1 x.1 (fi + j) (hg (fi + j)) (K (fi + j)) v, z_ce2 x.2.2.1 x.2.1 (fi + j) (hg (fi + j)) (K (fi + j)) v, va_up x.2.2.1 (fi + j) (hg (fi + j)), x.2.2.2 + (z_due x.2.2.1 x.2.1 (fi + j) (hg (fi + j)) (K (fi + j)) v - z_bk x.2.2.1 x.2.1 (fi + j) (hg (fi + j)))) = zBl hg K mb x0 fi (j + 1) := by
  subst hm
  subst h
  rfl
theorem z_un_lt {la pc kd d : Nat} {vo g : Nat → Nat} (hkd : kd < 3) (hg : ∀ d, g d ≤ 30) (hpc : pc < 2 ^ 31) (hvo : ∀ d, vo d < 2 ^ 31) : z_un la vo pc kd g d < 2 ^ 62 := by
  unfold z_un
  split
  · have := hvo d; omega
  · have h1 := Nat.mul_le_mul (Nat.le_of_lt hpc) (z_wt_le (k := kd) (hg d))
    omega
