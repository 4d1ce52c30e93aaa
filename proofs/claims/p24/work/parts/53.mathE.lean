def zRst (su K : Nat → Nat) (T k : Nat) (x : zBs) (d : Nat) : zBs := (z_in2 x.2.2.1 x.2.1 x.1 (1000 * k + d) (su (1000 * k + d)) (K d) (z_mb T d), z_ce2 x.2.2.1 x.2.1 (1000 * k + d) (su (1000 * k + d)) (K d) (z_mb T d), va_up x.2.2.1 (1000 * k + d) (su (1000 * k + d)), x.2.2.2 + (z_due x.2.2.1 x.2.1 (1000 * k + d) (su (1000 * k + d)) (K d) (z_mb T d) - z_bk x.2.2.1 x.2.1 (1000 * k + d) (su (1000 * k + d))))
def zRB (su K : Nat → Nat) (T k : Nat) (x : zBs) (fi : Nat) : Nat → zBs
  | 0 => x
  | j + 1 => zRst su K T k (zRB su K T k x fi j) (fi + j)
theorem zRB_step {su K : Nat → Nat} {T k fi j : Nat} {x x0 : zBs} (h : x = zRB su K T k x0 fi j) : zRst su K T k x (fi + j) = zRB su K T k x0 fi (j + 1) := by
  subst h
  rfl
abbrev zRK (su lo bl hi ro vo pc kd dg : Nat → Nat) (k : Nat) : Nat → Nat := fun d => z_cost (z_un (ro k) (fun j8 => vo (1000 * k + j8)) (pc k) (kd k) dg d) (lo (1000 * su (1000 * k + d) + d)) (bl (1000 * su (1000 * k + d) + d)) (hi (1000 * su (1000 * k + d) + d))
abbrev zDs : Type := (Nat → Int32) × (Nat → Int32) × (Nat → Nat) × (Nat → Nat)
def zDst (cT : Nat → Nat) (np : Nat) (x : zDs) (t : Nat) : zDs := (z_bC x.1 t np, z_bM x.1 x.2.1 t np, z_bB x.1 x.2.2.1 x.2.2.2 t np, z_bS x.2.2.2 x.1 cT t np)
def zDn (cT : Nat → Nat) (np T : Nat) (x : zDs) : Nat → zDs
  | 0 => x
  | n + 1 => zDst cT np (zDn cT np T x n) (T + n + 1)
theorem zDn_step {cT : Nat → Nat} {np T n : Nat} {x x0 : zDs} (h : x = zDn cT np T x0 n) : zDst cT np x (T + n + 1) = zDn cT np T x0 (n + 1) := by
  subst h
  rfl
theorem z_sign_lt {la u sp d pl : Nat} (hsp : sp < 4) : z_sign la u sp d pl < 65536 := by
  unfold z_sign
  have := Nat.mod_lt (u / 10 ^ (sb_dg u - pl)) (show 0 < 10 by decide)
  (repeat' split) <;> omega
