def zVs (np : Nat) (X : Nat → zPt) (g : Nat → Nat) (d : Nat) (w0 : Nat → Nat) : Nat → Nat → Nat
  | 0 => w0
  | j + 1 => if j < np ∧ q_fi (X j) ≤ d then va_up (zVs np X g d w0 j) (q_hg (X j) d) (zVs np X g d w0 j (q_hg (X j) d) + z_un (q_la (X j)) (q_vo (X j)) (q_pc (X j)) (q_kd (X j)) g d) else zVs np X g d w0 j
abbrev zSt (fl w : Nat → Nat) (rs : Nat → Int64) (d : Nat) : Nat → Int64 := z_res rs (fun s9 => lN (w s9) + z_part (fl d) (z_sm w 0 4) (z_pt (z_abs (fl d) (z_sm w 0 4)) w 0 4 s9)) d 4
