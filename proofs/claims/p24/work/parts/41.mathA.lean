theorem z_ten6 {d : Nat} (h : d ≤ 6) : 10 ^ d ≤ 1000000 := Nat.pow_le_pow_right (by decide) h
abbrev zPn (kd fi sz mu sh sp : Nat) : zPt := (kd, fi, fi, 1, 1000, 0, -1, sz, mu, sh, (fun _ => 0), (fun _ => 0), 0, -1, -1, va_up (fun _ => 0) fi sp, lN 0, (fun _ => lN 0), (fun _ => 0))
