theorem z_nle {a b : Nat} (ha : a < 2 ^ 31) (hb : b < 2 ^ 31) : nI a ≤ nI b ↔ a ≤ b := by
  rw [Int32.le_iff_toInt_le, nI_toInt ha, nI_toInt hb]
  omega
theorem z_dds {d la : Nat} (hd : d < 2 ^ 31) (hla : la < d) : (if nI d ≤ nI la then (-1) else nI d) = nI d :=
  if_neg (fun q => by rw [z_nle hd (by omega)] at q; omega)
