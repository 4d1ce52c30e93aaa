theorem z_shm : ∀ i : Fin 64, (nI i.val).toInt64 &&& 63 = lN i.val := by decide +kernel
theorem z_smod : ∀ i : Fin 64, (lN i.val).toBitVec.smod 64 = BitVec.ofNat 64 i.val := by decide +kernel
abbrev zTk (tk : Nat → Int64) (n : Nat) : Prop := tk (n / 64) >>> ((nI (n % 64)).toInt64 &&& 63) &&& lN 1 = lN 1
abbrev zTs (tk : Nat → Int64) (n : Nat) : Nat → Int64 := vp_updL tk (n / 64) (tk (n / 64) ||| lN 1 <<< ((nI (n % 64)).toInt64 &&& 63))
theorem z_bit {x : Int64} {i : Nat} (hi : i < 64) : x >>> ((nI i).toInt64 &&& 63) &&& lN 1 = lN 1 ↔ x.toBitVec.getLsbD i = true := by
  have e1 := z_shm ⟨i, hi⟩
  have e2 := z_smod ⟨i, hi⟩
  dsimp only at e1 e2
  rw [e1, ← Int64.toBitVec_inj, Int64.toBitVec_and, Int64.toBitVec_shiftRight, e2]
  have e3 : (lN 1).toBitVec = 1#64 := rfl
  rw [e3]
  constructor
  · intro h
    have h2 := congrArg (fun b => b.getLsbD 0) h
    simp only [BitVec.getLsbD_and] at h2
    have h4 : (BitVec.getLsbD 1#64 0) = true := by decide
    rw [h4, Bool.and_true] at h2
    rw [BitVec.sshiftRight_eq', BitVec.getLsbD_sshiftRight] at h2
    simp [BitVec.toNat_ofNat, Nat.mod_eq_of_lt (show i < 18446744073709551616 by omega)] at h2
    rw [if_pos hi] at h2
    exact h2
  · intro h
    apply BitVec.eq_of_getLsbD_eq
    intro j hj
    rw [BitVec.getLsbD_and, BitVec.sshiftRight_eq', BitVec.getLsbD_sshiftRight]
    by_cases h0 : j = 0
    · subst h0
      simp [BitVec.toNat_ofNat, Nat.mod_eq_of_lt (show i < 18446744073709551616 by omega), hi, h]
    · have h4 : BitVec.getLsbD 1#64 j = false := by simp [BitVec.getLsbD_one, h0]
      rw [h4, Bool.and_false]
theorem z_bit_or {x : Int64} {i j : Nat} (hi : i < 64) (hj : j < 64) : (x ||| lN 1 <<< ((nI i).toInt64 &&& 63)).toBitVec.getLsbD j = (x.toBitVec.getLsbD j || decide (j = i)) := by
  have e1 := z_shm ⟨i, hi⟩
  have e2 := z_smod ⟨i, hi⟩
  dsimp only at e1 e2
  rw [e1, Int64.toBitVec_or, Int64.toBitVec_shiftLeft, e2, BitVec.getLsbD_or]
  congr 1
  have e3 : (lN 1).toBitVec = 1#64 := rfl
  rw [e3, BitVec.shiftLeft_eq', BitVec.getLsbD_shiftLeft, BitVec.toNat_ofNat, Nat.mod_eq_of_lt (show i < 2 ^ 64 by omega), BitVec.getLsbD_one]
  by_cases h : j = i
  · subst h; simp [hj]
  · have : ¬ (¬ j < i ∧ j - i = 0) := by omega
    simp [hj, h]
    omega
theorem z_tk {tk : Nat → Int64} {n m : Nat} : zTk (zTs tk n) m ↔ m = n ∨ zTk tk m := by
  unfold zTk zTs
  rw [z_bit (Nat.mod_lt _ (by decide)), z_bit (Nat.mod_lt _ (by decide))]
  unfold vp_updL
  by_cases h : m / 64 = n / 64
  · rw [if_pos h, z_bit_or (Nat.mod_lt _ (by decide)) (Nat.mod_lt _ (by decide)), h, Bool.or_eq_true, decide_eq_true_iff]
    constructor
    · rintro (q | q)
      · exact Or.inr q
      · exact Or.inl (by omega)
    · rintro (q | q)
      · exact Or.inr (by rw [q])
      · exact Or.inl q
  · rw [if_neg h]
    constructor
    · exact fun q => Or.inr q
    · rintro (q | q)
      · exact absurd (by rw [q]) h
      · exact q
theorem z_negc {n : Nat} (h : n < 1000) (x : Int64) : x + (-(nI n)).toInt64 = x - lN n := by
  have e : (-(nI n)).toInt64 = -(lN n) := by
    have := (by decide +kernel : ∀ i : Fin 1000, (-(nI i.val)).toInt64 = -(lN i.val)) ⟨n, h⟩
    exact this
  rw [e, Int64.sub_eq_add_neg]
