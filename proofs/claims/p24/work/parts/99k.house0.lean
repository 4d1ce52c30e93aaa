/-! a house of the law: its start; the same house with other points behind its own -/
def uT (σ : zHo) : zHo := (s_nc σ, s_np σ, s_T σ, s_pt σ, s_g σ, s_w9 σ, s_p9 σ, s_q9 σ, s_tf σ, s_tb σ, s_tr σ, s_ic σ, s_fl σ, s_ru σ, s_rs σ, s_w4 σ, s_p4 σ, s_q4 σ, s_cd σ, fun k => if k < s_np σ then s_P σ k else zPn 0 0 1000 1 0 0, s_pa σ)
theorem uT_P {σ : zHo} {k : Nat} (h : k < s_np σ) : s_P (uT σ) k = s_P σ k := if_pos h
theorem zHs_uT {cy : Nat → ClassId} {a : Nat → Nat} {σ : zHo} : zHs cy a (uT σ) = zHs cy a σ := by
  show zFs cy a σ ++ zAll (s_np σ) (zPs cy a (uT σ)) = zFs cy a σ ++ zAll (s_np σ) (zPs cy a σ)
  rw [zAll_congr (W' := zPs cy a σ) (fun k hk => by show zPW cy a (s_pa σ k) (s_P (uT σ) k) = _; rw [uT_P hk])]
theorem uT_ts {σ : zHo} (h : zOk σ) : ∀ k, q_ts (s_P (uT σ) k) < 4 := fun k => by
  by_cases hk : k < s_np σ
  · rw [uT_P hk]
    exact (zPk_su (zOk_P h hk)).2.1
  · rw [show s_P (uT σ) k = zPn 0 0 1000 1 0 0 from if_neg hk]
    exact (by decide : 0 < 4)
theorem zJ_uT {σ : zHo} {cc ff uu : Nat → Int32} {cn j : Nat} (h : zJ σ cc ff uu cn j) : zJ (uT σ) cc ff uu cn j := by
  obtain ⟨⟨g1, g2, g3, g4, g5, g6, g7, g8, g9, g10⟩, h2, h3, h4, h5, h6, h7, h8, h9⟩ := h
  refine ⟨⟨g1, g2, g3, g4, g5, g6, g7, g8, g9, fun k hk => ?_⟩, h2, h3, h4, h5, h6, ?_, fun k hk => ?_, fun k hk i hi => ?_⟩
  · rw [uT_P (σ := σ) hk]
    exact g10 k hk
  · unfold zSum at h7 ⊢
    show zS8 (s_ic σ) 4 = lN cn + zS8 (fun j8 => q_ow (s_P (uT σ) j8)) (s_np σ)
    rw [zS8_cong (f := fun j8 => q_ow (s_P (uT σ) j8)) (g := fun j8 => q_ow (s_P σ j8)) (fun k hk => by
      show q_ow (s_P (uT σ) k) = q_ow (s_P σ k)
      rw [uT_P (σ := σ) hk])]
    exact h7
  · rw [uT_P (σ := σ) hk]
    exact h8 k hk
  · rw [uT_P (σ := σ) hk]
    exact h9 k hk i hi
abbrev zMX (G : va_G) (cy : Nat → ClassId) (wd : Nat → Nat) (fo : Option Nat) (N0 b9 L : Nat) (xs : Nat → Int32) (av : List Value) (sz : Nat) : Array Value → State → Prop := va_Pc av (fun U => U.heap.size = sz ∧ N0 ≤ sz ∧ zK G cy U ∧ zWd wd fo N0 U U.heap ∧ zEx N0 U U.heap ∧ zAO U ∧ va_X b9 L xs U U.heap)
theorem z_ofMX {l : Launch} {G : va_G} {cy : Nat → ClassId} {wd : Nat → Nat} {fo : Option Nat} {N0 b9 L : Nat} {xs : Nat → Int32} {y : MethodName} {ws ws' : List Cond} {rm : Room} {av : List Value} {sz : Nat} {Qc : (Nat → Prop) → Array Value → State → Outcome → State → Prop} {cc : ByteArray} {maxL mc ms : Nat} {ret : Option FieldType}
    (hy : plainName y.cls = true) (hw : ws = Cond.code y cc maxL ret :: ws') (hlen : (lg_sl av).length ≤ maxL)
    (body : ∀ (p : Program) (e : Env) (s : State) (m : MethodId) (below : List Frame) (meth : Method) (c : Code) (ls : Array Slot) (A : Nat → Prop), p.tables.exec = Jvm.exec → c.code = cc → c.maxLocals = maxL → meth.sig.returnType = ret → (∀ w ∈ ws, w.before av.toArray s = true) → s.vm.findClass y.cls = some m.cls → meth.locks = false → va_P G vwCl [] s.heap → zK G cy s → va_D A [] → (∀ q : Nat, s.heap.size ≤ q → A q) → va_S A s.heap s.heap [] → lv_has ls maxL (lv_args 0 av) → sz = s.heap.size → N0 ≤ s.heap.size → (∀ q, A q → N0 ≤ q) → zWd wd fo N0 s s.heap → zEx N0 s s.heap → zAO s → va_X b9 L xs s s.heap →
      W p l e rm s m av.toArray below meth c s.heap [] 0 0 (MQ below (Qc A) av.toArray s mc ms A) (F0 m 0 ls [])) : Met l y ws rm (zMX G cy wd fo N0 b9 L xs av sz) (Qc (va_A [] sz)) mc ms (va_A [] sz) := by
  refine Met.ofW (cc := cc) (maxL := maxL) (ret := ret) hy hw ?_
  intro p e s m args below meth c s₁ B hml hv
  obtain ⟨rfl, hsz, hN, hK, hWd, hE, hAO, hX⟩ := hv
  have hl := lv_entry av (n := maxL) hlen
  rw [lg_entry_eq]
  refine body p e s m below meth c _ (va_A [] sz) B.exec B.bytes hml B.returns (atoms_spec (ws := ws) B.pre) (findClass_of_methodNamed B.named) B.notSynchronized (fun k q h => by simp at h) hK ⟨fun i j p q h => by simp at h, fun k q h => by simp at h⟩ (fun q h => Or.inr (by rw [← hsz]; exact h)) va_S.rf hl hsz.symm (by rw [hsz]; exact hN) (fun q h => ?_) hWd hE hAO hX
  rcases h with ⟨k, e9, h⟩ | h
  · simp at h
  · exact Nat.le_trans hN h
theorem z_cnt1 {g : Nat → Nat} {t a n : Nat} : z_sm (fun j8 => if g j8 = t then 0 else 1) a n ≤ n := by
  have h := z_sm_le (f := fun j8 => if g j8 = t then 0 else 1) (a := a) (c := 1) (n := n) (fun i _ => by split <;> omega)
  omega
theorem z_cnt0 {g : Nat → Nat} {t a n : Nat} : z_sm (fun j8 => if z_fill g t a n j8 = t then 0 else 1) a n = 0 := by
  have h := z_sm_le (f := fun j8 => if z_fill g t a n j8 = t then 0 else 1) (a := a) (c := 0) (n := n) (fun i hi => by
    show (if z_fill g t a n (a + i) = t then 0 else 1) ≤ 0
    rw [if_pos (by unfold z_fill; rw [if_pos (by omega)])]
    exact Nat.le_refl _)
  omega
