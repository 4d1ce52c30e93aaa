/-! a house: its state, its cells; contracts over all cells of it -/
abbrev zHo : Type := Nat × Nat × Nat × (Nat → Option Nat) × (Nat → Nat) × (Nat → Nat) × (Nat → Nat) × (Nat → Nat) × (Nat → Nat) × (Nat → Nat) × (Nat → Nat) × (Nat → Int64) × (Nat → Nat) × (Nat → Nat) × (Nat → Int64) × (Nat → Nat) × (Nat → Nat) × (Nat → Nat) × (Nat → Nat) × (Nat → zPt) × (Nat → Nat → Nat)
abbrev s_nc (σ : zHo) : Nat := σ.1
abbrev s_np (σ : zHo) : Nat := σ.2.1
abbrev s_T (σ : zHo) : Nat := σ.2.2.1
abbrev s_pt (σ : zHo) : Nat → Option Nat := σ.2.2.2.1
abbrev s_g (σ : zHo) : Nat → Nat := σ.2.2.2.2.1
abbrev s_w9 (σ : zHo) : Nat → Nat := σ.2.2.2.2.2.1
abbrev s_p9 (σ : zHo) : Nat → Nat := σ.2.2.2.2.2.2.1
abbrev s_q9 (σ : zHo) : Nat → Nat := σ.2.2.2.2.2.2.2.1
abbrev s_tf (σ : zHo) : Nat → Nat := σ.2.2.2.2.2.2.2.2.1
abbrev s_tb (σ : zHo) : Nat → Nat := σ.2.2.2.2.2.2.2.2.2.1
abbrev s_tr (σ : zHo) : Nat → Nat := σ.2.2.2.2.2.2.2.2.2.2.1
abbrev s_ic (σ : zHo) : Nat → Int64 := σ.2.2.2.2.2.2.2.2.2.2.2.1
abbrev s_fl (σ : zHo) : Nat → Nat := σ.2.2.2.2.2.2.2.2.2.2.2.2.1
abbrev s_ru (σ : zHo) : Nat → Nat := σ.2.2.2.2.2.2.2.2.2.2.2.2.2.1
abbrev s_rs (σ : zHo) : Nat → Int64 := σ.2.2.2.2.2.2.2.2.2.2.2.2.2.2.1
abbrev s_w4 (σ : zHo) : Nat → Nat := σ.2.2.2.2.2.2.2.2.2.2.2.2.2.2.2.1
abbrev s_p4 (σ : zHo) : Nat → Nat := σ.2.2.2.2.2.2.2.2.2.2.2.2.2.2.2.2.1
abbrev s_q4 (σ : zHo) : Nat → Nat := σ.2.2.2.2.2.2.2.2.2.2.2.2.2.2.2.2.2.1
abbrev s_cd (σ : zHo) : Nat → Nat := σ.2.2.2.2.2.2.2.2.2.2.2.2.2.2.2.2.2.2.1
abbrev s_P (σ : zHo) : Nat → zPt := σ.2.2.2.2.2.2.2.2.2.2.2.2.2.2.2.2.2.2.2.1
abbrev s_pa (σ : zHo) : Nat → Nat → Nat := σ.2.2.2.2.2.2.2.2.2.2.2.2.2.2.2.2.2.2.2.2
def zFs (cy : Nat → ClassId) (a : Nat → Nat) (σ : zHo) : va_W := zO (a 0) 11 [.ref (a 1), .ref (a 4), .ref (a 11), .ref (a 18), .ref (a 20), .ref (a 34), .ref (a 36), .int (nI (s_nc σ)), .int (nI (s_np σ)), .int (nI (s_T σ))] :: zO (a 1) 8 [.ref (a 2)] :: zO (a 2) 6 [.ref (a 3)] :: zL cy (a 3) 1000 (fun j9 => lN (s_g σ j9)) :: zO (a 4) 2 [.ref (a 5), .ref (a 6), .ref (a 7)] :: zO (a 5) 6 [.ref (a 8)] :: zL cy (a 8) 1000 (fun j9 => lN (s_w9 σ j9)) :: zO (a 6) 6 [.ref (a 9)] :: zL cy (a 9) 1000 (fun j9 => lN (s_p9 σ j9)) :: zO (a 7) 6 [.ref (a 10)] :: zL cy (a 10) 1000 (fun j9 => lN (s_q9 σ j9)) :: zO (a 11) 10 [.ref (a 12), .ref (a 13), .ref (a 14)] :: zO (a 12) 6 [.ref (a 15)] :: zL cy (a 15) 4000 (fun j9 => lN (s_tf σ j9)) :: zO (a 13) 6 [.ref (a 16)] :: zL cy (a 16) 4000 (fun j9 => lN (s_tb σ j9)) :: zO (a 14) 6 [.ref (a 17)] :: zL cy (a 17) 4000 (fun j9 => lN (s_tr σ j9)) :: zO (a 18) 6 [.ref (a 19)] :: zL cy (a 19) 4 (s_ic σ) :: zO (a 20) 7 [.ref (a 21), .ref (a 22), .ref (a 23), .ref (a 24)] :: zO (a 21) 6 [.ref (a 25)] :: zL cy (a 25) 1000 (fun j9 => lN (s_fl σ j9)) :: zO (a 22) 6 [.ref (a 26)] :: zL cy (a 26) 1000 (fun j9 => lN (s_ru σ j9)) :: zO (a 23) 6 [.ref (a 27)] :: zL cy (a 27) 4000 (s_rs σ) :: zO (a 24) 2 [.ref (a 28), .ref (a 29), .ref (a 30)] :: zO (a 28) 6 [.ref (a 31)] :: zL cy (a 31) 4 (fun j9 => lN (s_w4 σ j9)) :: zO (a 29) 6 [.ref (a 32)] :: zL cy (a 32) 4 (fun j9 => lN (s_p4 σ j9)) :: zO (a 30) 6 [.ref (a 33)] :: zL cy (a 33) 4 (fun j9 => lN (s_q4 σ j9)) :: zO (a 34) 6 [.ref (a 35)] :: zL cy (a 35) 512 (fun j9 => lN (s_cd σ j9)) :: zQ cy (a 36) 8 (s_pt σ) :: []
abbrev zPs (cy : Nat → ClassId) (a : Nat → Nat) (σ : zHo) : Nat → va_W := fun k => zPW cy a (s_pa σ k) (s_P σ k)
def zHs (cy : Nat → ClassId) (a : Nat → Nat) (σ : zHo) : va_W := zFs cy a σ ++ zAll (s_np σ) (zPs cy a σ)
/-- the cells at some places -/
def zGet (ws : va_W) : List Nat → va_W
  | [] => []
  | i :: is => match ws[i]? with
    | some q => q :: zGet ws is
    | none => zGet ws is
theorem zGet_fm {ws : va_W} : ∀ {is : List Nat}, zGet ws is = is.filterMap (fun i => ws[i]?)
  | [] => rfl
  | i :: is => by
    rw [zGet, List.filterMap_cons, zGet_fm (is := is)]
    cases ws[i]? <;> rfl
theorem zAll_succ {n : Nat} {W : Nat → va_W} : zAll (n + 1) W = zAll n W ++ W n := by
  unfold zAll
  rw [List.range_succ, List.flatMap_append, List.flatMap_cons, List.flatMap_nil, List.append_nil]
theorem z_newP {F Pn : va_W} {n : Nat} {W W' : Nat → va_W} (h : Pn = W' n) (hc : ∀ k, k < n → W k = W' k) : ((F ++ Pn) ++ zAll n W).Perm (F ++ zAll (n + 1) W') := by
  rw [zAll_succ, zAll_congr hc, h, List.append_assoc]
  exact List.perm_append_comm.append_left F
theorem z_mmono {l : Launch} {y : MethodName} {ws : List Cond} {rm : Room} {Pc Pc' : Array Value → State → Prop} {Qc Qc' : Array Value → State → Outcome → State → Prop} {mc ms : Nat} {free free' : Addr → Prop} (h : Met l y ws rm Pc Qc mc ms free) (hp : ∀ A U, Pc' A U → Pc A U) (hf : ∀ q, free q → free' q) (hq : ∀ A U o t, Pc' A U → U.WarmedH t.vm → Qc A U o t → Qc' A U o t) : Met l y ws rm Pc' Qc' mc ms free' := by
  intro p e h0 h1 h2 s m args below hfr happ hP hK
  obtain ⟨n, o, g1, g2, g3, hQ, L, hL, hL2⟩ := h p e h0 h1 h2 s m args below hfr happ (hp _ _ hP) hK
  exact ⟨n, o, g1, g2, g3, hq _ _ _ _ hP hL.2.1 hQ, L, hL, fun q hq9 => hf _ (hL2 q hq9)⟩
theorem z_xmono {l : Launch} {y : MethodName} {ws : List Cond} {rm : Room} {Pc Pc' : Array Value → State → Prop} {XC XC' : String → State → State → Prop} {mc ms : Nat} {free free' : Addr → Prop} (h : vx_Met l y ws rm Pc zNo XC mc ms free) (hp : ∀ A U, Pc' A U → Pc A U) (hf : ∀ q, free q → free' q) (hq : ∀ A U E t, Pc' A U → XC E U t → XC' E U t) : vx_Met l y ws rm Pc' zNo XC' mc ms free' := by
  intro p e h0 h1 h2 s m args below hfr happ hP hK
  obtain ⟨n, o, g1, g2, g3, hQ⟩ := h p e h0 h1 h2 s m args below hfr happ (hp _ _ hP) hK
  rcases hQ with ⟨hQ, -⟩ | ⟨q, ho, E, ce, L, hX, r1, r2, r3, r4, r5, r6⟩
  · exact hQ.elim
  · exact ⟨n, o, g1, g2, g3, Or.inr ⟨q, ho, E, ce, L, hq _ _ _ _ hP hX, r1, r2, r3, r4, r5, fun z hz => hf _ (r6 z hz)⟩⟩
theorem z_Ap {wa wc wr : va_W} {sz : Nat} (hp : wa.Perm (wc ++ wr)) : ∀ q, va_A wc sz q → va_A wa sz q := by
  intro q h
  rcases z_A_mem h with ⟨x, hx, rfl⟩ | h
  · obtain ⟨k, hk⟩ := List.getElem?_of_mem (hp.mem_iff.mpr (List.mem_append_left wr hx))
    exact Or.inl ⟨k, x.2, hk⟩
  · exact Or.inr h
theorem z_fr {G : va_G} {A0 : Nat → Prop} {wa wc wr w1 : va_W} {U t : State} {sz : Nat} (hsz : U.heap.size = sz) (hP : va_P G vwCl wa U.heap) (hD : va_D A0 wa) (hp : wa.Perm (wc ++ wr)) (hF : va_F (va_A wc sz) U t) (hP1 : va_P G vwCl w1 t.heap) (hD1 : va_D (va_A wc sz) w1) : va_P G vwCl (w1 ++ wr) t.heap ∧ va_D (va_A wa sz) (w1 ++ wr) := by
  subst hsz
  exact z_backP (z_P_perm hp hP) (z_D_perm hp hD.self) hF.2 (z_Ap hp) hP1 hD1
theorem z_pk {ww u tl : va_W} {n : Nat} (iu ir : List Nat) (hu : zGet ww iu = u) (hn : ww.length = n) (hp : (iu ++ ir).isPerm (List.range n) = true) : (ww ++ tl).Perm (u ++ (zGet ww ir ++ tl)) := by
  have h1 : ww.Perm (u ++ zGet ww ir) := by
    have h2 := ((List.isPerm_iff.mp hp).filterMap (fun i => ww[i]?)).symm
    rw [← hn, z_fm_range, List.filterMap_append, ← zGet_fm, ← zGet_fm, hu] at h2
    exact h2
  have h3 := h1.append_right tl
  rw [List.append_assoc] at h3
  exact h3
theorem z_pkb {ww w0 u tl : va_W} {n : Nat} (iu ir : List Nat) (hu : zGet ww iu = u) (hr : zGet ww ir = zGet w0 ir) (hn : ww.length = n) (hp : (iu ++ ir).isPerm (List.range n) = true) : (u ++ (zGet w0 ir ++ tl)).Perm (ww ++ tl) := by
  rw [← hr]
  exact (z_pk (tl := tl) iu ir hu hn hp).symm
theorem z_pkT {ww u tl : va_W} {n : Nat} (iu ir : List Nat) (hu : zGet ww iu = u) (hn : ww.length = n) (hp : (iu ++ ir).isPerm (List.range n) = true) : (ww ++ tl).Perm ((u ++ tl) ++ zGet ww ir) := by
  refine (z_pk (tl := tl) iu ir hu hn hp).trans ?_
  rw [List.append_assoc]
  exact List.perm_append_comm.append_left u
theorem z_pkTb {ww w0 u tl : va_W} {n : Nat} (iu ir : List Nat) (hu : zGet ww iu = u) (hr : zGet ww ir = zGet w0 ir) (hn : ww.length = n) (hp : (iu ++ ir).isPerm (List.range n) = true) : ((u ++ tl) ++ zGet w0 ir).Perm (ww ++ tl) := by
  rw [← hr]
  exact (z_pkT (tl := tl) iu ir hu hn hp).symm
section ZHH
variable {l : Launch} {y : MethodName} {ws : List Cond} {rm : Room} {G : va_G} {cy : Nat → ClassId} {wd : Nat → Nat} {fo : Option Nat} {N0 : Nat} {av : List Value} {sz mc ms : Nat} {a : Nat → Nat} {σ : zHo} {wc wr : va_W}
abbrev zHi (l : Launch) (y : MethodName) (ws : List Cond) (rm : Room) (G : va_G) (cy : Nat → ClassId) (wd : Nat → Nat) (fo : Option Nat) (N0 : Nat) (av : List Value) (sz : Nat) (a : Nat → Nat) (σ : zHo) (rel : Int32 → zHo → Prop) (mc ms : Nat) : Prop := Met l y ws rm (zMH G cy wd fo N0 av sz (zHs cy a σ)) (va_Qi rel (fun u t9 => zB G cy (va_A (zHs cy a σ) sz) (zHs cy a u) t9) (va_A (zHs cy a σ) sz)) mc ms (va_A (zHs cy a σ) sz)
theorem z_hMi {S : Type} {post : Int32 → S → Prop} {w1 : S → va_W} {rel : Int32 → zHo → Prop} (h : Met l y ws rm (zM G cy av sz wc) (va_Qi post (fun u t9 => zB G cy (va_A wc sz) (w1 u) t9) (va_A wc sz)) mc ms (va_A wc sz)) (hp : (zHs cy a σ).Perm (wc ++ wr)) (F : S → zHo) (hb : ∀ r u, post r u → (w1 u ++ wr).Perm (zHs cy a (F u))) (hr : ∀ r u, post r u → rel r (F u)) : zHi l y ws rm G cy wd fo N0 av sz a σ rel mc ms := by
  refine z_mmono h (fun A U q => ⟨q.1, q.2.1, z_P_l (z_P_perm hp q.2.2.2.1), q.2.2.2.2.1, ((z_D_app.mp (z_D_perm hp q.2.2.2.2.2.1)).1.weaken (fun _ _ _ _ => trivial))⟩) (z_Ap hp) (fun A U o t q hW hQ => ?_)
  obtain ⟨⟨r, u, ho, hpo, hB⟩, hF⟩ := hQ
  have hg := z_fr q.2.1 q.2.2.2.1 q.2.2.2.2.2.1 hp hF hB.1 hB.2.2
  exact ⟨⟨r, F u, ho, hr r u hpo, z_P_perm (hb r u hpo) hg.1, hB.2.1, z_D_perm (hb r u hpo) hg.2⟩, hF.1, fun x h1 h2 => hF.2 x h1 (fun z => h2 (z_Ap hp x z))⟩
theorem z_hWi {S : Type} {post : Int32 → S → Prop} {w1 : S → va_W} {rel : Int32 → zHo → Prop} (h : Met l y ws rm (zMW G cy wd fo N0 av sz wc) (va_Qi post (fun u t9 => zB G cy (va_A wc sz) (w1 u) t9) (va_A wc sz)) mc ms (va_A wc sz)) (hp : (zHs cy a σ).Perm (wc ++ wr)) (F : S → zHo) (hb : ∀ r u, post r u → (w1 u ++ wr).Perm (zHs cy a (F u))) (hr : ∀ r u, post r u → rel r (F u)) : zHi l y ws rm G cy wd fo N0 av sz a σ rel mc ms := by
  refine z_mmono h (fun A U q => ⟨q.1, q.2.1, q.2.2.1, z_P_l (z_P_perm hp q.2.2.2.1), q.2.2.2.2.1, (z_D_app.mp (z_D_perm hp q.2.2.2.2.2.1)).1, q.2.2.2.2.2.2.1⟩) (z_Ap hp) (fun A U o t q hW hQ => ?_)
  obtain ⟨⟨r, u, ho, hpo, hB⟩, hF⟩ := hQ
  have hg := z_fr q.2.1 q.2.2.2.1 q.2.2.2.2.2.1 hp hF hB.1 hB.2.2
  exact ⟨⟨r, F u, ho, hr r u hpo, z_P_perm (hb r u hpo) hg.1, hB.2.1, z_D_perm (hb r u hpo) hg.2⟩, hF.1, fun x h1 h2 => hF.2 x h1 (fun z => h2 (z_Ap hp x z))⟩
theorem z_hSi {post : Int32 → Prop} {rel : Int32 → zHo → Prop} (h : Met l y ws rm (zS G cy av wc) (vp_Si post) 0 0 (fun _ => False)) (hp : (zHs cy a σ).Perm (wc ++ wr)) (hr : ∀ r, post r → rel r σ) : zHi l y ws rm G cy wd fo N0 av sz a σ rel 0 0 := by
  refine z_mmono h (fun A U q => ⟨q.1, z_P_l (z_P_perm hp q.2.2.2.1), q.2.2.2.2.1⟩) (fun _ q => q.elim) (fun A U o t q hW hQ => ?_)
  obtain ⟨r, ho, hpo, hh⟩ := hQ
  exact ⟨⟨r, σ, ho, hr r hpo, by rw [hh]; exact q.2.2.2.1, va_K.moved hW.alike q.2.2.2.2.1, q.2.2.2.2.2.1.self⟩, by rw [hh]; exact Nat.le_refl _, fun x _ _ => by rw [hh]⟩
abbrev zHl (l : Launch) (y : MethodName) (ws : List Cond) (rm : Room) (G : va_G) (cy : Nat → ClassId) (wd : Nat → Nat) (fo : Option Nat) (N0 : Nat) (av : List Value) (sz : Nat) (a : Nat → Nat) (σ : zHo) (rel : Int64 → zHo → Prop) (mc ms : Nat) : Prop := Met l y ws rm (zMH G cy wd fo N0 av sz (zHs cy a σ)) (va_Ql rel (fun u t9 => zB G cy (va_A (zHs cy a σ) sz) (zHs cy a u) t9) (va_A (zHs cy a σ) sz)) mc ms (va_A (zHs cy a σ) sz)
theorem z_hMl {S : Type} {post : Int64 → S → Prop} {w1 : S → va_W} {rel : Int64 → zHo → Prop} (h : Met l y ws rm (zM G cy av sz wc) (va_Ql post (fun u t9 => zB G cy (va_A wc sz) (w1 u) t9) (va_A wc sz)) mc ms (va_A wc sz)) (hp : (zHs cy a σ).Perm (wc ++ wr)) (F : S → zHo) (hb : ∀ r u, post r u → (w1 u ++ wr).Perm (zHs cy a (F u))) (hr : ∀ r u, post r u → rel r (F u)) : zHl l y ws rm G cy wd fo N0 av sz a σ rel mc ms := by
  refine z_mmono h (fun A U q => ⟨q.1, q.2.1, z_P_l (z_P_perm hp q.2.2.2.1), q.2.2.2.2.1, ((z_D_app.mp (z_D_perm hp q.2.2.2.2.2.1)).1.weaken (fun _ _ _ _ => trivial))⟩) (z_Ap hp) (fun A U o t q hW hQ => ?_)
  obtain ⟨⟨r, u, ho, hpo, hB⟩, hF⟩ := hQ
  have hg := z_fr q.2.1 q.2.2.2.1 q.2.2.2.2.2.1 hp hF hB.1 hB.2.2
  exact ⟨⟨r, F u, ho, hr r u hpo, z_P_perm (hb r u hpo) hg.1, hB.2.1, z_D_perm (hb r u hpo) hg.2⟩, hF.1, fun x h1 h2 => hF.2 x h1 (fun z => h2 (z_Ap hp x z))⟩
theorem z_hWl {S : Type} {post : Int64 → S → Prop} {w1 : S → va_W} {rel : Int64 → zHo → Prop} (h : Met l y ws rm (zMW G cy wd fo N0 av sz wc) (va_Ql post (fun u t9 => zB G cy (va_A wc sz) (w1 u) t9) (va_A wc sz)) mc ms (va_A wc sz)) (hp : (zHs cy a σ).Perm (wc ++ wr)) (F : S → zHo) (hb : ∀ r u, post r u → (w1 u ++ wr).Perm (zHs cy a (F u))) (hr : ∀ r u, post r u → rel r (F u)) : zHl l y ws rm G cy wd fo N0 av sz a σ rel mc ms := by
  refine z_mmono h (fun A U q => ⟨q.1, q.2.1, q.2.2.1, z_P_l (z_P_perm hp q.2.2.2.1), q.2.2.2.2.1, (z_D_app.mp (z_D_perm hp q.2.2.2.2.2.1)).1, q.2.2.2.2.2.2.1⟩) (z_Ap hp) (fun A U o t q hW hQ => ?_)
  obtain ⟨⟨r, u, ho, hpo, hB⟩, hF⟩ := hQ
  have hg := z_fr q.2.1 q.2.2.2.1 q.2.2.2.2.2.1 hp hF hB.1 hB.2.2
  exact ⟨⟨r, F u, ho, hr r u hpo, z_P_perm (hb r u hpo) hg.1, hB.2.1, z_D_perm (hb r u hpo) hg.2⟩, hF.1, fun x h1 h2 => hF.2 x h1 (fun z => h2 (z_Ap hp x z))⟩
theorem z_hSl {post : Int64 → Prop} {rel : Int64 → zHo → Prop} (h : Met l y ws rm (zS G cy av wc) (vp_Sl post) 0 0 (fun _ => False)) (hp : (zHs cy a σ).Perm (wc ++ wr)) (hr : ∀ r, post r → rel r σ) : zHl l y ws rm G cy wd fo N0 av sz a σ rel 0 0 := by
  refine z_mmono h (fun A U q => ⟨q.1, z_P_l (z_P_perm hp q.2.2.2.1), q.2.2.2.2.1⟩) (fun _ q => q.elim) (fun A U o t q hW hQ => ?_)
  obtain ⟨r, ho, hpo, hh⟩ := hQ
  exact ⟨⟨r, σ, ho, hr r hpo, by rw [hh]; exact q.2.2.2.1, va_K.moved hW.alike q.2.2.2.2.1, q.2.2.2.2.2.1.self⟩, by rw [hh]; exact Nat.le_refl _, fun x _ _ => by rw [hh]⟩
abbrev zHv (l : Launch) (y : MethodName) (ws : List Cond) (rm : Room) (G : va_G) (cy : Nat → ClassId) (wd : Nat → Nat) (fo : Option Nat) (N0 : Nat) (av : List Value) (sz : Nat) (a : Nat → Nat) (σ : zHo) (rel : zHo → Prop) (mc ms : Nat) : Prop := Met l y ws rm (zMH G cy wd fo N0 av sz (zHs cy a σ)) (va_Qv rel (fun u t9 => zB G cy (va_A (zHs cy a σ) sz) (zHs cy a u) t9) (va_A (zHs cy a σ) sz)) mc ms (va_A (zHs cy a σ) sz)
theorem z_hMv {S : Type} {post : S → Prop} {w1 : S → va_W} {rel : zHo → Prop} (h : Met l y ws rm (zM G cy av sz wc) (va_Qv post (fun u t9 => zB G cy (va_A wc sz) (w1 u) t9) (va_A wc sz)) mc ms (va_A wc sz)) (hp : (zHs cy a σ).Perm (wc ++ wr)) (F : S → zHo) (hb : ∀ u, post u → (w1 u ++ wr).Perm (zHs cy a (F u))) (hr : ∀ u, post u → rel (F u)) : zHv l y ws rm G cy wd fo N0 av sz a σ rel mc ms := by
  refine z_mmono h (fun A U q => ⟨q.1, q.2.1, z_P_l (z_P_perm hp q.2.2.2.1), q.2.2.2.2.1, ((z_D_app.mp (z_D_perm hp q.2.2.2.2.2.1)).1.weaken (fun _ _ _ _ => trivial))⟩) (z_Ap hp) (fun A U o t q hW hQ => ?_)
  obtain ⟨⟨u, ho, hpo, hB⟩, hF⟩ := hQ
  have hg := z_fr q.2.1 q.2.2.2.1 q.2.2.2.2.2.1 hp hF hB.1 hB.2.2
  exact ⟨⟨F u, ho, hr u hpo, z_P_perm (hb u hpo) hg.1, hB.2.1, z_D_perm (hb u hpo) hg.2⟩, hF.1, fun x h1 h2 => hF.2 x h1 (fun z => h2 (z_Ap hp x z))⟩
abbrev zHx (l : Launch) (y : MethodName) (ws : List Cond) (rm : Room) (G : va_G) (cy : Nat → ClassId) (wd : Nat → Nat) (fo : Option Nat) (N0 : Nat) (av : List Value) (sz : Nat) (a : Nat → Nat) (σ : zHo) (nm : String) (mc ms : Nat) : Prop := vx_Met l y ws rm (zMH G cy wd fo N0 av sz (zHs cy a σ)) zNo (zXC G cy (va_A (zHs cy a σ) sz) (zHs cy a σ) nm) mc ms (va_A (zHs cy a σ) sz)
theorem z_hX {nm : String} (h : vx_Met l y ws rm (zX G cy N0 av sz wc) zNo (zXC G cy (va_A wc sz) wc nm) mc ms (va_A wc sz)) (hp : (zHs cy a σ).Perm (wc ++ wr)) : zHx l y ws rm G cy wd fo N0 av sz a σ nm mc ms := by
  refine z_xmono h (fun A U q => ⟨q.1, q.2.1, q.2.2.1, z_P_l (z_P_perm hp q.2.2.2.1), q.2.2.2.2.1, (z_D_app.mp (z_D_perm hp q.2.2.2.2.2.1)).1, q.2.2.2.2.2.2.2⟩) (z_Ap hp) (fun A U E t q hQ => ?_)
  obtain ⟨u, -, ⟨he, hB⟩, hF⟩ := hQ
  have hg := z_fr q.2.1 q.2.2.2.1 q.2.2.2.2.2.1 hp hF hB.1 hB.2.2
  exact ⟨(), trivial, ⟨he, z_P_perm hp.symm hg.1, hB.2.1, z_D_perm hp.symm hg.2⟩, hF.1, fun x h1 h2 => hF.2 x h1 (fun z => h2 (z_Ap hp x z))⟩
end ZHH
