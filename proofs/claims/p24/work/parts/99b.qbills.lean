/-! credit and bills of a house -/
def zBll (S : zPt) (o : Int64) (ce : Nat → Int64) (bi : Nat → Nat) : zPt := (q_kd S, q_fi S, q_la S, q_tk S, q_pc S, q_ds S, q_dd S, q_sz S, q_mu S, q_sh S, q_vo S, q_us S, q_ts S, q_td S, q_md S, q_hg S, o, ce, bi)
abbrev zKz (σ : zHo) (S : zPt) : Nat → Nat := zBK (s_tf σ) (s_tb σ) (s_tr σ) (q_vo S) (s_g σ) (q_hg S) (q_la S) (q_pc S) (q_kd S)
abbrev zBx (σ : zHo) (S : zPt) : zBs := zBl (q_hg S) (zKz σ S) (zBm (s_T σ)) (s_ic σ, q_ce S, q_bi S, lN 0) (q_fi S) (s_T σ - q_fi S)
def zDone (σ : zHo) (S : zPt) : Prop := ∀ i, i < s_T σ - q_fi S → zRt (q_hg S) (zKz σ S) (zBm (s_T σ)) (q_ce S) (q_bi S) (q_fi S + i)
def zSum (σ : zHo) (cn : Nat) : Prop := zS8 (s_ic σ) 4 = lN cn + zS8 (fun j => q_ow (s_P σ j)) (s_np σ)
theorem zSum_kp {σ s9 : zHo} {cn : Nat} (h : zSum σ cn) (hk : zKp σ s9) : zSum s9 cn := by
  unfold zSum
  rw [hk.2.2.2.1, hk.2.1, zS8_cong (g := fun j => q_ow (s_P σ j)) (fun j _ => (hk.2.2.2.2 j).2)]
  exact h
theorem zSum_up {σ s9 : zHo} {k cn cn9 : Nat} {S : zPt} (h : zSum σ cn) (hk : k < s_np σ) (hn : s_np s9 = s_np σ) (hP : s_P s9 = zUp (s_P σ) k S) (hs : zS8 (s_ic s9) 4 = zS8 (s_ic σ) 4 + (lN cn9 - lN cn) + (q_ow S - q_ow (s_P σ k))) : zSum s9 cn9 := by
  have e9 : zS8 (fun j => q_ow (zUp (s_P σ) k S j)) (s_np σ) = zS8 (vp_updL (fun j => q_ow (s_P σ j)) k (q_ow S)) (s_np σ) := zS8_cong (fun j _ => by
    show q_ow (zUp (s_P σ) k S j) = vp_updL (fun j => q_ow (s_P σ j)) k (q_ow S) j
    by_cases e : j = k
    · subst e
      rw [zUp_at, z_upLk]
    · rw [zUp_ne e, z_upLj e])
  unfold zSum at h ⊢
  rw [hn, hP, e9, zS8_up hk, hs, h]
  grind
def zBi (σ : zHo) (k : Nat) (r : Int64) (s9 : zHo) : Prop := zOk s9 ∧ s_np s9 = s_np σ ∧ s_T s9 = s_T σ ∧ zS8 (s_ic s9) 4 = zS8 (s_ic σ) 4 + r ∧ (∃ ce bi, s_P s9 = zUp (s_P σ) k (zBll (s_P σ k) (q_ow (s_P σ k) + r) ce bi)) ∧ zDone s9 (s_P s9 k)
theorem zPk_bll {T : Nat} {g : Nat → Nat} {S : zPt} {o : Int64} {ce : Nat → Int64} {bi : Nat → Nat} (h : zPk T g S) (hb : ∀ d, bi d < 4) : zPk T g (zBll S o ce bi) := by
  obtain ⟨a1, a2, a3, a4, a5, a6, a7, a8, a9, a10, a11, -⟩ := h
  exact ⟨a1, a2, a3, a4, a5, a6, a7, a8, a9, a10, a11, hb⟩
theorem z_rewl {l : Launch} {y : MethodName} {ws : List Cond} {rm : Room} {G : va_G} {cy : Nat → ClassId} {wd : Nat → Nat} {fo : Option Nat} {N0 : Nat} {av : List Value} {sz mc ms : Nat} {a : Nat → Nat} {σ : zHo} {rel rel' : Int64 → zHo → Prop} (h : zHl l y ws rm G cy wd fo N0 av sz a σ rel mc ms) (hr : ∀ r u, rel r u → rel' r u) : zHl l y ws rm G cy wd fo N0 av sz a σ rel' mc ms := by
  refine z_mmono h (fun _ _ q => q) (fun _ q => q) (fun A U o t _ _ hQ => ?_)
  obtain ⟨⟨r, u, ho, hp, hB⟩, hF⟩ := hQ
  exact ⟨⟨r, u, ho, hr r u hp, hB⟩, hF⟩
theorem q_bill (l : Launch) (hl9 : l.stackTraces = false) (G : va_G) (cy : Nat → ClassId) (wd : Nat → Nat) (fo : Option Nat) (N0 sz0 : Nat) (a : Nat → Nat) (sg : zHo) (hO : zOk sg) (k : Nat) (hkn : k < s_np sg) : zHl l yX10_bill wsX10_bill { frames := 4, cells := 0, slots := 0, locals := 98 } G cy wd fo N0 [.ref (a 0), .int (nI k)] sz0 a sg (fun r s9 => zBi sg k r s9 ∧ (zDone sg (s_P sg k) → r = lN 0)) 0 0 := by
  have hp := zOk_P hO hkn
  have hT := hO.1
  have hl := zPk_la hp
  have hf := zPk_con hp
  have hpc := zPk_pc hp
  have hh := (zPk_su hp).1
  have hb := zPk_bi hp
  have hs := zBl_sum (K := zKz sg (s_P sg k)) (mb := zBm (s_T sg)) (x := (s_ic sg, q_ce (s_P sg k), q_bi (s_P sg k), lN 0)) (fi := q_fi (s_P sg k)) hh hb (s_T sg - q_fi (s_P sg k))
  have hb2 := zBl_bi (K := zKz sg (s_P sg k)) (mb := zBm (s_T sg)) (x := (s_ic sg, q_ce (s_P sg k), q_bi (s_P sg k), lN 0)) (fi := q_fi (s_P sg k)) hh hb (s_T sg - q_fi (s_P sg k))
  have hr := zRt_all (hg := q_hg (s_P sg k)) (K := zKz sg (s_P sg k)) (mb := zBm (s_T sg)) (x := (s_ic sg, q_ce (s_P sg k), q_bi (s_P sg k), lN 0)) (fi := q_fi (s_P sg k)) (s_T sg - q_fi (s_P sg k))
  refine z_rewl (h_c_bill l hl9 G cy wd fo N0 sz0 a sg k hkn (zOk_k8 hO hkn) (zOk_pt hO hkn) hO.1 (zPk_kd hp) (zOk_g hO) hh (by omega) (by omega) (by omega) (fun d => by have := zPk_vo hp d; omega) (hO.2.2.2.2.2.2.1) hb) (fun r u h => ?_)
  obtain ⟨h1, h2⟩ := h
  have h1 : r = (zBx sg (s_P sg k)).2.2.2 := h1
  have e2 : s_P u = zUp (s_P sg) k (zBll (s_P sg k) (q_ow (s_P sg k) + (zBx sg (s_P sg k)).2.2.2) (zBx sg (s_P sg k)).2.1 (zBx sg (s_P sg k)).2.2.1) := by rw [h2]; rfl
  have e3 : s_np u = s_np sg := by rw [h2]
  have e4 : s_T u = s_T sg := by rw [h2]
  have e5 : s_ic u = (zBx sg (s_P sg k)).1 := by rw [h2]
  have hok : zOk u := by
    rw [h2]
    obtain ⟨g1, g2, g3, g4, g5, g6, g7, g8, g9, g10⟩ := hO
    refine ⟨g1, g2, g3, g4, g5, g6, g7, g8, g9, fun j hj => ?_⟩
    show zPk (s_T sg) (s_g sg) (zUp (s_P sg) k (zBll (s_P sg k) (q_ow (s_P sg k) + (zBx sg (s_P sg k)).2.2.2) (zBx sg (s_P sg k)).2.1 (zBx sg (s_P sg k)).2.2.1) j)
    by_cases e : j = k
    · subst e
      rw [zUp_at]
      exact zPk_bll hp hb2
    · rw [zUp_ne e]
      exact g10 j hj
  refine ⟨⟨hok, e3, e4, ?_, ⟨_, _, by rw [e2, h1]⟩, ?_⟩, fun hd => ?_⟩
  · rw [e5, h1]
    refine hs.trans ?_
    show zS8 (s_ic sg) 4 + ((zBx sg (s_P sg k)).2.2.2 - lN 0) = _
    rw [z_lN0]
    grind
  · rw [e2, zUp_at, h2]
    exact hr
  · rw [h1]
    exact (zBl_again (x := (s_ic sg, q_ce (s_P sg k), q_bi (s_P sg k), lN 0)) _ hd).1
theorem z_m64 {m : Nat} (hm : m < 1000) : (-(nI m)).toInt64 = -(lN m) := (by decide +kernel : ∀ m : Fin 1000, (-(nI m.val)).toInt64 = -(lN m.val)) ⟨m, hm⟩
def zCr (σ : zHo) (k co : Nat) (r : Int32) (s9 : zHo) : Prop := (r = -70008 ∧ s9 = σ ∧ (zHas (s_cd σ) (s_nc σ) co ∨ s_nc σ = 512)) ∨ (r = nI (co / 97 % 1000) ∧ ¬ (zHas (s_cd σ) (s_nc σ) co ∨ s_nc σ = 512) ∧ zOk s9 ∧ s_np s9 = s_np σ ∧ s_T s9 = s_T σ ∧ s_ic s9 = s_ic σ ∧ (zHas (s_cd s9) (s_nc s9) co ∨ s_nc s9 = 512) ∧ s_P s9 = zUp (s_P σ) k (zBll (s_P σ k) (q_ow (s_P σ k) + -(lN (co / 97 % 1000))) (q_ce (s_P σ k)) (q_bi (s_P σ k))))
theorem q_credit (l : Launch) (hl9 : l.stackTraces = false) (G : va_G) (cy : Nat → ClassId) (wd : Nat → Nat) (fo : Option Nat) (N0 sz0 : Nat) (a : Nat → Nat) (sg : zHo) (hO : zOk sg) (k : Nat) (hkn : k < s_np sg) (co : Nat) (hco : co < 2 ^ 31) (hy9 : co % 97 = co / 97 % 97) (d9 : Int32) : zHi l yL_asks wsL_asks zR9 G cy wd fo N0 [.ref (a 0), .int (nI 6), .int (nI k), .int (nI co), .int d9] sz0 a sg (zCr sg k co) 1 6 := by
  have hp := zOk_P hO hkn
  have hnc := hO.2.2.2.2.2.2.2.1
  have hcd := hO.2.2.2.2.2.2.2.2.1
  by_cases hc : zHas (s_cd sg) (s_nc sg) co ∨ s_nc sg = 512
  · exact z_relw (k_e3_credit l hl9 G cy wd fo N0 sz0 a sg k hkn (zOk_k8 hO hkn) (zOk_pt hO hkn) hO.1 co hco hcd hy9 hnc hc d9) (fun r u h => Or.inl ⟨h.1, h.2, hc⟩)
  · have hn5 : s_nc sg < 512 := by
      have : ¬ s_nc sg = 512 := fun q => hc (Or.inr q)
      omega
    refine z_relw (k_c_credit l hl9 G cy wd fo N0 sz0 a sg k hkn (zOk_k8 hO hkn) (zOk_pt hO hkn) hO.1 co hco hcd hy9 hn5 (fun q => hc (Or.inl q)) d9) (fun r u h => ?_)
    obtain ⟨h1, h2⟩ := h
    have e2 : s_P u = zUp (s_P sg) k (zBll (s_P sg k) (q_ow (s_P sg k) + -(lN (co / 97 % 1000))) (q_ce (s_P sg k)) (q_bi (s_P sg k))) := by
      rw [← z_m64 (show co / 97 % 1000 < 1000 from Nat.mod_lt _ (by decide)), h2]
      rfl
    refine Or.inr ⟨h1, hc, ?_, by rw [h2], by rw [h2], by rw [h2], ?_, e2⟩
    · have e6 : s_g u = s_g sg ∧ s_T u = s_T sg ∧ s_np u = s_np sg := by rw [h2]; exact ⟨rfl, rfl, rfl⟩
      obtain ⟨g1, g2, g3, g4, g5, g6, g7, g8, g9, g10⟩ := hO
      have e7 : zOk (s_nc sg + 1, s_np sg, s_T sg, s_pt sg, s_g sg, s_w9 sg, s_p9 sg, s_q9 sg, s_tf sg, s_tb sg, s_tr sg, s_ic sg, s_fl sg, s_ru sg, s_rs sg, s_w4 sg, s_p4 sg, s_q4 sg, va_up (s_cd sg) (s_nc sg) co, s_P u, s_pa sg) := by
        refine ⟨g1, g2, g3, g4, g5, g6, g7, hn5, fun i => ?_, fun j hj => ?_⟩
        · show va_up (s_cd sg) (s_nc sg) co i < 2 ^ 31
          by_cases e : i = s_nc sg
          · rw [e, va_upk]
            exact hco
          · rw [va_upj e]
            exact g9 i
        · show zPk (s_T sg) (s_g sg) (s_P u j)
          rw [e2]
          by_cases e : j = k
          · subst e
            rw [zUp_at]
            exact zPk_bll hp (zPk_bi hp)
          · rw [zUp_ne e]
            exact g10 j hj
      rw [h2] at e7 ⊢
      exact e7
    · rw [h2]
      exact Or.inl ⟨s_nc sg, Nat.lt_succ_self _, va_upk⟩

