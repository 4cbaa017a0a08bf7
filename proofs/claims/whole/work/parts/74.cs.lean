theorem ty_dm {x : Nat} {μ : mo_Mem} (hX : x + 60 ≤ mo_X μ) (nc : Nat) (par : Option Nat) (lv c f : Int32) : c_dm x μ (m_ty x μ nc par lv c f) := by
  obtain ⟨m1, m2, m3, m4, m5, m6, m7, m8⟩ := ty_old (x := x) (μ := μ) nc par lv c f
  exact ⟨by omega, fun k a ha h1 h2 => ⟨m1 k a (by omega) (fun z => h2 z.1), m2 k a (by omega)⟩, fun a ha => ⟨(m5 a (by omega)).2, (m5 a (by omega)).1⟩, m6 _ (by omega) (by omega), m4, fun a h1 h2 => ⟨m1 _ a h2 (by omega), m1 _ a h2 (by omega), m3 _ a h2, m3 _ a h2, m3 _ a h2, (m5 a h2).2⟩⟩
theorem ty_ot {x : Nat} {μ : mo_Mem} (hX : x + 60 ≤ mo_X μ) (nc : Nat) (par : Option Nat) (lv c f : Int32) : c_ot x μ (m_ty x μ nc par lv c f) := by
  obtain ⟨m1, m2, m3, m4, m5, m6, m7, m8⟩ := ty_old (x := x) (μ := μ) nc par lv c f
  intro a h1 h2
  exact ⟨(m4 a (by omega)).1, (m4 a (by omega)).2, fun k => ⟨m3 k a (by omega), m1 k a (by omega) (by omega), m2 k a (by omega)⟩, (m5 a (by omega)).1, (m5 a (by omega)).2⟩
theorem bel_ext {A A' : mo_A} {nc : Nat} (hn : nc ≤ 8) (hp : a_pw A nc) (h6 : ∀ c, c < nc → A'.1 6 c = A.1 6 c) (h : Nat) : ∀ k c, c < nc → a_bel A' k c h = a_bel A k c h := by
  intro k
  induction k with
  | zero => intro c _; rfl
  | succ k ih =>
    intro c hc
    have ep : a_par A' c = a_par A c := by unfold a_par; rw [h6 c hc]
    unfold a_bel
    rw [ep]
    split
    · rfl
    · rcases a_par_c hn hp hc with ⟨z1, z2⟩ | ⟨p, z1, z2, z3⟩
      · rw [z2]
      · rw [z3]; exact ih p (by omega)
theorem O_type {x s0 k d bs : Nat} {μ : mo_Mem} {Q : mo_Mem → Prop} (hiv : c_iv x s0 k μ) (hb : bs < x) (hQ : ∀ μ', c_iv x s0 (k + 1) μ' → c_sc bs μ μ' → Q μ') (p c f : Int32) : c_qI x (d + 200) 66 89 bs [.int p, .int c, .int f] μ Q := by
  have hiv0 := hiv; obtain ⟨A, G, O, no, b, q, hs, hd, hr, hst, hX, hS⟩ := hiv0; have fin : Q μ := hQ μ (iv_up hiv) (sc_rf _ _); have hno := hd.2.2.1; have hno1 := hd.2.2.2.1; obtain ⟨nl, l1, l2, l3, l4⟩ := hd.2.2.2.2.2.2.2.2.2.2.2.2.2.2.2.2.2.2.2.2.2.2.1; have hne := hs.2.2.1.2.2.1; have hnc := hs.2.2.1.2.2.2.1; have hnc8 := hs.2.2.1.2.1; have hpw := hs.2.2.1.2.2.2.2.1
  unfold c_qI
  have ok : ∀ (par : Option Nat) (lv : Nat), (p = -1 ∧ par = none ∧ lv = 0) ∨ (∃ y, y < gnc G ∧ p = nI y ∧ par = some (gT G y) ∧ lv = gV G y + 1) → gnc G < 8 → ∀ k m, k < 4 → m < 5 → c = nI k → f = nI m → mo_M (d + 200) 89 (.ref (x + 28) :: [.int p, .int c, .int f]) (m_ty x μ (gnc G) par (nI lv) c f) (fun r2 μ2 => r2 = some (.int (nI (gnc G))) ∧ Q μ2) := by
    intro par lv hpl h8 k m hk hm hck hfm
    have hr1 := r_ot hr (ty_ot hs.2.1 (gnc G) par (nI lv) c f)
    rw [(R_typeK (d := d + 198) hr1 hnc hnc8 p c f (by rcases hpl with ⟨z, -⟩ | ⟨y, z1, z2, -⟩; exact Or.inl z; exact Or.inr (by rw [z2]; exact vp_in_nI z1 (by omega))) hk hm hck hfm _).2 h8]
    refine ⟨rfl, ?_⟩
    obtain ⟨hr2, hfc⟩ := r_rt hr1 (gnc G) p c f
    obtain ⟨e1, e2, e3, e4, e5, e6, e7, e8, e9⟩ := tyA A (gnc G) p c f
    have hst1 := ty_st hs h8 hpl hk hm
    rw [← hck, ← hfm] at hst1
    have hdy := dy_pl (A' := a_ty A (gnc G) p c f) (G' := g_ty G (mo_X μ) lv) hnc8 hpw hd (ty_dm hs.2.1 (gnc G) par (nI lv) c f) (fun j hj => ⟨e1 j (by omega) (by omega) (by omega) (by omega) (by omega) (by omega), by rw [e2]⟩) (fun c' hc' => ⟨by show c' < gnc G + 1; omega, by show (if c' = gnc G then mo_X μ else gT G c') = gT G c'; rw [if_neg (by omega)], by show (if c' = gnc G then lv else gV G c') = gV G c'; rw [if_neg (by omega)]⟩) (fun c' hc' h => bel_ext hnc8 hpw (fun c'' hc'' => by rw [e4, if_neg (by omega)]) h 8 c' hc')
    obtain ⟨m1, m2, m3, m4, m5, m6, m7, m8⟩ := ty_old (x := x) (μ := μ) (gnc G) par (nI lv) c f
    have hX0 := hs.2.1
    refine hQ _ ⟨_, g_ty G (mo_X μ) lv, O, no, b, q, st_fc hst1 hfc, dy_fc hdy hfc, hr2, fun o ho => by rw [e1 19 (by decide) (by decide) (by decide) (by decide) (by decide) (by decide)]; exact hst o ho, ?_, ?_⟩ (sc_tr (sc_dm (ty_dm hs.2.1 (gnc G) par (nI lv) c f) hb hs.2.1) (sc_fc hfc hb))
    · rw [hfc.2.2.2.2.1, m7]; omega
    · rw [hfc.2.2.2.2.2.1, m8]; omega
  have oks : ∀ (par : Option Nat) (lv : Nat), c_sc bs μ (m_ty x μ (gnc G) par (nI lv) c f) := by
    intro par lv
    exact sc_dm (ty_dm hs.2.1 (gnc G) par (nI lv) c f) hb hs.2.1
  by_cases hp : p = -1 ∨ vp_in p (gnc G)
  · by_cases ho : vp_in c 4 ∧ vp_in f 5
    · obtain ⟨k, hk, hck⟩ := vp_ex (by decide) ho.1
      obtain ⟨m, hm, hfm⟩ := vp_ex (by decide) ho.2
      by_cases h8 : gnc G < 8
      · rcases hp with hp1 | hp1
        · rw [C_typeN (d := d + 196) hs p c f h8 hp1 hk hm hck hfm]
          exact ⟨_, rfl, oks none 0, ok none 0 (Or.inl ⟨hp1, rfl, rfl⟩) h8 k m hk hm hck hfm⟩
        · obtain ⟨y, hy, hpy⟩ := vp_ex (by omega) hp1
          rw [C_typeS (d := d + 196) hs p c f h8 hy hpy hk hm hck hfm]
          exact ⟨_, rfl, oks (some (gT G y)) (gV G y + 1), ok (some (gT G y)) (gV G y + 1) (Or.inr ⟨y, hy, hpy, rfl, rfl⟩) h8 k m hk hm hck hfm⟩
      · have h88 : gnc G = 8 := by omega
        rw [C_typeF (d := d + 196) hs p c f h88 hp hk hm hck hfm]
        refine ⟨_, rfl, sc_rf _ _, ?_⟩
        rw [(R_typeK (d := d + 198) hr hnc hnc8 p c f hp hk hm hck hfm _).1 h88]
        exact ⟨rfl, fin⟩
    · have ho' : ¬ vp_in c 4 ∨ ¬ vp_in f 5 := by
        by_cases z : vp_in c 4
        · exact Or.inr (fun w => ho ⟨z, w⟩)
        · exact Or.inl z
      rw [C_typeO (d := d + 196) hs p c f hp ho']
      refine ⟨_, rfl, sc_rf _ _, ?_⟩
      rw [R_typeO (d := d + 198) hr hnc hnc8 p c f hp ho']
      exact ⟨rfl, fin⟩
  · rw [C_typeU (d := d + 196) hs p c f (fun z => hp (Or.inl z)) (fun z => hp (Or.inr z))]
    refine ⟨_, rfl, sc_rf _ _, ?_⟩
    rw [R_typeU (d := d + 198) hr hnc hnc8 p c f (fun z => hp (Or.inl z)) (fun z => hp (Or.inr z))]
    exact ⟨rfl, fin⟩
