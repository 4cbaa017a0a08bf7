def c_dm (x : Nat) (μ μ' : mo_Mem) : Prop := mo_X μ ≤ mo_X μ' ∧ (∀ k a, a < x + 28 → k ≠ 450 → k ≠ 451 → mo_I μ' k a = mo_I μ k a ∧ mo_L μ' k a = mo_L μ k a) ∧ (∀ a, a < x + 28 → mo_AL μ' a = mo_AL μ a ∧ mo_AI μ' a = mo_AI μ a) ∧ mo_AR μ' (x + 10) = mo_AR μ (x + 10) ∧ (∀ a, a < mo_X μ → mo_C μ' a = mo_C μ a ∧ mo_N μ' a = mo_N μ a) ∧ (∀ a, x + 60 ≤ a → a < mo_X μ → mo_I μ' 576 a = mo_I μ 576 a ∧ mo_I μ' 580 a = mo_I μ 580 a ∧ mo_R μ' 577 a = mo_R μ 577 a ∧ mo_R μ' 578 a = mo_R μ 578 a ∧ mo_R μ' 579 a = mo_R μ 579 a ∧ mo_AL μ' a = mo_AL μ a)
theorem bel_le {B : mo_A} {nc : Nat} (hn : nc ≤ 8) (hp : a_pw B nc) {h : Nat} : ∀ n c, c < n → c < nc → a_bel B 8 c h = true → h ≤ c := by
  intro n
  induction n with
  | zero => intro c hc; omega
  | succ n ih =>
    intro c hc hcn hb
    rcases (bel_s hn hp hcn).1 hb with q | ⟨p, q1, q2, q3⟩
    · omega
    · have := ih p (by omega) (by omega) q3
      omega
theorem dy_pl {x u P F no b q : Nat} {A A' : mo_A} {G G' : c_G} {O : Nat → Nat} {μ μ' : mo_Mem} (hn8 : gnc G ≤ 8) (hpw : a_pw A (gnc G)) (h : c_dy x A G u P F μ A O no b q) (m : c_dm x μ μ') (hA : ∀ j, 17 ≤ j → A'.1 j = A.1 j ∧ A'.2 j = A.2 j) (hG : ∀ c, c < gnc G → c < gnc G' ∧ gT G' c = gT G c ∧ gV G' c = gV G c) (hb : ∀ c, c < gnc G → ∀ h, a_bel A' 8 c h = a_bel A 8 c h) : c_dy x A' G' u P F μ' A' O no b q := by
  obtain ⟨d1, d2, d3, d4, d5, d6, d7, d8, d9, d10, d11, d12, d13, d14, d15, d16, d17, d18, d19, d20, d21, d22, d23, d24, d25⟩ := h
  obtain ⟨m1, m2, m3, m4, m5, m6⟩ := m
  have i : ∀ k a, a < x + 28 → k ≠ 450 → k ≠ 451 → mo_I μ' k a = mo_I μ k a := fun k a h1 h2 h3 => (m2 k a h1 h2 h3).1
  have e : ∀ j i, 17 ≤ j → A'.1 j i = A.1 j i := fun j i hj => by rw [(hA j hj).1]
  refine ⟨lk_rf _, (i _ _ (by omega) (by decide) (by decide)).trans d2, (e _ _ (by decide)).trans d3, d4, (i _ _ (by omega) (by decide) (by decide)).trans d5, (e _ _ (by decide)).trans d6, d7, (i _ _ (by omega) (by decide) (by decide)).trans d8, d9, (e _ _ (by decide)).trans d10, (i _ _ (by omega) (by decide) (by decide)).trans d11, (e _ _ (by decide)).trans d12, d13, by rw [e _ _ (by decide), i _ _ (by omega) (by decide) (by decide)]; exact d14, by rw [e _ _ (by decide), i _ _ (by omega) (by decide) (by decide)]; exact d15, by rw [e _ _ (by decide), i _ _ (by omega) (by decide) (by decide)]; exact d16, (i _ _ (by omega) (by decide) (by decide)).trans d17, (e _ _ (by decide)).trans d18, d19, by rw [e _ _ (by decide), i _ _ (by omega) (by decide) (by decide)]; exact d20, by rw [e _ _ (by decide)]; exact d21, by rw [(hA 26 (by decide)).2, (m2 706 x (by omega) (by decide) (by decide)).2]; exact d22, lg_k d23 (i _ _ (by omega) (by decide) (by decide)) (m3 _ (by omega)).1 (m3 _ (by omega)).2 (m3 _ (by omega)).2 (hA 22 (by decide)).1 (hA 23 (by decide)).2 (hA 24 (by decide)).1 (hA 25 (by decide)).1, fun o ho => ?_, ?_⟩
  · obtain ⟨c, t1, t2, t3, t4, t5, t6, t7, t8, t9, t10, t11, t12, t13, t14, t15, t16⟩ := d24 o ho
    obtain ⟨q1, q2, q3, q4, q5, q6⟩ := m6 (O o) t4 (by omega)
    obtain ⟨g1, g2, g3⟩ := hG c t1
    refine ⟨c, g1, (e _ _ (by decide)).trans t2, by rw [m4]; exact t3, t4, by omega, (m5 _ (by omega)).1.trans t6, q1.trans t7, by rw [q3, g2]; exact t8, q4.trans t9, q5.trans t10, (m5 _ (by omega)).1.trans t11, by rw [(m5 _ (by omega)).2, g3]; exact t12, (m5 _ (by omega)).1.trans t13, by rw [(m5 _ (by omega)).2, g3]; exact t14, by rw [q2, e _ _ (by decide)]; exact t15, fun h' hb' => ?_⟩
    rw [hb c t1] at hb'
    have hle : h' ≤ c := bel_le hn8 hpw 8 c (by omega) t1 hb'
    rw [(m6 (O o + 1) (by omega) (by omega)).2.2.2.2.2, (m6 (O o + 2) (by omega) (by omega)).2.2.2.2.2, (hG h' (by omega)).2.2, (hA 20 (by decide)).2, (hA 21 (by decide)).2]
    exact t16 h' hb'
  · unfold c_fz
    rw [(hA 20 (by decide)).2, (hA 21 (by decide)).2]
    exact d25
theorem en_up {ne : Nat} {v : Int32} (h : a_en ne v) : a_en (ne + 1) v := by
  rcases h with q | ⟨e, q1, q2⟩
  · exact Or.inl q
  · exact Or.inr ⟨e, by omega, q2⟩
def g_ex (G : c_G) (a : Nat) : c_G := (gne G + 1, gnc G, fun i => if i = gne G then a else gE G i, gT G, gK G, gV G)
def a_ex (A : mo_A) (ne : Nat) (s : Int32) (n : Int64) (a b : Int32) : mo_A := a_I (a_I (a_I (a_L (a_I A 1 ne s) 2 ne n) 3 ne a) 4 ne b) 0 0 (nI (ne + 1))
theorem ex_dm {x : Nat} {μ : mo_Mem} (hX : x + 60 ≤ mo_X μ) (ne : Nat) (s : Int32) (n : Int64) (a b : Int32) : c_dm x μ (m_ex x μ ne s n a b) := by
  refine ⟨?_, fun k a ha h1 h2 => ?_, fun a ha => ?_, ?_, fun a ha => ?_, fun a h1 h2 => ?_⟩
  · simp only [m_ex, mo_ME]; omega
  · simp only [m_ex, mo_ME, mo_u_a, mo_z_a]
    rw [if_neg (fun q => h1 q.1), if_neg (by omega), if_neg (by omega), if_neg (by omega), if_neg (by omega), if_neg (by omega), if_neg (by omega)]
    exact ⟨rfl, rfl⟩
  · simp only [m_ex, mo_ME]
    refine ⟨funext fun i => ?_, funext fun i => ?_⟩
    · rw [mo_y_a, if_neg (by omega)]
    · rw [mo_y_a, if_neg (by omega)]
  · funext i
    simp only [m_ex, mo_ME, mo_u_a, mo_y_a, Nat.add_left_cancel_iff, Nat.reduceEqDiff, false_and, if_false]
    rw [if_neg (by omega)]
  · simp only [m_ex, mo_ME, mo_v]
    rw [if_neg (by omega), if_neg (by omega)]
    exact ⟨rfl, rfl⟩
  · have hne : ¬ a = mo_X μ := by omega
    simp only [m_ex, mo_ME, mo_u_a, mo_z_a, Nat.reduceEqDiff, false_and, if_false, hne]
    exact ⟨trivial, trivial, trivial, trivial, trivial, funext fun i => by rw [mo_y_a, if_neg hne]⟩
theorem ex_ot {x : Nat} {μ : mo_Mem} (hX : x + 60 ≤ mo_X μ) (ne : Nat) (s : Int32) (n : Int64) (a b : Int32) : c_ot x μ (m_ex x μ ne s n a b) := by
  intro a h1 h2
  simp only [m_ex, mo_ME, mo_v]
  rw [if_neg (by omega), if_neg (by omega)]
  refine ⟨rfl, rfl, fun k => ?_, funext fun i => ?_, funext fun i => ?_⟩
  · simp only [mo_u_a, mo_z_a]
    rw [if_neg (by omega), if_neg (by omega), if_neg (by omega), if_neg (by omega), if_neg (by omega), if_neg (by omega), if_neg (by omega), if_neg (by omega)]
    exact ⟨rfl, rfl, rfl⟩
  · rw [mo_y_a, if_neg (by omega)]
  · rw [mo_y_a, if_neg (by omega)]
theorem exA (A : mo_A) (ne : Nat) (s : Int32) (n : Int64) (a b : Int32) : (∀ j, j ≠ 0 → j ≠ 1 → j ≠ 3 → j ≠ 4 → (a_ex A ne s n a b).1 j = A.1 j) ∧ (∀ j, j ≠ 2 → (a_ex A ne s n a b).2 j = A.2 j) ∧ (a_ex A ne s n a b).1 0 0 = nI (ne + 1) ∧ (∀ i, (a_ex A ne s n a b).1 1 i = if i = ne then s else A.1 1 i) ∧ (∀ i, (a_ex A ne s n a b).2 2 i = if i = ne then n else A.2 2 i) ∧ (∀ i, (a_ex A ne s n a b).1 3 i = if i = ne then a else A.1 3 i) ∧ (∀ i, (a_ex A ne s n a b).1 4 i = if i = ne then b else A.1 4 i) := by
  unfold a_ex
  refine ⟨fun j h1 h2 h3 h4 => funext fun i => ?_, fun j h1 => funext fun i => ?_, ?_, fun i => ?_, fun i => ?_, fun i => ?_, fun i => ?_⟩ <;> simp only [a_I_1, a_I_2, a_L_1, a_L_2, *, Nat.reduceEqDiff, false_and, true_and, and_self, if_true, if_false, ne_eq, not_false_eq_true]
theorem ex_st {x : Nat} {A : mo_A} {G : c_G} {μ : mo_Mem} (hs : c_st x A G μ) {s : Nat} (hs11 : s < 11) {n : Int64} {a b : Int32} (h60 : gne G < 60) (hU : a_eu s (gne G) (gnc G) n a b) (hO : a_eo s n) : c_st x (a_ex A (gne G) (nI s) n a b) (g_ex G (mo_X μ)) (m_ex x μ (gne G) (nI s) n a b) := by
  have hX := hs.2.1
  obtain ⟨e1, e2, e3, e4, e5, e6, e7⟩ := exA A (gne G) (nI s) n a b
  obtain ⟨m1, m2, m3, m4, m5, m6⟩ := ex_dm hX (gne G) (nI s) n a b
  have mi : ∀ k a', x + 60 ≤ a' → a' < mo_X μ → mo_I (m_ex x μ (gne G) (nI s) n a b) k a' = mo_I μ k a' ∧ mo_L (m_ex x μ (gne G) (nI s) n a b) k a' = mo_L μ k a' ∧ mo_R (m_ex x μ (gne G) (nI s) n a b) k a' = mo_R μ k a' := fun k a' h1 h2 => by
    simp only [m_ex, mo_ME, mo_u_a, mo_z_a]
    rw [if_neg (by omega), if_neg (by omega), if_neg (by omega), if_neg (by omega), if_neg (by omega), if_neg (by omega), if_neg (by omega), if_neg (by omega)]
    exact ⟨rfl, rfl, rfl⟩
  have ma : ∀ a', x + 60 ≤ a' → a' < mo_X μ → mo_AI (m_ex x μ (gne G) (nI s) n a b) a' = mo_AI μ a' ∧ mo_AR (m_ex x μ (gne G) (nI s) n a b) a' = mo_AR μ a' := fun a' h1 h2 => by
    simp only [m_ex, mo_ME]
    refine ⟨funext fun i => ?_, funext fun i => ?_⟩
    · rw [mo_y_a, if_neg (by omega)]
    · rw [mo_u_a, if_neg (by omega), mo_y_a, if_neg (by omega)]
  obtain ⟨⟨h1a, h1b⟩, -, ⟨o1, o2, o3, o4, o5, o6, o7, o8, o9⟩, p1, p2, p3, p4, p5, p6, p7, p8⟩ := hs
  have mR : ∀ k a', a' < mo_X μ → mo_R (m_ex x μ (gne G) (nI s) n a b) k a' = mo_R μ k a' := fun k a' h2 => by
    simp only [m_ex, mo_ME, mo_z_a]
    rw [if_neg (by omega)]
  refine ⟨⟨?_, fun i hi => ?_⟩, by omega, ⟨by show gne G + 1 ≤ 60; omega, o2, by rw [e3]; rfl, by rw [e1 5 (by decide) (by decide) (by decide) (by decide)]; exact o4, ?_, fun e he => ?_, fun c hc => ?_, fun m hm => ?_, fun m h1 h2 => ?_⟩, ?_, ?_, fun e he => ?_, fun c hc => ?_, fun m hm hp => ?_, ?_, ?_, p8⟩
  · unfold cl_sf at h1a ⊢
    obtain ⟨h0, h1, h2, h3, h4, h5, h6, h7, h8, h9, h10, h11, h12, h13, h14, h15, h16, h17, h18, h19, h20, h21, h22, h23, h24, h25, h26, h27, h28, h29, h30, h31, h32, h33, h34, h35, h36, h37, h38, h39, h40, h41⟩ := h1a
    exact ⟨(m5 _ (by omega)).1.trans h0, (mR _ _ (by omega)).trans h1, (mR _ _ (by omega)).trans h2, (m5 _ (by omega)).1.trans h3, (mR _ _ (by omega)).trans h4, (mR _ _ (by omega)).trans h5, (mR _ _ (by omega)).trans h6, (mR _ _ (by omega)).trans h7, (mR _ _ (by omega)).trans h8, (mR _ _ (by omega)).trans h9, (m5 _ (by omega)).1.trans h10, (mR _ _ (by omega)).trans h11, (mR _ _ (by omega)).trans h12, (m5 _ (by omega)).1.trans h13, (m5 _ (by omega)).2.trans h14, (m5 _ (by omega)).1.trans h15, (m5 _ (by omega)).2.trans h16, (m5 _ (by omega)).1.trans h17, (mR _ _ (by omega)).trans h18, (mR _ _ (by omega)).trans h19, (mR _ _ (by omega)).trans h20, (m5 _ (by omega)).1.trans h21, (m5 _ (by omega)).2.trans h22, (m5 _ (by omega)).1.trans h23, (m5 _ (by omega)).2.trans h24, (m5 _ (by omega)).1.trans h25, (m5 _ (by omega)).2.trans h26, (m5 _ (by omega)).1.trans h27, (m5 _ (by omega)).1.trans h28, (m5 _ (by omega)).2.trans h29, (m5 _ (by omega)).1.trans h30, (mR _ _ (by omega)).trans h31, (mR _ _ (by omega)).trans h32, (mR _ _ (by omega)).trans h33, (m5 _ (by omega)).1.trans h34, (m5 _ (by omega)).2.trans h35, (m5 _ (by omega)).1.trans h36, (m5 _ (by omega)).2.trans h37, (m5 _ (by omega)).1.trans h38, (m5 _ (by omega)).2.trans h39, (m5 _ (by omega)).1.trans h40, (m5 _ (by omega)).2.trans h41⟩
  · obtain ⟨q1, q2⟩ := h1b i hi
    refine ⟨?_, (m5 _ (by omega)).1.trans q2⟩
    simp only [m_ex, mo_ME, mo_u_a, mo_y_a, Nat.add_left_cancel_iff, Nat.reduceEqDiff, false_and, if_false]
    rw [if_neg (by omega)]
    exact q1
  · intro c hc
    rw [e1 6 (by decide) (by decide) (by decide) (by decide)]
    exact o5 c hc
  · by_cases hee : e = gne G
    · subst hee
      refine ⟨s, by omega, by rw [e4, if_pos rfl], fun h4 => ?_, fun h4 h7 h8 => ?_, fun h2 => ?_, fun h3 => ?_, fun h9 => ?_⟩
      · obtain ⟨k, k1, k2⟩ := vp_ex (by omega) (hU.1 h4)
        exact ⟨k, k1, by rw [e6, if_pos rfl]; exact k2⟩
      · obtain ⟨k, k1, k2⟩ := vp_ex (by omega) (hU.2.1 h4 h7 h8)
        exact ⟨k, k1, by rw [e7, if_pos rfl]; exact k2⟩
      · obtain ⟨k, k1, k2⟩ := lN_ex (n := 3) (by decide) (hO.1 h2).1 (hO.1 h2).2
        exact ⟨k, k1, by rw [e5, if_pos rfl]; exact k2⟩
      · obtain ⟨k, k1, k2⟩ := lN_ex (n := 4) (by decide) (hO.2 h3).1 (hO.2 h3).2
        exact ⟨k, k1, by rw [e5, if_pos rfl]; exact k2⟩
      · obtain ⟨k, k1, k2⟩ := lN_ex (n := gnc G) (by omega) (hU.2.2 h9).1 (hU.2.2 h9).2
        exact ⟨k, k1, by rw [e5, if_pos rfl]; exact k2⟩
    · have he2 : e < gne G := by have : e < gne G + 1 := he; omega
      obtain ⟨s', q1, q2, q3, q4, q5, q6, q7⟩ := o6 e he2
      refine ⟨s', q1, by rw [e4, if_neg hee]; exact q2, fun h => ?_, fun h h' h'' => ?_, fun h => ?_, fun h => ?_, fun h => ?_⟩
      · rw [e6, if_neg hee]; exact q3 h
      · rw [e7, if_neg hee]; exact q4 h h' h''
      · rw [e5, if_neg hee]; exact q5 h
      · rw [e5, if_neg hee]; exact q6 h
      · rw [e5, if_neg hee]; exact q7 h
  · obtain ⟨q1, q2, q3, q4⟩ := o7 c hc
    unfold a_cp
    rw [e1 7 (by decide) (by decide) (by decide) (by decide), e1 8 (by decide) (by decide) (by decide) (by decide), e1 9 (by decide) (by decide) (by decide) (by decide), e1 10 (by decide) (by decide) (by decide) (by decide)]
    exact ⟨q1, q2, en_up q3, fun k hk => en_up (q4 k hk)⟩
  · obtain ⟨q1, q2, na, q3, q4, q5⟩ := o8 m hm
    unfold a_mp
    rw [e1 11 (by decide) (by decide) (by decide) (by decide), e1 12 (by decide) (by decide) (by decide) (by decide), e1 13 (by decide) (by decide) (by decide) (by decide), e1 14 (by decide) (by decide) (by decide) (by decide), e1 15 (by decide) (by decide) (by decide) (by decide), e1 16 (by decide) (by decide) (by decide) (by decide)]
    refine ⟨q1, fun h => en_up (q2 h), na, q3, q4, fun i hi => ⟨(q5 i hi).1, ?_⟩⟩
    obtain ⟨e, h1, h2⟩ := (q5 i hi).2
    exact ⟨e, by show e < gne G + 1; omega, h2⟩
  · rw [e1 11 (by decide) (by decide) (by decide) (by decide), e1 13 (by decide) (by decide) (by decide) (by decide)]
    exact o9 m h1 h2
  · simp only [m_ex, mo_ME, mo_u_a, and_self, if_true]
    rfl
  · simp only [m_ex, mo_ME, mo_u_a, mo_z_a, Nat.reduceEqDiff, false_and, if_false]
    rw [if_neg (by omega)]
    exact p2
  · show mo_AR (m_ex x μ (gne G) (nI s) n a b) (x + 3) e = some (if e = gne G then mo_X μ else gE G e) ∧ x + 60 ≤ (if e = gne G then mo_X μ else gE G e) ∧ (if e = gne G then mo_X μ else gE G e) < mo_X (m_ex x μ (gne G) (nI s) n a b) ∧ cl_ex (m_ex x μ (gne G) (nI s) n a b) (a_ex A (gne G) (nI s) n a b) (if e = gne G then mo_X μ else gE G e) e
    by_cases hee : e = gne G
    · subst hee
      rw [if_pos rfl]
      refine ⟨?_, hX, ?_, ?_, ?_, ?_, ?_, ?_⟩
      · simp only [m_ex, mo_ME, mo_u_a, and_self, if_true]
      · simp only [m_ex, mo_ME]; omega
      · simp only [m_ex, mo_ME, mo_v]; rw [if_pos trivial]
      · rw [e4, if_pos rfl]; simp only [m_ex, mo_ME, mo_u_a, Nat.reduceEqDiff, false_and, and_self, if_true, if_false]
      · rw [e5, if_pos rfl]; simp only [m_ex, mo_ME, mo_u_a, Nat.reduceEqDiff, false_and, and_self, if_true, if_false]
      · rw [e6, if_pos rfl]; simp only [m_ex, mo_ME, mo_u_a, Nat.reduceEqDiff, false_and, and_self, if_true, if_false]
      · rw [e7, if_pos rfl]; simp only [m_ex, mo_ME, mo_u_a, Nat.reduceEqDiff, false_and, and_self, if_true, if_false]
    · have he2 : e < gne G := by have : e < gne G + 1 := he; omega
      obtain ⟨q1, q2, q3, q4⟩ := p3 e he2
      rw [if_neg hee]
      refine ⟨?_, q2, by omega, ex_sm q4 (m5 _ q3).1 (fun k => ⟨(mi k _ q2 q3).1, (mi k _ q2 q3).2.1⟩) (by rw [e4, if_neg hee]) (by rw [e5, if_neg hee]) (by rw [e6, if_neg hee]) (by rw [e7, if_neg hee])⟩
      simp only [m_ex, mo_ME, mo_u_a, mo_y_a, true_and]
      rw [if_neg hee, if_neg (by omega)]
      exact q1
  · obtain ⟨q1, q2⟩ := p4 c hc
    have q18 := q2.2.2.2.2.2.2.2.2.2.2.2.2.2.2.2.2.2.1
    have q19 := q2.2.2.2.2.2.2.2.2.2.2.2.2.2.2.2.2.2.2
    refine ⟨?_, ty_sm q2 rfl (fun _ _ => rfl) rfl rfl (fun _ _ _ => rfl) m1 (fun j hj => m5 _ (by omega)) (fun k => ⟨(mi k _ (by omega) (by omega)).1, (mi k _ (by omega) (by omega)).2.2⟩) (ma _ (by omega) (by omega)).1 (ma _ (by omega) (by omega)).2 (by rw [e1 6 (by decide) (by decide) (by decide) (by decide)]) (by rw [e1 7 (by decide) (by decide) (by decide) (by decide)]) (by rw [e1 8 (by decide) (by decide) (by decide) (by decide)]) (by rw [e1 9 (by decide) (by decide) (by decide) (by decide)]) (fun k _ => by rw [e1 10 (by decide) (by decide) (by decide) (by decide)]) (fun k _ => by rw [e1 11 (by decide) (by decide) (by decide) (by decide)])⟩
    simp only [m_ex, mo_ME, mo_u_a, mo_y_a, Nat.add_left_cancel_iff, Nat.reduceEqDiff, false_and, if_false]
    rw [if_neg (by omega)]
    exact q1
  · have hp' : a_pm A m := by
      unfold a_pm at hp ⊢
      rw [e1 11 (by decide) (by decide) (by decide) (by decide)] at hp
      exact hp
    have q := p5 m hm hp'
    have q8 := q.2.2.2.2.2.2.2.1
    have q9 := q.2.2.2.2.2.2.2.2.1
    exact cd_sm q rfl m1 m5 (fun k _ a' h1 h2 => (mi k a' h1 h2).1) (fun k => (mi k _ q8 (by omega)).2.2) (ma _ (by omega) (by omega)).2 (by rw [e1 11 (by decide) (by decide) (by decide) (by decide)]) (by rw [e1 12 (by decide) (by decide) (by decide) (by decide)]) (by rw [e1 13 (by decide) (by decide) (by decide) (by decide)]) (fun i _ => ⟨by rw [e1 14 (by decide) (by decide) (by decide) (by decide)], by rw [e1 15 (by decide) (by decide) (by decide) (by decide)], by rw [e1 16 (by decide) (by decide) (by decide) (by decide)]⟩)
  · intro m m' h1 h2 h3 h4 h5
    unfold a_pm at h3 h4
    rw [e1 11 (by decide) (by decide) (by decide) (by decide)] at h3 h4
    exact p6 m m' h1 h2 h3 h4 h5
  · intro c p hc hp
    have : a_par (a_ex A (gne G) (nI s) n a b) c = a_par A c := by unfold a_par; rw [e1 6 (by decide) (by decide) (by decide) (by decide)]
    rw [this] at hp
    exact p7 c p hc hp
