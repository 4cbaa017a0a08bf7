theorem ty_old {x : Nat} {μ : mo_Mem} (nc : Nat) (par : Option Nat) (lv c f : Int32) : (∀ k a, a < mo_X μ → ¬ (k = 451 ∧ a = x + 2) → mo_I (m_ty x μ nc par lv c f) k a = mo_I μ k a) ∧ (∀ k a, a < mo_X μ → mo_L (m_ty x μ nc par lv c f) k a = mo_L μ k a) ∧ (∀ k a, a < mo_X μ → mo_R (m_ty x μ nc par lv c f) k a = mo_R μ k a) ∧ (∀ a, a < mo_X μ → mo_C (m_ty x μ nc par lv c f) a = mo_C μ a ∧ mo_N (m_ty x μ nc par lv c f) a = mo_N μ a) ∧ (∀ a, a < mo_X μ → mo_AI (m_ty x μ nc par lv c f) a = mo_AI μ a ∧ mo_AL (m_ty x μ nc par lv c f) a = mo_AL μ a) ∧ (∀ a, a < mo_X μ → a ≠ x + 4 → mo_AR (m_ty x μ nc par lv c f) a = mo_AR μ a) ∧ mo_X (m_ty x μ nc par lv c f) = mo_X μ + 5 ∧ mo_S (m_ty x μ nc par lv c f) = mo_S μ + 29 := by
  refine ⟨fun k a ha hk => ?_, fun k a ha => ?_, fun k a ha => ?_, fun a ha => ?_, fun a ha => ⟨funext fun i => ?_, funext fun i => ?_⟩, fun a ha h4 => funext fun i => ?_, ?_, ?_⟩
  · simp only [m_ty, m_t1, mo_ME, mo_u_a, mo_z_a]
    repeat rw [if_neg (by omega)]
  · simp only [m_ty, m_t1, mo_ME, mo_u_a, mo_z_a]
    repeat rw [if_neg (by omega)]
  · simp only [m_ty, m_t1, mo_ME, mo_u_a, mo_z_a]
    repeat rw [if_neg (by omega)]
  · simp only [m_ty, m_t1, mo_ME, mo_v]
    constructor
    · repeat rw [if_neg (by omega)]
    · repeat rw [if_neg (by omega)]
  · simp only [m_ty, m_t1, mo_ME, mo_u_a, mo_y_a]
    repeat rw [if_neg (by omega)]
  · simp only [m_ty, m_t1, mo_ME, mo_u_a, mo_y_a]
    repeat rw [if_neg (by omega)]
  · simp only [m_ty, m_t1, mo_ME, mo_u_a, mo_y_a]
    repeat rw [if_neg (by omega)]
  · simp only [m_ty, m_t1, mo_ME]
  · simp only [m_ty, m_t1, mo_ME]
theorem ty_new {x : Nat} {μ : mo_Mem} (hX : x + 60 ≤ mo_X μ) (nc : Nat) (par : Option Nat) (lv c f : Int32) : mo_C (m_ty x μ nc par lv c f) (mo_X μ) = 11 ∧ mo_I (m_ty x μ nc par lv c f) 640 (mo_X μ) = nI nc ∧ mo_R (m_ty x μ nc par lv c f) 641 (mo_X μ) = par ∧ mo_I (m_ty x μ nc par lv c f) 642 (mo_X μ) = lv ∧ mo_I (m_ty x μ nc par lv c f) 643 (mo_X μ) = c ∧ mo_I (m_ty x μ nc par lv c f) 644 (mo_X μ) = f ∧ mo_R (m_ty x μ nc par lv c f) 645 (mo_X μ) = some (mo_X μ + 1) ∧ mo_C (m_ty x μ nc par lv c f) (mo_X μ + 1) = 20 ∧ mo_N (m_ty x μ nc par lv c f) (mo_X μ + 1) = 4 ∧ (∀ k, k < 4 → mo_AI (m_ty x μ nc par lv c f) (mo_X μ + 1) k = -1) ∧ mo_R (m_ty x μ nc par lv c f) 646 (mo_X μ) = some (mo_X μ + 2) ∧ mo_R (m_ty x μ nc par lv c f) 647 (mo_X μ) = some (mo_X μ + 4) ∧ mo_C (m_ty x μ nc par lv c f) (mo_X μ + 4) = 31 ∧ mo_N (m_ty x μ nc par lv c f) (mo_X μ + 4) = 4 ∧ (∀ k, mo_AR (m_ty x μ nc par lv c f) (mo_X μ + 4) k = none) ∧ mo_I (m_ty x μ nc par lv c f) 648 (mo_X μ) = -1 ∧ mo_C (m_ty x μ nc par lv c f) (mo_X μ + 2) = 2 ∧ mo_I (m_ty x μ nc par lv c f) 64 (mo_X μ + 2) = 0 ∧ mo_R (m_ty x μ nc par lv c f) 66 (mo_X μ + 2) = some (mo_X μ + 2 + 1) ∧ mo_C (m_ty x μ nc par lv c f) (mo_X μ + 2 + 1) = 30 ∧ mo_N (m_ty x μ nc par lv c f) (mo_X μ + 2 + 1) = 8 ∧ mo_I (m_ty x μ nc par lv c f) 67 (mo_X μ + 2) = 0 ∧ mo_AR (m_ty x μ nc par lv c f) (x + 4) nc = some (mo_X μ) ∧ mo_I (m_ty x μ nc par lv c f) 451 (x + 2) = nI (nc + 1) ∧ (∀ i, i ≠ nc → mo_AR (m_ty x μ nc par lv c f) (x + 4) i = mo_AR μ (x + 4) i) := by
  have e1 : (x + 4 = mo_X μ) = False := eq_false (by omega)
  have e2 : (x + 2 = mo_X μ) = False := eq_false (by omega)
  have e3 : (mo_X μ = x + 2) = False := eq_false (by omega)
  have e4 : (mo_X μ + 2 = x + 2) = False := eq_false (by omega)
  have e5 : (mo_X μ + 4 = x + 4) = False := eq_false (by omega)
  have e6 : (mo_X μ = x) = False := eq_false (by omega)
  have e7 : (mo_X μ + 1 = x + 4) = False := eq_false (by omega)
  have e8 : ¬ mo_X μ = mo_X μ + 1 + 1 := by omega
  have e9 : ¬ mo_X μ = mo_X μ + 1 + 1 + 1 := by omega
  have e10 : ¬ mo_X μ = mo_X μ + 1 + 1 + 1 + 1 := by omega
  refine ⟨?_, ?_, ?_, ?_, ?_, ?_, ?_, ?_, ?_, fun k hk => ?_, ?_, ?_, ?_, ?_, fun k => ?_, ?_, ?_, ?_, ?_, ?_, ?_, ?_, ?_, ?_, fun i hi => ?_⟩
  · simp [m_ty, m_t1, mo_ME, mo_v, e8, e9, e10]
  · simp [m_ty, m_t1, mo_ME, mo_u_a]
  · simp [m_ty, m_t1, mo_ME, mo_u_a]
  · simp [m_ty, m_t1, mo_ME, mo_u_a]
  · simp [m_ty, m_t1, mo_ME, mo_u_a]
  · simp [m_ty, m_t1, mo_ME, mo_u_a]
  · simp [m_ty, m_t1, mo_ME, mo_u_a, mo_z_a, e8, e9, e10]
  · simp [m_ty, m_t1, mo_ME, mo_v, e8, e9, e10]
  · simp [m_ty, m_t1, mo_ME, mo_v, e8, e9, e10]
  · have : k = 0 ∨ k = 1 ∨ k = 2 ∨ k = 3 := by omega
    rcases this with rfl | rfl | rfl | rfl <;> simp [m_ty, m_t1, mo_ME, mo_u_a]
  · simp [m_ty, m_t1, mo_ME, mo_u_a, mo_z_a, e8, e9, e10]
  · simp [m_ty, m_t1, mo_ME, mo_u_a, mo_z_a, e8, e9, e10]
  · simp [m_ty, m_t1, mo_ME, mo_v, e8, e9, e10]
  · simp [m_ty, m_t1, mo_ME, mo_v, e8, e9, e10]
  · simp [m_ty, m_t1, mo_ME, mo_u_a, mo_y_a, e5, e6]
  · simp [m_ty, m_t1, mo_ME, mo_u_a]
  · simp [m_ty, m_t1, mo_ME, mo_v, e8, e9, e10]
  · simp [m_ty, m_t1, mo_ME, mo_u_a, mo_z_a, e8, e9, e10]
  · simp [m_ty, m_t1, mo_ME, mo_u_a, mo_z_a, e8, e9, e10]
  · simp [m_ty, m_t1, mo_ME, mo_v, e8, e9, e10]
  · simp [m_ty, m_t1, mo_ME, mo_v, e8, e9, e10]
  · simp [m_ty, m_t1, mo_ME, mo_u_a, mo_z_a, e8, e9, e10]
  · simp [m_ty, m_t1, mo_ME, mo_u_a]
  · simp [m_ty, m_t1, mo_ME, mo_u_a]
  · simp only [m_ty, m_t1, mo_ME, mo_u_a, mo_y_a]
    repeat rw [if_neg (by omega)]
theorem ty_st {x : Nat} {A : mo_A} {G : c_G} {μ : mo_Mem} (hs : c_st x A G μ) (h8 : gnc G < 8) {p : Int32} {par : Option Nat} {lv k m : Nat} (hp : (p = -1 ∧ par = none ∧ lv = 0) ∨ (∃ y, y < gnc G ∧ p = nI y ∧ par = some (gT G y) ∧ lv = gV G y + 1)) (hk : k < 4) (hm : m < 5) : c_st x (a_ty A (gnc G) p (nI k) (nI m)) (g_ty G (mo_X μ) lv) (m_ty x μ (gnc G) par (nI lv) (nI k) (nI m)) := by
  have hX := hs.2.1
  obtain ⟨e1, e2, e3, e4, e5, e6, e7, e8, e9⟩ := tyA A (gnc G) p (nI k) (nI m)
  obtain ⟨m1, m2, m3, m4, m5, m6, m7, m8⟩ := ty_old (x := x) (μ := μ) (gnc G) par (nI lv) (nI k) (nI m)
  obtain ⟨n1, n2, n3, n4, n5, n6, n7, n8, n9, n10, n11, n12, n13, n14, n15, n16, n17, n18, n19, n20, n21, n22, n23, n24, n25⟩ := ty_new hX (gnc G) par (nI lv) (nI k) (nI m)
  generalize m_ty x μ (gnc G) par (nI lv) (nI k) (nI m) = μ' at *
  have eb : ∀ j, j ≠ 5 → j ≠ 6 → j ≠ 7 → j ≠ 8 → j ≠ 9 → j ≠ 10 → (a_ty A (gnc G) p (nI k) (nI m)).1 j = A.1 j := e1
  generalize a_ty A (gnc G) p (nI k) (nI m) = A' at *
  obtain ⟨⟨h1a, h1b⟩, -, ⟨o1, o2, o3, o4, o5, o6, o7, o8, o9⟩, p1, p2, p3, p4, p5, p6, p7, p8⟩ := hs
  have f0 := e1 0 (by decide) (by decide) (by decide) (by decide) (by decide) (by decide)
  have f1 := e1 1 (by decide) (by decide) (by decide) (by decide) (by decide) (by decide)
  have f3 := e1 3 (by decide) (by decide) (by decide) (by decide) (by decide) (by decide)
  have f4 := e1 4 (by decide) (by decide) (by decide) (by decide) (by decide) (by decide)
  have f11 := e1 11 (by decide) (by decide) (by decide) (by decide) (by decide) (by decide)
  have f12 := e1 12 (by decide) (by decide) (by decide) (by decide) (by decide) (by decide)
  have f13 := e1 13 (by decide) (by decide) (by decide) (by decide) (by decide) (by decide)
  have f14 := e1 14 (by decide) (by decide) (by decide) (by decide) (by decide) (by decide)
  have f15 := e1 15 (by decide) (by decide) (by decide) (by decide) (by decide) (by decide)
  have f16 := e1 16 (by decide) (by decide) (by decide) (by decide) (by decide) (by decide)
  have hgT : ∀ i, gT (g_ty G (mo_X μ) lv) i = if i = gnc G then mo_X μ else gT G i := fun i => rfl
  have hgK : ∀ i, gK (g_ty G (mo_X μ) lv) i = if i = 5 * gnc G then mo_X μ + 2 else gK G i := fun i => rfl
  have hgV : ∀ i, gV (g_ty G (mo_X μ) lv) i = if i = gnc G then lv else gV G i := fun i => rfl
  have epar : ∀ c, c < gnc G → a_par A' c = a_par A c := fun c hc => by
    have h6 : A'.1 6 c = A.1 6 c := by rw [e4, if_neg (by omega)]
    unfold a_par; rw [h6]
  refine ⟨⟨?_, fun i hi => ?_⟩, by omega, ⟨o1, by show gnc G + 1 ≤ 8; omega, by rw [f0]; exact o3, e3, fun c hc => ?_, fun e he => ?_, fun c hc => ?_, fun m hm => ?_, fun m h1 h2 => ?_⟩, ?_, ?_, fun e he => ?_, fun c hc => ?_, fun m hm hpm => ?_, fun m m' h1 h2 h3 h4 h5 => ?_, fun c y hc hy => ?_, fun c hc => ?_⟩
  · unfold cl_sf at h1a ⊢
    obtain ⟨h0, h1, h2, h3, h4, h5, h6, h7, h8, h9, h10, h11, h12, h13, h14, h15, h16, h17, h18, h19, h20, h21, h22, h23, h24, h25, h26, h27, h28, h29, h30, h31, h32, h33, h34, h35, h36, h37, h38, h39, h40, h41⟩ := h1a
    exact ⟨(m4 _ (by omega)).1.trans h0, (m3 _ _ (by omega)).trans h1, (m3 _ _ (by omega)).trans h2, (m4 _ (by omega)).1.trans h3, (m3 _ _ (by omega)).trans h4, (m3 _ _ (by omega)).trans h5, (m3 _ _ (by omega)).trans h6, (m3 _ _ (by omega)).trans h7, (m3 _ _ (by omega)).trans h8, (m3 _ _ (by omega)).trans h9, (m4 _ (by omega)).1.trans h10, (m3 _ _ (by omega)).trans h11, (m3 _ _ (by omega)).trans h12, (m4 _ (by omega)).1.trans h13, (m4 _ (by omega)).2.trans h14, (m4 _ (by omega)).1.trans h15, (m4 _ (by omega)).2.trans h16, (m4 _ (by omega)).1.trans h17, (m3 _ _ (by omega)).trans h18, (m3 _ _ (by omega)).trans h19, (m3 _ _ (by omega)).trans h20, (m4 _ (by omega)).1.trans h21, (m4 _ (by omega)).2.trans h22, (m4 _ (by omega)).1.trans h23, (m4 _ (by omega)).2.trans h24, (m4 _ (by omega)).1.trans h25, (m4 _ (by omega)).2.trans h26, (m4 _ (by omega)).1.trans h27, (m4 _ (by omega)).1.trans h28, (m4 _ (by omega)).2.trans h29, (m4 _ (by omega)).1.trans h30, (m3 _ _ (by omega)).trans h31, (m3 _ _ (by omega)).trans h32, (m3 _ _ (by omega)).trans h33, (m4 _ (by omega)).1.trans h34, (m4 _ (by omega)).2.trans h35, (m4 _ (by omega)).1.trans h36, (m4 _ (by omega)).2.trans h37, (m4 _ (by omega)).1.trans h38, (m4 _ (by omega)).2.trans h39, (m4 _ (by omega)).1.trans h40, (m4 _ (by omega)).2.trans h41⟩
  · obtain ⟨q1, q2⟩ := h1b i hi
    exact ⟨by rw [m6 _ (by omega) (by omega)]; exact q1, (m4 _ (by omega)).1.trans q2⟩
  · rw [e4]
    by_cases hcc : c = gnc G
    · rw [if_pos hcc]
      rcases hp with ⟨z1, -, -⟩ | ⟨y, z1, z2, -⟩
      · exact Or.inl z1
      · exact Or.inr ⟨y, by omega, z2⟩
    · rw [if_neg hcc]
      have : c < gnc G + 1 := hc
      exact o5 c (by omega)
  · obtain ⟨s', q1, q2, q3, q4, q5, q6, q7⟩ := o6 e he
    refine ⟨s', q1, by rw [f1]; exact q2, by rw [f3]; exact q3, by rw [f4]; exact q4, by rw [e2]; exact q5, by rw [e2]; exact q6, fun h9 => ?_⟩
    obtain ⟨c', z1, z2⟩ := q7 h9
    exact ⟨c', by show c' < gnc G + 1; omega, by rw [e2]; exact z2⟩
  · by_cases hcc : c = gnc G
    · subst hcc
      refine ⟨⟨k, by omega, by rw [e5, if_pos rfl]⟩, ⟨m, by omega, by rw [e6, if_pos rfl]⟩, Or.inl (by rw [e7, if_pos rfl]), fun j hj => Or.inl (e9 j hj)⟩
    · have hc2 : c < gnc G := by have : c < gnc G + 1 := hc; omega
      obtain ⟨q1, q2, q3, q4⟩ := o7 c hc2
      unfold a_cp
      rw [e5, e6, e7, if_neg hcc, if_neg hcc, if_neg hcc]
      exact ⟨q1, q2, q3, fun j hj => by rw [e8 c hc2 j hj]; exact q4 j hj⟩
  · by_cases hmm : m < 5 * gnc G
    · unfold a_mp
      rw [f11, f12, f13, f14, f15, f16]
      exact o8 m hmm
    · have hm5 : m < 5 * (gnc G + 1) := hm
      obtain ⟨z1, z2⟩ := o9 m (by omega) (by omega)
      refine ⟨Or.inl (by rw [f11]; exact z1), fun h => absurd (by rw [f11]; exact z1) h, 0, by decide, by rw [f13]; exact z2, fun i hi => absurd hi (by omega)⟩
  · rw [f11, f13]
    have : 5 * (gnc G + 1) ≤ m := h1
    exact o9 m (by omega) h2
  · exact (m1 _ _ (by omega) (by omega)).trans p1
  · exact n24
  · obtain ⟨q1, q2, q3, q4⟩ := p3 e he
    exact ⟨by rw [m6 _ (by omega) (by omega)]; exact q1, q2, by show gE G e < _; omega, ex_sm q4 (m4 _ q3).1 (fun k => ⟨m1 k (gE G e) q3 (fun z => Nat.ne_of_gt (by omega : x + 2 < gE G e) z.2), m2 k _ q3⟩) (by rw [f1]) (by rw [e2]) (by rw [f3]) (by rw [f4])⟩
  · by_cases hcc : c = gnc G
    · subst hcc
      have hT : gT (g_ty G (mo_X μ) lv) (gnc G) = mo_X μ := by rw [hgT, if_pos rfl]
      unfold cl_ty
      rw [hT]
      refine ⟨n23, n1, n2, ?_, by rw [n4, hgV, if_pos rfl], by rw [n5, e5, if_pos rfl], by rw [n6, e6, if_pos rfl], n7, n8, n9, fun j hj => by rw [n10 j hj, e9 j hj], n11, by rw [hgK, if_pos rfl], n12, n13, n14, fun j hj => ?_, by rw [n16, e7, if_pos rfl], by omega, hX⟩
      · rw [n3]
        rcases hp with ⟨z1, z2, -⟩ | ⟨y, z1, z2, z3, -⟩
        · rw [z2]
          have : a_par A' (gnc G) = none := by unfold a_par; rw [e4, if_pos rfl, if_pos z1]
          rw [this]; rfl
        · rw [z3]
          have : a_par A' (gnc G) = some y := by unfold a_par; rw [e4, if_pos rfl, z2, if_neg (by rw [nI_nm1 (by omega)]; exact id), nI_clamp (by omega)]
          rw [this, Option.map_some, hgT, if_neg (by omega)]
      · rw [n15 j, f11, (o9 (5 * gnc G + 1 + j) (by omega) (by omega)).1, if_pos rfl]
    · have hc2 : c < gnc G := by have : c < gnc G + 1 := hc; omega
      obtain ⟨q1, q2⟩ := p4 c hc2
      have q18 := q2.2.2.2.2.2.2.2.2.2.2.2.2.2.2.2.2.2.1
      have q19 := q2.2.2.2.2.2.2.2.2.2.2.2.2.2.2.2.2.2.2
      refine ⟨by rw [n25 c hcc, hgT, if_neg hcc]; exact q1, ty_sm q2 (by rw [hgT, if_neg hcc]) (fun y hy => ?_) (by rw [hgV, if_neg hcc]) (by rw [hgK, if_neg (by omega)]) (fun j hj _ => by rw [hgK, if_neg (by omega)]) (by omega) (fun j hj => m4 _ (by omega)) (fun k => ⟨m1 k _ (by omega) (fun z => by have := z.2; omega), m3 k _ (by omega)⟩) (m5 _ (by omega)).1 (m6 _ (by omega) (by omega)) (by rw [e4, if_neg hcc]) (by rw [e5, if_neg hcc]) (by rw [e6, if_neg hcc]) (by rw [e7, if_neg hcc]) (fun j hj => e8 c hc2 j hj) (fun j hj => by rw [f11])⟩
      rcases a_par_c (by omega) o5 hc2 with ⟨z1, z2⟩ | ⟨y', z1, z2, z3⟩
      · rw [z2] at hy; cases hy
      · rw [z3] at hy
        have : y = y' := (Option.some.inj hy).symm
        rw [hgT, if_neg (by omega)]
  · by_cases hmm : m < 5 * gnc G
    · have hp' : a_pm A m := by
        unfold a_pm at hpm ⊢
        rw [f11] at hpm
        exact hpm
      have q := p5 m hmm hp'
      have q8 := q.2.2.2.2.2.2.2.1
      have q9 := q.2.2.2.2.2.2.2.2.1
      exact cd_sm q (by rw [hgK, if_neg (by omega)]) (by omega) m4 (fun k _ a' h1 h2 => m1 k a' h2 (fun z => by have := z.2; omega)) (fun k => m3 k _ (by omega)) (m6 _ (by omega) (by omega)) (by rw [f11]) (by rw [f12]) (by rw [f13]) (fun i _ => ⟨by rw [f14], by rw [f15], by rw [f16]⟩)
    · have hm5 : m < 5 * (gnc G + 1) := hm
      obtain ⟨z1, z2⟩ := o9 m (by omega) (by omega)
      have hme : m = 5 * gnc G := by
        rcases hpm with w | w
        · omega
        · rw [f11] at w; exact absurd z1 w
      subst hme
      have hK : gK (g_ty G (mo_X μ) lv) (5 * gnc G) = mo_X μ + 2 := by rw [hgK, if_pos rfl]
      unfold cl_cd
      rw [hK, f11, f12, f13]
      refine ⟨n17, ?_, fun w => absurd z1 w, n19, n20, n21, n22.trans z2.symm, by omega, by omega, fun na i w1 w2 w3 => ?_⟩
      · rw [n18, z1, if_neg (by decide)]
      · rw [z2, show (0 : Int32) = nI 0 from rfl, nI_inj (by decide) (by omega)] at w1
        omega
  · have hK' : ∀ m, m < 5 * gnc G → a_pm A m → gK G m < mo_X μ := fun m hm hp => by have := (p5 m hm hp).2.2.2.2.2.2.2.2.1; omega
    have hcase : ∀ m, m < 5 * (gnc G + 1) → a_pm A' m → m = 5 * gnc G ∨ (m < 5 * gnc G ∧ a_pm A m) := by
      intro m hm hpm
      by_cases hmm : m < 5 * gnc G
      · refine Or.inr ⟨hmm, ?_⟩
        unfold a_pm at hpm ⊢
        rw [f11] at hpm
        exact hpm
      · obtain ⟨z1, z2⟩ := o9 m (by omega) (by omega)
        rcases hpm with w | w
        · exact Or.inl (by omega)
        · rw [f11] at w; exact absurd z1 w
    rw [hgK, hgK] at h5
    rcases hcase m h1 h3 with w | ⟨w1, w2⟩
    · rcases hcase m' h2 h4 with w' | ⟨w1', w2'⟩
      · omega
      · rw [if_pos w, if_neg (by omega)] at h5
        have := hK' m' w1' w2'
        omega
    · rcases hcase m' h2 h4 with w' | ⟨w1', w2'⟩
      · rw [if_neg (by omega), if_pos w'] at h5
        have := hK' m w1 w2
        omega
      · rw [if_neg (by omega), if_neg (by omega)] at h5
        exact p6 m m' w1 w1' w2 w2' h5
  · rw [hgV, hgV]
    by_cases hcc : c = gnc G
    · subst hcc
      rcases hp with ⟨z1, z2, z4⟩ | ⟨y', z1, z2, z3, z4⟩
      · have : a_par A' (gnc G) = none := by unfold a_par; rw [e4, if_pos rfl, if_pos z1]
        rw [this] at hy; cases hy
      · have : a_par A' (gnc G) = some y' := by unfold a_par; rw [e4, if_pos rfl, z2, if_neg (by rw [nI_nm1 (by omega)]; exact id), nI_clamp (by omega)]
        rw [this] at hy
        have hyy : y = y' := (Option.some.inj hy).symm
        rw [if_pos rfl, if_neg (by omega), hyy]; exact z4
    · have hc2 : c < gnc G := by have : c < gnc G + 1 := hc; omega
      rw [epar c hc2] at hy
      have hyc : y < c := by
        rcases a_par_c (by omega) o5 hc2 with ⟨z1, z2⟩ | ⟨y', z1, z2, z3⟩
        · rw [z2] at hy; cases hy
        · rw [z3] at hy; have := Option.some.inj hy; omega
      rw [if_neg hcc, if_neg (by omega)]
      exact p7 c y hc2 hy
  · rw [hgV]
    by_cases hcc : c = gnc G
    · rw [if_pos hcc]
      rcases hp with ⟨z1, z2, z4⟩ | ⟨y', z1, z2, z3, z4⟩
      · omega
      · have := p8 y' z1
        omega
    · have hc2 : c < gnc G := by have : c < gnc G + 1 := hc; omega
      rw [if_neg hcc]
      exact p8 c hc2
