def m_a0 (μ : mo_Mem) (s n e : Int32) : mo_Mem := mo_wI (mo_wI (mo_wI (mo_new μ 1 0 3) 0 (mo_X μ) s) 1 (mo_X μ) n) 2 (mo_X μ) e
def m_ac (μ : mo_Mem) (kc na : Nat) (s n e : Int32) : mo_Mem := mo_wI (mo_wAR (m_a0 μ s n e) (kc + 1) na (some (mo_X μ))) 67 kc (nI (na + 1))
def a_ac (A : mo_A) (m na : Nat) (s n e : Int32) : mo_A := a_I (a_I (a_I (a_I A 14 (8 * m + na) s) 15 (8 * m + na) n) 16 (8 * m + na) e) 13 m (nI (na + 1))
theorem ac_k {x : Nat} {μ : mo_Mem} (hx : x + 60 ≤ mo_X μ) (s n e : Int32) : cl_k x μ (m_a0 μ s n e) := by
  unfold m_a0
  exact cl_k_I (cl_k_I (cl_k_I (cl_k_new (cl_k_rf x μ) hx) (fun h => absurd h (Nat.lt_irrefl _)) (by omega)) (fun h => absurd h (Nat.lt_irrefl _)) (by omega)) (fun h => absurd h (Nat.lt_irrefl _)) (by omega)
theorem acA (A : mo_A) (m na : Nat) (s n e : Int32) : (∀ j, j ≠ 13 → j ≠ 14 → j ≠ 15 → j ≠ 16 → (a_ac A m na s n e).1 j = A.1 j) ∧ (a_ac A m na s n e).2 = A.2 ∧ (∀ i, (a_ac A m na s n e).1 13 i = if i = m then nI (na + 1) else A.1 13 i) ∧ (∀ i, (a_ac A m na s n e).1 14 i = if i = 8 * m + na then s else A.1 14 i) ∧ (∀ i, (a_ac A m na s n e).1 15 i = if i = 8 * m + na then n else A.1 15 i) ∧ (∀ i, (a_ac A m na s n e).1 16 i = if i = 8 * m + na then e else A.1 16 i) := by
  unfold a_ac
  refine ⟨fun j h1 h2 h3 h4 => funext fun i => ?_, rfl, fun i => ?_, fun i => ?_, fun i => ?_, fun i => ?_⟩
  · simp only [a_I_1, h1, h2, h3, h4, false_and, if_false]
  · simp only [a_I_1, true_and]; split <;> simp only [Nat.reduceEqDiff, false_and, if_false]
  · simp only [a_I_1, Nat.reduceEqDiff, false_and, true_and, if_false]
  · simp only [a_I_1, Nat.reduceEqDiff, false_and, true_and, if_false]
  · simp only [a_I_1, Nat.reduceEqDiff, false_and, true_and, if_false]
theorem ac_old {x : Nat} {μ : mo_Mem} {kc na : Nat} (hx : x + 60 ≤ mo_X μ) (ha : x + 60 ≤ kc) (ha2 : kc + 1 < mo_X μ) (s n e : Int32) : c_dm x μ (m_ac μ kc na s n e) ∧ c_ot x μ (m_ac μ kc na s n e) ∧ mo_X (m_ac μ kc na s n e) = mo_X μ + 1 ∧ mo_S (m_ac μ kc na s n e) = mo_S μ + 3 ∧ (∀ a', a' < mo_X μ → mo_AI (m_ac μ kc na s n e) a' = mo_AI μ a') := by
  have mi : ∀ k a', a' < mo_X μ → k ≠ 67 ∨ a' ≠ kc → mo_I (m_ac μ kc na s n e) k a' = mo_I μ k a' := fun k a' h h2 => by
    simp only [m_ac, m_a0, mo_ME, mo_u_a, mo_z_a]
    repeat rw [if_neg (by omega)]
  have ml : ∀ k a', a' < mo_X μ → mo_L (m_ac μ kc na s n e) k a' = mo_L μ k a' := fun k a' h => by
    simp only [m_ac, m_a0, mo_ME, mo_u_a, mo_z_a]
    repeat rw [if_neg (by omega)]
  have mr : ∀ k a', a' < mo_X μ → mo_R (m_ac μ kc na s n e) k a' = mo_R μ k a' := fun k a' h => by
    simp only [m_ac, m_a0, mo_ME, mo_u_a, mo_z_a]
    repeat rw [if_neg (by omega)]
  have mc : ∀ a', a' < mo_X μ → mo_C (m_ac μ kc na s n e) a' = mo_C μ a' ∧ mo_N (m_ac μ kc na s n e) a' = mo_N μ a' := fun a' h => by
    simp only [m_ac, m_a0, mo_ME, mo_v]
    constructor
    · repeat rw [if_neg (by omega)]
    · repeat rw [if_neg (by omega)]
  have ma : ∀ a', a' < mo_X μ → mo_AI (m_ac μ kc na s n e) a' = mo_AI μ a' ∧ mo_AL (m_ac μ kc na s n e) a' = mo_AL μ a' := fun a' h => by
    simp only [m_ac, m_a0, mo_ME]
    refine ⟨funext fun i => ?_, funext fun i => ?_⟩
    · simp only [mo_y_a]
      repeat rw [if_neg (by omega)]
    · simp only [mo_y_a]
      repeat rw [if_neg (by omega)]
  have mar : mo_AR (m_ac μ kc na s n e) (x + 10) = mo_AR μ (x + 10) := by
    funext i
    simp only [m_ac, m_a0, mo_ME, mo_u_a, mo_y_a]
    repeat rw [if_neg (by omega)]
  have mX : mo_X (m_ac μ kc na s n e) = mo_X μ + 1 := by simp only [m_ac, m_a0, mo_ME]
  have mS : mo_S (m_ac μ kc na s n e) = mo_S μ + 3 := by simp only [m_ac, m_a0, mo_ME]
  exact ⟨⟨by omega, fun k a' h1 _ _ => ⟨mi k a' (by omega) (by omega), ml k a' (by omega)⟩, fun a' h1 => ⟨(ma a' (by omega)).2, (ma a' (by omega)).1⟩, mar, mc, fun a' h1 h2 => ⟨mi _ a' h2 (Or.inl (by decide)), mi _ a' h2 (Or.inl (by decide)), mr _ a' h2, mr _ a' h2, mr _ a' h2, (ma a' h2).2⟩⟩, fun a' h1 h2 => ⟨(mc a' (by omega)).1, (mc a' (by omega)).2, fun k => ⟨mr k a' (by omega), mi k a' (by omega) (by omega), ml k a' (by omega)⟩, (ma a' (by omega)).1, (ma a' (by omega)).2⟩, mX, mS, fun a' h => (ma a' h).1⟩
theorem st_ac {x m na : Nat} {A : mo_A} {G : c_G} {μ : mo_Mem} (hs : c_st x A G μ) (hm0 : m < 5 * gnc G) (hpm0 : a_pm A m) (hna : A.1 13 m = nI na) (hna8 : na < 8) {s n : Int32} (hsn : (s = 0 ∧ ∃ k, k < 4 ∧ n = nI k) ∨ s = 1 ∨ s = 2) {e : Nat} (he : e < gne G) : c_st x (a_ac A m na s n (nI e)) G (m_ac μ (gK G m) na s n (nI e)) := by
  have hX := hs.2.1
  have hs1 := c_st_k hs (ac_k (μ := μ) hX s n (nI e))
  have hKm := hs.2.2.2.2.2.2.2.1 m hm0 hpm0
  have hK60 := hKm.2.2.2.2.2.2.2.1
  have hKX := hKm.2.2.2.2.2.2.2.2.1
  obtain ⟨e1, e2, e3, e4, e5, e6⟩ := acA A m na s n (nI e)
  have hX1 : mo_X (m_a0 μ s n (nI e)) = mo_X μ + 1 := by simp only [m_a0, mo_ME]
  have n1 : mo_C (m_a0 μ s n (nI e)) (mo_X μ) = 1 := by simp [m_a0, mo_ME, mo_v]
  have n2 : mo_I (m_a0 μ s n (nI e)) 0 (mo_X μ) = s := by simp [m_a0, mo_ME, mo_u_a]
  have n3 : mo_I (m_a0 μ s n (nI e)) 1 (mo_X μ) = n := by simp [m_a0, mo_ME, mo_u_a]
  have n4 : mo_I (m_a0 μ s n (nI e)) 2 (mo_X μ) = nI e := by simp [m_a0, mo_ME, mo_u_a]
  unfold m_ac
  generalize m_a0 μ s n (nI e) = μ1 at *
  obtain ⟨μ2, hμ2⟩ : ∃ μ2, μ2 = mo_wI (mo_wAR μ1 (gK G m + 1) na (some (mo_X μ))) 67 (gK G m) (nI (na + 1)) := ⟨_, rfl⟩
  rw [← hμ2]
  have qC : mo_C μ2 = mo_C μ1 := by rw [hμ2]; simp only [mo_ME]
  have qN : mo_N μ2 = mo_N μ1 := by rw [hμ2]; simp only [mo_ME]
  have qL : mo_L μ2 = mo_L μ1 := by rw [hμ2]; simp only [mo_ME]
  have qR : mo_R μ2 = mo_R μ1 := by rw [hμ2]; simp only [mo_ME]
  have qAI : mo_AI μ2 = mo_AI μ1 := by rw [hμ2]; simp only [mo_ME]
  have qX : mo_X μ2 = mo_X μ1 := by rw [hμ2]; simp only [mo_ME]
  have qI : ∀ k a, k ≠ 67 ∨ a ≠ gK G m → mo_I μ2 k a = mo_I μ1 k a := fun k a h => by
    rw [hμ2]; simp only [mo_ME, mo_u_a]
    rw [if_neg (by omega)]
  have qI2 : mo_I μ2 67 (gK G m) = nI (na + 1) := by rw [hμ2]; simp only [mo_ME, mo_u_a, and_self, if_true]
  have mar : ∀ a, a ≠ gK G m + 1 → mo_AR μ2 a = mo_AR μ1 a := fun a h => by
    rw [hμ2]; simp only [mo_ME]; rw [u_ne h]
  have mar2 : ∀ i, mo_AR μ2 (gK G m + 1) i = if i = na then some (mo_X μ) else mo_AR μ1 (gK G m + 1) i := fun i => by
    rw [hμ2]; simp only [mo_ME, mo_u_a, true_and]
  clear hμ2
  obtain ⟨⟨h1a, h1b⟩, -, ⟨o1, o2, o3, o4, o5, o6, o7, o8, o9⟩, p1, p2, p3, p4, p5, p6, p7, p8⟩ := hs1
  have hCm := (p5 m hm0 hpm0).1
  have hCm1 := (p5 m hm0 hpm0).2.2.2.2.1
  have f6 := e1 6 (by decide) (by decide) (by decide) (by decide)
  have f11 := e1 11 (by decide) (by decide) (by decide) (by decide)
  have ep : ∀ c', a_par (a_ac A m na s n (nI e)) c' = a_par A c' := fun c' => by unfold a_par; rw [f6]
  refine ⟨⟨by unfold cl_sf at h1a ⊢; rw [qC, qN, qR]; exact h1a, fun i hi => ⟨by rw [mar _ (by omega)]; exact (h1b i hi).1, by rw [qC]; exact (h1b i hi).2⟩⟩, by rw [qX]; omega, ⟨o1, o2, by rw [e1 0 (by decide) (by decide) (by decide) (by decide)]; exact o3, by rw [e1 5 (by decide) (by decide) (by decide) (by decide)]; exact o4, fun c' hc' => by rw [f6]; exact o5 c' hc', fun e' he' => ?_, fun c' hc' => ?_, fun m' hm' => ?_, fun m' z1 z2 => ?_⟩, by rw [qI _ _ (Or.inl (by decide))]; exact p1, by rw [qI _ _ (Or.inl (by decide))]; exact p2, fun e' he' => ?_, fun c' hc' => ?_, fun m' hm' hp => ?_, fun m' m'' z1 z2 z3 z4 z5 => ?_, fun c' y hc' hy => p7 c' y hc' (by rw [← ep]; exact hy), p8⟩
  · have := o6 e' he'
    unfold a_xp at this ⊢
    rw [e1 1 (by decide) (by decide) (by decide) (by decide), e1 3 (by decide) (by decide) (by decide) (by decide), e1 4 (by decide) (by decide) (by decide) (by decide), e2]
    exact this
  · have := o7 c' hc'
    unfold a_cp at this ⊢
    rw [e1 7 (by decide) (by decide) (by decide) (by decide), e1 8 (by decide) (by decide) (by decide) (by decide), e1 9 (by decide) (by decide) (by decide) (by decide), e1 10 (by decide) (by decide) (by decide) (by decide)]
    exact this
  · have := o8 m' hm'
    by_cases hmm : m' = m
    · subst hmm
      obtain ⟨z1, z2, na', z3, z4, z5⟩ := this
      have hnn : na' = na := by rw [hna, nI_inj (by omega) (by omega)] at z4; exact z4.symm
      subst hnn
      refine ⟨by rw [f11]; exact z1, by rw [f11, e1 12 (by decide) (by decide) (by decide) (by decide)]; exact z2, na' + 1, by omega, by rw [e3, if_pos rfl], fun i hi => ?_⟩
      rw [e4, e5, e6]
      by_cases hin : i = na'
      · subst hin
        rw [if_pos rfl, if_pos rfl, if_pos rfl]
        exact ⟨hsn, e, he, rfl⟩
      · rw [if_neg (by omega), if_neg (by omega), if_neg (by omega)]
        exact z5 i (by omega)
    · obtain ⟨z1, z2, na', z3, z4, z5⟩ := this
      refine ⟨by rw [f11]; exact z1, by rw [f11, e1 12 (by decide) (by decide) (by decide) (by decide)]; exact z2, na', z3, by rw [e3, if_neg hmm]; exact z4, fun i hi => ?_⟩
      rw [e4, e5, e6, if_neg (by omega), if_neg (by omega), if_neg (by omega)]
      exact z5 i hi
  · rw [f11, e3, if_neg (by omega)]
    exact o9 m' z1 z2
  · obtain ⟨z1, z2, z3, z4⟩ := p3 e' he'
    have hne : gE G e' ≠ gK G m := fun z => by have h1 := z4.1; rw [z, hCm] at h1; exact absurd h1 (by decide)
    exact ⟨by rw [mar _ (by omega)]; exact z1, z2, by rw [qX]; exact z3, ex_sm z4 (by rw [qC]) (fun k => ⟨qI _ _ (Or.inr hne), by rw [qL]⟩) (by rw [e1 1 (by decide) (by decide) (by decide) (by decide)]) (by rw [e2]) (by rw [e1 3 (by decide) (by decide) (by decide) (by decide)]) (by rw [e1 4 (by decide) (by decide) (by decide) (by decide)])⟩
  · obtain ⟨z1, z2⟩ := p4 c' hc'
    have hne : gT G c' ≠ gK G m := fun z => by have h1 := z2.1; rw [z, hCm] at h1; exact absurd h1 (by decide)
    have hne4 : gT G c' + 4 ≠ gK G m + 1 := fun z => by have h1 := z2.2.2.2.2.2.2.2.2.2.2.2.2.2.1; rw [z, hCm1] at h1; exact absurd h1 (by decide)
    exact ⟨by rw [mar _ (by omega)]; exact z1, ty_sm z2 rfl (fun _ _ => rfl) rfl rfl (fun _ _ _ => rfl) (by rw [qX]; exact Nat.le_refl _) (fun j hj => ⟨by rw [qC], by rw [qN]⟩) (fun k => ⟨qI _ _ (Or.inr hne), by rw [qR]⟩) (by rw [qAI]) (mar _ hne4) (by rw [f6]) (by rw [e1 7 (by decide) (by decide) (by decide) (by decide)]) (by rw [e1 8 (by decide) (by decide) (by decide) (by decide)]) (by rw [e1 9 (by decide) (by decide) (by decide) (by decide)]) (fun k hk => by rw [e1 10 (by decide) (by decide) (by decide) (by decide)]) (fun k hk => by rw [f11])⟩
  · have hp' : a_pm A m' := by unfold a_pm at hp ⊢; rw [f11] at hp; exact hp
    obtain ⟨b1, b2, b3, b4, b5, b6, b7, b8, b9, b10⟩ := p5 m' hm' hp'
    unfold cl_cd
    rw [qC, qN, qR, qX, f11, e1 12 (by decide) (by decide) (by decide) (by decide)]
    refine ⟨b1, by rw [qI _ _ (Or.inl (by decide))]; exact b2, fun w => by rw [qI _ _ (Or.inl (by decide))]; exact b3 w, b4, b5, b6, ?_, b8, b9, fun na' i w1 w2 w3 => ?_⟩
    · by_cases hmm : m' = m
      · subst hmm
        rw [qI2, e3, if_pos rfl]
      · rw [e3, if_neg hmm, qI _ _ (Or.inr (fun z => hmm (p6 m' m hm' hm0 hp' hpm0 z)))]
        exact b7
    · by_cases hmm : m' = m
      · subst hmm
        rw [e3, if_pos rfl, nI_inj (by omega) (by omega)] at w1
        rw [mar2, e4, e5, e6]
        by_cases hin : i = na
        · subst hin
          refine ⟨mo_X μ, by rw [if_pos rfl], hX, by omega, n1, ?_, ?_, ?_⟩
          · rw [qI _ _ (Or.inl (by decide)), n2, if_pos rfl]
          · rw [qI _ _ (Or.inl (by decide)), n3, if_pos rfl]
          · rw [qI _ _ (Or.inl (by decide)), n4, if_pos rfl]
        · obtain ⟨y, y1, y2, y3, y4, y5, y6, y7⟩ := b10 na i hna (by omega) (by omega)
          refine ⟨y, by rw [if_neg hin]; exact y1, y2, y3, y4, ?_, ?_, ?_⟩
          · rw [qI _ _ (Or.inl (by decide)), if_neg (by omega)]; exact y5
          · rw [qI _ _ (Or.inl (by decide)), if_neg (by omega)]; exact y6
          · rw [qI _ _ (Or.inl (by decide)), if_neg (by omega)]; exact y7
      · rw [e3, if_neg hmm] at w1
        obtain ⟨y, y1, y2, y3, y4, y5, y6, y7⟩ := b10 na' i w1 w2 w3
        have hne : gK G m' + 1 ≠ gK G m + 1 := fun z => hmm (p6 m' m hm' hm0 hp' hpm0 (by omega))
        rw [mar _ hne, e4, e5, e6]
        refine ⟨y, y1, y2, y3, y4, ?_, ?_, ?_⟩
        · rw [qI _ _ (Or.inl (by decide)), if_neg (by omega)]; exact y5
        · rw [qI _ _ (Or.inl (by decide)), if_neg (by omega)]; exact y6
        · rw [qI _ _ (Or.inl (by decide)), if_neg (by omega)]; exact y7
  · unfold a_pm at z3 z4
    rw [f11] at z3 z4
    exact p6 m' m'' z1 z2 z3 z4 z5
def m_ra (r : Nat) (μ : mo_Mem) (m na : Nat) (s n e : Int32) : mo_Mem := mo_wAI (mo_wAI (mo_wAI (mo_wAI μ (r + 13) (8 * m + na) s) (r + 14) (8 * m + na) n) (r + 15) (8 * m + na) e) (r + 12) m (nI (na + 1))
theorem r_ra {r : Nat} {μ : mo_Mem} {A : mo_A} (h : r_at r μ A) (m na : Nat) (s n e : Int32) : r_at r (m_ra r μ m na s n e) (a_ac A m na s n e) ∧ r_fc r μ (m_ra r μ m na s n e) := by
  unfold m_ra a_ac
  refine ⟨⟨r_sh_c h.1 (by simp only [mo_ME]) (by simp only [mo_ME]) (by simp only [mo_ME]), ?_⟩, ?_⟩
  · simp only [r_VW, h.2]
  · exact r_fc_AI (by decide) (r_fc_AI (by decide) (r_fc_AI (by decide) (r_fc_AI (by decide) (r_fc_rf _ _))))
theorem L_addAct {d kc na : Nat} {μ : mo_Mem} (hC : mo_C μ kc = 2) (hR : mo_R μ 66 kc = some (kc + 1)) (hC1 : mo_C μ (kc + 1) = 30) (hN : mo_N μ (kc + 1) = 8) (hI : mo_I μ 67 kc = nI na) (hK : kc + 1 < mo_X μ) (s n e : Int32) (Q : mo_P) : (na < 8 → mo_M (d + 2) 4 [.ref kc, .int s, .int n, .int e] μ Q = Q (some (.int (nI (na + 1)))) (m_ac μ kc na s n e)) ∧ (na = 8 → mo_M (d + 2) 4 [.ref kc, .int s, .int n, .int e] μ Q = Q (some (.int (-5))) μ) := by
  refine ⟨fun h8 => ?_, fun h8 => ?_⟩
  · have g1 : (nI na < Int32.ofNat 8) = True := i_lt (b := 8) h8 (by decide)
    have g3 : vp_in (nI na) 8 := vp_in_nI (by omega) (by decide)
    have g4 : (nI na).toNatClampNeg = na := nI_clamp (by omega)
    have a1 : (kc = mo_X μ) = False := eq_false (by omega)
    have a2 : (kc + 1 = mo_X μ) = False := eq_false (by omega)
    simp only [we4, we0, en4, en0, true_and, and_true, if_false, if_true, not_true_eq_false, not_false_eq_true, false_implies, true_implies, implies_true, forall_const, true_or, or_true, false_or, or_false, false_and, and_false, eq_self_iff_true, Option.toList_some, Option.toList_none, List.cons_append, List.nil_append, mo_cat_0, mo_cat_c, mo_ct_i, mo_ct_l, mo_ct_r, mo_ct_n, mo_ct_f, Nat.zero_le, Nat.reduceAdd, Nat.reduceLeDiff, Nat.reduceLT, Nat.reduceEqDiff, Nat.reduceSub, mo_rf_s, mo_rf_n, reduceCtorEq, mo_st, mo_st2, mo_lg_0, mo_lg_s, List.set_cons_zero, List.set_cons_succ, List.length_cons, List.length_nil, List.getElem?_cons_zero, List.getElem?_cons_succ, Nat.reduceBEq, Bool.false_eq_true, beq_self_eq_true, hC, hR, hC1, hN, hI, g1, g3, g4, a1, a2, nI_1, mo_v, mo_LC, mo_ME, mo_u_a, mo_z_a, mo_y_a, Nat.add_left_cancel_iff]
    rfl
  · subst h8
    have g1 : (nI 8 < Int32.ofNat 8) = False := i_nl (a := 8) (b := 8) (Nat.le_refl _) (by decide)
    simp only [we4, en4, true_and, and_true, if_false, if_true, not_true_eq_false, not_false_eq_true, false_implies, true_implies, implies_true, forall_const, true_or, or_true, false_or, or_false, false_and, and_false, eq_self_iff_true, Option.toList_some, Option.toList_none, List.cons_append, List.nil_append, mo_cat_0, mo_cat_c, mo_ct_i, mo_ct_l, mo_ct_r, mo_ct_n, mo_ct_f, Nat.zero_le, Nat.reduceAdd, Nat.reduceLeDiff, Nat.reduceLT, Nat.reduceEqDiff, Nat.reduceSub, mo_rf_s, mo_rf_n, reduceCtorEq, mo_st, mo_st2, mo_lg_0, mo_lg_s, List.set_cons_zero, List.set_cons_succ, List.length_cons, List.length_nil, List.getElem?_cons_zero, List.getElem?_cons_succ, Nat.reduceBEq, Bool.false_eq_true, beq_self_eq_true, hC, hR, hC1, hN, hI, g1, mo_ME, mo_u_a, mo_z_a, mo_y_a, Nat.add_left_cancel_iff]
