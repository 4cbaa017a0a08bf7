def m_m0 (μ : mo_Mem) (pv e : Int32) : mo_Mem := mo_wI (mo_wI (mo_wR (mo_new (mo_new μ 2 0 4) 30 8 8) 66 (mo_X μ) (some (mo_X μ + 1))) 64 (mo_X μ) pv) 65 (mo_X μ) e
def m_me (μ : mo_Mem) (a nm : Nat) (pv e : Int32) : mo_Mem := mo_wAR (m_m0 μ pv e) a nm (some (mo_X μ))
def g_me (G : c_G) (m a : Nat) : c_G := (gne G, gnc G, gE G, gT G, fun i => if i = m then a else gK G i, gV G)
def a_me (A : mo_A) (m : Nat) (o e : Int32) : mo_A := a_I (a_I (a_I A 11 m o) 12 m e) 13 m 0
theorem me_k {x : Nat} {μ : mo_Mem} (hx : x + 60 ≤ mo_X μ) (pv e : Int32) : cl_k x μ (m_m0 μ pv e) := by
  unfold m_m0
  exact cl_k_I (cl_k_I (cl_k_R (cl_k_new (cl_k_new (cl_k_rf x μ) hx) hx) (fun h => absurd h (Nat.lt_irrefl _))) (fun h => absurd h (Nat.lt_irrefl _)) (by omega)) (fun h => absurd h (Nat.lt_irrefl _)) (by omega)
theorem meA (A : mo_A) (m : Nat) (o e : Int32) : (∀ j, j ≠ 11 → j ≠ 12 → j ≠ 13 → (a_me A m o e).1 j = A.1 j) ∧ (a_me A m o e).2 = A.2 ∧ (∀ i, (a_me A m o e).1 11 i = if i = m then o else A.1 11 i) ∧ (∀ i, (a_me A m o e).1 12 i = if i = m then e else A.1 12 i) ∧ (∀ i, (a_me A m o e).1 13 i = if i = m then 0 else A.1 13 i) := by
  unfold a_me
  refine ⟨fun j h1 h2 h3 => funext fun i => ?_, rfl, fun i => ?_, fun i => ?_, fun i => ?_⟩
  · simp only [a_I_1, h1, h2, h3, false_and, if_false]
  · simp only [a_I_1, Nat.reduceEqDiff, false_and, true_and, if_false]
  · simp only [a_I_1, Nat.reduceEqDiff, false_and, true_and, if_false]
  · simp only [a_I_1, Nat.reduceEqDiff, false_and, true_and, if_false]
theorem me_old {x : Nat} {μ : mo_Mem} {a nm : Nat} (hx : x + 60 ≤ mo_X μ) (ha : x + 60 ≤ a) (ha2 : a < mo_X μ) (pv e : Int32) : c_dm x μ (m_me μ a nm pv e) ∧ c_ot x μ (m_me μ a nm pv e) ∧ mo_X (m_me μ a nm pv e) = mo_X μ + 2 ∧ mo_S (m_me μ a nm pv e) = mo_S μ + 12 ∧ (∀ k a', a' < mo_X μ → mo_I (m_me μ a nm pv e) k a' = mo_I μ k a') ∧ (∀ a', a' < mo_X μ → mo_AI (m_me μ a nm pv e) a' = mo_AI μ a') := by
  have mi : ∀ k a', a' < mo_X μ → mo_I (m_me μ a nm pv e) k a' = mo_I μ k a' := fun k a' h => by
    simp only [m_me, m_m0, mo_ME, mo_u_a, mo_z_a]
    repeat rw [if_neg (by omega)]
  have ml : ∀ k a', a' < mo_X μ → mo_L (m_me μ a nm pv e) k a' = mo_L μ k a' := fun k a' h => by
    simp only [m_me, m_m0, mo_ME, mo_u_a, mo_z_a]
    repeat rw [if_neg (by omega)]
  have mr : ∀ k a', a' < mo_X μ → mo_R (m_me μ a nm pv e) k a' = mo_R μ k a' := fun k a' h => by
    simp only [m_me, m_m0, mo_ME, mo_u_a, mo_z_a]
    repeat rw [if_neg (by omega)]
  have mc : ∀ a', a' < mo_X μ → mo_C (m_me μ a nm pv e) a' = mo_C μ a' ∧ mo_N (m_me μ a nm pv e) a' = mo_N μ a' := fun a' h => by
    simp only [m_me, m_m0, mo_ME, mo_v]
    constructor
    · repeat rw [if_neg (by omega)]
    · repeat rw [if_neg (by omega)]
  have ma : ∀ a', a' < mo_X μ → mo_AI (m_me μ a nm pv e) a' = mo_AI μ a' ∧ mo_AL (m_me μ a nm pv e) a' = mo_AL μ a' := fun a' h => by
    simp only [m_me, m_m0, mo_ME]
    refine ⟨funext fun i => ?_, funext fun i => ?_⟩
    · simp only [mo_y_a]
      repeat rw [if_neg (by omega)]
    · simp only [mo_y_a]
      repeat rw [if_neg (by omega)]
  have mar : mo_AR (m_me μ a nm pv e) (x + 10) = mo_AR μ (x + 10) := by
    funext i
    simp only [m_me, m_m0, mo_ME, mo_u_a, mo_y_a]
    repeat rw [if_neg (by omega)]
  have mX : mo_X (m_me μ a nm pv e) = mo_X μ + 2 := by simp only [m_me, m_m0, mo_ME]
  have mS : mo_S (m_me μ a nm pv e) = mo_S μ + 12 := by simp only [m_me, m_m0, mo_ME]
  exact ⟨⟨by omega, fun k a' h1 _ _ => ⟨mi k a' (by omega), ml k a' (by omega)⟩, fun a' h1 => ⟨(ma a' (by omega)).2, (ma a' (by omega)).1⟩, mar, mc, fun a' h1 h2 => ⟨mi _ a' h2, mi _ a' h2, mr _ a' h2, mr _ a' h2, mr _ a' h2, (ma a' h2).2⟩⟩, fun a' h1 h2 => ⟨(mc a' (by omega)).1, (mc a' (by omega)).2, fun k => ⟨mr k a' (by omega), mi k a' (by omega), ml k a' (by omega)⟩, (ma a' (by omega)).1, (ma a' (by omega)).2⟩, mX, mS, mi, fun a' h => (ma a' h).1⟩
theorem st_me {x c nm : Nat} {A : mo_A} {G : c_G} {μ : mo_Mem} (hs : c_st x A G μ) (hc : c < gnc G) (hnm : nm < 4) {pv o e : Int32} (hpo : (pv = 0 ∧ o = 1) ∨ (pv = 1 ∧ o = 2)) (he : a_en (gne G) e) : c_st x (a_me A (5 * c + 1 + nm) o e) (g_me G (5 * c + 1 + nm) (mo_X μ)) (m_me μ (gT G c + 4) nm pv e) := by
  have hX := hs.2.1
  have hin := @gT_inj x A G μ hs
  have hs1 := c_st_k hs (me_k (μ := μ) hX pv e)
  have hold : ∀ m, m < 5 * gnc G → a_pm A m → gK G m < mo_X μ := fun m hm hp => by have := (hs.2.2.2.2.2.2.2.1 m hm hp).2.2.2.2.2.2.2.2.1; omega
  have hC4 : ∀ c', c' < gnc G → mo_C (m_m0 μ pv e) (gT G c' + 4) = 31 := fun c' hc' => (hs1.2.2.2.2.2.2.1 c' hc').2.2.2.2.2.2.2.2.2.2.2.2.2.2.1
  have hTX := (hs.2.2.2.2.2.2.1 c hc).2.2.2.2.2.2.2.2.2.2.2.2.2.2.2.2.2.2.1
  have hT60 := (hs.2.2.2.2.2.2.1 c hc).2.2.2.2.2.2.2.2.2.2.2.2.2.2.2.2.2.2.2
  obtain ⟨e1, e2, e3, e4, e5⟩ := meA A (5 * c + 1 + nm) o e
  have hX1 : mo_X (m_m0 μ pv e) = mo_X μ + 2 := by simp only [m_m0, mo_ME]
  have n1 : mo_C (m_m0 μ pv e) (mo_X μ) = 2 := by simp [m_m0, mo_ME, mo_v]
  have n2 : mo_I (m_m0 μ pv e) 64 (mo_X μ) = pv := by simp [m_m0, mo_ME, mo_u_a]
  have n3 : mo_I (m_m0 μ pv e) 65 (mo_X μ) = e := by simp [m_m0, mo_ME, mo_u_a]
  have n4 : mo_R (m_m0 μ pv e) 66 (mo_X μ) = some (mo_X μ + 1) := by simp [m_m0, mo_ME, mo_u_a]
  have n5 : mo_C (m_m0 μ pv e) (mo_X μ + 1) = 30 := by simp [m_m0, mo_ME, mo_v]
  have n6 : mo_N (m_m0 μ pv e) (mo_X μ + 1) = 8 := by simp [m_m0, mo_ME, mo_v]
  have n7 : mo_I (m_m0 μ pv e) 67 (mo_X μ) = 0 := by simp [m_m0, mo_ME, mo_u_a, mo_z_a]
  unfold m_me
  generalize m_m0 μ pv e = μ1 at *
  obtain ⟨μ2, hμ2⟩ : ∃ μ2, μ2 = mo_wAR μ1 (gT G c + 4) nm (some (mo_X μ)) := ⟨_, rfl⟩
  rw [← hμ2]
  have qC : mo_C μ2 = mo_C μ1 := by rw [hμ2]; simp only [mo_ME]
  have qN : mo_N μ2 = mo_N μ1 := by rw [hμ2]; simp only [mo_ME]
  have qI : mo_I μ2 = mo_I μ1 := by rw [hμ2]; simp only [mo_ME]
  have qL : mo_L μ2 = mo_L μ1 := by rw [hμ2]; simp only [mo_ME]
  have qR : mo_R μ2 = mo_R μ1 := by rw [hμ2]; simp only [mo_ME]
  have qAI : mo_AI μ2 = mo_AI μ1 := by rw [hμ2]; simp only [mo_ME]
  have qX : mo_X μ2 = mo_X μ1 := by rw [hμ2]; simp only [mo_ME]
  have mar : ∀ a, a ≠ gT G c + 4 → mo_AR μ2 a = mo_AR μ1 a := fun a h => by
    rw [hμ2, mo_AR_wAR, u_ne h]
  have mar2 : ∀ i, mo_AR μ2 (gT G c + 4) i = if i = nm then some (mo_X μ) else mo_AR μ1 (gT G c + 4) i := fun i => by
    rw [hμ2, mo_AR_wAR, mo_u_a]; simp only [true_and]
  clear hμ2
  obtain ⟨⟨h1a, h1b⟩, -, ⟨o1, o2, o3, o4, o5, o6, o7, o8, o9⟩, p1, p2, p3, p4, p5, p6, p7, p8⟩ := hs1
  have f6 := e1 6 (by decide) (by decide) (by decide)
  have ep : ∀ c', a_par (a_me A (5 * c + 1 + nm) o e) c' = a_par A c' := fun c' => by unfold a_par; rw [f6]
  have hgK : ∀ i, gK (g_me G (5 * c + 1 + nm) (mo_X μ)) i = if i = 5 * c + 1 + nm then mo_X μ else gK G i := fun i => rfl
  have hpm : ∀ m, m ≠ 5 * c + 1 + nm → (a_pm (a_me A (5 * c + 1 + nm) o e) m ↔ a_pm A m) := fun m hm => by unfold a_pm; rw [e3, if_neg hm]
  refine ⟨⟨by unfold cl_sf at h1a ⊢; rw [qC, qN, qR]; exact h1a, fun i hi => ⟨by rw [mar _ (by omega)]; exact (h1b i hi).1, by rw [qC]; exact (h1b i hi).2⟩⟩, by rw [qX]; omega, ⟨o1, o2, by rw [e1 0 (by decide) (by decide) (by decide)]; exact o3, by rw [e1 5 (by decide) (by decide) (by decide)]; exact o4, fun c' hc' => by rw [f6]; exact o5 c' hc', fun e' he' => ?_, fun c' hc' => ?_, fun m hm => ?_, fun m z1 z2 => ?_⟩, by rw [qI]; exact p1, by rw [qI]; exact p2, fun e' he' => ?_, fun c' hc' => ?_, fun m hm hp => ?_, fun m m' z1 z2 z3 z4 z5 => ?_, fun c' y hc' hy => p7 c' y hc' (by rw [← ep]; exact hy), p8⟩
  · have := o6 e' he'
    unfold a_xp at this ⊢
    rw [e1 1 (by decide) (by decide) (by decide), e1 3 (by decide) (by decide) (by decide), e1 4 (by decide) (by decide) (by decide), e2]
    exact this
  · have := o7 c' hc'
    unfold a_cp at this ⊢
    rw [e1 7 (by decide) (by decide) (by decide), e1 8 (by decide) (by decide) (by decide), e1 9 (by decide) (by decide) (by decide), e1 10 (by decide) (by decide) (by decide)]
    exact this
  · by_cases hmm : m = 5 * c + 1 + nm
    · refine ⟨?_, fun _ => ?_, 0, by decide, by rw [e5, if_pos hmm]; rfl, fun i hi => absurd hi (by omega)⟩
      · rw [e3, if_pos hmm]
        rcases hpo with ⟨-, z⟩ | ⟨-, z⟩ <;> rw [z]
        · exact Or.inr (Or.inl rfl)
        · exact Or.inr (Or.inr rfl)
      · rw [e4, if_pos hmm]; exact he
    · have := o8 m hm
      unfold a_mp at this ⊢
      rw [e3, e4, e5, if_neg hmm, if_neg hmm, if_neg hmm, e1 14 (by decide) (by decide) (by decide), e1 15 (by decide) (by decide) (by decide), e1 16 (by decide) (by decide) (by decide)]
      exact this
  · have z1' : 5 * gnc G ≤ m := z1
    rw [e3, e5, if_neg (by omega), if_neg (by omega)]
    exact o9 m z1 z2
  · obtain ⟨z1, z2, z3, z4⟩ := p3 e' he'
    exact ⟨by rw [mar _ (by omega)]; exact z1, z2, by rw [qX]; exact z3, ex_sm z4 (by rw [qC]) (fun k => ⟨by rw [qI], by rw [qL]⟩) (by rw [e1 1 (by decide) (by decide) (by decide)]) (by rw [e2]) (by rw [e1 3 (by decide) (by decide) (by decide)]) (by rw [e1 4 (by decide) (by decide) (by decide)])⟩
  · obtain ⟨z1, z2⟩ := p4 c' hc'
    refine ⟨by rw [mar _ (by omega)]; exact z1, ?_⟩
    by_cases hcc : c' = c
    · subst hcc
      obtain ⟨b1, b2, b3, b4, b5, b6, b7, b8, b9, b10, b11, b12, b13, b14, b15, b16, b17, b18, b19⟩ := z2
      unfold cl_ty
      rw [qC, qN, qI, qR, qAI, qX]
      refine ⟨b1, b2, by rw [ep]; exact b3, b4, by rw [e1 7 (by decide) (by decide) (by decide)]; exact b5, by rw [e1 8 (by decide) (by decide) (by decide)]; exact b6, b7, b8, b9, fun k hk => by rw [e1 10 (by decide) (by decide) (by decide)]; exact b10 k hk, b11, by rw [hgK, if_neg (by omega)]; exact b12, b13, b14, b15, fun k hk => ?_, by rw [e1 9 (by decide) (by decide) (by decide)]; exact b17, b18, b19⟩
      show mo_AR μ2 (gT G c' + 4) k = _
      rw [mar2, e3, hgK]
      by_cases hk2 : k = nm
      · subst hk2
        rw [if_pos rfl, if_pos rfl, if_pos rfl, if_neg (by rcases hpo with ⟨-, z⟩ | ⟨-, z⟩ <;> rw [z] <;> decide)]
      · have hkm : ¬ (5 * c' + 1 + k = 5 * c' + 1 + nm) := by omega
        rw [if_neg hk2]
        simp only [hkm, if_false]
        exact b16 k hk
    · have hne : gT G c' ≠ gT G c := fun z => hcc (by rw [hin hc' hc] at z; exact z)
      exact ty_sm z2 rfl (fun _ _ => rfl) rfl (by rw [hgK, if_neg (by omega)]) (fun k hk _ => by rw [hgK, if_neg (by omega)]) (by rw [qX]; exact Nat.le_refl _) (fun j hj => ⟨by rw [qC], by rw [qN]⟩) (fun k => ⟨by rw [qI], by rw [qR]⟩) (by rw [qAI]) (mar _ (by omega)) (by rw [f6]) (by rw [e1 7 (by decide) (by decide) (by decide)]) (by rw [e1 8 (by decide) (by decide) (by decide)]) (by rw [e1 9 (by decide) (by decide) (by decide)]) (fun k hk => by rw [e1 10 (by decide) (by decide) (by decide)]) (fun k hk => by rw [e3, if_neg (by omega)])
  · by_cases hmm : m = 5 * c + 1 + nm
    · unfold cl_cd
      rw [qC, qN, qI, qR, qX, hgK, if_pos hmm, e3, e4, e5, if_pos hmm, if_pos hmm, if_pos hmm]
      refine ⟨n1, ?_, fun _ => n3, n4, n5, n6, n7, hX, by omega, fun na i q1 q2 q3 => ?_⟩
      · rw [n2]
        rcases hpo with ⟨z1, z2⟩ | ⟨z1, z2⟩ <;> rw [z1, z2] <;> decide
      · rw [show (0 : Int32) = nI 0 from rfl, nI_inj (by decide) (by omega)] at q1
        omega
    · have hp' := (hpm m hmm).1 hp
      have q := p5 m hm hp'
      have qc := q.2.2.2.2.1
      have hne : gK G m + 1 ≠ gT G c + 4 := fun z => by rw [z, hC4 c hc] at qc; exact absurd qc (by decide)
      exact cd_sm q (by rw [hgK, if_neg hmm]) (by rw [qX]; exact Nat.le_refl _) (fun a ha => ⟨by rw [qC], by rw [qN]⟩) (fun k hk a z1 z2 => by rw [qI]) (fun k => by rw [qR]) (mar _ hne) (by rw [e3, if_neg hmm]) (by rw [e4, if_neg hmm]) (by rw [e5, if_neg hmm]) (fun i hi => ⟨by rw [e1 14 (by decide) (by decide) (by decide)], by rw [e1 15 (by decide) (by decide) (by decide)], by rw [e1 16 (by decide) (by decide) (by decide)]⟩)
  · rw [hgK, hgK] at z5
    by_cases hm1 : m = 5 * c + 1 + nm
    · by_cases hm2 : m' = 5 * c + 1 + nm
      · omega
      · rw [if_pos hm1, if_neg hm2] at z5
        have := hold m' z2 ((hpm m' hm2).1 z4)
        omega
    · by_cases hm2 : m' = 5 * c + 1 + nm
      · rw [if_neg hm1, if_pos hm2] at z5
        have := hold m z1 ((hpm m hm1).1 z3)
        omega
      · rw [if_neg hm1, if_neg hm2] at z5
        exact p6 m m' z1 z2 ((hpm m hm1).1 z3) ((hpm m' hm2).1 z4) z5
