def a_b0 (A : mo_A) : mo_A := a_L (a_I (a_I (a_I (a_I (a_I (a_I (a_I (a_I A 27 0 0) 37 0 0) 38 0 0) 39 0 0) 40 0 0) 41 0 0) 42 0 0) 43 0 0) 36 0 0
def m_b0 (r : Nat) (μ : mo_Mem) : mo_Mem := mo_wL (mo_wI (mo_wI (mo_wI (mo_wI (mo_wI (mo_wI (mo_wI (mo_wI μ 795 r 0) 805 r 0) 806 r 0) 807 r 0) 808 r 0) 809 r 0) 810 r 0) 811 r 0) 804 r 0
theorem r_b0 {r : Nat} {μ : mo_Mem} {A : mo_A} (h : r_at r μ A) : r_at r (m_b0 r μ) (a_b0 A) ∧ r_fc r μ (m_b0 r μ) := by
  unfold m_b0 a_b0
  refine ⟨⟨r_sh_c h.1 (by simp only [mo_ME]) (by simp only [mo_ME]) (by simp only [mo_ME]), ?_⟩, ?_⟩
  · simp only [r_VW, h.2]
  · exact r_fc_L (r_fc_I (r_fc_I (r_fc_I (r_fc_I (r_fc_I (r_fc_I (r_fc_I (r_fc_I (r_fc_rf _ _)))))))))
theorem b0A (A : mo_A) : (∀ j, j ∉ [27, 37, 38, 39, 40, 41, 42, 43] → (a_b0 A).1 j = A.1 j) ∧ (∀ j, j ≠ 36 → (a_b0 A).2 j = A.2 j) ∧ (a_b0 A).1 27 0 = 0 ∧ (a_b0 A).1 37 0 = 0 ∧ (a_b0 A).1 38 0 = 0 ∧ (a_b0 A).1 39 0 = 0 ∧ (a_b0 A).1 40 0 = 0 ∧ (a_b0 A).1 41 0 = 0 ∧ (a_b0 A).1 42 0 = 0 ∧ (a_b0 A).1 43 0 = 0 ∧ (a_b0 A).2 36 0 = 0 := by
  unfold a_b0
  refine ⟨fun j hj => ?_, fun j hj => funext fun i => ?_, ?_, ?_, ?_, ?_, ?_, ?_, ?_, ?_, ?_⟩
  · simp only [List.mem_cons, List.mem_nil_iff, or_false, not_or] at hj
    obtain ⟨h1, h2, h3, h4, h5, h6, h7, h8⟩ := hj
    funext i
    simp only [a_L_1, a_I_1, h1, h2, h3, h4, h5, h6, h7, h8, false_and, if_false]
  · rw [a_L_2, if_neg (fun z => hj z.1)]
    rfl
  all_goals simp only [a_L_1, a_L_2, a_I_1, a_I_2, Nat.reduceEqDiff, false_and, and_self, if_true, if_false]
def m_rs (x : Nat) (μ : mo_Mem) : mo_Mem := mo_wI (mo_wI (mo_wI (mo_wI (mo_wI (mo_wI μ 512 (x + 9) 0) 513 (x + 9) 0) 514 (x + 9) 0) 515 (x + 9) 0) 516 (x + 9) 0) 517 (x + 9) 0
theorem L_restart {d x : Nat} {μ : mo_Mem} (hs : cl_sf x μ) (Q : mo_P) : mo_M (d + 1) 48 [.ref (x + 9)] μ Q = Q none (m_rs x μ) := by
  have hs' := hs
  unfold cl_sf at hs'
  unfold m_rs
  simp only [we48, en48, true_and, and_true, if_false, if_true, not_true_eq_false, not_false_eq_true, false_implies, true_implies, implies_true, forall_const, true_or, or_true, false_or, or_false, false_and, and_false, eq_self_iff_true, Option.toList_some, Option.toList_none, List.cons_append, List.nil_append, mo_cat_0, mo_cat_c, mo_ct_i, mo_ct_l, mo_ct_r, mo_ct_n, mo_ct_f, Nat.zero_le, Nat.reduceAdd, Nat.reduceLeDiff, Nat.reduceLT, Nat.reduceEqDiff, Nat.reduceSub, mo_rf_s, mo_rf_n, reduceCtorEq, mo_st, mo_st2, mo_lg_0, mo_lg_s, List.set_cons_zero, List.set_cons_succ, List.length_cons, List.length_nil, List.getElem?_cons_zero, List.getElem?_cons_succ, Nat.reduceBEq, Bool.false_eq_true, beq_self_eq_true, hs', mo_ME, mo_u_a, mo_z_a, mo_y_a, Nat.add_left_cancel_iff]
theorem km_rs (x u P : Nat) (μ : mo_Mem) : c_km x u P μ (m_rs x μ) := km_I (km_I (km_I (km_I (km_I (km_I (km_rf x u P μ) (by unfold cl_pk; omega) (by omega)) (by unfold cl_pk; omega) (by omega)) (by unfold cl_pk; omega) (by omega)) (by unfold cl_pk; omega) (by omega)) (by unfold cl_pk; omega) (by omega)) (by unfold cl_pk; omega) (by omega)
theorem dy_rs {x no b q : Nat} {A : mo_A} {G : c_G} {O : Nat → Nat} {μ : mo_Mem} (h : c_dy x A G 0 0 0 μ A O no b q) : c_dy x A G 0 0 0 (m_rs x μ) (a_b0 A) O no 0 0 := by
  obtain ⟨e1, e2, e27, e37, e38, e39, e40, e41, e42, e43, e36⟩ := b0A A
  have h' := h
  obtain ⟨d1, d2, d3, d4, d5, d6, d7, d8, d9, d10, d11, d12, d13, d14, d15, d16, d17, d18, d19, d20, d21, d22, d23, d24, d25⟩ := h'
  have hx : a_x [27, 36, 37, 38, 39, 40, 41, 42, 43] A (a_b0 A) := fun j hj => ⟨e1 j (fun q => hj (by revert q; simp only [List.mem_cons, List.mem_nil_iff, or_false]; omega)), e2 j (fun q => hj (by rw [q]; decide))⟩
  have m : ∀ k a, (k < 512 ∨ 517 < k ∨ a ≠ x + 9) → mo_I (m_rs x μ) k a = mo_I μ k a := fun k a hk => by
    simp only [m_rs, mo_ME, mo_u_a]
    repeat rw [if_neg (by omega)]
  exact dy_c h (km_rs x 0 0 μ).1 hx (by decide) (m _ _ (by omega)) (m _ _ (by omega)) (by simp only [m_rs, mo_ME]) (by simp only [m_rs, mo_ME]) (by simp only [m_rs, mo_ME]) (by simp only [m_rs, mo_ME]) (fun a ha => ⟨m _ _ (by omega), by simp only [m_rs, mo_ME]⟩) ⟨(m _ _ (by omega)).trans d5, e38, by decide, (m _ _ (by omega)).trans d8, by decide, e27, by simp [m_rs, mo_ME, mo_u_a]; rfl, e40, by decide, by rw [e41]; simp [m_rs, mo_ME, mo_u_a], by rw [e42]; simp [m_rs, mo_ME, mo_u_a], by rw [e43]; simp [m_rs, mo_ME, mo_u_a], by simp [m_rs, mo_ME, mo_u_a]; rfl, e39, by decide, by rw [e37]; simp [m_rs, mo_ME, mo_u_a], fun _ => by decide⟩
/-- the reference's loops -/
theorem R_mloop {d r : Nat} {Q : mo_P} {l : mo_LV} {A1 A2 : mo_A} {ν : mo_Mem} (hrc : a_rc r A1 A2) (hend : ∀ ν', r_at r ν' A2 → r_fc r ν ν' → mo_wp (mo_M (d + 10)) Q 112 (42, some (.ref r) :: l, [], ν')) : ∀ ν', r_at r ν' A1 → r_fc r ν ν' → mo_wp (mo_M (d + 10)) Q 112 (42, some (.ref r) :: l, [], ν') := by
  refine hrc (fun B => ∀ ν', r_at r ν' B → r_fc r ν ν' → mo_wp (mo_M (d + 10)) Q 112 (42, some (.ref r) :: l, [], ν')) hend ?_
  intro B B' f hf hlt hS ih ν' hr hfc
  have hs' := hr.1
  unfold r_sh at hs'
  have H := r_rd hr
  have g : (nI (f + 1) ≤ 0) = False := i_ge (a := 0) (by omega) (by omega)
  rw [wh112_42.1]
  simp only [we112_0, we112_1, en112, true_and, and_true, if_false, if_true, not_true_eq_false, not_false_eq_true, false_implies, true_implies, implies_true, forall_const, true_or, or_true, false_or, or_false, false_and, and_false, eq_self_iff_true, Option.toList_some, Option.toList_none, List.cons_append, List.nil_append, mo_cat_0, mo_cat_c, mo_ct_i, mo_ct_l, mo_ct_r, mo_ct_n, mo_ct_f, Nat.zero_le, Nat.reduceAdd, Nat.reduceLeDiff, Nat.reduceLT, Nat.reduceEqDiff, Nat.reduceSub, mo_rf_s, mo_rf_n, reduceCtorEq, mo_st, mo_st2, mo_lg_0, mo_lg_s, List.set_cons_zero, List.set_cons_succ, List.length_cons, List.length_nil, List.getElem?_cons_zero, List.getElem?_cons_succ, Nat.reduceBEq, Bool.false_eq_true, beq_self_eq_true, hs', H, hf, g, mo_ME, mo_u_a, mo_z_a, mo_y_a, Nat.add_left_cancel_iff]
  refine hS ν' hr d _ ?_
  intro ν'' hr2 hfc2
  simp only [we112_0, we112_1, en112, true_and, and_true, if_false, if_true, not_true_eq_false, not_false_eq_true, false_implies, true_implies, implies_true, forall_const, true_or, or_true, false_or, or_false, false_and, and_false, eq_self_iff_true, Option.toList_some, Option.toList_none, List.cons_append, List.nil_append, mo_cat_0, mo_cat_c, mo_ct_i, mo_ct_l, mo_ct_r, mo_ct_n, mo_ct_f, Nat.zero_le, Nat.reduceAdd, Nat.reduceLeDiff, Nat.reduceLT, Nat.reduceEqDiff, Nat.reduceSub, mo_rf_s, mo_rf_n, reduceCtorEq, mo_st, mo_st2, mo_lg_0, mo_lg_s, List.set_cons_zero, List.set_cons_succ, List.length_cons, List.length_nil, List.getElem?_cons_zero, List.getElem?_cons_succ, Nat.reduceBEq, Bool.false_eq_true, beq_self_eq_true, mo_ME, mo_u_a, mo_z_a, mo_y_a, Nat.add_left_cancel_iff]
  exact ih ν'' hr2 (r_fc_tr hfc hfc2)
theorem R_cloop {d r : Nat} {Q : mo_P} {l : mo_LV} {A1 A2 : mo_A} {ν : mo_Mem} (hrc : a_rc r A1 A2) (hend : ∀ ν', r_at r ν' A2 → r_fc r ν ν' → mo_wp (mo_M (d + 10)) Q 113 (88, some (.ref r) :: l, [], ν')) : ∀ ν', r_at r ν' A1 → r_fc r ν ν' → mo_wp (mo_M (d + 10)) Q 113 (88, some (.ref r) :: l, [], ν') := by
  refine hrc (fun B => ∀ ν', r_at r ν' B → r_fc r ν ν' → mo_wp (mo_M (d + 10)) Q 113 (88, some (.ref r) :: l, [], ν')) hend ?_
  intro B B' f hf hlt hS ih ν' hr hfc
  have hs' := hr.1
  unfold r_sh at hs'
  have H := r_rd hr
  have g : (nI (f + 1) ≤ 0) = False := i_ge (a := 0) (by omega) (by omega)
  rw [wh113_88.1]
  simp only [we113_0, we113_1, en113, true_and, and_true, if_false, if_true, not_true_eq_false, not_false_eq_true, false_implies, true_implies, implies_true, forall_const, true_or, or_true, false_or, or_false, false_and, and_false, eq_self_iff_true, Option.toList_some, Option.toList_none, List.cons_append, List.nil_append, mo_cat_0, mo_cat_c, mo_ct_i, mo_ct_l, mo_ct_r, mo_ct_n, mo_ct_f, Nat.zero_le, Nat.reduceAdd, Nat.reduceLeDiff, Nat.reduceLT, Nat.reduceEqDiff, Nat.reduceSub, mo_rf_s, mo_rf_n, reduceCtorEq, mo_st, mo_st2, mo_lg_0, mo_lg_s, List.set_cons_zero, List.set_cons_succ, List.length_cons, List.length_nil, List.getElem?_cons_zero, List.getElem?_cons_succ, Nat.reduceBEq, Bool.false_eq_true, beq_self_eq_true, hs', H, hf, g, mo_ME, mo_u_a, mo_z_a, mo_y_a, Nat.add_left_cancel_iff]
  refine hS ν' hr d _ ?_
  intro ν'' hr2 hfc2
  simp only [we113_0, we113_1, en113, true_and, and_true, if_false, if_true, not_true_eq_false, not_false_eq_true, false_implies, true_implies, implies_true, forall_const, true_or, or_true, false_or, or_false, false_and, and_false, eq_self_iff_true, Option.toList_some, Option.toList_none, List.cons_append, List.nil_append, mo_cat_0, mo_cat_c, mo_ct_i, mo_ct_l, mo_ct_r, mo_ct_n, mo_ct_f, Nat.zero_le, Nat.reduceAdd, Nat.reduceLeDiff, Nat.reduceLT, Nat.reduceEqDiff, Nat.reduceSub, mo_rf_s, mo_rf_n, reduceCtorEq, mo_st, mo_st2, mo_lg_0, mo_lg_s, List.set_cons_zero, List.set_cons_succ, List.length_cons, List.length_nil, List.getElem?_cons_zero, List.getElem?_cons_succ, Nat.reduceBEq, Bool.false_eq_true, beq_self_eq_true, mo_ME, mo_u_a, mo_z_a, mo_y_a, Nat.add_left_cancel_iff]
  exact ih ν'' hr2 (r_fc_tr hfc hfc2)
def a_n0 (A : mo_A) (p c : Nat) : mo_A := a_I (a_I (a_I A 17 0 (nI (p + 1))) 18 p (nI c)) 19 p 0
/-- the reference's new object, at the top -/
theorem R_no {d r c p g0 n : Nat} {μ : mo_Mem} {A : mo_A} (h : r_at r μ A) (ht : A.1 27 0 = nI 0) (hob : A.1 17 0 = nI p) (hpl : p < 100) (hcl : c < 8) (hu : A.1 38 0 = nI 0) (hg : A.1 41 0 = nI g0) (hn : A.1 7 c = nI n) (hn3 : n ≤ 3) (g c0 c1 c2 : Int64) : ∃ μ', (∀ Q, mo_M (d + 3) 98 [.ref r, .int (nI c), .long g, .long c0, .long c1, .long c2] μ Q = Q (some (.int (nI p))) μ') ∧ r_at r μ' (a_cs (a_I (a_push (a_I (a_I (a_n0 A p c) 38 0 (nI (0 + 1))) 41 0 (nI (g0 + 1))) 0 1 (nI (5 * c)) (nI p) (nI c) g) 35 0 1) p c n c0 c1 c2) ∧ r_fc r μ μ' := by
  obtain ⟨q0, q1, q2, q3, q4, q5, q6, q7, q8, q9, q10, q11, q12, q13, q14, q15, q16, q17, q18, q19, q20, q21, q22, q23, q24, q25, q26, q27, q28, q29, q30, q31, q32, q33, q34, q35, q36, q37, q38, q39, q40, q41, q42, q43, q44⟩ := r_rd h
  have hx27 := q27.trans ht
  have hx17 := q17.trans hob
  have hx38 := q38.trans hu
  have hx41 := q41.trans hg
  have hx7 := (q7 c).trans hn
  have h1 : n = 0 ∨ n = 1 ∨ n = 2 ∨ n = 3 := by omega
  rcases h1 with rfl | rfl | rfl | rfl
  · refine ⟨_, fun Q => R_newobj0 (d := d) h.1 hx27 (by decide) hx17 hpl hcl hx38 (by decide) hx41 hx7 g c0 c1 c2 Q, ⟨r_sh_c h.1 (by simp only [m_push, mo_ME]) (by simp only [m_push, mo_ME]) (by simp only [m_push, mo_ME]), ?_⟩, ?_⟩
    · simp only [r_VW, r_vw_push, h.2, a_cs, a_n0]
    · exact r_fc_AI (by decide) (r_fc_push (r_fc_I (r_fc_I (r_fc_AI (by decide) (r_fc_AI (by decide) (r_fc_I (r_fc_rf _ _)))))))
  · refine ⟨_, fun Q => R_newobj1 (d := d) h.1 hx27 (by decide) hx17 hpl hcl hx38 (by decide) hx41 hx7 g c0 c1 c2 Q, ⟨r_sh_c h.1 (by simp only [m_push, mo_ME]) (by simp only [m_push, mo_ME]) (by simp only [m_push, mo_ME]), ?_⟩, ?_⟩
    · simp only [r_VW, r_vw_push, h.2, a_cs, a_n0]
    · exact r_fc_AL (by decide) (r_fc_AI (by decide) (r_fc_push (r_fc_I (r_fc_I (r_fc_AI (by decide) (r_fc_AI (by decide) (r_fc_I (r_fc_rf _ _))))))))
  · refine ⟨_, fun Q => R_newobj2 (d := d) h.1 hx27 (by decide) hx17 hpl hcl hx38 (by decide) hx41 hx7 g c0 c1 c2 Q, ⟨r_sh_c h.1 (by simp only [m_push, mo_ME]) (by simp only [m_push, mo_ME]) (by simp only [m_push, mo_ME]), ?_⟩, ?_⟩
    · simp only [r_VW, r_vw_push, h.2, a_cs, a_n0]
    · exact r_fc_AL (by decide) (r_fc_AL (by decide) (r_fc_AI (by decide) (r_fc_push (r_fc_I (r_fc_I (r_fc_AI (by decide) (r_fc_AI (by decide) (r_fc_I (r_fc_rf _ _)))))))))
  · refine ⟨_, fun Q => R_newobj3 (d := d) h.1 hx27 (by decide) hx17 hpl hcl hx38 (by decide) hx41 hx7 g c0 c1 c2 Q, ⟨r_sh_c h.1 (by simp only [m_push, mo_ME]) (by simp only [m_push, mo_ME]) (by simp only [m_push, mo_ME]), ?_⟩, ?_⟩
    · simp only [r_VW, r_vw_push, h.2, a_cs, a_n0]
    · exact r_fc_AL (by decide) (r_fc_AL (by decide) (r_fc_AL (by decide) (r_fc_AI (by decide) (r_fc_push (r_fc_I (r_fc_I (r_fc_AI (by decide) (r_fc_AI (by decide) (r_fc_I (r_fc_rf _ _))))))))))
