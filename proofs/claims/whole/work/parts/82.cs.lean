theorem R_make {d r c no nc np : Nat} {ν : mo_Mem} {A A2 : mo_A} (h : r_at r ν A) (hnc : A.1 5 0 = nI nc) (hnc8 : nc ≤ 8) (hc : c < nc) (hob : A.1 17 0 = nI no) (hno : no < 100) (hn : A.1 7 c = nI np) (hn3 : np ≤ 3) (g c0 c1 c2 : Int64) (hrc : a_rc r (a_cs (a_I (a_push (a_I (a_I (a_n0 (a_b0 A) no c) 38 0 (nI (0 + 1))) 41 0 (nI (0 + 1))) 0 1 (nI (5 * c)) (nI no) (nI c) g) 35 0 1) no c np c0 c1 c2) A2) (hF2 : A2.1 27 0 = nI 0) (Q : mo_P) (hQ : ∀ ν', r_at r ν' (a_I A2 19 no (if A2.1 37 0 = 0 then 1 else 2)) → r_fc r ν ν' → Q (some (.int (if A2.1 37 0 = 0 then nI no else -10 - A2.1 37 0))) ν') : mo_M (d + 11) 112 [.ref r, .int (nI c), .long g, .long c0, .long c1, .long c2] ν Q := by
  have hs' := h.1
  unfold r_sh at hs'
  have H := r_rd h
  have kcl := fun Q => R_isC (d := d + 9) h hnc hnc8 (nI c) Q
  rw [mo_b_t (vp_in_nI hc (by omega))] at kcl
  have g100 : (nI no = 100) = False := i_ne (b := 100) (by omega) (by decide) (by omega)
  obtain ⟨hb, hfb⟩ := r_b0 h
  have kb : ∀ Q, mo_M (d + 10) 111 [.ref r] ν Q = Q none (m_b0 r ν) := fun Q => R_begin (d := d + 9) h.1 Q
  obtain ⟨e1, e2, e27, e37, e38, e39, e40, e41, e42, e43, e36⟩ := b0A A
  obtain ⟨ν1, hn1, hn2, hn3'⟩ := R_no (d := d + 7) (g0 := 0) (n := np) hb e27 (by rw [e1 17 (by decide)]; exact hob) hno (show c < 8 by omega) e38 e41 (by rw [e1 7 (by decide)]; exact hn) hn3 g c0 c1 c2
  have hC : mo_C (m_b0 r ν) r = 13 := hb.1.1
  simp only [we112_0, we112_1, en112, true_and, and_true, if_false, if_true, not_true_eq_false, not_false_eq_true, false_implies, true_implies, implies_true, forall_const, true_or, or_true, false_or, or_false, false_and, and_false, eq_self_iff_true, Option.toList_some, Option.toList_none, List.cons_append, List.nil_append, mo_cat_0, mo_cat_c, mo_ct_i, mo_ct_l, mo_ct_r, mo_ct_n, mo_ct_f, Nat.zero_le, Nat.reduceAdd, Nat.reduceLeDiff, Nat.reduceLT, Nat.reduceEqDiff, Nat.reduceSub, mo_rf_s, mo_rf_n, reduceCtorEq, mo_st, mo_st2, mo_lg_0, mo_lg_s, List.set_cons_zero, List.set_cons_succ, List.length_cons, List.length_nil, List.getElem?_cons_zero, List.getElem?_cons_succ, Nat.reduceBEq, Bool.false_eq_true, beq_self_eq_true, hs', H, hob, kcl, g100, kb, hn1, hC, mo_LC, mo_ME, mo_u_a, mo_z_a, mo_y_a, Nat.add_left_cancel_iff]
  refine R_mloop (ν := ν) hrc ?_ ν1 hn2 (r_fc_tr hfb hn3')
  intro ν' hr2 hfc
  have hs2 := hr2.1
  unfold r_sh at hs2
  have H2 := r_rd hr2
  have g0 : (nI 0 ≤ 0) = True := i00
  have v3 : vp_in (nI no) 100 := vp_in_nI (by omega) (by decide)
  have v4 : (nI no).toNatClampNeg = no := nI_clamp (by omega)
  rw [wh112_42.1]
  by_cases hf : A2.1 37 0 = 0
  · have hq := hQ (mo_wAI ν' (r + 17) no 1) (by rw [if_pos hf]; exact ⟨r_sh_c hr2.1 (by simp only [mo_ME]) (by simp only [mo_ME]) (by simp only [mo_ME]), by simp only [r_VW, hr2.2]⟩) (r_fc_AI (by decide) hfc)
    rw [if_pos hf] at hq
    simp only [we112_0, we112_1, en112, true_and, and_true, if_false, if_true, not_true_eq_false, not_false_eq_true, false_implies, true_implies, implies_true, forall_const, true_or, or_true, false_or, or_false, false_and, and_false, eq_self_iff_true, Option.toList_some, Option.toList_none, List.cons_append, List.nil_append, mo_cat_0, mo_cat_c, mo_ct_i, mo_ct_l, mo_ct_r, mo_ct_n, mo_ct_f, Nat.zero_le, Nat.reduceAdd, Nat.reduceLeDiff, Nat.reduceLT, Nat.reduceEqDiff, Nat.reduceSub, mo_rf_s, mo_rf_n, reduceCtorEq, mo_st, mo_st2, mo_lg_0, mo_lg_s, List.set_cons_zero, List.set_cons_succ, List.length_cons, List.length_nil, List.getElem?_cons_zero, List.getElem?_cons_succ, Nat.reduceBEq, Bool.false_eq_true, beq_self_eq_true, hs2, H2, hF2, g0, hf, v3, v4, mo_LC, mo_ME, mo_u_a, mo_z_a, mo_y_a, Nat.add_left_cancel_iff]
    exact hq
  · have hq := hQ (mo_wAI ν' (r + 17) no 2) (by rw [if_neg hf]; exact ⟨r_sh_c hr2.1 (by simp only [mo_ME]) (by simp only [mo_ME]) (by simp only [mo_ME]), by simp only [r_VW, hr2.2]⟩) (r_fc_AI (by decide) hfc)
    rw [if_neg hf] at hq
    simp only [we112_0, we112_1, en112, true_and, and_true, if_false, if_true, not_true_eq_false, not_false_eq_true, false_implies, true_implies, implies_true, forall_const, true_or, or_true, false_or, or_false, false_and, and_false, eq_self_iff_true, Option.toList_some, Option.toList_none, List.cons_append, List.nil_append, mo_cat_0, mo_cat_c, mo_ct_i, mo_ct_l, mo_ct_r, mo_ct_n, mo_ct_f, Nat.zero_le, Nat.reduceAdd, Nat.reduceLeDiff, Nat.reduceLT, Nat.reduceEqDiff, Nat.reduceSub, mo_rf_s, mo_rf_n, reduceCtorEq, mo_st, mo_st2, mo_lg_0, mo_lg_s, List.set_cons_zero, List.set_cons_succ, List.length_cons, List.length_nil, List.getElem?_cons_zero, List.getElem?_cons_succ, Nat.reduceBEq, Bool.false_eq_true, beq_self_eq_true, hs2, H2, hF2, g0, hf, v3, v4, mo_LC, mo_ME, mo_u_a, mo_z_a, mo_y_a, Nat.add_left_cancel_iff]
    exact hq
theorem R_call {d r o no nc nm c0 k : Nat} {ν : mo_Mem} {A A2 : mo_A} (h : r_at r ν A) (hnc8 : nc ≤ 8) (hpw : a_pw A nc) (hob : A.1 17 0 = nI no) (hno : no ≤ 100) (ho : o < no) (hnm : nm < 4) (hst : A.1 19 o = 1) (h18 : A.1 18 o = nI c0) (hc0 : c0 < nc) (hnr : a_near A 8 c0 nm = some k) (g : Int64) (hrc : a_rc r (a_push (a_I (a_I (a_b0 A) 38 0 (nI (0 + 1))) 41 0 (nI (0 + 1))) 0 2 (nI (5 * k + 1 + nm)) (nI o) (nI k) g) A2) (hF2 : A2.1 27 0 = nI 0) (Q : mo_P) (hQ1 : ¬ A2.1 37 0 = 0 → ∀ ν', r_at r ν' A2 → r_fc r ν ν' → Q (some (.int (-10 - A2.1 37 0))) ν') (hQ2 : A2.1 37 0 = 0 → ∀ ν', r_at r ν' (a_L A2 26 0 (A2.2 36 0)) → r_fc r ν ν' → Q (some (.int 0)) ν') : mo_M (d + 11) 113 [.ref r, .int (nI o), .int (nI nm), .long g] ν Q := by
  have hs' := h.1
  unfold r_sh at hs'
  have H := r_rd h
  have kn := fun Q => R_isN (d := d + 9) (μ := ν) (nI nm) Q
  rw [mo_b_t (vp_in_nI hnm (by decide))] at kn
  have w1 : (nI o < 0) = False := i_ng (by omega)
  have w2 : (nI o < nI no) = True := i_lt ho (by omega)
  have w3 : vp_in (nI o) 100 := vp_in_nI (by omega) (by decide)
  have w4 : (nI o).toNatClampNeg = o := nI_clamp (by omega)
  obtain ⟨hb, hfb⟩ := r_b0 h
  have kb : ∀ Q, mo_M (d + 10) 111 [.ref r] ν Q = Q none (m_b0 r ν) := fun Q => R_begin (d := d + 9) h.1 Q
  obtain ⟨e1, e2, e27, e37, e38, e39, e40, e41, e42, e43, e36⟩ := b0A A
  have Hb := r_rd hb
  have hsb := hb.1
  unfold r_sh at hsb
  have hlk : a_lk A (a_b0 A) := fun j hj => ⟨e1 j (by simp only [List.mem_cons, List.mem_nil_iff, or_false]; omega), e2 j (by omega)⟩
  have kr := fun Q => R_near (d := d + 9) (c := c0) (nm := nm) (A := a_b0 A) hb.1 Hb.2.2.2.2.2.2.2.2.2.2.2.1 Hb.2.2.2.2.2.2.1 hnc8 (lk_pw hlk hpw) hnm hc0 Q
  rw [lk_near hlk, hnr, a_enc_s] at kr
  have hkn := (near_b hnc8 hpw 8 c0 (by omega) (Nat.le_refl _) hc0 hnr).2.2
  have hk1 : (nI k = -1) = False := nI_nm1 (by omega)
  have h18b : (a_b0 A).1 18 o = nI c0 := by rw [e1 18 (by decide)]; exact h18
  have ken : ∀ w x p c g Q, mo_M (d + 10) 96 [.ref r, .int w, .int x, .int p, .int c, .long g] (m_b0 r ν) Q = Q (some (.int 1)) (m_push r (mo_wI (mo_wI (m_b0 r ν) 806 r (nI (0 + 1))) 809 r (nI (0 + 1))) 0 w x p c g) := fun w x p c g Q => R_enter (d := d + 8) (t := 0) (u := 0) (g0 := 0) hb.1 (Hb.2.2.2.2.2.2.2.2.2.2.2.2.2.2.2.2.2.2.2.2.2.2.2.2.2.2.2.1.trans e27) (by decide) (Hb.2.2.2.2.2.2.2.2.2.2.2.2.2.2.2.2.2.2.2.2.2.2.2.2.2.2.2.2.2.2.2.2.2.2.2.2.2.2.1.trans e38) (by decide) (Hb.2.2.2.2.2.2.2.2.2.2.2.2.2.2.2.2.2.2.2.2.2.2.2.2.2.2.2.2.2.2.2.2.2.2.2.2.2.2.2.2.2.1.trans e41) w x p c g Q
  simp only [we113_0, we113_1, en113, true_and, and_true, if_false, if_true, not_true_eq_false, not_false_eq_true, false_implies, true_implies, implies_true, forall_const, true_or, or_true, false_or, or_false, false_and, and_false, eq_self_iff_true, Option.toList_some, Option.toList_none, List.cons_append, List.nil_append, mo_cat_0, mo_cat_c, mo_ct_i, mo_ct_l, mo_ct_r, mo_ct_n, mo_ct_f, Nat.zero_le, Nat.reduceAdd, Nat.reduceLeDiff, Nat.reduceLT, Nat.reduceEqDiff, Nat.reduceSub, mo_rf_s, mo_rf_n, reduceCtorEq, mo_st, mo_st2, mo_lg_0, mo_lg_s, List.set_cons_zero, List.set_cons_succ, List.length_cons, List.length_nil, List.getElem?_cons_zero, List.getElem?_cons_succ, Nat.reduceBEq, Bool.false_eq_true, beq_self_eq_true, hs', H, hob, w1, w2, w3, w4, kn, hst, kb, hsb, Hb, h18b, kr, hk1, ken, l5, nI_1, nI_add, mo_LC, mo_ME, mo_u_a, mo_z_a, mo_y_a, Nat.add_left_cancel_iff]
  refine R_cloop (ν := ν) hrc ?_ _ ⟨r_sh_c hb.1 (by simp only [m_push, mo_ME]) (by simp only [m_push, mo_ME]) (by simp only [m_push, mo_ME]), by simp only [r_VW, r_vw_push, hb.2]⟩ (r_fc_push (r_fc_I (r_fc_I hfb)))
  intro ν' hr2 hfc
  have hs2 := hr2.1
  unfold r_sh at hs2
  have H2 := r_rd hr2
  have g0 : (nI 0 ≤ 0) = True := i00
  rw [wh113_88.1]
  by_cases hf : A2.1 37 0 = 0
  · have hq := hQ2 hf (mo_wL ν' 794 r (A2.2 36 0)) ⟨r_sh_c hr2.1 (by simp only [mo_ME]) (by simp only [mo_ME]) (by simp only [mo_ME]), by simp only [r_VW, hr2.2]⟩ (r_fc_L hfc)
    simp only [we113_0, we113_1, en113, true_and, and_true, if_false, if_true, not_true_eq_false, not_false_eq_true, false_implies, true_implies, implies_true, forall_const, true_or, or_true, false_or, or_false, false_and, and_false, eq_self_iff_true, Option.toList_some, Option.toList_none, List.cons_append, List.nil_append, mo_cat_0, mo_cat_c, mo_ct_i, mo_ct_l, mo_ct_r, mo_ct_n, mo_ct_f, Nat.zero_le, Nat.reduceAdd, Nat.reduceLeDiff, Nat.reduceLT, Nat.reduceEqDiff, Nat.reduceSub, mo_rf_s, mo_rf_n, reduceCtorEq, mo_st, mo_st2, mo_lg_0, mo_lg_s, List.set_cons_zero, List.set_cons_succ, List.length_cons, List.length_nil, List.getElem?_cons_zero, List.getElem?_cons_succ, Nat.reduceBEq, Bool.false_eq_true, beq_self_eq_true, hs2, H2, hF2, g0, hf, mo_LC, mo_ME, mo_u_a, mo_z_a, mo_y_a, Nat.add_left_cancel_iff]
    exact hq
  · have hq := hQ1 hf ν' hr2 hfc
    simp only [we113_0, we113_1, en113, true_and, and_true, if_false, if_true, not_true_eq_false, not_false_eq_true, false_implies, true_implies, implies_true, forall_const, true_or, or_true, false_or, or_false, false_and, and_false, eq_self_iff_true, Option.toList_some, Option.toList_none, List.cons_append, List.nil_append, mo_cat_0, mo_cat_c, mo_ct_i, mo_ct_l, mo_ct_r, mo_ct_n, mo_ct_f, Nat.zero_le, Nat.reduceAdd, Nat.reduceLeDiff, Nat.reduceLT, Nat.reduceEqDiff, Nat.reduceSub, mo_rf_s, mo_rf_n, reduceCtorEq, mo_st, mo_st2, mo_lg_0, mo_lg_s, List.set_cons_zero, List.set_cons_succ, List.length_cons, List.length_nil, List.getElem?_cons_zero, List.getElem?_cons_succ, Nat.reduceBEq, Bool.false_eq_true, beq_self_eq_true, hs2, H2, hF2, g0, hf, mo_LC, mo_ME, mo_u_a, mo_z_a, mo_y_a, Nat.add_left_cancel_iff]
    exact hq
theorem R_call0 {d r o no nc nm c0 : Nat} {ν : mo_Mem} {A : mo_A} (h : r_at r ν A) (hnc8 : nc ≤ 8) (hpw : a_pw A nc) (hob : A.1 17 0 = nI no) (hno : no ≤ 100) (ho : o < no) (hnm : nm < 4) (hst : A.1 19 o = 1) (h18 : A.1 18 o = nI c0) (hc0 : c0 < nc) (hnr : a_near A 8 c0 nm = none) (g : Int64) (Q : mo_P) (hQ1 : ∀ ν', r_at r ν' (a_I (a_I (a_b0 A) 39 0 (nI 1)) 37 0 1) → r_fc r ν ν' → Q (some (.int (-10 - 1))) ν') : mo_M (d + 11) 113 [.ref r, .int (nI o), .int (nI nm), .long g] ν Q := by
  have hs' := h.1
  unfold r_sh at hs'
  have H := r_rd h
  have kn := fun Q => R_isN (d := d + 9) (μ := ν) (nI nm) Q
  rw [mo_b_t (vp_in_nI hnm (by decide))] at kn
  have w1 : (nI o < 0) = False := i_ng (by omega)
  have w2 : (nI o < nI no) = True := i_lt ho (by omega)
  have w3 : vp_in (nI o) 100 := vp_in_nI (by omega) (by decide)
  have w4 : (nI o).toNatClampNeg = o := nI_clamp (by omega)
  obtain ⟨hb, hfb⟩ := r_b0 h
  have kb : ∀ Q, mo_M (d + 10) 111 [.ref r] ν Q = Q none (m_b0 r ν) := fun Q => R_begin (d := d + 9) h.1 Q
  obtain ⟨e1, e2, e27, e37, e38, e39, e40, e41, e42, e43, e36⟩ := b0A A
  have Hb := r_rd hb
  have hsb := hb.1
  unfold r_sh at hsb
  have hlk : a_lk A (a_b0 A) := fun j hj => ⟨e1 j (by simp only [List.mem_cons, List.mem_nil_iff, or_false]; omega), e2 j (by omega)⟩
  have kr := fun Q => R_near (d := d + 9) (c := c0) (nm := nm) (A := a_b0 A) hb.1 Hb.2.2.2.2.2.2.2.2.2.2.2.1 Hb.2.2.2.2.2.2.1 hnc8 (lk_pw hlk hpw) hnm hc0 Q
  rw [lk_near hlk, hnr, a_enc_0] at kr
  have h18b : (a_b0 A).1 18 o = nI c0 := by rw [e1 18 (by decide)]; exact h18
  have kf : ∀ w Q, mo_M (d + 10) 97 [.ref r, .int w] (m_b0 r ν) Q = Q none (mo_wI (mo_wI (m_b0 r ν) 807 r (nI (0 + 1))) 805 r w) := fun w Q => R_fail (d := d + 9) (k := 0) hb.1 (Hb.2.2.2.2.2.2.2.2.2.2.2.2.2.2.2.2.2.2.2.2.2.2.2.2.2.2.2.2.2.2.2.2.2.2.2.2.2.2.2.1.trans e39) (by decide) w Q
  have hr2 : r_at r (mo_wI (mo_wI (m_b0 r ν) 807 r (nI (0 + 1))) 805 r 1) (a_I (a_I (a_b0 A) 39 0 (nI 1)) 37 0 1) := ⟨r_sh_c hb.1 (by simp only [mo_ME]) (by simp only [mo_ME]) (by simp only [mo_ME]), by simp only [r_VW, hb.2]⟩
  have hq := hQ1 _ hr2 (r_fc_I (r_fc_I hfb))
  simp only [we113_0, we113_1, en113, true_and, and_true, if_false, if_true, not_true_eq_false, not_false_eq_true, false_implies, true_implies, implies_true, forall_const, true_or, or_true, false_or, or_false, false_and, and_false, eq_self_iff_true, Option.toList_some, Option.toList_none, List.cons_append, List.nil_append, mo_cat_0, mo_cat_c, mo_ct_i, mo_ct_l, mo_ct_r, mo_ct_n, mo_ct_f, Nat.zero_le, Nat.reduceAdd, Nat.reduceLeDiff, Nat.reduceLT, Nat.reduceEqDiff, Nat.reduceSub, mo_rf_s, mo_rf_n, reduceCtorEq, mo_st, mo_st2, mo_lg_0, mo_lg_s, List.set_cons_zero, List.set_cons_succ, List.length_cons, List.length_nil, List.getElem?_cons_zero, List.getElem?_cons_succ, Nat.reduceBEq, Bool.false_eq_true, beq_self_eq_true, hs', H, hob, w1, w2, w3, w4, kn, hst, kb, hsb, Hb, h18b, kr, kf, mo_LC, mo_ME, mo_u_a, mo_z_a, mo_y_a, Nat.add_left_cancel_iff]
  have hs2 := hr2.1
  unfold r_sh at hs2
  have H2 := r_rd hr2
  have g0 : (nI 0 ≤ 0) = True := i00
  have f1 : (a_I (a_I (a_b0 A) 39 0 (nI 1)) 37 0 1).1 27 0 = nI 0 := by rw [a_I_n (by decide), a_I_n (by decide)]; exact e27
  have f2 : (a_I (a_I (a_b0 A) 39 0 (nI 1)) 37 0 1).1 37 0 = 1 := by rw [a_I_1, if_pos ⟨rfl, rfl⟩]
  simp only [Nat.zero_add] at hs2 H2 hq ⊢
  generalize mo_wI (mo_wI (m_b0 r ν) 807 r (nI 1)) 805 r 1 = ν2 at *
  rw [wh113_88.1]
  simp only [we113_0, we113_1, en113, true_and, and_true, if_false, if_true, not_true_eq_false, not_false_eq_true, false_implies, true_implies, implies_true, forall_const, true_or, or_true, false_or, or_false, false_and, and_false, eq_self_iff_true, Option.toList_some, Option.toList_none, List.cons_append, List.nil_append, mo_cat_0, mo_cat_c, mo_ct_i, mo_ct_l, mo_ct_r, mo_ct_n, mo_ct_f, Nat.zero_le, Nat.reduceAdd, Nat.reduceLeDiff, Nat.reduceLT, Nat.reduceEqDiff, Nat.reduceSub, mo_rf_s, mo_rf_n, reduceCtorEq, mo_st, mo_st2, mo_lg_0, mo_lg_s, List.set_cons_zero, List.set_cons_succ, List.length_cons, List.length_nil, List.getElem?_cons_zero, List.getElem?_cons_succ, Nat.reduceBEq, Bool.false_eq_true, beq_self_eq_true, hs2, H2, f1, f2, g0, mo_LC, mo_ME, mo_u_a, mo_z_a, mo_y_a, Nat.add_left_cancel_iff]
  exact hq
