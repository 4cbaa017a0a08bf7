theorem div2e {n : Nat} (h : 2 * n < 2 ^ 31) : nI (2 * n) / 2 = nI n := by
  have := pk_div (a := 2 * n) (d := 2) h (by decide) (by decide)
  rw [show (2 : Int32) = nI 2 from rfl, this]
  congr 1
  omega
theorem div2o {n : Nat} (h : 2 * n + 1 < 2 ^ 31) : nI (2 * n + 1) / 2 = nI n := by
  have := pk_div (a := 2 * n + 1) (d := 2) h (by decide) (by decide)
  rw [show (2 : Int32) = nI 2 from rfl, this]
  congr 1
  omega
theorem rem2e {n : Nat} (h : 2 * n < 2 ^ 31) : nI (2 * n) - nI n * 2 = 0 := by
  rw [show (2 : Int32) = nI 2 from rfl, pk_mul, pk_sub (by omega), show 2 * n - n * 2 = 0 by omega]
  rfl
theorem rem2o {n : Nat} (h : 2 * n + 1 < 2 ^ 31) : nI (2 * n + 1) - nI n * 2 = 1 := by
  rw [show (2 : Int32) = nI 2 from rfl, pk_mul, pk_sub (by omega), show 2 * n + 1 - n * 2 = 1 by omega]
  rfl
set_option maxRecDepth 100000 in
set_option maxHeartbeats 1000000 in
theorem S_L_try {r f : Nat} {A : mo_A} {e b tk : Nat} (hf : A.1 27 0 = nI (f + 1)) (hlt : f < 399) (hfl : ¬ A.1 37 0 = 0) (hk : A.1 28 f = 0) (he : A.1 29 f = nI e) (hel : e < 60) (hsrt : A.1 1 e = 10) (hst : A.1 30 f = 1) (h8 : ¬ A.1 37 0 = 8) (htk : A.1 43 0 = nI tk) (hb : A.1 40 0 = nI b) (hb3 : b < 300) : r_S r A (a_push (a_I (a_I (a_I (a_I A 37 0 0) 43 0 (nI (tk + 1))) 30 f 2) 40 0 (nI (b + 1))) (f + 1) 0 (A.1 4 e) (A.1 32 f) (A.1 31 f) (A.2 34 f)) := by
  intro μ h d Q kQ
  have hs := h.1
  have hs' := h.1
  unfold r_sh at hs'
  have hvw := h.2
  have H := r_rd h
  have hv : vp_in (nI f) 400 := vp_in_nI (by omega) (by decide)
  have hc : (nI f).toNatClampNeg = f := nI_clamp (by omega)
  have hve : vp_in (nI e) 60 := vp_in_nI hel (by decide)
  have hce : (nI e).toNatClampNeg = e := nI_clamp (by omega)
  have hW := fun d e Q => R_work (d := d) (μ := (mo_wAI (mo_wI (mo_wI μ 805 r 0) 811 r (nI (tk + 1))) (r + 25) f 2)) (t := f + 1) (f := f) (b := b) (r_sh_c hs (by simp only [mo_ME]) (by simp only [mo_ME]) (by simp only [mo_ME])) (by simp only [mo_ME, mo_u_a, Nat.reduceEqDiff, false_and, if_false]; exact (r_rdI h 27 rfl).trans hf) (by omega) (by simp only [mo_ME, mo_u_a, Nat.reduceEqDiff, false_and, if_false]; exact (r_rdI h 40 rfl).trans hb) hb3 (by omega) e Q
  simp only [we99_0, we99_1, we100_0, we100_1, we100_2, en99, en100, true_and, and_true, if_false, if_true, not_true_eq_false, not_false_eq_true, false_implies, true_implies, implies_true, forall_const, true_or, or_true, false_or, or_false, false_and, and_false, eq_self_iff_true, Option.toList_some, Option.toList_none, List.cons_append, List.nil_append, mo_cat_0, mo_cat_c, mo_ct_i, mo_ct_l, mo_ct_r, mo_ct_n, mo_ct_f, Nat.zero_le, Nat.reduceAdd, Nat.reduceLeDiff, Nat.reduceLT, Nat.reduceEqDiff, Nat.reduceSub, mo_rf_s, mo_rf_n, reduceCtorEq, mo_st, mo_st2, mo_lg_0, mo_lg_s, List.set_cons_zero, List.set_cons_succ, List.length_cons, List.length_nil, List.getElem?_cons_zero, List.getElem?_cons_succ, Nat.reduceBEq, Bool.false_eq_true, beq_self_eq_true, mo_ME, mo_u_a, mo_z_a, mo_y_a, Nat.add_left_cancel_iff, mo_TSW, hs', H, hf, nI_1, nI_pred, mo_LC, Int32.reduceLT, Int32.reduceLE, i01, i12, i23, i34, hv, hc, hfl, hk, he, hve, hce, hsrt, hst, h8, htk, hW]
  refine kQ _ ⟨r_sh_c hs (by simp only [m_push, mo_ME]) (by simp only [m_push, mo_ME]) (by simp only [m_push, mo_ME]), ?_⟩ ?_
  · simp only [r_vw_push, r_VW, hvw]
  · repeat (first | with_reducible exact r_fc_rf _ _ | with_reducible refine r_fc_push ?_ | with_reducible refine r_fc_I ?_ | with_reducible refine r_fc_L ?_ | with_reducible refine r_fc_AI (by decide) ?_ | with_reducible refine r_fc_AL (by decide) ?_)
set_option maxRecDepth 100000 in
set_option maxHeartbeats 1000000 in
theorem S_L_tryS {r f : Nat} {A : mo_A} {e tk : Nat} (hf : A.1 27 0 = nI (f + 1)) (hlt : f < 399) (hfl : ¬ A.1 37 0 = 0) (hk : A.1 28 f = 0) (he : A.1 29 f = nI e) (hel : e < 60) (hsrt : A.1 1 e = 10) (hst : A.1 30 f = 1) (h8 : ¬ A.1 37 0 = 8) (htk : A.1 43 0 = nI tk) (hb : A.1 40 0 = 300) : r_S r A (a_I (a_I (a_I (a_I A 37 0 0) 43 0 (nI (tk + 1))) 30 f 2) 37 0 8) := by
  intro μ h d Q kQ
  have hs := h.1
  have hs' := h.1
  unfold r_sh at hs'
  have hvw := h.2
  have H := r_rd h
  have hv : vp_in (nI f) 400 := vp_in_nI (by omega) (by decide)
  have hc : (nI f).toNatClampNeg = f := nI_clamp (by omega)
  have hve : vp_in (nI e) 60 := vp_in_nI hel (by decide)
  have hce : (nI e).toNatClampNeg = e := nI_clamp (by omega)
  have hW := fun d e x Q => R_workS (d := d) (μ := (mo_wAI (mo_wI (mo_wI μ 805 r 0) 811 r (nI (tk + 1))) (r + 25) f 2)) (r_sh_c hs (by simp only [mo_ME]) (by simp only [mo_ME]) (by simp only [mo_ME])) (by simp only [mo_ME, mo_u_a, Nat.reduceEqDiff, false_and, if_false]; exact (r_rdI h 40 rfl).trans hb) e x Q
  simp only [we99_0, we99_1, we100_0, we100_1, we100_2, en99, en100, true_and, and_true, if_false, if_true, not_true_eq_false, not_false_eq_true, false_implies, true_implies, implies_true, forall_const, true_or, or_true, false_or, or_false, false_and, and_false, eq_self_iff_true, Option.toList_some, Option.toList_none, List.cons_append, List.nil_append, mo_cat_0, mo_cat_c, mo_ct_i, mo_ct_l, mo_ct_r, mo_ct_n, mo_ct_f, Nat.zero_le, Nat.reduceAdd, Nat.reduceLeDiff, Nat.reduceLT, Nat.reduceEqDiff, Nat.reduceSub, mo_rf_s, mo_rf_n, reduceCtorEq, mo_st, mo_st2, mo_lg_0, mo_lg_s, List.set_cons_zero, List.set_cons_succ, List.length_cons, List.length_nil, List.getElem?_cons_zero, List.getElem?_cons_succ, Nat.reduceBEq, Bool.false_eq_true, beq_self_eq_true, mo_ME, mo_u_a, mo_z_a, mo_y_a, Nat.add_left_cancel_iff, mo_TSW, hs', H, hf, nI_1, nI_pred, mo_LC, Int32.reduceLT, Int32.reduceLE, i01, i12, i23, i34, hv, hc, hfl, hk, he, hve, hce, hsrt, hst, h8, htk, hW]
  refine kQ _ ⟨r_sh_c hs (by simp only [m_push, mo_ME]) (by simp only [m_push, mo_ME]) (by simp only [m_push, mo_ME]), ?_⟩ ?_
  · simp only [r_vw_push, r_VW, hvw]
  · repeat (first | with_reducible exact r_fc_rf _ _ | with_reducible refine r_fc_push ?_ | with_reducible refine r_fc_I ?_ | with_reducible refine r_fc_L ?_ | with_reducible refine r_fc_AI (by decide) ?_ | with_reducible refine r_fc_AL (by decide) ?_)
set_option maxRecDepth 100000 in
set_option maxHeartbeats 1000000 in
theorem S_L_popA {r f : Nat} {A : mo_A} {e : Nat} (hf : A.1 27 0 = nI (f + 1)) (hlt : f < 399) (hfl : ¬ A.1 37 0 = 0) (hk : A.1 28 f = 0) (he : A.1 29 f = nI e) (hel : e < 60) (hsrt : ¬ A.1 1 e = 10) : r_S r A (a_I A 27 0 (nI f)) := by
  intro μ h d Q kQ
  have hs := h.1
  have hs' := h.1
  unfold r_sh at hs'
  have hvw := h.2
  have H := r_rd h
  have hv : vp_in (nI f) 400 := vp_in_nI (by omega) (by decide)
  have hc : (nI f).toNatClampNeg = f := nI_clamp (by omega)
  have hve : vp_in (nI e) 60 := vp_in_nI hel (by decide)
  have hce : (nI e).toNatClampNeg = e := nI_clamp (by omega)
  simp only [we99_0, we99_1, we100_0, we100_1, we100_2, en99, en100, true_and, and_true, if_false, if_true, not_true_eq_false, not_false_eq_true, false_implies, true_implies, implies_true, forall_const, true_or, or_true, false_or, or_false, false_and, and_false, eq_self_iff_true, Option.toList_some, Option.toList_none, List.cons_append, List.nil_append, mo_cat_0, mo_cat_c, mo_ct_i, mo_ct_l, mo_ct_r, mo_ct_n, mo_ct_f, Nat.zero_le, Nat.reduceAdd, Nat.reduceLeDiff, Nat.reduceLT, Nat.reduceEqDiff, Nat.reduceSub, mo_rf_s, mo_rf_n, reduceCtorEq, mo_st, mo_st2, mo_lg_0, mo_lg_s, List.set_cons_zero, List.set_cons_succ, List.length_cons, List.length_nil, List.getElem?_cons_zero, List.getElem?_cons_succ, Nat.reduceBEq, Bool.false_eq_true, beq_self_eq_true, mo_ME, mo_u_a, mo_z_a, mo_y_a, Nat.add_left_cancel_iff, mo_TSW, hs', H, hf, nI_1, nI_pred, mo_LC, Int32.reduceLT, Int32.reduceLE, i01, i12, i23, i34, hv, hc, hfl, hk, he, hve, hce, hsrt]
  refine kQ _ ⟨r_sh_c hs (by simp only [m_push, mo_ME]) (by simp only [m_push, mo_ME]) (by simp only [m_push, mo_ME]), ?_⟩ ?_
  · simp only [r_vw_push, r_VW, hvw]
  · repeat (first | with_reducible exact r_fc_rf _ _ | with_reducible refine r_fc_push ?_ | with_reducible refine r_fc_I ?_ | with_reducible refine r_fc_L ?_ | with_reducible refine r_fc_AI (by decide) ?_ | with_reducible refine r_fc_AL (by decide) ?_)
set_option maxRecDepth 100000 in
set_option maxHeartbeats 1000000 in
theorem S_L_popB {r f : Nat} {A : mo_A} {e : Nat} (hf : A.1 27 0 = nI (f + 1)) (hlt : f < 399) (hfl : ¬ A.1 37 0 = 0) (hk : A.1 28 f = 0) (he : A.1 29 f = nI e) (hel : e < 60) (hsrt : A.1 1 e = 10) (hst : ¬ A.1 30 f = 1) : r_S r A (a_I A 27 0 (nI f)) := by
  intro μ h d Q kQ
  have hs := h.1
  have hs' := h.1
  unfold r_sh at hs'
  have hvw := h.2
  have H := r_rd h
  have hv : vp_in (nI f) 400 := vp_in_nI (by omega) (by decide)
  have hc : (nI f).toNatClampNeg = f := nI_clamp (by omega)
  have hve : vp_in (nI e) 60 := vp_in_nI hel (by decide)
  have hce : (nI e).toNatClampNeg = e := nI_clamp (by omega)
  simp only [we99_0, we99_1, we100_0, we100_1, we100_2, en99, en100, true_and, and_true, if_false, if_true, not_true_eq_false, not_false_eq_true, false_implies, true_implies, implies_true, forall_const, true_or, or_true, false_or, or_false, false_and, and_false, eq_self_iff_true, Option.toList_some, Option.toList_none, List.cons_append, List.nil_append, mo_cat_0, mo_cat_c, mo_ct_i, mo_ct_l, mo_ct_r, mo_ct_n, mo_ct_f, Nat.zero_le, Nat.reduceAdd, Nat.reduceLeDiff, Nat.reduceLT, Nat.reduceEqDiff, Nat.reduceSub, mo_rf_s, mo_rf_n, reduceCtorEq, mo_st, mo_st2, mo_lg_0, mo_lg_s, List.set_cons_zero, List.set_cons_succ, List.length_cons, List.length_nil, List.getElem?_cons_zero, List.getElem?_cons_succ, Nat.reduceBEq, Bool.false_eq_true, beq_self_eq_true, mo_ME, mo_u_a, mo_z_a, mo_y_a, Nat.add_left_cancel_iff, mo_TSW, hs', H, hf, nI_1, nI_pred, mo_LC, Int32.reduceLT, Int32.reduceLE, i01, i12, i23, i34, hv, hc, hfl, hk, he, hve, hce, hsrt, hst]
  refine kQ _ ⟨r_sh_c hs (by simp only [m_push, mo_ME]) (by simp only [m_push, mo_ME]) (by simp only [m_push, mo_ME]), ?_⟩ ?_
  · simp only [r_vw_push, r_VW, hvw]
  · repeat (first | with_reducible exact r_fc_rf _ _ | with_reducible refine r_fc_push ?_ | with_reducible refine r_fc_I ?_ | with_reducible refine r_fc_L ?_ | with_reducible refine r_fc_AI (by decide) ?_ | with_reducible refine r_fc_AL (by decide) ?_)
set_option maxRecDepth 100000 in
set_option maxHeartbeats 1000000 in
theorem S_L_popC {r f : Nat} {A : mo_A} {e : Nat} (hf : A.1 27 0 = nI (f + 1)) (hlt : f < 399) (hfl : A.1 37 0 = 8) (hk : A.1 28 f = 0) (he : A.1 29 f = nI e) (hel : e < 60) (hsrt : A.1 1 e = 10) (hst : A.1 30 f = 1) : r_S r A (a_I A 27 0 (nI f)) := by
  intro μ h d Q kQ
  have hs := h.1
  have hs' := h.1
  unfold r_sh at hs'
  have hvw := h.2
  have H := r_rd h
  have hv : vp_in (nI f) 400 := vp_in_nI (by omega) (by decide)
  have hc : (nI f).toNatClampNeg = f := nI_clamp (by omega)
  have hve : vp_in (nI e) 60 := vp_in_nI hel (by decide)
  have hce : (nI e).toNatClampNeg = e := nI_clamp (by omega)
  simp only [we99_0, we99_1, we100_0, we100_1, we100_2, en99, en100, true_and, and_true, if_false, if_true, not_true_eq_false, not_false_eq_true, false_implies, true_implies, implies_true, forall_const, true_or, or_true, false_or, or_false, false_and, and_false, eq_self_iff_true, Option.toList_some, Option.toList_none, List.cons_append, List.nil_append, mo_cat_0, mo_cat_c, mo_ct_i, mo_ct_l, mo_ct_r, mo_ct_n, mo_ct_f, Nat.zero_le, Nat.reduceAdd, Nat.reduceLeDiff, Nat.reduceLT, Nat.reduceEqDiff, Nat.reduceSub, mo_rf_s, mo_rf_n, reduceCtorEq, mo_st, mo_st2, mo_lg_0, mo_lg_s, List.set_cons_zero, List.set_cons_succ, List.length_cons, List.length_nil, List.getElem?_cons_zero, List.getElem?_cons_succ, Nat.reduceBEq, Bool.false_eq_true, beq_self_eq_true, mo_ME, mo_u_a, mo_z_a, mo_y_a, Nat.add_left_cancel_iff, mo_TSW, hs', H, hf, nI_1, nI_pred, mo_LC, Int32.reduceLT, Int32.reduceLE, i01, i12, i23, i34, hv, hc, hfl, hk, he, hve, hce, hsrt, hst]
  refine kQ _ ⟨r_sh_c hs (by simp only [m_push, mo_ME]) (by simp only [m_push, mo_ME]) (by simp only [m_push, mo_ME]), ?_⟩ ?_
  · simp only [r_vw_push, r_VW, hvw]
  · repeat (first | with_reducible exact r_fc_rf _ _ | with_reducible refine r_fc_push ?_ | with_reducible refine r_fc_I ?_ | with_reducible refine r_fc_L ?_ | with_reducible refine r_fc_AI (by decide) ?_ | with_reducible refine r_fc_AL (by decide) ?_)
set_option maxRecDepth 100000 in
set_option maxHeartbeats 1000000 in
theorem S_L_end {r f : Nat} {A : mo_A} {u n : Nat} (hf : A.1 27 0 = nI (f + 1)) (hlt : f < 399) (hfl : ¬ A.1 37 0 = 0) (hk : ¬ A.1 28 f = 0) (hw : A.1 35 f = 0) (hu : A.1 38 0 = nI (u + 1)) (hn : A.1 42 0 = nI n) : r_S r A (a_I (a_I (a_I A 38 0 (nI u)) 42 0 (nI (n + 1))) 27 0 (nI f)) := by
  intro μ h d Q kQ
  have hs := h.1
  have hs' := h.1
  unfold r_sh at hs'
  have hvw := h.2
  have H := r_rd h
  have hv : vp_in (nI f) 400 := vp_in_nI (by omega) (by decide)
  have hc : (nI f).toNatClampNeg = f := nI_clamp (by omega)
  have hW := fun d x Q => R_end (d := d) (μ := μ) (u := u) (n := n) (t := f) hs ((r_rdI h 38 rfl).trans hu) ((r_rdI h 42 rfl).trans hn) ((r_rdI h 27 rfl).trans hf) x Q
  simp only [we99_0, we99_1, we100_0, we100_1, we100_2, en99, en100, true_and, and_true, if_false, if_true, not_true_eq_false, not_false_eq_true, false_implies, true_implies, implies_true, forall_const, true_or, or_true, false_or, or_false, false_and, and_false, eq_self_iff_true, Option.toList_some, Option.toList_none, List.cons_append, List.nil_append, mo_cat_0, mo_cat_c, mo_ct_i, mo_ct_l, mo_ct_r, mo_ct_n, mo_ct_f, Nat.zero_le, Nat.reduceAdd, Nat.reduceLeDiff, Nat.reduceLT, Nat.reduceEqDiff, Nat.reduceSub, mo_rf_s, mo_rf_n, reduceCtorEq, mo_st, mo_st2, mo_lg_0, mo_lg_s, List.set_cons_zero, List.set_cons_succ, List.length_cons, List.length_nil, List.getElem?_cons_zero, List.getElem?_cons_succ, Nat.reduceBEq, Bool.false_eq_true, beq_self_eq_true, mo_ME, mo_u_a, mo_z_a, mo_y_a, Nat.add_left_cancel_iff, mo_TSW, hs', H, hf, nI_1, nI_pred, mo_LC, Int32.reduceLT, Int32.reduceLE, i01, i12, i23, i34, hv, hc, hfl, hk, hw, hW]
  refine kQ _ ⟨r_sh_c hs (by simp only [m_push, mo_ME]) (by simp only [m_push, mo_ME]) (by simp only [m_push, mo_ME]), ?_⟩ ?_
  · simp only [r_vw_push, r_VW, hvw]
  · repeat (first | with_reducible exact r_fc_rf _ _ | with_reducible refine r_fc_push ?_ | with_reducible refine r_fc_I ?_ | with_reducible refine r_fc_L ?_ | with_reducible refine r_fc_AI (by decide) ?_ | with_reducible refine r_fc_AL (by decide) ?_)
set_option maxRecDepth 100000 in
set_option maxHeartbeats 1000000 in
theorem S_L_endO {r f : Nat} {A : mo_A} {u n p : Nat} (hf : A.1 27 0 = nI (f + 1)) (hlt : f < 399) (hfl : ¬ A.1 37 0 = 0) (hk : ¬ A.1 28 f = 0) (hw : A.1 35 f = 1) (hob : A.1 32 f = nI p) (hpl : p < 100) (hu : A.1 38 0 = nI (u + 1)) (hn : A.1 42 0 = nI n) : r_S r A (a_I (a_I (a_I (a_I A 38 0 (nI u)) 42 0 (nI (n + 1))) 27 0 (nI f)) 19 p 2) := by
  intro μ h d Q kQ
  have hs := h.1
  have hs' := h.1
  unfold r_sh at hs'
  have hvw := h.2
  have H := r_rd h
  have hv : vp_in (nI f) 400 := vp_in_nI (by omega) (by decide)
  have hc : (nI f).toNatClampNeg = f := nI_clamp (by omega)
  have hvp : vp_in (nI p) 100 := vp_in_nI hpl (by decide)
  have hcp : (nI p).toNatClampNeg = p := nI_clamp (by omega)
  have hW := fun d x Q => R_end (d := d) (μ := μ) (u := u) (n := n) (t := f) hs ((r_rdI h 38 rfl).trans hu) ((r_rdI h 42 rfl).trans hn) ((r_rdI h 27 rfl).trans hf) x Q
  simp only [we99_0, we99_1, we100_0, we100_1, we100_2, en99, en100, true_and, and_true, if_false, if_true, not_true_eq_false, not_false_eq_true, false_implies, true_implies, implies_true, forall_const, true_or, or_true, false_or, or_false, false_and, and_false, eq_self_iff_true, Option.toList_some, Option.toList_none, List.cons_append, List.nil_append, mo_cat_0, mo_cat_c, mo_ct_i, mo_ct_l, mo_ct_r, mo_ct_n, mo_ct_f, Nat.zero_le, Nat.reduceAdd, Nat.reduceLeDiff, Nat.reduceLT, Nat.reduceEqDiff, Nat.reduceSub, mo_rf_s, mo_rf_n, reduceCtorEq, mo_st, mo_st2, mo_lg_0, mo_lg_s, List.set_cons_zero, List.set_cons_succ, List.length_cons, List.length_nil, List.getElem?_cons_zero, List.getElem?_cons_succ, Nat.reduceBEq, Bool.false_eq_true, beq_self_eq_true, mo_ME, mo_u_a, mo_z_a, mo_y_a, Nat.add_left_cancel_iff, mo_TSW, hs', H, hf, nI_1, nI_pred, mo_LC, Int32.reduceLT, Int32.reduceLE, i01, i12, i23, i34, hv, hc, hfl, hk, hw, hob, hvp, hcp, hW]
  refine kQ _ ⟨r_sh_c hs (by simp only [m_push, mo_ME]) (by simp only [m_push, mo_ME]) (by simp only [m_push, mo_ME]), ?_⟩ ?_
  · simp only [r_vw_push, r_VW, hvw]
  · repeat (first | with_reducible exact r_fc_rf _ _ | with_reducible refine r_fc_push ?_ | with_reducible refine r_fc_I ?_ | with_reducible refine r_fc_L ?_ | with_reducible refine r_fc_AI (by decide) ?_ | with_reducible refine r_fc_AL (by decide) ?_)
set_option maxRecDepth 100000 in
set_option maxHeartbeats 1000000 in
theorem S_M0a {r f : Nat} {A : mo_A} {c : Nat} (hf : A.1 27 0 = nI (f + 1)) (hlt : f < 399) (h0 : A.1 37 0 = 0) (hk : A.1 28 f = 1) (hco : A.1 31 f = nI c) (hcl : c < 8) (hst : A.1 30 f = 0) (hp : A.1 6 c = -1) : r_S r A (a_L (a_I A 30 f 2) 36 0 0) := by
  intro μ h d Q kQ
  have hs := h.1
  have hs' := h.1
  unfold r_sh at hs'
  have hvw := h.2
  have H := r_rd h
  have hv : vp_in (nI f) 400 := vp_in_nI (by omega) (by decide)
  have hc : (nI f).toNatClampNeg = f := nI_clamp (by omega)
  have hvc : vp_in (nI c) 8 := vp_in_nI hcl (by decide)
  have hcc : (nI c).toNatClampNeg = c := nI_clamp (by omega)
  simp only [we99_0, we99_1, we108_0, we108_1, we108_2, we108_3, en99, en108, true_and, and_true, if_false, if_true, not_true_eq_false, not_false_eq_true, false_implies, true_implies, implies_true, forall_const, true_or, or_true, false_or, or_false, false_and, and_false, eq_self_iff_true, Option.toList_some, Option.toList_none, List.cons_append, List.nil_append, mo_cat_0, mo_cat_c, mo_ct_i, mo_ct_l, mo_ct_r, mo_ct_n, mo_ct_f, Nat.zero_le, Nat.reduceAdd, Nat.reduceLeDiff, Nat.reduceLT, Nat.reduceEqDiff, Nat.reduceSub, mo_rf_s, mo_rf_n, reduceCtorEq, mo_st, mo_st2, mo_lg_0, mo_lg_s, List.set_cons_zero, List.set_cons_succ, List.length_cons, List.length_nil, List.getElem?_cons_zero, List.getElem?_cons_succ, Nat.reduceBEq, Bool.false_eq_true, beq_self_eq_true, mo_ME, mo_u_a, mo_z_a, mo_y_a, Nat.add_left_cancel_iff, mo_TSW, hs', H, hf, nI_1, nI_pred, mo_LC, Int32.reduceLT, Int32.reduceLE, i01, i12, i23, i34, hv, hc, h0, hk, hco, hvc, hcc, hst, hp]
  refine kQ _ ⟨r_sh_c hs (by simp only [m_push, mo_ME]) (by simp only [m_push, mo_ME]) (by simp only [m_push, mo_ME]), ?_⟩ ?_
  · simp only [r_vw_push, r_VW, hvw]
  · repeat (first | with_reducible exact r_fc_rf _ _ | with_reducible refine r_fc_push ?_ | with_reducible refine r_fc_I ?_ | with_reducible refine r_fc_L ?_ | with_reducible refine r_fc_AI (by decide) ?_ | with_reducible refine r_fc_AL (by decide) ?_)
set_option maxRecDepth 100000 in
set_option maxHeartbeats 1000000 in
theorem S_M0b {r f : Nat} {A : mo_A} {c b : Nat} (hf : A.1 27 0 = nI (f + 1)) (hlt : f < 399) (h0 : A.1 37 0 = 0) (hk : A.1 28 f = 1) (hco : A.1 31 f = nI c) (hcl : c < 8) (hst : A.1 30 f = 0) (hp : ¬ A.1 6 c = -1) (hps : ¬ A.1 9 c = -1) (hb : A.1 40 0 = nI b) (hb3 : b < 300) : r_S r A (a_push (a_I (a_L (a_I A 30 f 1) 36 0 0) 40 0 (nI (b + 1))) (f + 1) 0 (A.1 9 c) (A.1 32 f) (nI c) (A.2 34 f)) := by
  intro μ h d Q kQ
  have hs := h.1
  have hs' := h.1
  unfold r_sh at hs'
  have hvw := h.2
  have H := r_rd h
  have hv : vp_in (nI f) 400 := vp_in_nI (by omega) (by decide)
  have hc : (nI f).toNatClampNeg = f := nI_clamp (by omega)
  have hvc : vp_in (nI c) 8 := vp_in_nI hcl (by decide)
  have hcc : (nI c).toNatClampNeg = c := nI_clamp (by omega)
  have hW := fun d e Q => R_work (d := d) (μ := (mo_wL (mo_wAI μ (r + 25) f 1) 804 r 0)) (t := f + 1) (f := f) (b := b) (r_sh_c hs (by simp only [mo_ME]) (by simp only [mo_ME]) (by simp only [mo_ME])) (by simp only [mo_ME, mo_u_a, Nat.reduceEqDiff, false_and, if_false]; exact (r_rdI h 27 rfl).trans hf) (by omega) (by simp only [mo_ME, mo_u_a, Nat.reduceEqDiff, false_and, if_false]; exact (r_rdI h 40 rfl).trans hb) hb3 (by omega) e Q
  simp only [we99_0, we99_1, we108_0, we108_1, we108_2, we108_3, en99, en108, true_and, and_true, if_false, if_true, not_true_eq_false, not_false_eq_true, false_implies, true_implies, implies_true, forall_const, true_or, or_true, false_or, or_false, false_and, and_false, eq_self_iff_true, Option.toList_some, Option.toList_none, List.cons_append, List.nil_append, mo_cat_0, mo_cat_c, mo_ct_i, mo_ct_l, mo_ct_r, mo_ct_n, mo_ct_f, Nat.zero_le, Nat.reduceAdd, Nat.reduceLeDiff, Nat.reduceLT, Nat.reduceEqDiff, Nat.reduceSub, mo_rf_s, mo_rf_n, reduceCtorEq, mo_st, mo_st2, mo_lg_0, mo_lg_s, List.set_cons_zero, List.set_cons_succ, List.length_cons, List.length_nil, List.getElem?_cons_zero, List.getElem?_cons_succ, Nat.reduceBEq, Bool.false_eq_true, beq_self_eq_true, mo_ME, mo_u_a, mo_z_a, mo_y_a, Nat.add_left_cancel_iff, mo_TSW, hs', H, hf, nI_1, nI_pred, mo_LC, Int32.reduceLT, Int32.reduceLE, i01, i12, i23, i34, hv, hc, h0, hk, hco, hvc, hcc, hst, hp, hps, hW]
  refine kQ _ ⟨r_sh_c hs (by simp only [m_push, mo_ME]) (by simp only [m_push, mo_ME]) (by simp only [m_push, mo_ME]), ?_⟩ ?_
  · simp only [r_vw_push, r_VW, hvw]
  · repeat (first | with_reducible exact r_fc_rf _ _ | with_reducible refine r_fc_push ?_ | with_reducible refine r_fc_I ?_ | with_reducible refine r_fc_L ?_ | with_reducible refine r_fc_AI (by decide) ?_ | with_reducible refine r_fc_AL (by decide) ?_)
set_option maxRecDepth 100000 in
set_option maxHeartbeats 1000000 in
theorem S_M0bS {r f : Nat} {A : mo_A} {c : Nat} (hf : A.1 27 0 = nI (f + 1)) (hlt : f < 399) (h0 : A.1 37 0 = 0) (hk : A.1 28 f = 1) (hco : A.1 31 f = nI c) (hcl : c < 8) (hst : A.1 30 f = 0) (hp : ¬ A.1 6 c = -1) (hps : ¬ A.1 9 c = -1) (hb : A.1 40 0 = 300) : r_S r A (a_I (a_L (a_I A 30 f 1) 36 0 0) 37 0 8) := by
  intro μ h d Q kQ
  have hs := h.1
  have hs' := h.1
  unfold r_sh at hs'
  have hvw := h.2
  have H := r_rd h
  have hv : vp_in (nI f) 400 := vp_in_nI (by omega) (by decide)
  have hc : (nI f).toNatClampNeg = f := nI_clamp (by omega)
  have hvc : vp_in (nI c) 8 := vp_in_nI hcl (by decide)
  have hcc : (nI c).toNatClampNeg = c := nI_clamp (by omega)
  have hW := fun d e x Q => R_workS (d := d) (μ := (mo_wL (mo_wAI μ (r + 25) f 1) 804 r 0)) (r_sh_c hs (by simp only [mo_ME]) (by simp only [mo_ME]) (by simp only [mo_ME])) (by simp only [mo_ME, mo_u_a, Nat.reduceEqDiff, false_and, if_false]; exact (r_rdI h 40 rfl).trans hb) e x Q
  simp only [we99_0, we99_1, we108_0, we108_1, we108_2, we108_3, en99, en108, true_and, and_true, if_false, if_true, not_true_eq_false, not_false_eq_true, false_implies, true_implies, implies_true, forall_const, true_or, or_true, false_or, or_false, false_and, and_false, eq_self_iff_true, Option.toList_some, Option.toList_none, List.cons_append, List.nil_append, mo_cat_0, mo_cat_c, mo_ct_i, mo_ct_l, mo_ct_r, mo_ct_n, mo_ct_f, Nat.zero_le, Nat.reduceAdd, Nat.reduceLeDiff, Nat.reduceLT, Nat.reduceEqDiff, Nat.reduceSub, mo_rf_s, mo_rf_n, reduceCtorEq, mo_st, mo_st2, mo_lg_0, mo_lg_s, List.set_cons_zero, List.set_cons_succ, List.length_cons, List.length_nil, List.getElem?_cons_zero, List.getElem?_cons_succ, Nat.reduceBEq, Bool.false_eq_true, beq_self_eq_true, mo_ME, mo_u_a, mo_z_a, mo_y_a, Nat.add_left_cancel_iff, mo_TSW, hs', H, hf, nI_1, nI_pred, mo_LC, Int32.reduceLT, Int32.reduceLE, i01, i12, i23, i34, hv, hc, h0, hk, hco, hvc, hcc, hst, hp, hps, hW]
  refine kQ _ ⟨r_sh_c hs (by simp only [m_push, mo_ME]) (by simp only [m_push, mo_ME]) (by simp only [m_push, mo_ME]), ?_⟩ ?_
  · simp only [r_vw_push, r_VW, hvw]
  · repeat (first | with_reducible exact r_fc_rf _ _ | with_reducible refine r_fc_push ?_ | with_reducible refine r_fc_I ?_ | with_reducible refine r_fc_L ?_ | with_reducible refine r_fc_AI (by decide) ?_ | with_reducible refine r_fc_AL (by decide) ?_)
set_option maxRecDepth 100000 in
set_option maxHeartbeats 1000000 in
theorem S_M0c {r f : Nat} {A : mo_A} {c : Nat} (hf : A.1 27 0 = nI (f + 1)) (hlt : f < 399) (h0 : A.1 37 0 = 0) (hk : A.1 28 f = 1) (hco : A.1 31 f = nI c) (hcl : c < 8) (hst : A.1 30 f = 0) (hp : ¬ A.1 6 c = -1) (hps : A.1 9 c = -1) : r_S r A (a_L (a_I A 30 f 1) 36 0 0) := by
  intro μ h d Q kQ
  have hs := h.1
  have hs' := h.1
  unfold r_sh at hs'
  have hvw := h.2
  have H := r_rd h
  have hv : vp_in (nI f) 400 := vp_in_nI (by omega) (by decide)
  have hc : (nI f).toNatClampNeg = f := nI_clamp (by omega)
  have hvc : vp_in (nI c) 8 := vp_in_nI hcl (by decide)
  have hcc : (nI c).toNatClampNeg = c := nI_clamp (by omega)
  simp only [we99_0, we99_1, we108_0, we108_1, we108_2, we108_3, en99, en108, true_and, and_true, if_false, if_true, not_true_eq_false, not_false_eq_true, false_implies, true_implies, implies_true, forall_const, true_or, or_true, false_or, or_false, false_and, and_false, eq_self_iff_true, Option.toList_some, Option.toList_none, List.cons_append, List.nil_append, mo_cat_0, mo_cat_c, mo_ct_i, mo_ct_l, mo_ct_r, mo_ct_n, mo_ct_f, Nat.zero_le, Nat.reduceAdd, Nat.reduceLeDiff, Nat.reduceLT, Nat.reduceEqDiff, Nat.reduceSub, mo_rf_s, mo_rf_n, reduceCtorEq, mo_st, mo_st2, mo_lg_0, mo_lg_s, List.set_cons_zero, List.set_cons_succ, List.length_cons, List.length_nil, List.getElem?_cons_zero, List.getElem?_cons_succ, Nat.reduceBEq, Bool.false_eq_true, beq_self_eq_true, mo_ME, mo_u_a, mo_z_a, mo_y_a, Nat.add_left_cancel_iff, mo_TSW, hs', H, hf, nI_1, nI_pred, mo_LC, Int32.reduceLT, Int32.reduceLE, i01, i12, i23, i34, hv, hc, h0, hk, hco, hvc, hcc, hst, hp, hps]
  refine kQ _ ⟨r_sh_c hs (by simp only [m_push, mo_ME]) (by simp only [m_push, mo_ME]) (by simp only [m_push, mo_ME]), ?_⟩ ?_
  · simp only [r_vw_push, r_VW, hvw]
  · repeat (first | with_reducible exact r_fc_rf _ _ | with_reducible refine r_fc_push ?_ | with_reducible refine r_fc_I ?_ | with_reducible refine r_fc_L ?_ | with_reducible refine r_fc_AI (by decide) ?_ | with_reducible refine r_fc_AL (by decide) ?_)
set_option maxRecDepth 100000 in
set_option maxHeartbeats 1000000 in
theorem S_F_done {r f : Nat} {A : mo_A} {c k : Nat} (hf : A.1 27 0 = nI (f + 1)) (hlt : f < 399) (h0 : A.1 37 0 = 0) (hk : A.1 28 f = 1) (hco : A.1 31 f = nI c) (hcl : c < 8) (hkl : k < 4) (hst : A.1 30 f = nI (2 * k + 2)) (hfd : ¬ nI k < A.1 8 c) : r_S r A (a_I A 30 f 10) := by
  intro μ h d Q kQ
  have hs := h.1
  have hs' := h.1
  unfold r_sh at hs'
  have hvw := h.2
  have H := r_rd h
  have hv : vp_in (nI f) 400 := vp_in_nI (by omega) (by decide)
  have hc : (nI f).toNatClampNeg = f := nI_clamp (by omega)
  have hvc : vp_in (nI c) 8 := vp_in_nI hcl (by decide)
  have hcc : (nI c).toNatClampNeg = c := nI_clamp (by omega)
  have e0 : (nI (2 * k + 2) = 0) = False := by rw [show (0 : Int32) = nI 0 from rfl, nI_inj (by omega) (by decide)]; simp
  have e1 : (nI (2 * k + 2) = 1) = False := by rw [show (1 : Int32) = nI 1 from rfl, nI_inj (by omega) (by decide)]; simp
  have e2 : (10 ≤ nI (2 * k + 2)) = False := by rw [show (10 : Int32) = nI 10 from rfl, propext (nI_leI (by decide) (by omega))]; simp; omega
  have e3 : nI (2 * k + 2) - 2 = nI (2 * k) := by rw [show (2 : Int32) = nI 2 from rfl, pk_sub (by omega)]; congr 1
  have e4 : nI (2 * k) / 2 = nI k := div2e (by omega)
  have e5 : nI (2 * k + 2) / 2 = nI (k + 1) := by rw [show 2 * k + 2 = 2 * (k + 1) by omega]; exact div2e (by omega)
  have e6 : nI (2 * k + 2) - nI (k + 1) * 2 = 0 := by rw [show 2 * k + 2 = 2 * (k + 1) by omega]; exact rem2e (by omega)
  have e7 : nI (2 * k + 2) + 2 = nI (2 * k + 4) := by rw [show (2 : Int32) = nI 2 from rfl, nI_add]
  have e8 : nI (2 * k + 2) + 1 = nI (2 * k + 3) := nI_1 _
  simp only [we99_0, we99_1, we108_0, we108_1, we108_2, we108_3, we109_0, we109_1, we109_2, en99, en108, en109, true_and, and_true, if_false, if_true, not_true_eq_false, not_false_eq_true, false_implies, true_implies, implies_true, forall_const, true_or, or_true, false_or, or_false, false_and, and_false, eq_self_iff_true, Option.toList_some, Option.toList_none, List.cons_append, List.nil_append, mo_cat_0, mo_cat_c, mo_ct_i, mo_ct_l, mo_ct_r, mo_ct_n, mo_ct_f, Nat.zero_le, Nat.reduceAdd, Nat.reduceLeDiff, Nat.reduceLT, Nat.reduceEqDiff, Nat.reduceSub, mo_rf_s, mo_rf_n, reduceCtorEq, mo_st, mo_st2, mo_lg_0, mo_lg_s, List.set_cons_zero, List.set_cons_succ, List.length_cons, List.length_nil, List.getElem?_cons_zero, List.getElem?_cons_succ, Nat.reduceBEq, Bool.false_eq_true, beq_self_eq_true, mo_ME, mo_u_a, mo_z_a, mo_y_a, Nat.add_left_cancel_iff, mo_TSW, hs', H, hf, nI_1, nI_pred, mo_LC, Int32.reduceLT, Int32.reduceLE, i01, i12, i23, i34, hv, hc, h0, hk, hco, hvc, hcc, hst, e0, e1, e2, e3, e4, e5, e6, e7, e8, hfd]
  refine kQ _ ⟨r_sh_c hs (by simp only [m_push, mo_ME]) (by simp only [m_push, mo_ME]) (by simp only [m_push, mo_ME]), ?_⟩ ?_
  · simp only [r_vw_push, r_VW, hvw]
  · repeat (first | with_reducible exact r_fc_rf _ _ | with_reducible refine r_fc_push ?_ | with_reducible refine r_fc_I ?_ | with_reducible refine r_fc_L ?_ | with_reducible refine r_fc_AI (by decide) ?_ | with_reducible refine r_fc_AL (by decide) ?_)
set_option maxRecDepth 100000 in
set_option maxHeartbeats 1000000 in
theorem S_F_has {r f : Nat} {A : mo_A} {c k b : Nat} (hf : A.1 27 0 = nI (f + 1)) (hlt : f < 399) (h0 : A.1 37 0 = 0) (hk : A.1 28 f = 1) (hco : A.1 31 f = nI c) (hcl : c < 8) (hkl : k < 4) (hst : A.1 30 f = nI (2 * k + 2)) (hfd : nI k < A.1 8 c) (hh : ¬ A.1 10 (4 * c + k) = -1) (hb : A.1 40 0 = nI b) (hb3 : b < 300) : r_S r A (a_push (a_I (a_I A 30 f (nI (2 * k + 3))) 40 0 (nI (b + 1))) (f + 1) 0 (A.1 10 (4 * c + k)) (A.1 32 f) (nI c) (A.2 34 f)) := by
  intro μ h d Q kQ
  have hs := h.1
  have hs' := h.1
  unfold r_sh at hs'
  have hvw := h.2
  have H := r_rd h
  have hv : vp_in (nI f) 400 := vp_in_nI (by omega) (by decide)
  have hc : (nI f).toNatClampNeg = f := nI_clamp (by omega)
  have hvc : vp_in (nI c) 8 := vp_in_nI hcl (by decide)
  have hcc : (nI c).toNatClampNeg = c := nI_clamp (by omega)
  have e0 : (nI (2 * k + 2) = 0) = False := by rw [show (0 : Int32) = nI 0 from rfl, nI_inj (by omega) (by decide)]; simp
  have e1 : (nI (2 * k + 2) = 1) = False := by rw [show (1 : Int32) = nI 1 from rfl, nI_inj (by omega) (by decide)]; simp
  have e2 : (10 ≤ nI (2 * k + 2)) = False := by rw [show (10 : Int32) = nI 10 from rfl, propext (nI_leI (by decide) (by omega))]; simp; omega
  have e3 : nI (2 * k + 2) - 2 = nI (2 * k) := by rw [show (2 : Int32) = nI 2 from rfl, pk_sub (by omega)]; congr 1
  have e4 : nI (2 * k) / 2 = nI k := div2e (by omega)
  have e5 : nI (2 * k + 2) / 2 = nI (k + 1) := by rw [show 2 * k + 2 = 2 * (k + 1) by omega]; exact div2e (by omega)
  have e6 : nI (2 * k + 2) - nI (k + 1) * 2 = 0 := by rw [show 2 * k + 2 = 2 * (k + 1) by omega]; exact rem2e (by omega)
  have e7 : nI (2 * k + 2) + 2 = nI (2 * k + 4) := by rw [show (2 : Int32) = nI 2 from rfl, nI_add]
  have e8 : nI (2 * k + 2) + 1 = nI (2 * k + 3) := nI_1 _
  have hv_i : vp_in (nI (4 * c + k)) 32 := vp_in_nI (by omega) (by decide)
  have hc_i : (nI (4 * c + k)).toNatClampNeg = 4 * c + k := nI_clamp (by omega)
  have hW := fun d e Q => R_work (d := d) (μ := (mo_wAI μ (r + 25) f (nI (2 * k + 3)))) (t := f + 1) (f := f) (b := b) (r_sh_c hs (by simp only [mo_ME]) (by simp only [mo_ME]) (by simp only [mo_ME])) (by simp only [mo_ME, mo_u_a, Nat.reduceEqDiff, false_and, if_false]; exact (r_rdI h 27 rfl).trans hf) (by omega) (by simp only [mo_ME, mo_u_a, Nat.reduceEqDiff, false_and, if_false]; exact (r_rdI h 40 rfl).trans hb) hb3 (by omega) e Q
  simp only [we99_0, we99_1, we108_0, we108_1, we108_2, we108_3, we109_0, we109_1, we109_2, en99, en108, en109, true_and, and_true, if_false, if_true, not_true_eq_false, not_false_eq_true, false_implies, true_implies, implies_true, forall_const, true_or, or_true, false_or, or_false, false_and, and_false, eq_self_iff_true, Option.toList_some, Option.toList_none, List.cons_append, List.nil_append, mo_cat_0, mo_cat_c, mo_ct_i, mo_ct_l, mo_ct_r, mo_ct_n, mo_ct_f, Nat.zero_le, Nat.reduceAdd, Nat.reduceLeDiff, Nat.reduceLT, Nat.reduceEqDiff, Nat.reduceSub, mo_rf_s, mo_rf_n, reduceCtorEq, mo_st, mo_st2, mo_lg_0, mo_lg_s, List.set_cons_zero, List.set_cons_succ, List.length_cons, List.length_nil, List.getElem?_cons_zero, List.getElem?_cons_succ, Nat.reduceBEq, Bool.false_eq_true, beq_self_eq_true, mo_ME, mo_u_a, mo_z_a, mo_y_a, Nat.add_left_cancel_iff, mo_TSW, hs', H, hf, nI_1, nI_pred, mo_LC, Int32.reduceLT, Int32.reduceLE, i01, i12, i23, i34, hv, hc, h0, hk, hco, hvc, hcc, hst, e0, e1, e2, e3, e4, e5, e6, e7, e8, hfd, hh, l4, nI_add, hv_i, hc_i, hW]
  refine kQ _ ⟨r_sh_c hs (by simp only [m_push, mo_ME]) (by simp only [m_push, mo_ME]) (by simp only [m_push, mo_ME]), ?_⟩ ?_
  · simp only [r_vw_push, r_VW, hvw]
  · repeat (first | with_reducible exact r_fc_rf _ _ | with_reducible refine r_fc_push ?_ | with_reducible refine r_fc_I ?_ | with_reducible refine r_fc_L ?_ | with_reducible refine r_fc_AI (by decide) ?_ | with_reducible refine r_fc_AL (by decide) ?_)
set_option maxRecDepth 100000 in
set_option maxHeartbeats 1000000 in
theorem S_F_hasS {r f : Nat} {A : mo_A} {c k : Nat} (hf : A.1 27 0 = nI (f + 1)) (hlt : f < 399) (h0 : A.1 37 0 = 0) (hk : A.1 28 f = 1) (hco : A.1 31 f = nI c) (hcl : c < 8) (hkl : k < 4) (hst : A.1 30 f = nI (2 * k + 2)) (hfd : nI k < A.1 8 c) (hh : ¬ A.1 10 (4 * c + k) = -1) (hb : A.1 40 0 = 300) : r_S r A (a_I (a_I A 30 f (nI (2 * k + 3))) 37 0 8) := by
  intro μ h d Q kQ
  have hs := h.1
  have hs' := h.1
  unfold r_sh at hs'
  have hvw := h.2
  have H := r_rd h
  have hv : vp_in (nI f) 400 := vp_in_nI (by omega) (by decide)
  have hc : (nI f).toNatClampNeg = f := nI_clamp (by omega)
  have hvc : vp_in (nI c) 8 := vp_in_nI hcl (by decide)
  have hcc : (nI c).toNatClampNeg = c := nI_clamp (by omega)
  have e0 : (nI (2 * k + 2) = 0) = False := by rw [show (0 : Int32) = nI 0 from rfl, nI_inj (by omega) (by decide)]; simp
  have e1 : (nI (2 * k + 2) = 1) = False := by rw [show (1 : Int32) = nI 1 from rfl, nI_inj (by omega) (by decide)]; simp
  have e2 : (10 ≤ nI (2 * k + 2)) = False := by rw [show (10 : Int32) = nI 10 from rfl, propext (nI_leI (by decide) (by omega))]; simp; omega
  have e3 : nI (2 * k + 2) - 2 = nI (2 * k) := by rw [show (2 : Int32) = nI 2 from rfl, pk_sub (by omega)]; congr 1
  have e4 : nI (2 * k) / 2 = nI k := div2e (by omega)
  have e5 : nI (2 * k + 2) / 2 = nI (k + 1) := by rw [show 2 * k + 2 = 2 * (k + 1) by omega]; exact div2e (by omega)
  have e6 : nI (2 * k + 2) - nI (k + 1) * 2 = 0 := by rw [show 2 * k + 2 = 2 * (k + 1) by omega]; exact rem2e (by omega)
  have e7 : nI (2 * k + 2) + 2 = nI (2 * k + 4) := by rw [show (2 : Int32) = nI 2 from rfl, nI_add]
  have e8 : nI (2 * k + 2) + 1 = nI (2 * k + 3) := nI_1 _
  have hv_i : vp_in (nI (4 * c + k)) 32 := vp_in_nI (by omega) (by decide)
  have hc_i : (nI (4 * c + k)).toNatClampNeg = 4 * c + k := nI_clamp (by omega)
  have hW := fun d e x Q => R_workS (d := d) (μ := (mo_wAI μ (r + 25) f (nI (2 * k + 3)))) (r_sh_c hs (by simp only [mo_ME]) (by simp only [mo_ME]) (by simp only [mo_ME])) (by simp only [mo_ME, mo_u_a, Nat.reduceEqDiff, false_and, if_false]; exact (r_rdI h 40 rfl).trans hb) e x Q
  simp only [we99_0, we99_1, we108_0, we108_1, we108_2, we108_3, we109_0, we109_1, we109_2, en99, en108, en109, true_and, and_true, if_false, if_true, not_true_eq_false, not_false_eq_true, false_implies, true_implies, implies_true, forall_const, true_or, or_true, false_or, or_false, false_and, and_false, eq_self_iff_true, Option.toList_some, Option.toList_none, List.cons_append, List.nil_append, mo_cat_0, mo_cat_c, mo_ct_i, mo_ct_l, mo_ct_r, mo_ct_n, mo_ct_f, Nat.zero_le, Nat.reduceAdd, Nat.reduceLeDiff, Nat.reduceLT, Nat.reduceEqDiff, Nat.reduceSub, mo_rf_s, mo_rf_n, reduceCtorEq, mo_st, mo_st2, mo_lg_0, mo_lg_s, List.set_cons_zero, List.set_cons_succ, List.length_cons, List.length_nil, List.getElem?_cons_zero, List.getElem?_cons_succ, Nat.reduceBEq, Bool.false_eq_true, beq_self_eq_true, mo_ME, mo_u_a, mo_z_a, mo_y_a, Nat.add_left_cancel_iff, mo_TSW, hs', H, hf, nI_1, nI_pred, mo_LC, Int32.reduceLT, Int32.reduceLE, i01, i12, i23, i34, hv, hc, h0, hk, hco, hvc, hcc, hst, e0, e1, e2, e3, e4, e5, e6, e7, e8, hfd, hh, l4, nI_add, hv_i, hc_i, hW]
  refine kQ _ ⟨r_sh_c hs (by simp only [m_push, mo_ME]) (by simp only [m_push, mo_ME]) (by simp only [m_push, mo_ME]), ?_⟩ ?_
  · simp only [r_vw_push, r_VW, hvw]
  · repeat (first | with_reducible exact r_fc_rf _ _ | with_reducible refine r_fc_push ?_ | with_reducible refine r_fc_I ?_ | with_reducible refine r_fc_L ?_ | with_reducible refine r_fc_AI (by decide) ?_ | with_reducible refine r_fc_AL (by decide) ?_)
set_option maxRecDepth 100000 in
set_option maxHeartbeats 1000000 in
theorem S_F_no {r f : Nat} {A : mo_A} {c k : Nat} (hf : A.1 27 0 = nI (f + 1)) (hlt : f < 399) (h0 : A.1 37 0 = 0) (hk : A.1 28 f = 1) (hco : A.1 31 f = nI c) (hcl : c < 8) (hkl : k < 4) (hst : A.1 30 f = nI (2 * k + 2)) (hfd : nI k < A.1 8 c) (hh : A.1 10 (4 * c + k) = -1) : r_S r A (a_I A 30 f (nI (2 * k + 4))) := by
  intro μ h d Q kQ
  have hs := h.1
  have hs' := h.1
  unfold r_sh at hs'
  have hvw := h.2
  have H := r_rd h
  have hv : vp_in (nI f) 400 := vp_in_nI (by omega) (by decide)
  have hc : (nI f).toNatClampNeg = f := nI_clamp (by omega)
  have hvc : vp_in (nI c) 8 := vp_in_nI hcl (by decide)
  have hcc : (nI c).toNatClampNeg = c := nI_clamp (by omega)
  have e0 : (nI (2 * k + 2) = 0) = False := by rw [show (0 : Int32) = nI 0 from rfl, nI_inj (by omega) (by decide)]; simp
  have e1 : (nI (2 * k + 2) = 1) = False := by rw [show (1 : Int32) = nI 1 from rfl, nI_inj (by omega) (by decide)]; simp
  have e2 : (10 ≤ nI (2 * k + 2)) = False := by rw [show (10 : Int32) = nI 10 from rfl, propext (nI_leI (by decide) (by omega))]; simp; omega
  have e3 : nI (2 * k + 2) - 2 = nI (2 * k) := by rw [show (2 : Int32) = nI 2 from rfl, pk_sub (by omega)]; congr 1
  have e4 : nI (2 * k) / 2 = nI k := div2e (by omega)
  have e5 : nI (2 * k + 2) / 2 = nI (k + 1) := by rw [show 2 * k + 2 = 2 * (k + 1) by omega]; exact div2e (by omega)
  have e6 : nI (2 * k + 2) - nI (k + 1) * 2 = 0 := by rw [show 2 * k + 2 = 2 * (k + 1) by omega]; exact rem2e (by omega)
  have e7 : nI (2 * k + 2) + 2 = nI (2 * k + 4) := by rw [show (2 : Int32) = nI 2 from rfl, nI_add]
  have e8 : nI (2 * k + 2) + 1 = nI (2 * k + 3) := nI_1 _
  have hv_i : vp_in (nI (4 * c + k)) 32 := vp_in_nI (by omega) (by decide)
  have hc_i : (nI (4 * c + k)).toNatClampNeg = 4 * c + k := nI_clamp (by omega)
  simp only [we99_0, we99_1, we108_0, we108_1, we108_2, we108_3, we109_0, we109_1, we109_2, en99, en108, en109, true_and, and_true, if_false, if_true, not_true_eq_false, not_false_eq_true, false_implies, true_implies, implies_true, forall_const, true_or, or_true, false_or, or_false, false_and, and_false, eq_self_iff_true, Option.toList_some, Option.toList_none, List.cons_append, List.nil_append, mo_cat_0, mo_cat_c, mo_ct_i, mo_ct_l, mo_ct_r, mo_ct_n, mo_ct_f, Nat.zero_le, Nat.reduceAdd, Nat.reduceLeDiff, Nat.reduceLT, Nat.reduceEqDiff, Nat.reduceSub, mo_rf_s, mo_rf_n, reduceCtorEq, mo_st, mo_st2, mo_lg_0, mo_lg_s, List.set_cons_zero, List.set_cons_succ, List.length_cons, List.length_nil, List.getElem?_cons_zero, List.getElem?_cons_succ, Nat.reduceBEq, Bool.false_eq_true, beq_self_eq_true, mo_ME, mo_u_a, mo_z_a, mo_y_a, Nat.add_left_cancel_iff, mo_TSW, hs', H, hf, nI_1, nI_pred, mo_LC, Int32.reduceLT, Int32.reduceLE, i01, i12, i23, i34, hv, hc, h0, hk, hco, hvc, hcc, hst, e0, e1, e2, e3, e4, e5, e6, e7, e8, hfd, hh, l4, nI_add, hv_i, hc_i]
  refine kQ _ ⟨r_sh_c hs (by simp only [m_push, mo_ME]) (by simp only [m_push, mo_ME]) (by simp only [m_push, mo_ME]), ?_⟩ ?_
  · simp only [r_vw_push, r_VW, hvw]
  · repeat (first | with_reducible exact r_fc_rf _ _ | with_reducible refine r_fc_push ?_ | with_reducible refine r_fc_I ?_ | with_reducible refine r_fc_L ?_ | with_reducible refine r_fc_AI (by decide) ?_ | with_reducible refine r_fc_AL (by decide) ?_)
set_option maxRecDepth 100000 in
set_option maxHeartbeats 1000000 in
theorem S_F_set {r f : Nat} {A : mo_A} {c k p : Nat} (hf : A.1 27 0 = nI (f + 1)) (hlt : f < 399) (h0 : A.1 37 0 = 0) (hk : A.1 28 f = 1) (hco : A.1 31 f = nI c) (hcl : c < 8) (hkl : k < 4) (hst : A.1 30 f = nI (2 * k + 3)) (hob : A.1 32 f = nI p) (hpl : p < 100) (hfd : nI k < A.1 8 c) : r_S r A (a_I (a_L A 21 (32 * p + 4 * c + k) (A.2 36 0)) 30 f (nI (2 * k + 4))) := by
  intro μ h d Q kQ
  have hs := h.1
  have hs' := h.1
  unfold r_sh at hs'
  have hvw := h.2
  have H := r_rd h
  have hv : vp_in (nI f) 400 := vp_in_nI (by omega) (by decide)
  have hc : (nI f).toNatClampNeg = f := nI_clamp (by omega)
  have hvc : vp_in (nI c) 8 := vp_in_nI hcl (by decide)
  have hcc : (nI c).toNatClampNeg = c := nI_clamp (by omega)
  have e0 : (nI (2 * k + 3) = 0) = False := by rw [show (0 : Int32) = nI 0 from rfl, nI_inj (by omega) (by decide)]; simp
  have e1 : (nI (2 * k + 3) = 1) = False := by rw [show (1 : Int32) = nI 1 from rfl, nI_inj (by omega) (by decide)]; simp
  have e2 : (10 ≤ nI (2 * k + 3)) = False := by rw [show (10 : Int32) = nI 10 from rfl, propext (nI_leI (by decide) (by omega))]; simp; omega
  have e3 : nI (2 * k + 3) - 2 = nI (2 * k + 1) := by rw [show (2 : Int32) = nI 2 from rfl, pk_sub (by omega)]; congr 1
  have e4 : nI (2 * k + 1) / 2 = nI k := div2o (by omega)
  have e5 : nI (2 * k + 3) / 2 = nI (k + 1) := by rw [show 2 * k + 3 = 2 * (k + 1) + 1 by omega]; exact div2o (by omega)
  have e6 : nI (2 * k + 3) - nI (k + 1) * 2 = 1 := by rw [show 2 * k + 3 = 2 * (k + 1) + 1 by omega]; exact rem2o (by omega)
  have e8 : nI (2 * k + 3) + 1 = nI (2 * k + 4) := nI_1 _
  have hv_i : vp_in (nI (32 * p + 4 * c + k)) 3200 := vp_in_nI (by omega) (by decide)
  have hc_i : (nI (32 * p + 4 * c + k)).toNatClampNeg = 32 * p + 4 * c + k := nI_clamp (by omega)
  simp only [we99_0, we99_1, we108_0, we108_1, we108_2, we108_3, we109_0, we109_1, we109_2, en99, en108, en109, true_and, and_true, if_false, if_true, not_true_eq_false, not_false_eq_true, false_implies, true_implies, implies_true, forall_const, true_or, or_true, false_or, or_false, false_and, and_false, eq_self_iff_true, Option.toList_some, Option.toList_none, List.cons_append, List.nil_append, mo_cat_0, mo_cat_c, mo_ct_i, mo_ct_l, mo_ct_r, mo_ct_n, mo_ct_f, Nat.zero_le, Nat.reduceAdd, Nat.reduceLeDiff, Nat.reduceLT, Nat.reduceEqDiff, Nat.reduceSub, mo_rf_s, mo_rf_n, reduceCtorEq, mo_st, mo_st2, mo_lg_0, mo_lg_s, List.set_cons_zero, List.set_cons_succ, List.length_cons, List.length_nil, List.getElem?_cons_zero, List.getElem?_cons_succ, Nat.reduceBEq, Bool.false_eq_true, beq_self_eq_true, mo_ME, mo_u_a, mo_z_a, mo_y_a, Nat.add_left_cancel_iff, mo_TSW, hs', H, hf, nI_1, nI_pred, mo_LC, Int32.reduceLT, Int32.reduceLE, i01, i12, i23, i34, hv, hc, h0, hk, hco, hvc, hcc, hst, e0, e1, e2, e3, e4, e5, e6, e8, hob, hfd, l32, l4, nI_add, hv_i, hc_i]
  refine kQ _ ⟨r_sh_c hs (by simp only [m_push, mo_ME]) (by simp only [m_push, mo_ME]) (by simp only [m_push, mo_ME]), ?_⟩ ?_
  · simp only [r_vw_push, r_VW, hvw]
  · repeat (first | with_reducible exact r_fc_rf _ _ | with_reducible refine r_fc_push ?_ | with_reducible refine r_fc_I ?_ | with_reducible refine r_fc_L ?_ | with_reducible refine r_fc_AI (by decide) ?_ | with_reducible refine r_fc_AL (by decide) ?_)
set_option maxRecDepth 100000 in
set_option maxHeartbeats 1000000 in
theorem S_Nw {r f : Nat} {A : mo_A} {c m k b : Nat} (hf : A.1 27 0 = nI (f + 1)) (hlt : f < 399) (h0 : A.1 37 0 = 0) (hk : A.1 28 f = 2) (hco : A.1 31 f = nI c) (hcl : c < 8) (hid : A.1 29 f = nI m) (hml : m < 40) (hkl : k < 9) (hk8 : k < 8) (hst : A.1 30 f = nI (2 * k)) (hac : ¬ A.1 13 m ≤ nI k) (hb : A.1 40 0 = nI b) (hb3 : b < 300) : r_S r A (a_push (a_I (a_I A 30 f (nI (2 * k + 1))) 40 0 (nI (b + 1))) (f + 1) 0 (A.1 16 (8 * m + k)) (A.1 32 f) (nI c) (A.2 34 f)) := by
  intro μ h d Q kQ
  have hs := h.1
  have hs' := h.1
  unfold r_sh at hs'
  have hvw := h.2
  have H := r_rd h
  have hv : vp_in (nI f) 400 := vp_in_nI (by omega) (by decide)
  have hc : (nI f).toNatClampNeg = f := nI_clamp (by omega)
  have hvc : vp_in (nI c) 8 := vp_in_nI hcl (by decide)
  have hcc : (nI c).toNatClampNeg = c := nI_clamp (by omega)
  have hv_m : vp_in (nI (m)) 40 := vp_in_nI (by omega) (by decide)
  have hc_m : (nI (m)).toNatClampNeg = m := nI_clamp (by omega)
  have e4 : nI (2 * k) / 2 = nI k := div2e (by omega)
  have e6 : nI (2 * k) - nI k * 2 = 0 := rem2e (by omega)
  have s1 : nI (2 * k) + 1 = nI (2 * k + 1) := nI_1 _
  have hv_i : vp_in (nI (8 * m + k)) 320 := vp_in_nI (by omega) (by decide)
  have hc_i : (nI (8 * m + k)).toNatClampNeg = 8 * m + k := nI_clamp (by omega)
  have hW := fun d e Q => R_work (d := d) (μ := (mo_wAI μ (r + 25) f (nI (2 * k + 1)))) (t := f + 1) (f := f) (b := b) (r_sh_c hs (by simp only [mo_ME]) (by simp only [mo_ME]) (by simp only [mo_ME])) (by simp only [mo_ME, mo_u_a, Nat.reduceEqDiff, false_and, if_false]; exact (r_rdI h 27 rfl).trans hf) (by omega) (by simp only [mo_ME, mo_u_a, Nat.reduceEqDiff, false_and, if_false]; exact (r_rdI h 40 rfl).trans hb) hb3 (by omega) e Q
  simp only [we99_0, we99_1, we110_0, we110_1, we110_2, we110_3, we110_4, we110_5, en99, en110, true_and, and_true, if_false, if_true, not_true_eq_false, not_false_eq_true, false_implies, true_implies, implies_true, forall_const, true_or, or_true, false_or, or_false, false_and, and_false, eq_self_iff_true, Option.toList_some, Option.toList_none, List.cons_append, List.nil_append, mo_cat_0, mo_cat_c, mo_ct_i, mo_ct_l, mo_ct_r, mo_ct_n, mo_ct_f, Nat.zero_le, Nat.reduceAdd, Nat.reduceLeDiff, Nat.reduceLT, Nat.reduceEqDiff, Nat.reduceSub, mo_rf_s, mo_rf_n, reduceCtorEq, mo_st, mo_st2, mo_lg_0, mo_lg_s, List.set_cons_zero, List.set_cons_succ, List.length_cons, List.length_nil, List.getElem?_cons_zero, List.getElem?_cons_succ, Nat.reduceBEq, Bool.false_eq_true, beq_self_eq_true, mo_ME, mo_u_a, mo_z_a, mo_y_a, Nat.add_left_cancel_iff, mo_TSW, hs', H, hf, nI_1, nI_pred, mo_LC, Int32.reduceLT, Int32.reduceLE, i01, i12, i23, i34, hv, hc, h0, hk, hco, hvc, hcc, hid, hv_m, hc_m, hst, Int32.sub_zero, e4, e6, hac, s1, l8, nI_add, hv_i, hc_i, hW]
  refine kQ _ ⟨r_sh_c hs (by simp only [m_push, mo_ME]) (by simp only [m_push, mo_ME]) (by simp only [m_push, mo_ME]), ?_⟩ ?_
  · simp only [r_vw_push, r_VW, hvw]
  · repeat (first | with_reducible exact r_fc_rf _ _ | with_reducible refine r_fc_push ?_ | with_reducible refine r_fc_I ?_ | with_reducible refine r_fc_L ?_ | with_reducible refine r_fc_AI (by decide) ?_ | with_reducible refine r_fc_AL (by decide) ?_)
set_option maxRecDepth 100000 in
set_option maxHeartbeats 1000000 in
theorem S_NwS {r f : Nat} {A : mo_A} {c m k : Nat} (hf : A.1 27 0 = nI (f + 1)) (hlt : f < 399) (h0 : A.1 37 0 = 0) (hk : A.1 28 f = 2) (hco : A.1 31 f = nI c) (hcl : c < 8) (hid : A.1 29 f = nI m) (hml : m < 40) (hkl : k < 9) (hst : A.1 30 f = nI (2 * k)) (hk8 : k < 8) (hac : ¬ A.1 13 m ≤ nI k) (hb : A.1 40 0 = 300) : r_S r A (a_I (a_I A 30 f (nI (2 * k + 1))) 37 0 8) := by
  intro μ h d Q kQ
  have hs := h.1
  have hs' := h.1
  unfold r_sh at hs'
  have hvw := h.2
  have H := r_rd h
  have hv : vp_in (nI f) 400 := vp_in_nI (by omega) (by decide)
  have hc : (nI f).toNatClampNeg = f := nI_clamp (by omega)
  have hvc : vp_in (nI c) 8 := vp_in_nI hcl (by decide)
  have hcc : (nI c).toNatClampNeg = c := nI_clamp (by omega)
  have hv_m : vp_in (nI (m)) 40 := vp_in_nI (by omega) (by decide)
  have hc_m : (nI (m)).toNatClampNeg = m := nI_clamp (by omega)
  have e4 : nI (2 * k) / 2 = nI k := div2e (by omega)
  have e6 : nI (2 * k) - nI k * 2 = 0 := rem2e (by omega)
  have s1 : nI (2 * k) + 1 = nI (2 * k + 1) := nI_1 _
  have hv_i : vp_in (nI (8 * m + k)) 320 := vp_in_nI (by omega) (by decide)
  have hc_i : (nI (8 * m + k)).toNatClampNeg = 8 * m + k := nI_clamp (by omega)
  have hW := fun d e x Q => R_workS (d := d) (μ := (mo_wAI μ (r + 25) f (nI (2 * k + 1)))) (r_sh_c hs (by simp only [mo_ME]) (by simp only [mo_ME]) (by simp only [mo_ME])) (by simp only [mo_ME, mo_u_a, Nat.reduceEqDiff, false_and, if_false]; exact (r_rdI h 40 rfl).trans hb) e x Q
  simp only [we99_0, we99_1, we110_0, we110_1, we110_2, we110_3, we110_4, we110_5, en99, en110, true_and, and_true, if_false, if_true, not_true_eq_false, not_false_eq_true, false_implies, true_implies, implies_true, forall_const, true_or, or_true, false_or, or_false, false_and, and_false, eq_self_iff_true, Option.toList_some, Option.toList_none, List.cons_append, List.nil_append, mo_cat_0, mo_cat_c, mo_ct_i, mo_ct_l, mo_ct_r, mo_ct_n, mo_ct_f, Nat.zero_le, Nat.reduceAdd, Nat.reduceLeDiff, Nat.reduceLT, Nat.reduceEqDiff, Nat.reduceSub, mo_rf_s, mo_rf_n, reduceCtorEq, mo_st, mo_st2, mo_lg_0, mo_lg_s, List.set_cons_zero, List.set_cons_succ, List.length_cons, List.length_nil, List.getElem?_cons_zero, List.getElem?_cons_succ, Nat.reduceBEq, Bool.false_eq_true, beq_self_eq_true, mo_ME, mo_u_a, mo_z_a, mo_y_a, Nat.add_left_cancel_iff, mo_TSW, hs', H, hf, nI_1, nI_pred, mo_LC, Int32.reduceLT, Int32.reduceLE, i01, i12, i23, i34, hv, hc, h0, hk, hco, hvc, hcc, hid, hv_m, hc_m, hst, Int32.sub_zero, e4, e6, hac, s1, l8, nI_add, hv_i, hc_i, hW]
  refine kQ _ ⟨r_sh_c hs (by simp only [m_push, mo_ME]) (by simp only [m_push, mo_ME]) (by simp only [m_push, mo_ME]), ?_⟩ ?_
  · simp only [r_vw_push, r_VW, hvw]
  · repeat (first | with_reducible exact r_fc_rf _ _ | with_reducible refine r_fc_push ?_ | with_reducible refine r_fc_I ?_ | with_reducible refine r_fc_L ?_ | with_reducible refine r_fc_AI (by decide) ?_ | with_reducible refine r_fc_AL (by decide) ?_)
set_option maxRecDepth 100000 in
set_option maxHeartbeats 1000000 in
theorem S_Nset {r f : Nat} {A : mo_A} {c m k p q : Nat} (hf : A.1 27 0 = nI (f + 1)) (hlt : f < 399) (h0 : A.1 37 0 = 0) (hk : A.1 28 f = 2) (hco : A.1 31 f = nI c) (hcl : c < 8) (hid : A.1 29 f = nI m) (hml : m < 40) (hkl : k < 9) (hk8 : k < 8) (hst : A.1 30 f = nI (2 * k + 1)) (hac : ¬ A.1 13 m ≤ nI k) (has : A.1 14 (8 * m + k) = 0) (hfl : A.1 15 (8 * m + k) = nI q) (hq4 : q < 4) (hfd : nI q < A.1 8 c) (hob : A.1 32 f = nI p) (hpl : p < 100) : r_S r A (a_L (a_I A 30 f (nI (2 * k + 2))) 21 (32 * p + 4 * c + q) (A.2 36 0)) := by
  intro μ h d Q kQ
  have hs := h.1
  have hs' := h.1
  unfold r_sh at hs'
  have hvw := h.2
  have H := r_rd h
  have hv : vp_in (nI f) 400 := vp_in_nI (by omega) (by decide)
  have hc : (nI f).toNatClampNeg = f := nI_clamp (by omega)
  have hvc : vp_in (nI c) 8 := vp_in_nI hcl (by decide)
  have hcc : (nI c).toNatClampNeg = c := nI_clamp (by omega)
  have hv_m : vp_in (nI (m)) 40 := vp_in_nI (by omega) (by decide)
  have hc_m : (nI (m)).toNatClampNeg = m := nI_clamp (by omega)
  have e4 : nI (2 * k + 1) / 2 = nI k := div2o (by omega)
  have e6 : nI (2 * k + 1) - nI k * 2 = 1 := rem2o (by omega)
  have s1 : nI (2 * k + 1) + 1 = nI (2 * k + 2) := nI_1 _
  have hv_i : vp_in (nI (8 * m + k)) 320 := vp_in_nI (by omega) (by decide)
  have hc_i : (nI (8 * m + k)).toNatClampNeg = 8 * m + k := nI_clamp (by omega)
  have hv_j : vp_in (nI (32 * p + 4 * c + q)) 3200 := vp_in_nI (by omega) (by decide)
  have hc_j : (nI (32 * p + 4 * c + q)).toNatClampNeg = 32 * p + 4 * c + q := nI_clamp (by omega)
  simp only [we99_0, we99_1, we110_0, we110_1, we110_2, we110_3, we110_4, we110_5, en99, en110, true_and, and_true, if_false, if_true, not_true_eq_false, not_false_eq_true, false_implies, true_implies, implies_true, forall_const, true_or, or_true, false_or, or_false, false_and, and_false, eq_self_iff_true, Option.toList_some, Option.toList_none, List.cons_append, List.nil_append, mo_cat_0, mo_cat_c, mo_ct_i, mo_ct_l, mo_ct_r, mo_ct_n, mo_ct_f, Nat.zero_le, Nat.reduceAdd, Nat.reduceLeDiff, Nat.reduceLT, Nat.reduceEqDiff, Nat.reduceSub, mo_rf_s, mo_rf_n, reduceCtorEq, mo_st, mo_st2, mo_lg_0, mo_lg_s, List.set_cons_zero, List.set_cons_succ, List.length_cons, List.length_nil, List.getElem?_cons_zero, List.getElem?_cons_succ, Nat.reduceBEq, Bool.false_eq_true, beq_self_eq_true, mo_ME, mo_u_a, mo_z_a, mo_y_a, Nat.add_left_cancel_iff, mo_TSW, hs', H, hf, nI_1, nI_pred, mo_LC, Int32.reduceLT, Int32.reduceLE, i01, i12, i23, i34, hv, hc, h0, hk, hco, hvc, hcc, hid, hv_m, hc_m, hst, Int32.sub_zero, e4, e6, hac, has, hfl, hfd, hob, s1, l8, l32, l4, nI_add, hv_i, hc_i, hv_j, hc_j]
  refine kQ _ ⟨r_sh_c hs (by simp only [m_push, mo_ME]) (by simp only [m_push, mo_ME]) (by simp only [m_push, mo_ME]), ?_⟩ ?_
  · simp only [r_vw_push, r_VW, hvw]
  · repeat (first | with_reducible exact r_fc_rf _ _ | with_reducible refine r_fc_push ?_ | with_reducible refine r_fc_I ?_ | with_reducible refine r_fc_L ?_ | with_reducible refine r_fc_AI (by decide) ?_ | with_reducible refine r_fc_AL (by decide) ?_)
set_option maxRecDepth 100000 in
set_option maxHeartbeats 1000000 in
theorem S_NsetFa {r f : Nat} {A : mo_A} {c m k q : Nat} (hf : A.1 27 0 = nI (f + 1)) (hlt : f < 399) (h0 : A.1 37 0 = 0) (hk : A.1 28 f = 2) (hco : A.1 31 f = nI c) (hcl : c < 8) (hid : A.1 29 f = nI m) (hml : m < 40) (hkl : k < 9) (hk8 : k < 8) (hst : A.1 30 f = nI (2 * k + 1)) (hac : ¬ A.1 13 m ≤ nI k) (has : A.1 14 (8 * m + k) = 0) (hfd : ¬ A.1 15 (8 * m + k) < A.1 8 c) (hq : A.1 39 0 = nI q) (hq4 : q < 4) : r_S r A (a_I (a_I (a_I A 30 f (nI (2 * k + 2))) 39 0 (nI (q + 1))) 37 0 2) := by
  intro μ h d Q kQ
  have hs := h.1
  have hs' := h.1
  unfold r_sh at hs'
  have hvw := h.2
  have H := r_rd h
  have hv : vp_in (nI f) 400 := vp_in_nI (by omega) (by decide)
  have hc : (nI f).toNatClampNeg = f := nI_clamp (by omega)
  have hvc : vp_in (nI c) 8 := vp_in_nI hcl (by decide)
  have hcc : (nI c).toNatClampNeg = c := nI_clamp (by omega)
  have hv_m : vp_in (nI (m)) 40 := vp_in_nI (by omega) (by decide)
  have hc_m : (nI (m)).toNatClampNeg = m := nI_clamp (by omega)
  have e4 : nI (2 * k + 1) / 2 = nI k := div2o (by omega)
  have e6 : nI (2 * k + 1) - nI k * 2 = 1 := rem2o (by omega)
  have s1 : nI (2 * k + 1) + 1 = nI (2 * k + 2) := nI_1 _
  have hv_i : vp_in (nI (8 * m + k)) 320 := vp_in_nI (by omega) (by decide)
  have hc_i : (nI (8 * m + k)).toNatClampNeg = 8 * m + k := nI_clamp (by omega)
  have hW := fun d w Q => R_fail (d := d) (μ := (mo_wAI μ (r + 25) f (nI (2 * k + 2)))) (k := q) (r_sh_c hs (by simp only [mo_ME]) (by simp only [mo_ME]) (by simp only [mo_ME])) (by simp only [mo_ME, mo_u_a, Nat.reduceEqDiff, false_and, if_false]; exact (r_rdI h 39 rfl).trans hq) hq4 w Q
  simp only [we99_0, we99_1, we110_0, we110_1, we110_2, we110_3, we110_4, we110_5, en99, en110, true_and, and_true, if_false, if_true, not_true_eq_false, not_false_eq_true, false_implies, true_implies, implies_true, forall_const, true_or, or_true, false_or, or_false, false_and, and_false, eq_self_iff_true, Option.toList_some, Option.toList_none, List.cons_append, List.nil_append, mo_cat_0, mo_cat_c, mo_ct_i, mo_ct_l, mo_ct_r, mo_ct_n, mo_ct_f, Nat.zero_le, Nat.reduceAdd, Nat.reduceLeDiff, Nat.reduceLT, Nat.reduceEqDiff, Nat.reduceSub, mo_rf_s, mo_rf_n, reduceCtorEq, mo_st, mo_st2, mo_lg_0, mo_lg_s, List.set_cons_zero, List.set_cons_succ, List.length_cons, List.length_nil, List.getElem?_cons_zero, List.getElem?_cons_succ, Nat.reduceBEq, Bool.false_eq_true, beq_self_eq_true, mo_ME, mo_u_a, mo_z_a, mo_y_a, Nat.add_left_cancel_iff, mo_TSW, hs', H, hf, nI_1, nI_pred, mo_LC, Int32.reduceLT, Int32.reduceLE, i01, i12, i23, i34, hv, hc, h0, hk, hco, hvc, hcc, hid, hv_m, hc_m, hst, Int32.sub_zero, e4, e6, hac, has, hfd, s1, l8, nI_add, hv_i, hc_i, hW]
  refine kQ _ ⟨r_sh_c hs (by simp only [m_push, mo_ME]) (by simp only [m_push, mo_ME]) (by simp only [m_push, mo_ME]), ?_⟩ ?_
  · simp only [r_vw_push, r_VW, hvw]
  · repeat (first | with_reducible exact r_fc_rf _ _ | with_reducible refine r_fc_push ?_ | with_reducible refine r_fc_I ?_ | with_reducible refine r_fc_L ?_ | with_reducible refine r_fc_AI (by decide) ?_ | with_reducible refine r_fc_AL (by decide) ?_)
set_option maxRecDepth 100000 in
set_option maxHeartbeats 1000000 in
theorem S_NsetFb {r f : Nat} {A : mo_A} {c m k  : Nat} (hf : A.1 27 0 = nI (f + 1)) (hlt : f < 399) (h0 : A.1 37 0 = 0) (hk : A.1 28 f = 2) (hco : A.1 31 f = nI c) (hcl : c < 8) (hid : A.1 29 f = nI m) (hml : m < 40) (hkl : k < 9) (hk8 : k < 8) (hst : A.1 30 f = nI (2 * k + 1)) (hac : ¬ A.1 13 m ≤ nI k) (has : A.1 14 (8 * m + k) = 0) (hfd : ¬ A.1 15 (8 * m + k) < A.1 8 c) (hq : A.1 39 0 = nI 4) : r_S r A (a_I (a_I (a_I A 30 f (nI (2 * k + 2))) 39 0 (nI 5)) 37 0 8) := by
  intro μ h d Q kQ
  have hs := h.1
  have hs' := h.1
  unfold r_sh at hs'
  have hvw := h.2
  have H := r_rd h
  have hv : vp_in (nI f) 400 := vp_in_nI (by omega) (by decide)
  have hc : (nI f).toNatClampNeg = f := nI_clamp (by omega)
  have hvc : vp_in (nI c) 8 := vp_in_nI hcl (by decide)
  have hcc : (nI c).toNatClampNeg = c := nI_clamp (by omega)
  have hv_m : vp_in (nI (m)) 40 := vp_in_nI (by omega) (by decide)
  have hc_m : (nI (m)).toNatClampNeg = m := nI_clamp (by omega)
  have e4 : nI (2 * k + 1) / 2 = nI k := div2o (by omega)
  have e6 : nI (2 * k + 1) - nI k * 2 = 1 := rem2o (by omega)
  have s1 : nI (2 * k + 1) + 1 = nI (2 * k + 2) := nI_1 _
  have hv_i : vp_in (nI (8 * m + k)) 320 := vp_in_nI (by omega) (by decide)
  have hc_i : (nI (8 * m + k)).toNatClampNeg = 8 * m + k := nI_clamp (by omega)
  have hW := fun d w Q => R_failS (d := d) (μ := (mo_wAI μ (r + 25) f (nI (2 * k + 2)))) (r_sh_c hs (by simp only [mo_ME]) (by simp only [mo_ME]) (by simp only [mo_ME])) (by simp only [mo_ME, mo_u_a, Nat.reduceEqDiff, false_and, if_false]; exact (r_rdI h 39 rfl).trans hq) w Q
  simp only [we99_0, we99_1, we110_0, we110_1, we110_2, we110_3, we110_4, we110_5, en99, en110, true_and, and_true, if_false, if_true, not_true_eq_false, not_false_eq_true, false_implies, true_implies, implies_true, forall_const, true_or, or_true, false_or, or_false, false_and, and_false, eq_self_iff_true, Option.toList_some, Option.toList_none, List.cons_append, List.nil_append, mo_cat_0, mo_cat_c, mo_ct_i, mo_ct_l, mo_ct_r, mo_ct_n, mo_ct_f, Nat.zero_le, Nat.reduceAdd, Nat.reduceLeDiff, Nat.reduceLT, Nat.reduceEqDiff, Nat.reduceSub, mo_rf_s, mo_rf_n, reduceCtorEq, mo_st, mo_st2, mo_lg_0, mo_lg_s, List.set_cons_zero, List.set_cons_succ, List.length_cons, List.length_nil, List.getElem?_cons_zero, List.getElem?_cons_succ, Nat.reduceBEq, Bool.false_eq_true, beq_self_eq_true, mo_ME, mo_u_a, mo_z_a, mo_y_a, Nat.add_left_cancel_iff, mo_TSW, hs', H, hf, nI_1, nI_pred, mo_LC, Int32.reduceLT, Int32.reduceLE, i01, i12, i23, i34, hv, hc, h0, hk, hco, hvc, hcc, hid, hv_m, hc_m, hst, Int32.sub_zero, e4, e6, hac, has, hfd, s1, l8, nI_add, hv_i, hc_i, hW]
  refine kQ _ ⟨r_sh_c hs (by simp only [m_push, mo_ME]) (by simp only [m_push, mo_ME]) (by simp only [m_push, mo_ME]), ?_⟩ ?_
  · simp only [r_vw_push, r_VW, hvw]
  · repeat (first | with_reducible exact r_fc_rf _ _ | with_reducible refine r_fc_push ?_ | with_reducible refine r_fc_I ?_ | with_reducible refine r_fc_L ?_ | with_reducible refine r_fc_AI (by decide) ?_ | with_reducible refine r_fc_AL (by decide) ?_)
set_option maxRecDepth 100000 in
set_option maxHeartbeats 1000000 in
theorem S_Nlog {r f : Nat} {A : mo_A} {c m k lg : Nat} (hf : A.1 27 0 = nI (f + 1)) (hlt : f < 399) (h0 : A.1 37 0 = 0) (hk : A.1 28 f = 2) (hco : A.1 31 f = nI c) (hcl : c < 8) (hid : A.1 29 f = nI m) (hml : m < 40) (hkl : k < 9) (hk8 : k < 8) (hst : A.1 30 f = nI (2 * k + 1)) (hac : ¬ A.1 13 m ≤ nI k) (has : A.1 14 (8 * m + k) = 1) (hlg : A.1 22 0 = nI lg) (hl2 : lg < 200) : r_S r A (a_I (a_I (a_I (a_L (a_I A 30 f (nI (2 * k + 2))) 23 lg (A.2 36 0)) 24 lg (nI c)) 25 lg (A.1 32 f)) 22 0 (nI (lg + 1))) := by
  intro μ h d Q kQ
  have hs := h.1
  have hs' := h.1
  unfold r_sh at hs'
  have hvw := h.2
  have H := r_rd h
  have hv : vp_in (nI f) 400 := vp_in_nI (by omega) (by decide)
  have hc : (nI f).toNatClampNeg = f := nI_clamp (by omega)
  have hvc : vp_in (nI c) 8 := vp_in_nI hcl (by decide)
  have hcc : (nI c).toNatClampNeg = c := nI_clamp (by omega)
  have hv_m : vp_in (nI (m)) 40 := vp_in_nI (by omega) (by decide)
  have hc_m : (nI (m)).toNatClampNeg = m := nI_clamp (by omega)
  have e4 : nI (2 * k + 1) / 2 = nI k := div2o (by omega)
  have e6 : nI (2 * k + 1) - nI k * 2 = 1 := rem2o (by omega)
  have s1 : nI (2 * k + 1) + 1 = nI (2 * k + 2) := nI_1 _
  have hv_i : vp_in (nI (8 * m + k)) 320 := vp_in_nI (by omega) (by decide)
  have hc_i : (nI (8 * m + k)).toNatClampNeg = 8 * m + k := nI_clamp (by omega)
  have hv_j : vp_in (nI (lg)) 200 := vp_in_nI (by omega) (by decide)
  have hc_j : (nI (lg)).toNatClampNeg = lg := nI_clamp (by omega)
  have hl3 : (200 ≤ nI lg) = False := by rw [show (200 : Int32) = nI 200 from rfl, propext (nI_leI (by decide) (by omega))]; simp; omega
  simp only [we99_0, we99_1, we110_0, we110_1, we110_2, we110_3, we110_4, we110_5, en99, en110, true_and, and_true, if_false, if_true, not_true_eq_false, not_false_eq_true, false_implies, true_implies, implies_true, forall_const, true_or, or_true, false_or, or_false, false_and, and_false, eq_self_iff_true, Option.toList_some, Option.toList_none, List.cons_append, List.nil_append, mo_cat_0, mo_cat_c, mo_ct_i, mo_ct_l, mo_ct_r, mo_ct_n, mo_ct_f, Nat.zero_le, Nat.reduceAdd, Nat.reduceLeDiff, Nat.reduceLT, Nat.reduceEqDiff, Nat.reduceSub, mo_rf_s, mo_rf_n, reduceCtorEq, mo_st, mo_st2, mo_lg_0, mo_lg_s, List.set_cons_zero, List.set_cons_succ, List.length_cons, List.length_nil, List.getElem?_cons_zero, List.getElem?_cons_succ, Nat.reduceBEq, Bool.false_eq_true, beq_self_eq_true, mo_ME, mo_u_a, mo_z_a, mo_y_a, Nat.add_left_cancel_iff, mo_TSW, hs', H, hf, nI_1, nI_pred, mo_LC, Int32.reduceLT, Int32.reduceLE, i01, i12, i23, i34, hv, hc, h0, hk, hco, hvc, hcc, hid, hv_m, hc_m, hst, Int32.sub_zero, e4, e6, hac, has, hlg, hl3, s1, l8, nI_add, hv_i, hc_i, hv_j, hc_j]
  refine kQ _ ⟨r_sh_c hs (by simp only [m_push, mo_ME]) (by simp only [m_push, mo_ME]) (by simp only [m_push, mo_ME]), ?_⟩ ?_
  · simp only [r_vw_push, r_VW, hvw]
  · repeat (first | with_reducible exact r_fc_rf _ _ | with_reducible refine r_fc_push ?_ | with_reducible refine r_fc_I ?_ | with_reducible refine r_fc_L ?_ | with_reducible refine r_fc_AI (by decide) ?_ | with_reducible refine r_fc_AL (by decide) ?_)
set_option maxRecDepth 100000 in
set_option maxHeartbeats 1000000 in
theorem S_NlogF {r f : Nat} {A : mo_A} {c m k : Nat} (hf : A.1 27 0 = nI (f + 1)) (hlt : f < 399) (h0 : A.1 37 0 = 0) (hk : A.1 28 f = 2) (hco : A.1 31 f = nI c) (hcl : c < 8) (hid : A.1 29 f = nI m) (hml : m < 40) (hkl : k < 9) (hk8 : k < 8) (hst : A.1 30 f = nI (2 * k + 1)) (hac : ¬ A.1 13 m ≤ nI k) (has : A.1 14 (8 * m + k) = 1) (hlg : A.1 22 0 = 200) : r_S r A (a_I A 30 f (nI (2 * k + 2))) := by
  intro μ h d Q kQ
  have hs := h.1
  have hs' := h.1
  unfold r_sh at hs'
  have hvw := h.2
  have H := r_rd h
  have hv : vp_in (nI f) 400 := vp_in_nI (by omega) (by decide)
  have hc : (nI f).toNatClampNeg = f := nI_clamp (by omega)
  have hvc : vp_in (nI c) 8 := vp_in_nI hcl (by decide)
  have hcc : (nI c).toNatClampNeg = c := nI_clamp (by omega)
  have hv_m : vp_in (nI (m)) 40 := vp_in_nI (by omega) (by decide)
  have hc_m : (nI (m)).toNatClampNeg = m := nI_clamp (by omega)
  have e4 : nI (2 * k + 1) / 2 = nI k := div2o (by omega)
  have e6 : nI (2 * k + 1) - nI k * 2 = 1 := rem2o (by omega)
  have s1 : nI (2 * k + 1) + 1 = nI (2 * k + 2) := nI_1 _
  have hv_i : vp_in (nI (8 * m + k)) 320 := vp_in_nI (by omega) (by decide)
  have hc_i : (nI (8 * m + k)).toNatClampNeg = 8 * m + k := nI_clamp (by omega)
  simp only [we99_0, we99_1, we110_0, we110_1, we110_2, we110_3, we110_4, we110_5, en99, en110, true_and, and_true, if_false, if_true, not_true_eq_false, not_false_eq_true, false_implies, true_implies, implies_true, forall_const, true_or, or_true, false_or, or_false, false_and, and_false, eq_self_iff_true, Option.toList_some, Option.toList_none, List.cons_append, List.nil_append, mo_cat_0, mo_cat_c, mo_ct_i, mo_ct_l, mo_ct_r, mo_ct_n, mo_ct_f, Nat.zero_le, Nat.reduceAdd, Nat.reduceLeDiff, Nat.reduceLT, Nat.reduceEqDiff, Nat.reduceSub, mo_rf_s, mo_rf_n, reduceCtorEq, mo_st, mo_st2, mo_lg_0, mo_lg_s, List.set_cons_zero, List.set_cons_succ, List.length_cons, List.length_nil, List.getElem?_cons_zero, List.getElem?_cons_succ, Nat.reduceBEq, Bool.false_eq_true, beq_self_eq_true, mo_ME, mo_u_a, mo_z_a, mo_y_a, Nat.add_left_cancel_iff, mo_TSW, hs', H, hf, nI_1, nI_pred, mo_LC, Int32.reduceLT, Int32.reduceLE, i01, i12, i23, i34, hv, hc, h0, hk, hco, hvc, hcc, hid, hv_m, hc_m, hst, Int32.sub_zero, e4, e6, hac, has, hlg, s1, l8, nI_add, hv_i, hc_i]
  refine kQ _ ⟨r_sh_c hs (by simp only [m_push, mo_ME]) (by simp only [m_push, mo_ME]) (by simp only [m_push, mo_ME]), ?_⟩ ?_
  · simp only [r_vw_push, r_VW, hvw]
  · repeat (first | with_reducible exact r_fc_rf _ _ | with_reducible refine r_fc_push ?_ | with_reducible refine r_fc_I ?_ | with_reducible refine r_fc_L ?_ | with_reducible refine r_fc_AI (by decide) ?_ | with_reducible refine r_fc_AL (by decide) ?_)
set_option maxRecDepth 100000 in
set_option maxHeartbeats 1000000 in
theorem S_Nnop {r f : Nat} {A : mo_A} {c m k : Nat} (hf : A.1 27 0 = nI (f + 1)) (hlt : f < 399) (h0 : A.1 37 0 = 0) (hk : A.1 28 f = 2) (hco : A.1 31 f = nI c) (hcl : c < 8) (hid : A.1 29 f = nI m) (hml : m < 40) (hkl : k < 9) (hk8 : k < 8) (hst : A.1 30 f = nI (2 * k + 1)) (hac : ¬ A.1 13 m ≤ nI k) (has : A.1 14 (8 * m + k) = 2) : r_S r A (a_I A 30 f (nI (2 * k + 2))) := by
  intro μ h d Q kQ
  have hs := h.1
  have hs' := h.1
  unfold r_sh at hs'
  have hvw := h.2
  have H := r_rd h
  have hv : vp_in (nI f) 400 := vp_in_nI (by omega) (by decide)
  have hc : (nI f).toNatClampNeg = f := nI_clamp (by omega)
  have hvc : vp_in (nI c) 8 := vp_in_nI hcl (by decide)
  have hcc : (nI c).toNatClampNeg = c := nI_clamp (by omega)
  have hv_m : vp_in (nI (m)) 40 := vp_in_nI (by omega) (by decide)
  have hc_m : (nI (m)).toNatClampNeg = m := nI_clamp (by omega)
  have e4 : nI (2 * k + 1) / 2 = nI k := div2o (by omega)
  have e6 : nI (2 * k + 1) - nI k * 2 = 1 := rem2o (by omega)
  have s1 : nI (2 * k + 1) + 1 = nI (2 * k + 2) := nI_1 _
  have hv_i : vp_in (nI (8 * m + k)) 320 := vp_in_nI (by omega) (by decide)
  have hc_i : (nI (8 * m + k)).toNatClampNeg = 8 * m + k := nI_clamp (by omega)
  simp only [we99_0, we99_1, we110_0, we110_1, we110_2, we110_3, we110_4, we110_5, en99, en110, true_and, and_true, if_false, if_true, not_true_eq_false, not_false_eq_true, false_implies, true_implies, implies_true, forall_const, true_or, or_true, false_or, or_false, false_and, and_false, eq_self_iff_true, Option.toList_some, Option.toList_none, List.cons_append, List.nil_append, mo_cat_0, mo_cat_c, mo_ct_i, mo_ct_l, mo_ct_r, mo_ct_n, mo_ct_f, Nat.zero_le, Nat.reduceAdd, Nat.reduceLeDiff, Nat.reduceLT, Nat.reduceEqDiff, Nat.reduceSub, mo_rf_s, mo_rf_n, reduceCtorEq, mo_st, mo_st2, mo_lg_0, mo_lg_s, List.set_cons_zero, List.set_cons_succ, List.length_cons, List.length_nil, List.getElem?_cons_zero, List.getElem?_cons_succ, Nat.reduceBEq, Bool.false_eq_true, beq_self_eq_true, mo_ME, mo_u_a, mo_z_a, mo_y_a, Nat.add_left_cancel_iff, mo_TSW, hs', H, hf, nI_1, nI_pred, mo_LC, Int32.reduceLT, Int32.reduceLE, i01, i12, i23, i34, hv, hc, h0, hk, hco, hvc, hcc, hid, hv_m, hc_m, hst, Int32.sub_zero, e4, e6, hac, has, s1, l8, nI_add, hv_i, hc_i]
  refine kQ _ ⟨r_sh_c hs (by simp only [m_push, mo_ME]) (by simp only [m_push, mo_ME]) (by simp only [m_push, mo_ME]), ?_⟩ ?_
  · simp only [r_vw_push, r_VW, hvw]
  · repeat (first | with_reducible exact r_fc_rf _ _ | with_reducible refine r_fc_push ?_ | with_reducible refine r_fc_I ?_ | with_reducible refine r_fc_L ?_ | with_reducible refine r_fc_AI (by decide) ?_ | with_reducible refine r_fc_AL (by decide) ?_)
set_option maxRecDepth 100000 in
set_option maxHeartbeats 1000000 in
theorem S_NendN {r f : Nat} {A : mo_A} {c m k u n : Nat} (hf : A.1 27 0 = nI (f + 1)) (hlt : f < 399) (h0 : A.1 37 0 = 0) (hk : A.1 28 f = 2) (hco : A.1 31 f = nI c) (hcl : c < 8) (hid : A.1 29 f = nI m) (hml : m < 40) (hkl : k < 9) (hst : A.1 30 f = nI (2 * k)) (hac : A.1 13 m ≤ nI k) (hrs : A.1 12 m = -1) (hu : A.1 38 0 = nI (u + 1)) (hn : A.1 42 0 = nI n) : r_S r A (a_I (a_I (a_I (a_L A 36 0 0) 38 0 (nI u)) 42 0 (nI (n + 1))) 27 0 (nI f)) := by
  intro μ h d Q kQ
  have hs := h.1
  have hs' := h.1
  unfold r_sh at hs'
  have hvw := h.2
  have H := r_rd h
  have hv : vp_in (nI f) 400 := vp_in_nI (by omega) (by decide)
  have hc : (nI f).toNatClampNeg = f := nI_clamp (by omega)
  have hvc : vp_in (nI c) 8 := vp_in_nI hcl (by decide)
  have hcc : (nI c).toNatClampNeg = c := nI_clamp (by omega)
  have hv_m : vp_in (nI (m)) 40 := vp_in_nI (by omega) (by decide)
  have hc_m : (nI (m)).toNatClampNeg = m := nI_clamp (by omega)
  have e4 : nI (2 * k) / 2 = nI k := div2e (by omega)
  have e6 : nI (2 * k) - nI k * 2 = 0 := rem2e (by omega)
  have hW := fun d x Q => R_end (d := d) (μ := (mo_wL μ 804 r 0)) (u := u) (n := n) (t := f) (r_sh_c hs (by simp only [mo_ME]) (by simp only [mo_ME]) (by simp only [mo_ME])) (by simp only [mo_ME, mo_u_a, Nat.reduceEqDiff, false_and, if_false]; exact (r_rdI h 38 rfl).trans hu) (by simp only [mo_ME, mo_u_a, Nat.reduceEqDiff, false_and, if_false]; exact (r_rdI h 42 rfl).trans hn) (by simp only [mo_ME, mo_u_a, Nat.reduceEqDiff, false_and, if_false]; exact (r_rdI h 27 rfl).trans hf) x Q
  simp only [we99_0, we99_1, we110_0, we110_1, we110_2, we110_3, we110_4, we110_5, en99, en110, true_and, and_true, if_false, if_true, not_true_eq_false, not_false_eq_true, false_implies, true_implies, implies_true, forall_const, true_or, or_true, false_or, or_false, false_and, and_false, eq_self_iff_true, Option.toList_some, Option.toList_none, List.cons_append, List.nil_append, mo_cat_0, mo_cat_c, mo_ct_i, mo_ct_l, mo_ct_r, mo_ct_n, mo_ct_f, Nat.zero_le, Nat.reduceAdd, Nat.reduceLeDiff, Nat.reduceLT, Nat.reduceEqDiff, Nat.reduceSub, mo_rf_s, mo_rf_n, reduceCtorEq, mo_st, mo_st2, mo_lg_0, mo_lg_s, List.set_cons_zero, List.set_cons_succ, List.length_cons, List.length_nil, List.getElem?_cons_zero, List.getElem?_cons_succ, Nat.reduceBEq, Bool.false_eq_true, beq_self_eq_true, mo_ME, mo_u_a, mo_z_a, mo_y_a, Nat.add_left_cancel_iff, mo_TSW, hs', H, hf, nI_1, nI_pred, mo_LC, Int32.reduceLT, Int32.reduceLE, i01, i12, i23, i34, hv, hc, h0, hk, hco, hvc, hcc, hid, hv_m, hc_m, hst, Int32.sub_zero, e4, e6, hac, hrs, hW]
  refine kQ _ ⟨r_sh_c hs (by simp only [m_push, mo_ME]) (by simp only [m_push, mo_ME]) (by simp only [m_push, mo_ME]), ?_⟩ ?_
  · simp only [r_vw_push, r_VW, hvw]
  · repeat (first | with_reducible exact r_fc_rf _ _ | with_reducible refine r_fc_push ?_ | with_reducible refine r_fc_I ?_ | with_reducible refine r_fc_L ?_ | with_reducible refine r_fc_AI (by decide) ?_ | with_reducible refine r_fc_AL (by decide) ?_)
set_option maxRecDepth 100000 in
set_option maxHeartbeats 1000000 in
theorem S_Nres {r f : Nat} {A : mo_A} {c m k b : Nat} (hf : A.1 27 0 = nI (f + 1)) (hlt : f < 399) (h0 : A.1 37 0 = 0) (hk : A.1 28 f = 2) (hco : A.1 31 f = nI c) (hcl : c < 8) (hid : A.1 29 f = nI m) (hml : m < 40) (hkl : k < 9) (hst : A.1 30 f = nI (2 * k)) (hac : A.1 13 m ≤ nI k) (hrs : ¬ A.1 12 m = -1) (hb : A.1 40 0 = nI b) (hb3 : b < 300) : r_S r A (a_push (a_I (a_I A 30 f (nI (2 * k + 1))) 40 0 (nI (b + 1))) (f + 1) 0 (A.1 12 m) (A.1 32 f) (nI c) (A.2 34 f)) := by
  intro μ h d Q kQ
  have hs := h.1
  have hs' := h.1
  unfold r_sh at hs'
  have hvw := h.2
  have H := r_rd h
  have hv : vp_in (nI f) 400 := vp_in_nI (by omega) (by decide)
  have hc : (nI f).toNatClampNeg = f := nI_clamp (by omega)
  have hvc : vp_in (nI c) 8 := vp_in_nI hcl (by decide)
  have hcc : (nI c).toNatClampNeg = c := nI_clamp (by omega)
  have hv_m : vp_in (nI (m)) 40 := vp_in_nI (by omega) (by decide)
  have hc_m : (nI (m)).toNatClampNeg = m := nI_clamp (by omega)
  have e4 : nI (2 * k) / 2 = nI k := div2e (by omega)
  have e6 : nI (2 * k) - nI k * 2 = 0 := rem2e (by omega)
  have s1 : nI (2 * k) + 1 = nI (2 * k + 1) := nI_1 _
  have hW := fun d e Q => R_work (d := d) (μ := (mo_wAI μ (r + 25) f (nI (2 * k + 1)))) (t := f + 1) (f := f) (b := b) (r_sh_c hs (by simp only [mo_ME]) (by simp only [mo_ME]) (by simp only [mo_ME])) (by simp only [mo_ME, mo_u_a, Nat.reduceEqDiff, false_and, if_false]; exact (r_rdI h 27 rfl).trans hf) (by omega) (by simp only [mo_ME, mo_u_a, Nat.reduceEqDiff, false_and, if_false]; exact (r_rdI h 40 rfl).trans hb) hb3 (by omega) e Q
  simp only [we99_0, we99_1, we110_0, we110_1, we110_2, we110_3, we110_4, we110_5, en99, en110, true_and, and_true, if_false, if_true, not_true_eq_false, not_false_eq_true, false_implies, true_implies, implies_true, forall_const, true_or, or_true, false_or, or_false, false_and, and_false, eq_self_iff_true, Option.toList_some, Option.toList_none, List.cons_append, List.nil_append, mo_cat_0, mo_cat_c, mo_ct_i, mo_ct_l, mo_ct_r, mo_ct_n, mo_ct_f, Nat.zero_le, Nat.reduceAdd, Nat.reduceLeDiff, Nat.reduceLT, Nat.reduceEqDiff, Nat.reduceSub, mo_rf_s, mo_rf_n, reduceCtorEq, mo_st, mo_st2, mo_lg_0, mo_lg_s, List.set_cons_zero, List.set_cons_succ, List.length_cons, List.length_nil, List.getElem?_cons_zero, List.getElem?_cons_succ, Nat.reduceBEq, Bool.false_eq_true, beq_self_eq_true, mo_ME, mo_u_a, mo_z_a, mo_y_a, Nat.add_left_cancel_iff, mo_TSW, hs', H, hf, nI_1, nI_pred, mo_LC, Int32.reduceLT, Int32.reduceLE, i01, i12, i23, i34, hv, hc, h0, hk, hco, hvc, hcc, hid, hv_m, hc_m, hst, Int32.sub_zero, e4, e6, hac, hrs, s1, hW]
  refine kQ _ ⟨r_sh_c hs (by simp only [m_push, mo_ME]) (by simp only [m_push, mo_ME]) (by simp only [m_push, mo_ME]), ?_⟩ ?_
  · simp only [r_vw_push, r_VW, hvw]
  · repeat (first | with_reducible exact r_fc_rf _ _ | with_reducible refine r_fc_push ?_ | with_reducible refine r_fc_I ?_ | with_reducible refine r_fc_L ?_ | with_reducible refine r_fc_AI (by decide) ?_ | with_reducible refine r_fc_AL (by decide) ?_)
set_option maxRecDepth 100000 in
set_option maxHeartbeats 1000000 in
theorem S_NresS {r f : Nat} {A : mo_A} {c m k : Nat} (hf : A.1 27 0 = nI (f + 1)) (hlt : f < 399) (h0 : A.1 37 0 = 0) (hk : A.1 28 f = 2) (hco : A.1 31 f = nI c) (hcl : c < 8) (hid : A.1 29 f = nI m) (hml : m < 40) (hkl : k < 9) (hst : A.1 30 f = nI (2 * k)) (hac : A.1 13 m ≤ nI k) (hrs : ¬ A.1 12 m = -1) (hb : A.1 40 0 = 300) : r_S r A (a_I (a_I A 30 f (nI (2 * k + 1))) 37 0 8) := by
  intro μ h d Q kQ
  have hs := h.1
  have hs' := h.1
  unfold r_sh at hs'
  have hvw := h.2
  have H := r_rd h
  have hv : vp_in (nI f) 400 := vp_in_nI (by omega) (by decide)
  have hc : (nI f).toNatClampNeg = f := nI_clamp (by omega)
  have hvc : vp_in (nI c) 8 := vp_in_nI hcl (by decide)
  have hcc : (nI c).toNatClampNeg = c := nI_clamp (by omega)
  have hv_m : vp_in (nI (m)) 40 := vp_in_nI (by omega) (by decide)
  have hc_m : (nI (m)).toNatClampNeg = m := nI_clamp (by omega)
  have e4 : nI (2 * k) / 2 = nI k := div2e (by omega)
  have e6 : nI (2 * k) - nI k * 2 = 0 := rem2e (by omega)
  have s1 : nI (2 * k) + 1 = nI (2 * k + 1) := nI_1 _
  have hW := fun d e x Q => R_workS (d := d) (μ := (mo_wAI μ (r + 25) f (nI (2 * k + 1)))) (r_sh_c hs (by simp only [mo_ME]) (by simp only [mo_ME]) (by simp only [mo_ME])) (by simp only [mo_ME, mo_u_a, Nat.reduceEqDiff, false_and, if_false]; exact (r_rdI h 40 rfl).trans hb) e x Q
  simp only [we99_0, we99_1, we110_0, we110_1, we110_2, we110_3, we110_4, we110_5, en99, en110, true_and, and_true, if_false, if_true, not_true_eq_false, not_false_eq_true, false_implies, true_implies, implies_true, forall_const, true_or, or_true, false_or, or_false, false_and, and_false, eq_self_iff_true, Option.toList_some, Option.toList_none, List.cons_append, List.nil_append, mo_cat_0, mo_cat_c, mo_ct_i, mo_ct_l, mo_ct_r, mo_ct_n, mo_ct_f, Nat.zero_le, Nat.reduceAdd, Nat.reduceLeDiff, Nat.reduceLT, Nat.reduceEqDiff, Nat.reduceSub, mo_rf_s, mo_rf_n, reduceCtorEq, mo_st, mo_st2, mo_lg_0, mo_lg_s, List.set_cons_zero, List.set_cons_succ, List.length_cons, List.length_nil, List.getElem?_cons_zero, List.getElem?_cons_succ, Nat.reduceBEq, Bool.false_eq_true, beq_self_eq_true, mo_ME, mo_u_a, mo_z_a, mo_y_a, Nat.add_left_cancel_iff, mo_TSW, hs', H, hf, nI_1, nI_pred, mo_LC, Int32.reduceLT, Int32.reduceLE, i01, i12, i23, i34, hv, hc, h0, hk, hco, hvc, hcc, hid, hv_m, hc_m, hst, Int32.sub_zero, e4, e6, hac, hrs, s1, hW]
  refine kQ _ ⟨r_sh_c hs (by simp only [m_push, mo_ME]) (by simp only [m_push, mo_ME]) (by simp only [m_push, mo_ME]), ?_⟩ ?_
  · simp only [r_vw_push, r_VW, hvw]
  · repeat (first | with_reducible exact r_fc_rf _ _ | with_reducible refine r_fc_push ?_ | with_reducible refine r_fc_I ?_ | with_reducible refine r_fc_L ?_ | with_reducible refine r_fc_AI (by decide) ?_ | with_reducible refine r_fc_AL (by decide) ?_)
set_option maxRecDepth 100000 in
set_option maxHeartbeats 1000000 in
theorem S_NendR {r f : Nat} {A : mo_A} {c m k u n : Nat} (hf : A.1 27 0 = nI (f + 1)) (hlt : f < 399) (h0 : A.1 37 0 = 0) (hk : A.1 28 f = 2) (hco : A.1 31 f = nI c) (hcl : c < 8) (hid : A.1 29 f = nI m) (hml : m < 40) (hkl : k < 9) (hst : A.1 30 f = nI (2 * k + 1)) (hac : A.1 13 m ≤ nI k) (hrs : ¬ A.1 12 m = -1) (hu : A.1 38 0 = nI (u + 1)) (hn : A.1 42 0 = nI n) : r_S r A (a_I (a_I (a_I (a_L A 36 0 (A.2 36 0)) 38 0 (nI u)) 42 0 (nI (n + 1))) 27 0 (nI f)) := by
  intro μ h d Q kQ
  have hs := h.1
  have hs' := h.1
  unfold r_sh at hs'
  have hvw := h.2
  have H := r_rd h
  have hv : vp_in (nI f) 400 := vp_in_nI (by omega) (by decide)
  have hc : (nI f).toNatClampNeg = f := nI_clamp (by omega)
  have hvc : vp_in (nI c) 8 := vp_in_nI hcl (by decide)
  have hcc : (nI c).toNatClampNeg = c := nI_clamp (by omega)
  have hv_m : vp_in (nI (m)) 40 := vp_in_nI (by omega) (by decide)
  have hc_m : (nI (m)).toNatClampNeg = m := nI_clamp (by omega)
  have e4 : nI (2 * k + 1) / 2 = nI k := div2o (by omega)
  have e6 : nI (2 * k + 1) - nI k * 2 = 1 := rem2o (by omega)
  have hW := fun d x Q => R_end (d := d) (μ := (mo_wL μ 804 r (A.2 36 0))) (u := u) (n := n) (t := f) (r_sh_c hs (by simp only [mo_ME]) (by simp only [mo_ME]) (by simp only [mo_ME])) (by simp only [mo_ME, mo_u_a, Nat.reduceEqDiff, false_and, if_false]; exact (r_rdI h 38 rfl).trans hu) (by simp only [mo_ME, mo_u_a, Nat.reduceEqDiff, false_and, if_false]; exact (r_rdI h 42 rfl).trans hn) (by simp only [mo_ME, mo_u_a, Nat.reduceEqDiff, false_and, if_false]; exact (r_rdI h 27 rfl).trans hf) x Q
  simp only [we99_0, we99_1, we110_0, we110_1, we110_2, we110_3, we110_4, we110_5, en99, en110, true_and, and_true, if_false, if_true, not_true_eq_false, not_false_eq_true, false_implies, true_implies, implies_true, forall_const, true_or, or_true, false_or, or_false, false_and, and_false, eq_self_iff_true, Option.toList_some, Option.toList_none, List.cons_append, List.nil_append, mo_cat_0, mo_cat_c, mo_ct_i, mo_ct_l, mo_ct_r, mo_ct_n, mo_ct_f, Nat.zero_le, Nat.reduceAdd, Nat.reduceLeDiff, Nat.reduceLT, Nat.reduceEqDiff, Nat.reduceSub, mo_rf_s, mo_rf_n, reduceCtorEq, mo_st, mo_st2, mo_lg_0, mo_lg_s, List.set_cons_zero, List.set_cons_succ, List.length_cons, List.length_nil, List.getElem?_cons_zero, List.getElem?_cons_succ, Nat.reduceBEq, Bool.false_eq_true, beq_self_eq_true, mo_ME, mo_u_a, mo_z_a, mo_y_a, Nat.add_left_cancel_iff, mo_TSW, hs', H, hf, nI_1, nI_pred, mo_LC, Int32.reduceLT, Int32.reduceLE, i01, i12, i23, i34, hv, hc, h0, hk, hco, hvc, hcc, hid, hv_m, hc_m, hst, Int32.sub_zero, e4, e6, hac, hrs, hW]
  refine kQ _ ⟨r_sh_c hs (by simp only [m_push, mo_ME]) (by simp only [m_push, mo_ME]) (by simp only [m_push, mo_ME]), ?_⟩ ?_
  · simp only [r_vw_push, r_VW, hvw]
  · repeat (first | with_reducible exact r_fc_rf _ _ | with_reducible refine r_fc_push ?_ | with_reducible refine r_fc_I ?_ | with_reducible refine r_fc_L ?_ | with_reducible refine r_fc_AI (by decide) ?_ | with_reducible refine r_fc_AL (by decide) ?_)
set_option maxRecDepth 100000 in
set_option maxHeartbeats 1000000 in
theorem S_Kw {r f : Nat} {A : mo_A} {c m k b : Nat} (hf : A.1 27 0 = nI (f + 1)) (hlt : f < 399) (h0 : A.1 37 0 = 0) (hk : A.1 28 f = 1) (hco : A.1 31 f = nI c) (hcl : c < 8) (hid : A.1 29 f = nI m) (hml : m < 40) (hkl : k < 9) (hk8 : k < 8) (hst : A.1 30 f = nI (2 * k + 10)) (hac : ¬ A.1 13 m ≤ nI k) (hb : A.1 40 0 = nI b) (hb3 : b < 300) : r_S r A (a_push (a_I (a_I A 30 f (nI (2 * k + 1 + 10))) 40 0 (nI (b + 1))) (f + 1) 0 (A.1 16 (8 * m + k)) (A.1 32 f) (nI c) (A.2 34 f)) := by
  intro μ h d Q kQ
  have hs := h.1
  have hs' := h.1
  unfold r_sh at hs'
  have hvw := h.2
  have H := r_rd h
  have hv : vp_in (nI f) 400 := vp_in_nI (by omega) (by decide)
  have hc : (nI f).toNatClampNeg = f := nI_clamp (by omega)
  have hvc : vp_in (nI c) 8 := vp_in_nI hcl (by decide)
  have hcc : (nI c).toNatClampNeg = c := nI_clamp (by omega)
  have hv_m : vp_in (nI (m)) 40 := vp_in_nI (by omega) (by decide)
  have hc_m : (nI (m)).toNatClampNeg = m := nI_clamp (by omega)
  have t0 : ∀ s, s < 100 → ((nI (s + 10) = 0) = False ∧ (nI (s + 10) = 1) = False ∧ (10 ≤ nI (s + 10)) = True ∧ nI (s + 10) - 10 = nI s) := fun s hs => ⟨by rw [show (0 : Int32) = nI 0 from rfl, nI_inj (by omega) (by decide)]; simp, by rw [show (1 : Int32) = nI 1 from rfl, nI_inj (by omega) (by decide)]; simp, by rw [show (10 : Int32) = nI 10 from rfl, propext (nI_leI (by decide) (by omega))]; simp, by rw [show (10 : Int32) = nI 10 from rfl, pk_sub (by omega)]; congr 1⟩
  have e4 : nI (2 * k) / 2 = nI k := div2e (by omega)
  have e6 : nI (2 * k) - nI k * 2 = 0 := rem2e (by omega)
  have t1 := t0 (2 * k) (by omega)
  have s1 : nI (2 * k + 10) + 1 = nI (2 * k + 1 + 10) := by rw [nI_1]
  have hv_i : vp_in (nI (8 * m + k)) 320 := vp_in_nI (by omega) (by decide)
  have hc_i : (nI (8 * m + k)).toNatClampNeg = 8 * m + k := nI_clamp (by omega)
  have hW := fun d e Q => R_work (d := d) (μ := (mo_wAI μ (r + 25) f (nI (2 * k + 1 + 10)))) (t := f + 1) (f := f) (b := b) (r_sh_c hs (by simp only [mo_ME]) (by simp only [mo_ME]) (by simp only [mo_ME])) (by simp only [mo_ME, mo_u_a, Nat.reduceEqDiff, false_and, if_false]; exact (r_rdI h 27 rfl).trans hf) (by omega) (by simp only [mo_ME, mo_u_a, Nat.reduceEqDiff, false_and, if_false]; exact (r_rdI h 40 rfl).trans hb) hb3 (by omega) e Q
  simp only [we99_0, we99_1, we108_0, we108_1, we108_2, we108_3, we110_0, we110_1, we110_2, we110_3, we110_4, we110_5, en99, en108, en110, true_and, and_true, if_false, if_true, not_true_eq_false, not_false_eq_true, false_implies, true_implies, implies_true, forall_const, true_or, or_true, false_or, or_false, false_and, and_false, eq_self_iff_true, Option.toList_some, Option.toList_none, List.cons_append, List.nil_append, mo_cat_0, mo_cat_c, mo_ct_i, mo_ct_l, mo_ct_r, mo_ct_n, mo_ct_f, Nat.zero_le, Nat.reduceAdd, Nat.reduceLeDiff, Nat.reduceLT, Nat.reduceEqDiff, Nat.reduceSub, mo_rf_s, mo_rf_n, reduceCtorEq, mo_st, mo_st2, mo_lg_0, mo_lg_s, List.set_cons_zero, List.set_cons_succ, List.length_cons, List.length_nil, List.getElem?_cons_zero, List.getElem?_cons_succ, Nat.reduceBEq, Bool.false_eq_true, beq_self_eq_true, mo_ME, mo_u_a, mo_z_a, mo_y_a, Nat.add_left_cancel_iff, mo_TSW, hs', H, hf, nI_1, nI_pred, mo_LC, Int32.reduceLT, Int32.reduceLE, i01, i12, i23, i34, hv, hc, h0, hk, hco, hvc, hcc, hid, hv_m, hc_m, hst, t1, e4, e6, hac, s1, l8, nI_add, hv_i, hc_i, hW]
  refine kQ _ ⟨r_sh_c hs (by simp only [m_push, mo_ME]) (by simp only [m_push, mo_ME]) (by simp only [m_push, mo_ME]), ?_⟩ ?_
  · simp only [r_vw_push, r_VW, hvw]
  · repeat (first | with_reducible exact r_fc_rf _ _ | with_reducible refine r_fc_push ?_ | with_reducible refine r_fc_I ?_ | with_reducible refine r_fc_L ?_ | with_reducible refine r_fc_AI (by decide) ?_ | with_reducible refine r_fc_AL (by decide) ?_)
set_option maxRecDepth 100000 in
set_option maxHeartbeats 1000000 in
theorem S_KwS {r f : Nat} {A : mo_A} {c m k : Nat} (hf : A.1 27 0 = nI (f + 1)) (hlt : f < 399) (h0 : A.1 37 0 = 0) (hk : A.1 28 f = 1) (hco : A.1 31 f = nI c) (hcl : c < 8) (hid : A.1 29 f = nI m) (hml : m < 40) (hkl : k < 9) (hst : A.1 30 f = nI (2 * k + 10)) (hk8 : k < 8) (hac : ¬ A.1 13 m ≤ nI k) (hb : A.1 40 0 = 300) : r_S r A (a_I (a_I A 30 f (nI (2 * k + 1 + 10))) 37 0 8) := by
  intro μ h d Q kQ
  have hs := h.1
  have hs' := h.1
  unfold r_sh at hs'
  have hvw := h.2
  have H := r_rd h
  have hv : vp_in (nI f) 400 := vp_in_nI (by omega) (by decide)
  have hc : (nI f).toNatClampNeg = f := nI_clamp (by omega)
  have hvc : vp_in (nI c) 8 := vp_in_nI hcl (by decide)
  have hcc : (nI c).toNatClampNeg = c := nI_clamp (by omega)
  have hv_m : vp_in (nI (m)) 40 := vp_in_nI (by omega) (by decide)
  have hc_m : (nI (m)).toNatClampNeg = m := nI_clamp (by omega)
  have t0 : ∀ s, s < 100 → ((nI (s + 10) = 0) = False ∧ (nI (s + 10) = 1) = False ∧ (10 ≤ nI (s + 10)) = True ∧ nI (s + 10) - 10 = nI s) := fun s hs => ⟨by rw [show (0 : Int32) = nI 0 from rfl, nI_inj (by omega) (by decide)]; simp, by rw [show (1 : Int32) = nI 1 from rfl, nI_inj (by omega) (by decide)]; simp, by rw [show (10 : Int32) = nI 10 from rfl, propext (nI_leI (by decide) (by omega))]; simp, by rw [show (10 : Int32) = nI 10 from rfl, pk_sub (by omega)]; congr 1⟩
  have e4 : nI (2 * k) / 2 = nI k := div2e (by omega)
  have e6 : nI (2 * k) - nI k * 2 = 0 := rem2e (by omega)
  have t1 := t0 (2 * k) (by omega)
  have s1 : nI (2 * k + 10) + 1 = nI (2 * k + 1 + 10) := by rw [nI_1]
  have hv_i : vp_in (nI (8 * m + k)) 320 := vp_in_nI (by omega) (by decide)
  have hc_i : (nI (8 * m + k)).toNatClampNeg = 8 * m + k := nI_clamp (by omega)
  have hW := fun d e x Q => R_workS (d := d) (μ := (mo_wAI μ (r + 25) f (nI (2 * k + 1 + 10)))) (r_sh_c hs (by simp only [mo_ME]) (by simp only [mo_ME]) (by simp only [mo_ME])) (by simp only [mo_ME, mo_u_a, Nat.reduceEqDiff, false_and, if_false]; exact (r_rdI h 40 rfl).trans hb) e x Q
  simp only [we99_0, we99_1, we108_0, we108_1, we108_2, we108_3, we110_0, we110_1, we110_2, we110_3, we110_4, we110_5, en99, en108, en110, true_and, and_true, if_false, if_true, not_true_eq_false, not_false_eq_true, false_implies, true_implies, implies_true, forall_const, true_or, or_true, false_or, or_false, false_and, and_false, eq_self_iff_true, Option.toList_some, Option.toList_none, List.cons_append, List.nil_append, mo_cat_0, mo_cat_c, mo_ct_i, mo_ct_l, mo_ct_r, mo_ct_n, mo_ct_f, Nat.zero_le, Nat.reduceAdd, Nat.reduceLeDiff, Nat.reduceLT, Nat.reduceEqDiff, Nat.reduceSub, mo_rf_s, mo_rf_n, reduceCtorEq, mo_st, mo_st2, mo_lg_0, mo_lg_s, List.set_cons_zero, List.set_cons_succ, List.length_cons, List.length_nil, List.getElem?_cons_zero, List.getElem?_cons_succ, Nat.reduceBEq, Bool.false_eq_true, beq_self_eq_true, mo_ME, mo_u_a, mo_z_a, mo_y_a, Nat.add_left_cancel_iff, mo_TSW, hs', H, hf, nI_1, nI_pred, mo_LC, Int32.reduceLT, Int32.reduceLE, i01, i12, i23, i34, hv, hc, h0, hk, hco, hvc, hcc, hid, hv_m, hc_m, hst, t1, e4, e6, hac, s1, l8, nI_add, hv_i, hc_i, hW]
  refine kQ _ ⟨r_sh_c hs (by simp only [m_push, mo_ME]) (by simp only [m_push, mo_ME]) (by simp only [m_push, mo_ME]), ?_⟩ ?_
  · simp only [r_vw_push, r_VW, hvw]
  · repeat (first | with_reducible exact r_fc_rf _ _ | with_reducible refine r_fc_push ?_ | with_reducible refine r_fc_I ?_ | with_reducible refine r_fc_L ?_ | with_reducible refine r_fc_AI (by decide) ?_ | with_reducible refine r_fc_AL (by decide) ?_)
set_option maxRecDepth 100000 in
set_option maxHeartbeats 1000000 in
theorem S_Kset {r f : Nat} {A : mo_A} {c m k p q : Nat} (hf : A.1 27 0 = nI (f + 1)) (hlt : f < 399) (h0 : A.1 37 0 = 0) (hk : A.1 28 f = 1) (hco : A.1 31 f = nI c) (hcl : c < 8) (hid : A.1 29 f = nI m) (hml : m < 40) (hkl : k < 9) (hk8 : k < 8) (hst : A.1 30 f = nI (2 * k + 1 + 10)) (hac : ¬ A.1 13 m ≤ nI k) (has : A.1 14 (8 * m + k) = 0) (hfl : A.1 15 (8 * m + k) = nI q) (hq4 : q < 4) (hfd : nI q < A.1 8 c) (hob : A.1 32 f = nI p) (hpl : p < 100) : r_S r A (a_L (a_I A 30 f (nI (2 * k + 2 + 10))) 21 (32 * p + 4 * c + q) (A.2 36 0)) := by
  intro μ h d Q kQ
  have hs := h.1
  have hs' := h.1
  unfold r_sh at hs'
  have hvw := h.2
  have H := r_rd h
  have hv : vp_in (nI f) 400 := vp_in_nI (by omega) (by decide)
  have hc : (nI f).toNatClampNeg = f := nI_clamp (by omega)
  have hvc : vp_in (nI c) 8 := vp_in_nI hcl (by decide)
  have hcc : (nI c).toNatClampNeg = c := nI_clamp (by omega)
  have hv_m : vp_in (nI (m)) 40 := vp_in_nI (by omega) (by decide)
  have hc_m : (nI (m)).toNatClampNeg = m := nI_clamp (by omega)
  have t0 : ∀ s, s < 100 → ((nI (s + 10) = 0) = False ∧ (nI (s + 10) = 1) = False ∧ (10 ≤ nI (s + 10)) = True ∧ nI (s + 10) - 10 = nI s) := fun s hs => ⟨by rw [show (0 : Int32) = nI 0 from rfl, nI_inj (by omega) (by decide)]; simp, by rw [show (1 : Int32) = nI 1 from rfl, nI_inj (by omega) (by decide)]; simp, by rw [show (10 : Int32) = nI 10 from rfl, propext (nI_leI (by decide) (by omega))]; simp, by rw [show (10 : Int32) = nI 10 from rfl, pk_sub (by omega)]; congr 1⟩
  have e4 : nI (2 * k + 1) / 2 = nI k := div2o (by omega)
  have e6 : nI (2 * k + 1) - nI k * 2 = 1 := rem2o (by omega)
  have t1 := t0 (2 * k + 1) (by omega)
  have s1 : nI (2 * k + 1 + 10) + 1 = nI (2 * k + 2 + 10) := by rw [nI_1]
  have hv_i : vp_in (nI (8 * m + k)) 320 := vp_in_nI (by omega) (by decide)
  have hc_i : (nI (8 * m + k)).toNatClampNeg = 8 * m + k := nI_clamp (by omega)
  have hv_j : vp_in (nI (32 * p + 4 * c + q)) 3200 := vp_in_nI (by omega) (by decide)
  have hc_j : (nI (32 * p + 4 * c + q)).toNatClampNeg = 32 * p + 4 * c + q := nI_clamp (by omega)
  simp only [we99_0, we99_1, we108_0, we108_1, we108_2, we108_3, we110_0, we110_1, we110_2, we110_3, we110_4, we110_5, en99, en108, en110, true_and, and_true, if_false, if_true, not_true_eq_false, not_false_eq_true, false_implies, true_implies, implies_true, forall_const, true_or, or_true, false_or, or_false, false_and, and_false, eq_self_iff_true, Option.toList_some, Option.toList_none, List.cons_append, List.nil_append, mo_cat_0, mo_cat_c, mo_ct_i, mo_ct_l, mo_ct_r, mo_ct_n, mo_ct_f, Nat.zero_le, Nat.reduceAdd, Nat.reduceLeDiff, Nat.reduceLT, Nat.reduceEqDiff, Nat.reduceSub, mo_rf_s, mo_rf_n, reduceCtorEq, mo_st, mo_st2, mo_lg_0, mo_lg_s, List.set_cons_zero, List.set_cons_succ, List.length_cons, List.length_nil, List.getElem?_cons_zero, List.getElem?_cons_succ, Nat.reduceBEq, Bool.false_eq_true, beq_self_eq_true, mo_ME, mo_u_a, mo_z_a, mo_y_a, Nat.add_left_cancel_iff, mo_TSW, hs', H, hf, nI_1, nI_pred, mo_LC, Int32.reduceLT, Int32.reduceLE, i01, i12, i23, i34, hv, hc, h0, hk, hco, hvc, hcc, hid, hv_m, hc_m, hst, t1, e4, e6, hac, has, hfl, hfd, hob, s1, l8, l32, l4, nI_add, hv_i, hc_i, hv_j, hc_j]
  refine kQ _ ⟨r_sh_c hs (by simp only [m_push, mo_ME]) (by simp only [m_push, mo_ME]) (by simp only [m_push, mo_ME]), ?_⟩ ?_
  · simp only [r_vw_push, r_VW, hvw]
  · repeat (first | with_reducible exact r_fc_rf _ _ | with_reducible refine r_fc_push ?_ | with_reducible refine r_fc_I ?_ | with_reducible refine r_fc_L ?_ | with_reducible refine r_fc_AI (by decide) ?_ | with_reducible refine r_fc_AL (by decide) ?_)
set_option maxRecDepth 100000 in
set_option maxHeartbeats 1000000 in
theorem S_KsetFa {r f : Nat} {A : mo_A} {c m k q : Nat} (hf : A.1 27 0 = nI (f + 1)) (hlt : f < 399) (h0 : A.1 37 0 = 0) (hk : A.1 28 f = 1) (hco : A.1 31 f = nI c) (hcl : c < 8) (hid : A.1 29 f = nI m) (hml : m < 40) (hkl : k < 9) (hk8 : k < 8) (hst : A.1 30 f = nI (2 * k + 1 + 10)) (hac : ¬ A.1 13 m ≤ nI k) (has : A.1 14 (8 * m + k) = 0) (hfd : ¬ A.1 15 (8 * m + k) < A.1 8 c) (hq : A.1 39 0 = nI q) (hq4 : q < 4) : r_S r A (a_I (a_I (a_I A 30 f (nI (2 * k + 2 + 10))) 39 0 (nI (q + 1))) 37 0 2) := by
  intro μ h d Q kQ
  have hs := h.1
  have hs' := h.1
  unfold r_sh at hs'
  have hvw := h.2
  have H := r_rd h
  have hv : vp_in (nI f) 400 := vp_in_nI (by omega) (by decide)
  have hc : (nI f).toNatClampNeg = f := nI_clamp (by omega)
  have hvc : vp_in (nI c) 8 := vp_in_nI hcl (by decide)
  have hcc : (nI c).toNatClampNeg = c := nI_clamp (by omega)
  have hv_m : vp_in (nI (m)) 40 := vp_in_nI (by omega) (by decide)
  have hc_m : (nI (m)).toNatClampNeg = m := nI_clamp (by omega)
  have t0 : ∀ s, s < 100 → ((nI (s + 10) = 0) = False ∧ (nI (s + 10) = 1) = False ∧ (10 ≤ nI (s + 10)) = True ∧ nI (s + 10) - 10 = nI s) := fun s hs => ⟨by rw [show (0 : Int32) = nI 0 from rfl, nI_inj (by omega) (by decide)]; simp, by rw [show (1 : Int32) = nI 1 from rfl, nI_inj (by omega) (by decide)]; simp, by rw [show (10 : Int32) = nI 10 from rfl, propext (nI_leI (by decide) (by omega))]; simp, by rw [show (10 : Int32) = nI 10 from rfl, pk_sub (by omega)]; congr 1⟩
  have e4 : nI (2 * k + 1) / 2 = nI k := div2o (by omega)
  have e6 : nI (2 * k + 1) - nI k * 2 = 1 := rem2o (by omega)
  have t1 := t0 (2 * k + 1) (by omega)
  have s1 : nI (2 * k + 1 + 10) + 1 = nI (2 * k + 2 + 10) := by rw [nI_1]
  have hv_i : vp_in (nI (8 * m + k)) 320 := vp_in_nI (by omega) (by decide)
  have hc_i : (nI (8 * m + k)).toNatClampNeg = 8 * m + k := nI_clamp (by omega)
  have hW := fun d w Q => R_fail (d := d) (μ := (mo_wAI μ (r + 25) f (nI (2 * k + 2 + 10)))) (k := q) (r_sh_c hs (by simp only [mo_ME]) (by simp only [mo_ME]) (by simp only [mo_ME])) (by simp only [mo_ME, mo_u_a, Nat.reduceEqDiff, false_and, if_false]; exact (r_rdI h 39 rfl).trans hq) hq4 w Q
  simp only [we99_0, we99_1, we108_0, we108_1, we108_2, we108_3, we110_0, we110_1, we110_2, we110_3, we110_4, we110_5, en99, en108, en110, true_and, and_true, if_false, if_true, not_true_eq_false, not_false_eq_true, false_implies, true_implies, implies_true, forall_const, true_or, or_true, false_or, or_false, false_and, and_false, eq_self_iff_true, Option.toList_some, Option.toList_none, List.cons_append, List.nil_append, mo_cat_0, mo_cat_c, mo_ct_i, mo_ct_l, mo_ct_r, mo_ct_n, mo_ct_f, Nat.zero_le, Nat.reduceAdd, Nat.reduceLeDiff, Nat.reduceLT, Nat.reduceEqDiff, Nat.reduceSub, mo_rf_s, mo_rf_n, reduceCtorEq, mo_st, mo_st2, mo_lg_0, mo_lg_s, List.set_cons_zero, List.set_cons_succ, List.length_cons, List.length_nil, List.getElem?_cons_zero, List.getElem?_cons_succ, Nat.reduceBEq, Bool.false_eq_true, beq_self_eq_true, mo_ME, mo_u_a, mo_z_a, mo_y_a, Nat.add_left_cancel_iff, mo_TSW, hs', H, hf, nI_1, nI_pred, mo_LC, Int32.reduceLT, Int32.reduceLE, i01, i12, i23, i34, hv, hc, h0, hk, hco, hvc, hcc, hid, hv_m, hc_m, hst, t1, e4, e6, hac, has, hfd, s1, l8, nI_add, hv_i, hc_i, hW]
  refine kQ _ ⟨r_sh_c hs (by simp only [m_push, mo_ME]) (by simp only [m_push, mo_ME]) (by simp only [m_push, mo_ME]), ?_⟩ ?_
  · simp only [r_vw_push, r_VW, hvw]
  · repeat (first | with_reducible exact r_fc_rf _ _ | with_reducible refine r_fc_push ?_ | with_reducible refine r_fc_I ?_ | with_reducible refine r_fc_L ?_ | with_reducible refine r_fc_AI (by decide) ?_ | with_reducible refine r_fc_AL (by decide) ?_)
set_option maxRecDepth 100000 in
set_option maxHeartbeats 1000000 in
theorem S_KsetFb {r f : Nat} {A : mo_A} {c m k  : Nat} (hf : A.1 27 0 = nI (f + 1)) (hlt : f < 399) (h0 : A.1 37 0 = 0) (hk : A.1 28 f = 1) (hco : A.1 31 f = nI c) (hcl : c < 8) (hid : A.1 29 f = nI m) (hml : m < 40) (hkl : k < 9) (hk8 : k < 8) (hst : A.1 30 f = nI (2 * k + 1 + 10)) (hac : ¬ A.1 13 m ≤ nI k) (has : A.1 14 (8 * m + k) = 0) (hfd : ¬ A.1 15 (8 * m + k) < A.1 8 c) (hq : A.1 39 0 = nI 4) : r_S r A (a_I (a_I (a_I A 30 f (nI (2 * k + 2 + 10))) 39 0 (nI 5)) 37 0 8) := by
  intro μ h d Q kQ
  have hs := h.1
  have hs' := h.1
  unfold r_sh at hs'
  have hvw := h.2
  have H := r_rd h
  have hv : vp_in (nI f) 400 := vp_in_nI (by omega) (by decide)
  have hc : (nI f).toNatClampNeg = f := nI_clamp (by omega)
  have hvc : vp_in (nI c) 8 := vp_in_nI hcl (by decide)
  have hcc : (nI c).toNatClampNeg = c := nI_clamp (by omega)
  have hv_m : vp_in (nI (m)) 40 := vp_in_nI (by omega) (by decide)
  have hc_m : (nI (m)).toNatClampNeg = m := nI_clamp (by omega)
  have t0 : ∀ s, s < 100 → ((nI (s + 10) = 0) = False ∧ (nI (s + 10) = 1) = False ∧ (10 ≤ nI (s + 10)) = True ∧ nI (s + 10) - 10 = nI s) := fun s hs => ⟨by rw [show (0 : Int32) = nI 0 from rfl, nI_inj (by omega) (by decide)]; simp, by rw [show (1 : Int32) = nI 1 from rfl, nI_inj (by omega) (by decide)]; simp, by rw [show (10 : Int32) = nI 10 from rfl, propext (nI_leI (by decide) (by omega))]; simp, by rw [show (10 : Int32) = nI 10 from rfl, pk_sub (by omega)]; congr 1⟩
  have e4 : nI (2 * k + 1) / 2 = nI k := div2o (by omega)
  have e6 : nI (2 * k + 1) - nI k * 2 = 1 := rem2o (by omega)
  have t1 := t0 (2 * k + 1) (by omega)
  have s1 : nI (2 * k + 1 + 10) + 1 = nI (2 * k + 2 + 10) := by rw [nI_1]
  have hv_i : vp_in (nI (8 * m + k)) 320 := vp_in_nI (by omega) (by decide)
  have hc_i : (nI (8 * m + k)).toNatClampNeg = 8 * m + k := nI_clamp (by omega)
  have hW := fun d w Q => R_failS (d := d) (μ := (mo_wAI μ (r + 25) f (nI (2 * k + 2 + 10)))) (r_sh_c hs (by simp only [mo_ME]) (by simp only [mo_ME]) (by simp only [mo_ME])) (by simp only [mo_ME, mo_u_a, Nat.reduceEqDiff, false_and, if_false]; exact (r_rdI h 39 rfl).trans hq) w Q
  simp only [we99_0, we99_1, we108_0, we108_1, we108_2, we108_3, we110_0, we110_1, we110_2, we110_3, we110_4, we110_5, en99, en108, en110, true_and, and_true, if_false, if_true, not_true_eq_false, not_false_eq_true, false_implies, true_implies, implies_true, forall_const, true_or, or_true, false_or, or_false, false_and, and_false, eq_self_iff_true, Option.toList_some, Option.toList_none, List.cons_append, List.nil_append, mo_cat_0, mo_cat_c, mo_ct_i, mo_ct_l, mo_ct_r, mo_ct_n, mo_ct_f, Nat.zero_le, Nat.reduceAdd, Nat.reduceLeDiff, Nat.reduceLT, Nat.reduceEqDiff, Nat.reduceSub, mo_rf_s, mo_rf_n, reduceCtorEq, mo_st, mo_st2, mo_lg_0, mo_lg_s, List.set_cons_zero, List.set_cons_succ, List.length_cons, List.length_nil, List.getElem?_cons_zero, List.getElem?_cons_succ, Nat.reduceBEq, Bool.false_eq_true, beq_self_eq_true, mo_ME, mo_u_a, mo_z_a, mo_y_a, Nat.add_left_cancel_iff, mo_TSW, hs', H, hf, nI_1, nI_pred, mo_LC, Int32.reduceLT, Int32.reduceLE, i01, i12, i23, i34, hv, hc, h0, hk, hco, hvc, hcc, hid, hv_m, hc_m, hst, t1, e4, e6, hac, has, hfd, s1, l8, nI_add, hv_i, hc_i, hW]
  refine kQ _ ⟨r_sh_c hs (by simp only [m_push, mo_ME]) (by simp only [m_push, mo_ME]) (by simp only [m_push, mo_ME]), ?_⟩ ?_
  · simp only [r_vw_push, r_VW, hvw]
  · repeat (first | with_reducible exact r_fc_rf _ _ | with_reducible refine r_fc_push ?_ | with_reducible refine r_fc_I ?_ | with_reducible refine r_fc_L ?_ | with_reducible refine r_fc_AI (by decide) ?_ | with_reducible refine r_fc_AL (by decide) ?_)
set_option maxRecDepth 100000 in
set_option maxHeartbeats 1000000 in
theorem S_Klog {r f : Nat} {A : mo_A} {c m k lg : Nat} (hf : A.1 27 0 = nI (f + 1)) (hlt : f < 399) (h0 : A.1 37 0 = 0) (hk : A.1 28 f = 1) (hco : A.1 31 f = nI c) (hcl : c < 8) (hid : A.1 29 f = nI m) (hml : m < 40) (hkl : k < 9) (hk8 : k < 8) (hst : A.1 30 f = nI (2 * k + 1 + 10)) (hac : ¬ A.1 13 m ≤ nI k) (has : A.1 14 (8 * m + k) = 1) (hlg : A.1 22 0 = nI lg) (hl2 : lg < 200) : r_S r A (a_I (a_I (a_I (a_L (a_I A 30 f (nI (2 * k + 2 + 10))) 23 lg (A.2 36 0)) 24 lg (nI c)) 25 lg (A.1 32 f)) 22 0 (nI (lg + 1))) := by
  intro μ h d Q kQ
  have hs := h.1
  have hs' := h.1
  unfold r_sh at hs'
  have hvw := h.2
  have H := r_rd h
  have hv : vp_in (nI f) 400 := vp_in_nI (by omega) (by decide)
  have hc : (nI f).toNatClampNeg = f := nI_clamp (by omega)
  have hvc : vp_in (nI c) 8 := vp_in_nI hcl (by decide)
  have hcc : (nI c).toNatClampNeg = c := nI_clamp (by omega)
  have hv_m : vp_in (nI (m)) 40 := vp_in_nI (by omega) (by decide)
  have hc_m : (nI (m)).toNatClampNeg = m := nI_clamp (by omega)
  have t0 : ∀ s, s < 100 → ((nI (s + 10) = 0) = False ∧ (nI (s + 10) = 1) = False ∧ (10 ≤ nI (s + 10)) = True ∧ nI (s + 10) - 10 = nI s) := fun s hs => ⟨by rw [show (0 : Int32) = nI 0 from rfl, nI_inj (by omega) (by decide)]; simp, by rw [show (1 : Int32) = nI 1 from rfl, nI_inj (by omega) (by decide)]; simp, by rw [show (10 : Int32) = nI 10 from rfl, propext (nI_leI (by decide) (by omega))]; simp, by rw [show (10 : Int32) = nI 10 from rfl, pk_sub (by omega)]; congr 1⟩
  have e4 : nI (2 * k + 1) / 2 = nI k := div2o (by omega)
  have e6 : nI (2 * k + 1) - nI k * 2 = 1 := rem2o (by omega)
  have t1 := t0 (2 * k + 1) (by omega)
  have s1 : nI (2 * k + 1 + 10) + 1 = nI (2 * k + 2 + 10) := by rw [nI_1]
  have hv_i : vp_in (nI (8 * m + k)) 320 := vp_in_nI (by omega) (by decide)
  have hc_i : (nI (8 * m + k)).toNatClampNeg = 8 * m + k := nI_clamp (by omega)
  have hv_j : vp_in (nI (lg)) 200 := vp_in_nI (by omega) (by decide)
  have hc_j : (nI (lg)).toNatClampNeg = lg := nI_clamp (by omega)
  have hl3 : (200 ≤ nI lg) = False := by rw [show (200 : Int32) = nI 200 from rfl, propext (nI_leI (by decide) (by omega))]; simp; omega
  simp only [we99_0, we99_1, we108_0, we108_1, we108_2, we108_3, we110_0, we110_1, we110_2, we110_3, we110_4, we110_5, en99, en108, en110, true_and, and_true, if_false, if_true, not_true_eq_false, not_false_eq_true, false_implies, true_implies, implies_true, forall_const, true_or, or_true, false_or, or_false, false_and, and_false, eq_self_iff_true, Option.toList_some, Option.toList_none, List.cons_append, List.nil_append, mo_cat_0, mo_cat_c, mo_ct_i, mo_ct_l, mo_ct_r, mo_ct_n, mo_ct_f, Nat.zero_le, Nat.reduceAdd, Nat.reduceLeDiff, Nat.reduceLT, Nat.reduceEqDiff, Nat.reduceSub, mo_rf_s, mo_rf_n, reduceCtorEq, mo_st, mo_st2, mo_lg_0, mo_lg_s, List.set_cons_zero, List.set_cons_succ, List.length_cons, List.length_nil, List.getElem?_cons_zero, List.getElem?_cons_succ, Nat.reduceBEq, Bool.false_eq_true, beq_self_eq_true, mo_ME, mo_u_a, mo_z_a, mo_y_a, Nat.add_left_cancel_iff, mo_TSW, hs', H, hf, nI_1, nI_pred, mo_LC, Int32.reduceLT, Int32.reduceLE, i01, i12, i23, i34, hv, hc, h0, hk, hco, hvc, hcc, hid, hv_m, hc_m, hst, t1, e4, e6, hac, has, hlg, hl3, s1, l8, nI_add, hv_i, hc_i, hv_j, hc_j]
  refine kQ _ ⟨r_sh_c hs (by simp only [m_push, mo_ME]) (by simp only [m_push, mo_ME]) (by simp only [m_push, mo_ME]), ?_⟩ ?_
  · simp only [r_vw_push, r_VW, hvw]
  · repeat (first | with_reducible exact r_fc_rf _ _ | with_reducible refine r_fc_push ?_ | with_reducible refine r_fc_I ?_ | with_reducible refine r_fc_L ?_ | with_reducible refine r_fc_AI (by decide) ?_ | with_reducible refine r_fc_AL (by decide) ?_)
set_option maxRecDepth 100000 in
set_option maxHeartbeats 1000000 in
theorem S_KlogF {r f : Nat} {A : mo_A} {c m k : Nat} (hf : A.1 27 0 = nI (f + 1)) (hlt : f < 399) (h0 : A.1 37 0 = 0) (hk : A.1 28 f = 1) (hco : A.1 31 f = nI c) (hcl : c < 8) (hid : A.1 29 f = nI m) (hml : m < 40) (hkl : k < 9) (hk8 : k < 8) (hst : A.1 30 f = nI (2 * k + 1 + 10)) (hac : ¬ A.1 13 m ≤ nI k) (has : A.1 14 (8 * m + k) = 1) (hlg : A.1 22 0 = 200) : r_S r A (a_I A 30 f (nI (2 * k + 2 + 10))) := by
  intro μ h d Q kQ
  have hs := h.1
  have hs' := h.1
  unfold r_sh at hs'
  have hvw := h.2
  have H := r_rd h
  have hv : vp_in (nI f) 400 := vp_in_nI (by omega) (by decide)
  have hc : (nI f).toNatClampNeg = f := nI_clamp (by omega)
  have hvc : vp_in (nI c) 8 := vp_in_nI hcl (by decide)
  have hcc : (nI c).toNatClampNeg = c := nI_clamp (by omega)
  have hv_m : vp_in (nI (m)) 40 := vp_in_nI (by omega) (by decide)
  have hc_m : (nI (m)).toNatClampNeg = m := nI_clamp (by omega)
  have t0 : ∀ s, s < 100 → ((nI (s + 10) = 0) = False ∧ (nI (s + 10) = 1) = False ∧ (10 ≤ nI (s + 10)) = True ∧ nI (s + 10) - 10 = nI s) := fun s hs => ⟨by rw [show (0 : Int32) = nI 0 from rfl, nI_inj (by omega) (by decide)]; simp, by rw [show (1 : Int32) = nI 1 from rfl, nI_inj (by omega) (by decide)]; simp, by rw [show (10 : Int32) = nI 10 from rfl, propext (nI_leI (by decide) (by omega))]; simp, by rw [show (10 : Int32) = nI 10 from rfl, pk_sub (by omega)]; congr 1⟩
  have e4 : nI (2 * k + 1) / 2 = nI k := div2o (by omega)
  have e6 : nI (2 * k + 1) - nI k * 2 = 1 := rem2o (by omega)
  have t1 := t0 (2 * k + 1) (by omega)
  have s1 : nI (2 * k + 1 + 10) + 1 = nI (2 * k + 2 + 10) := by rw [nI_1]
  have hv_i : vp_in (nI (8 * m + k)) 320 := vp_in_nI (by omega) (by decide)
  have hc_i : (nI (8 * m + k)).toNatClampNeg = 8 * m + k := nI_clamp (by omega)
  simp only [we99_0, we99_1, we108_0, we108_1, we108_2, we108_3, we110_0, we110_1, we110_2, we110_3, we110_4, we110_5, en99, en108, en110, true_and, and_true, if_false, if_true, not_true_eq_false, not_false_eq_true, false_implies, true_implies, implies_true, forall_const, true_or, or_true, false_or, or_false, false_and, and_false, eq_self_iff_true, Option.toList_some, Option.toList_none, List.cons_append, List.nil_append, mo_cat_0, mo_cat_c, mo_ct_i, mo_ct_l, mo_ct_r, mo_ct_n, mo_ct_f, Nat.zero_le, Nat.reduceAdd, Nat.reduceLeDiff, Nat.reduceLT, Nat.reduceEqDiff, Nat.reduceSub, mo_rf_s, mo_rf_n, reduceCtorEq, mo_st, mo_st2, mo_lg_0, mo_lg_s, List.set_cons_zero, List.set_cons_succ, List.length_cons, List.length_nil, List.getElem?_cons_zero, List.getElem?_cons_succ, Nat.reduceBEq, Bool.false_eq_true, beq_self_eq_true, mo_ME, mo_u_a, mo_z_a, mo_y_a, Nat.add_left_cancel_iff, mo_TSW, hs', H, hf, nI_1, nI_pred, mo_LC, Int32.reduceLT, Int32.reduceLE, i01, i12, i23, i34, hv, hc, h0, hk, hco, hvc, hcc, hid, hv_m, hc_m, hst, t1, e4, e6, hac, has, hlg, s1, l8, nI_add, hv_i, hc_i]
  refine kQ _ ⟨r_sh_c hs (by simp only [m_push, mo_ME]) (by simp only [m_push, mo_ME]) (by simp only [m_push, mo_ME]), ?_⟩ ?_
  · simp only [r_vw_push, r_VW, hvw]
  · repeat (first | with_reducible exact r_fc_rf _ _ | with_reducible refine r_fc_push ?_ | with_reducible refine r_fc_I ?_ | with_reducible refine r_fc_L ?_ | with_reducible refine r_fc_AI (by decide) ?_ | with_reducible refine r_fc_AL (by decide) ?_)
set_option maxRecDepth 100000 in
set_option maxHeartbeats 1000000 in
theorem S_Knop {r f : Nat} {A : mo_A} {c m k : Nat} (hf : A.1 27 0 = nI (f + 1)) (hlt : f < 399) (h0 : A.1 37 0 = 0) (hk : A.1 28 f = 1) (hco : A.1 31 f = nI c) (hcl : c < 8) (hid : A.1 29 f = nI m) (hml : m < 40) (hkl : k < 9) (hk8 : k < 8) (hst : A.1 30 f = nI (2 * k + 1 + 10)) (hac : ¬ A.1 13 m ≤ nI k) (has : A.1 14 (8 * m + k) = 2) : r_S r A (a_I A 30 f (nI (2 * k + 2 + 10))) := by
  intro μ h d Q kQ
  have hs := h.1
  have hs' := h.1
  unfold r_sh at hs'
  have hvw := h.2
  have H := r_rd h
  have hv : vp_in (nI f) 400 := vp_in_nI (by omega) (by decide)
  have hc : (nI f).toNatClampNeg = f := nI_clamp (by omega)
  have hvc : vp_in (nI c) 8 := vp_in_nI hcl (by decide)
  have hcc : (nI c).toNatClampNeg = c := nI_clamp (by omega)
  have hv_m : vp_in (nI (m)) 40 := vp_in_nI (by omega) (by decide)
  have hc_m : (nI (m)).toNatClampNeg = m := nI_clamp (by omega)
  have t0 : ∀ s, s < 100 → ((nI (s + 10) = 0) = False ∧ (nI (s + 10) = 1) = False ∧ (10 ≤ nI (s + 10)) = True ∧ nI (s + 10) - 10 = nI s) := fun s hs => ⟨by rw [show (0 : Int32) = nI 0 from rfl, nI_inj (by omega) (by decide)]; simp, by rw [show (1 : Int32) = nI 1 from rfl, nI_inj (by omega) (by decide)]; simp, by rw [show (10 : Int32) = nI 10 from rfl, propext (nI_leI (by decide) (by omega))]; simp, by rw [show (10 : Int32) = nI 10 from rfl, pk_sub (by omega)]; congr 1⟩
  have e4 : nI (2 * k + 1) / 2 = nI k := div2o (by omega)
  have e6 : nI (2 * k + 1) - nI k * 2 = 1 := rem2o (by omega)
  have t1 := t0 (2 * k + 1) (by omega)
  have s1 : nI (2 * k + 1 + 10) + 1 = nI (2 * k + 2 + 10) := by rw [nI_1]
  have hv_i : vp_in (nI (8 * m + k)) 320 := vp_in_nI (by omega) (by decide)
  have hc_i : (nI (8 * m + k)).toNatClampNeg = 8 * m + k := nI_clamp (by omega)
  simp only [we99_0, we99_1, we108_0, we108_1, we108_2, we108_3, we110_0, we110_1, we110_2, we110_3, we110_4, we110_5, en99, en108, en110, true_and, and_true, if_false, if_true, not_true_eq_false, not_false_eq_true, false_implies, true_implies, implies_true, forall_const, true_or, or_true, false_or, or_false, false_and, and_false, eq_self_iff_true, Option.toList_some, Option.toList_none, List.cons_append, List.nil_append, mo_cat_0, mo_cat_c, mo_ct_i, mo_ct_l, mo_ct_r, mo_ct_n, mo_ct_f, Nat.zero_le, Nat.reduceAdd, Nat.reduceLeDiff, Nat.reduceLT, Nat.reduceEqDiff, Nat.reduceSub, mo_rf_s, mo_rf_n, reduceCtorEq, mo_st, mo_st2, mo_lg_0, mo_lg_s, List.set_cons_zero, List.set_cons_succ, List.length_cons, List.length_nil, List.getElem?_cons_zero, List.getElem?_cons_succ, Nat.reduceBEq, Bool.false_eq_true, beq_self_eq_true, mo_ME, mo_u_a, mo_z_a, mo_y_a, Nat.add_left_cancel_iff, mo_TSW, hs', H, hf, nI_1, nI_pred, mo_LC, Int32.reduceLT, Int32.reduceLE, i01, i12, i23, i34, hv, hc, h0, hk, hco, hvc, hcc, hid, hv_m, hc_m, hst, t1, e4, e6, hac, has, s1, l8, nI_add, hv_i, hc_i]
  refine kQ _ ⟨r_sh_c hs (by simp only [m_push, mo_ME]) (by simp only [m_push, mo_ME]) (by simp only [m_push, mo_ME]), ?_⟩ ?_
  · simp only [r_vw_push, r_VW, hvw]
  · repeat (first | with_reducible exact r_fc_rf _ _ | with_reducible refine r_fc_push ?_ | with_reducible refine r_fc_I ?_ | with_reducible refine r_fc_L ?_ | with_reducible refine r_fc_AI (by decide) ?_ | with_reducible refine r_fc_AL (by decide) ?_)
set_option maxRecDepth 100000 in
set_option maxHeartbeats 1000000 in
theorem S_Kend {r f : Nat} {A : mo_A} {c m k u n : Nat} (hf : A.1 27 0 = nI (f + 1)) (hlt : f < 399) (h0 : A.1 37 0 = 0) (hk : A.1 28 f = 1) (hco : A.1 31 f = nI c) (hcl : c < 8) (hid : A.1 29 f = nI m) (hml : m < 40) (hkl : k < 9) (hst : A.1 30 f = nI (2 * k + 10)) (hac : A.1 13 m ≤ nI k) (hu : A.1 38 0 = nI (u + 1)) (hn : A.1 42 0 = nI n) : r_S r A (a_I (a_I (a_I (a_L A 36 0 0) 38 0 (nI u)) 42 0 (nI (n + 1))) 27 0 (nI f)) := by
  intro μ h d Q kQ
  have hs := h.1
  have hs' := h.1
  unfold r_sh at hs'
  have hvw := h.2
  have H := r_rd h
  have hv : vp_in (nI f) 400 := vp_in_nI (by omega) (by decide)
  have hc : (nI f).toNatClampNeg = f := nI_clamp (by omega)
  have hvc : vp_in (nI c) 8 := vp_in_nI hcl (by decide)
  have hcc : (nI c).toNatClampNeg = c := nI_clamp (by omega)
  have hv_m : vp_in (nI (m)) 40 := vp_in_nI (by omega) (by decide)
  have hc_m : (nI (m)).toNatClampNeg = m := nI_clamp (by omega)
  have t0 : ∀ s, s < 100 → ((nI (s + 10) = 0) = False ∧ (nI (s + 10) = 1) = False ∧ (10 ≤ nI (s + 10)) = True ∧ nI (s + 10) - 10 = nI s) := fun s hs => ⟨by rw [show (0 : Int32) = nI 0 from rfl, nI_inj (by omega) (by decide)]; simp, by rw [show (1 : Int32) = nI 1 from rfl, nI_inj (by omega) (by decide)]; simp, by rw [show (10 : Int32) = nI 10 from rfl, propext (nI_leI (by decide) (by omega))]; simp, by rw [show (10 : Int32) = nI 10 from rfl, pk_sub (by omega)]; congr 1⟩
  have e4 : nI (2 * k) / 2 = nI k := div2e (by omega)
  have e6 : nI (2 * k) - nI k * 2 = 0 := rem2e (by omega)
  have t1 := t0 (2 * k) (by omega)
  have hW := fun d x Q => R_end (d := d) (μ := (mo_wL μ 804 r 0)) (u := u) (n := n) (t := f) (r_sh_c hs (by simp only [mo_ME]) (by simp only [mo_ME]) (by simp only [mo_ME])) (by simp only [mo_ME, mo_u_a, Nat.reduceEqDiff, false_and, if_false]; exact (r_rdI h 38 rfl).trans hu) (by simp only [mo_ME, mo_u_a, Nat.reduceEqDiff, false_and, if_false]; exact (r_rdI h 42 rfl).trans hn) (by simp only [mo_ME, mo_u_a, Nat.reduceEqDiff, false_and, if_false]; exact (r_rdI h 27 rfl).trans hf) x Q
  simp only [we99_0, we99_1, we108_0, we108_1, we108_2, we108_3, we110_0, we110_1, we110_2, we110_3, we110_4, we110_5, en99, en108, en110, true_and, and_true, if_false, if_true, not_true_eq_false, not_false_eq_true, false_implies, true_implies, implies_true, forall_const, true_or, or_true, false_or, or_false, false_and, and_false, eq_self_iff_true, Option.toList_some, Option.toList_none, List.cons_append, List.nil_append, mo_cat_0, mo_cat_c, mo_ct_i, mo_ct_l, mo_ct_r, mo_ct_n, mo_ct_f, Nat.zero_le, Nat.reduceAdd, Nat.reduceLeDiff, Nat.reduceLT, Nat.reduceEqDiff, Nat.reduceSub, mo_rf_s, mo_rf_n, reduceCtorEq, mo_st, mo_st2, mo_lg_0, mo_lg_s, List.set_cons_zero, List.set_cons_succ, List.length_cons, List.length_nil, List.getElem?_cons_zero, List.getElem?_cons_succ, Nat.reduceBEq, Bool.false_eq_true, beq_self_eq_true, mo_ME, mo_u_a, mo_z_a, mo_y_a, Nat.add_left_cancel_iff, mo_TSW, hs', H, hf, nI_1, nI_pred, mo_LC, Int32.reduceLT, Int32.reduceLE, i01, i12, i23, i34, hv, hc, h0, hk, hco, hvc, hcc, hid, hv_m, hc_m, hst, t1, e4, e6, hac, hW]
  refine kQ _ ⟨r_sh_c hs (by simp only [m_push, mo_ME]) (by simp only [m_push, mo_ME]) (by simp only [m_push, mo_ME]), ?_⟩ ?_
  · simp only [r_vw_push, r_VW, hvw]
  · repeat (first | with_reducible exact r_fc_rf _ _ | with_reducible refine r_fc_push ?_ | with_reducible refine r_fc_I ?_ | with_reducible refine r_fc_L ?_ | with_reducible refine r_fc_AI (by decide) ?_ | with_reducible refine r_fc_AL (by decide) ?_)
