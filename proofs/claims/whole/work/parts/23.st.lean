set_option maxRecDepth 100000 in
set_option maxHeartbeats 1000000 in
theorem S_k7p {r f : Nat} {A : mo_A} {e c nm u g0 : Nat} (hf : A.1 27 0 = nI (f + 1)) (hlt : f < 399) (h0 : A.1 37 0 = 0) (hk : A.1 28 f = 0) (he : A.1 29 f = nI e) (hel : e < 60) (hst : A.1 30 f = 1) (hco : A.1 31 f = nI c) (hcl : c < 8) (hn : A.2 2 e = lN nm) (hnm : nm < 4) (hsrt : A.1 1 e = 7) (hop : A.1 11 (5 * c + 1 + nm) = 2) (hu : A.1 38 0 = nI u) (hu2 : u < 12) (hg : A.1 41 0 = nI g0) : r_S r A (a_push (a_I (a_I (a_I A 30 f 2) 38 0 (nI (u + 1))) 41 0 (nI (g0 + 1))) (f + 1) 2 (nI (5 * c + 1 + nm)) (A.1 32 f) (nI c) (A.2 36 0)) := by
  intro μ h d Q kQ
  have hs := h.1
  have hs' := h.1
  unfold r_sh at hs'
  have hvw := h.2
  have H := r_rd h
  have hv : vp_in (nI f) 400 := vp_in_nI (by omega) (by decide)
  have hc : (nI f).toNatClampNeg = f := nI_clamp (by omega)
  have hve : vp_in (nI e) 60 := vp_in_nI hel (by decide)
  have hce : (nI e).toNatClampNeg = e := nI_clamp (by omega)
  have hvc : vp_in (nI c) 8 := vp_in_nI hcl (by decide)
  have hcc : (nI c).toNatClampNeg = c := nI_clamp (by omega)
  have hv_i : vp_in (nI (5 * c + 1 + nm)) 40 := vp_in_nI (by omega) (by decide)
  have hc_i : (nI (5 * c + 1 + nm)).toNatClampNeg = 5 * c + 1 + nm := nI_clamp (by omega)
  have hm1 : (nI c = -1) = False := nI_nm1 (by omega)
  have hW := fun d w1 x1 p1 c1 g1 Q => R_enter (d := d) (μ := (mo_wAI μ (r + 25) f 2)) (t := f + 1) (u := u) (g0 := g0) (r_sh_c hs (by simp only [mo_ME]) (by simp only [mo_ME]) (by simp only [mo_ME])) (by simp only [mo_ME, mo_u_a, Nat.reduceEqDiff, false_and, if_false]; exact (r_rdI h 27 rfl).trans hf) (by omega) (by simp only [mo_ME, mo_u_a, Nat.reduceEqDiff, false_and, if_false]; exact (r_rdI h 38 rfl).trans hu) hu2 (by simp only [mo_ME, mo_u_a, Nat.reduceEqDiff, false_and, if_false]; exact (r_rdI h 41 rfl).trans hg) w1 x1 p1 c1 g1 Q
  simp only [we99_0, we99_1, we103_0, we103_1, we103_2, we103_3, we103_4, we106_0, we106_1, we106_2, en99, en103, en106, true_and, and_true, if_false, if_true, not_true_eq_false, not_false_eq_true, false_implies, true_implies, implies_true, forall_const, true_or, or_true, false_or, or_false, false_and, and_false, eq_self_iff_true, Option.toList_some, Option.toList_none, List.cons_append, List.nil_append, mo_cat_0, mo_cat_c, mo_ct_i, mo_ct_l, mo_ct_r, mo_ct_n, mo_ct_f, Nat.zero_le, Nat.reduceAdd, Nat.reduceLeDiff, Nat.reduceLT, Nat.reduceEqDiff, Nat.reduceSub, mo_rf_s, mo_rf_n, reduceCtorEq, mo_st, mo_st2, mo_lg_0, mo_lg_s, List.set_cons_zero, List.set_cons_succ, List.length_cons, List.length_nil, List.getElem?_cons_zero, List.getElem?_cons_succ, Nat.reduceBEq, Bool.false_eq_true, beq_self_eq_true, mo_ME, mo_u_a, mo_z_a, mo_y_a, Nat.add_left_cancel_iff, mo_TSW, hs', H, hf, nI_1, nI_pred, mo_LC, Int32.reduceLT, Int32.reduceLE, i01, i12, i23, i34, hv, hc, h0, hk, he, hve, hce, hsrt, hst, hco, hvc, hcc, hn, lN_i, l5, nI_add, hop, hv_i, hc_i, hm1, hW]
  refine kQ _ ⟨r_sh_c hs (by simp only [m_push, mo_ME]) (by simp only [m_push, mo_ME]) (by simp only [m_push, mo_ME]), ?_⟩ ?_
  · simp only [m_push, a_push, r_VW, hvw]
  · repeat (first | with_reducible exact r_fc_rf _ _ | with_reducible refine r_fc_push ?_ | with_reducible refine r_fc_I ?_ | with_reducible refine r_fc_L ?_ | with_reducible refine r_fc_AI (by decide) ?_ | with_reducible refine r_fc_AL (by decide) ?_)
set_option maxRecDepth 100000 in
set_option maxHeartbeats 1000000 in
theorem S_k7pS {r f : Nat} {A : mo_A} {e c nm : Nat} (hf : A.1 27 0 = nI (f + 1)) (hlt : f < 399) (h0 : A.1 37 0 = 0) (hk : A.1 28 f = 0) (he : A.1 29 f = nI e) (hel : e < 60) (hst : A.1 30 f = 1) (hco : A.1 31 f = nI c) (hcl : c < 8) (hn : A.2 2 e = lN nm) (hnm : nm < 4) (hsrt : A.1 1 e = 7) (hop : A.1 11 (5 * c + 1 + nm) = 2) (hu : A.1 38 0 = 12) : r_S r A (a_I (a_I A 30 f 2) 37 0 8) := by
  intro μ h d Q kQ
  have hs := h.1
  have hs' := h.1
  unfold r_sh at hs'
  have hvw := h.2
  have H := r_rd h
  have hv : vp_in (nI f) 400 := vp_in_nI (by omega) (by decide)
  have hc : (nI f).toNatClampNeg = f := nI_clamp (by omega)
  have hve : vp_in (nI e) 60 := vp_in_nI hel (by decide)
  have hce : (nI e).toNatClampNeg = e := nI_clamp (by omega)
  have hvc : vp_in (nI c) 8 := vp_in_nI hcl (by decide)
  have hcc : (nI c).toNatClampNeg = c := nI_clamp (by omega)
  have hv_i : vp_in (nI (5 * c + 1 + nm)) 40 := vp_in_nI (by omega) (by decide)
  have hc_i : (nI (5 * c + 1 + nm)).toNatClampNeg = 5 * c + 1 + nm := nI_clamp (by omega)
  have hm1 : (nI c = -1) = False := nI_nm1 (by omega)
  have hW := fun d w1 x1 p1 c1 g1 Q => R_enterS (d := d) (μ := (mo_wAI μ (r + 25) f 2)) (r_sh_c hs (by simp only [mo_ME]) (by simp only [mo_ME]) (by simp only [mo_ME])) (by simp only [mo_ME, mo_u_a, Nat.reduceEqDiff, false_and, if_false]; exact (r_rdI h 38 rfl).trans hu) w1 x1 p1 c1 g1 Q
  simp only [we99_0, we99_1, we103_0, we103_1, we103_2, we103_3, we103_4, we106_0, we106_1, we106_2, en99, en103, en106, true_and, and_true, if_false, if_true, not_true_eq_false, not_false_eq_true, false_implies, true_implies, implies_true, forall_const, true_or, or_true, false_or, or_false, false_and, and_false, eq_self_iff_true, Option.toList_some, Option.toList_none, List.cons_append, List.nil_append, mo_cat_0, mo_cat_c, mo_ct_i, mo_ct_l, mo_ct_r, mo_ct_n, mo_ct_f, Nat.zero_le, Nat.reduceAdd, Nat.reduceLeDiff, Nat.reduceLT, Nat.reduceEqDiff, Nat.reduceSub, mo_rf_s, mo_rf_n, reduceCtorEq, mo_st, mo_st2, mo_lg_0, mo_lg_s, List.set_cons_zero, List.set_cons_succ, List.length_cons, List.length_nil, List.getElem?_cons_zero, List.getElem?_cons_succ, Nat.reduceBEq, Bool.false_eq_true, beq_self_eq_true, mo_ME, mo_u_a, mo_z_a, mo_y_a, Nat.add_left_cancel_iff, mo_TSW, hs', H, hf, nI_1, nI_pred, mo_LC, Int32.reduceLT, Int32.reduceLE, i01, i12, i23, i34, hv, hc, h0, hk, he, hve, hce, hsrt, hst, hco, hvc, hcc, hn, lN_i, l5, nI_add, hop, hv_i, hc_i, hm1, hW]
  refine kQ _ ⟨r_sh_c hs (by simp only [m_push, mo_ME]) (by simp only [m_push, mo_ME]) (by simp only [m_push, mo_ME]), ?_⟩ ?_
  · simp only [m_push, a_push, r_VW, hvw]
  · repeat (first | with_reducible exact r_fc_rf _ _ | with_reducible refine r_fc_push ?_ | with_reducible refine r_fc_I ?_ | with_reducible refine r_fc_L ?_ | with_reducible refine r_fc_AI (by decide) ?_ | with_reducible refine r_fc_AL (by decide) ?_)
set_option maxRecDepth 100000 in
set_option maxHeartbeats 1000000 in
theorem S_k7n {r f : Nat} {A : mo_A} {e c nm p q0 nc k u g0 : Nat} (hf : A.1 27 0 = nI (f + 1)) (hlt : f < 399) (h0 : A.1 37 0 = 0) (hk : A.1 28 f = 0) (he : A.1 29 f = nI e) (hel : e < 60) (hst : A.1 30 f = 1) (hco : A.1 31 f = nI c) (hcl : c < 8) (hn : A.2 2 e = lN nm) (hnm : nm < 4) (hsrt : A.1 1 e = 7) (hop : ¬ A.1 11 (5 * c + 1 + nm) = 2) (hpw : a_pw A nc) (hnc : nc ≤ 8) (hob : A.1 32 f = nI p) (hpl : p < 100) (hcf : A.1 18 p = nI q0) (hq0 : q0 < nc) (hnr : a_near A 8 q0 nm = some k) (hu : A.1 38 0 = nI u) (hu2 : u < 12) (hg : A.1 41 0 = nI g0) : r_S r A (a_push (a_I (a_I (a_I A 30 f 2) 38 0 (nI (u + 1))) 41 0 (nI (g0 + 1))) (f + 1) 2 (nI (5 * k + 1 + nm)) (nI p) (nI k) (A.2 36 0)) := by
  intro μ h d Q kQ
  have hs := h.1
  have hs' := h.1
  unfold r_sh at hs'
  have hvw := h.2
  have H := r_rd h
  have hv : vp_in (nI f) 400 := vp_in_nI (by omega) (by decide)
  have hc : (nI f).toNatClampNeg = f := nI_clamp (by omega)
  have hve : vp_in (nI e) 60 := vp_in_nI hel (by decide)
  have hce : (nI e).toNatClampNeg = e := nI_clamp (by omega)
  have hvc : vp_in (nI c) 8 := vp_in_nI hcl (by decide)
  have hcc : (nI c).toNatClampNeg = c := nI_clamp (by omega)
  have hv_i : vp_in (nI (5 * c + 1 + nm)) 40 := vp_in_nI (by omega) (by decide)
  have hc_i : (nI (5 * c + 1 + nm)).toNatClampNeg = 5 * c + 1 + nm := nI_clamp (by omega)
  have hN := fun d c nm hnm hc Q => R_near (d := d) (nm := nm) (c := c) (μ := (mo_wAI μ (r + 25) f 2)) (A := A) (nc := nc) (r_sh_c hs (by simp only [mo_ME]) (by simp only [mo_ME]) (by simp only [mo_ME])) (fun i => by simp only [mo_ME, mo_u_a, Nat.add_left_cancel_iff, Nat.reduceEqDiff, false_and, if_false, H]) (fun i => by simp only [mo_ME, mo_u_a, Nat.add_left_cancel_iff, Nat.reduceEqDiff, false_and, if_false, H]) hnc hpw hnm hc Q
  have hN2 := fun d Q => hN d q0 nm hnm hq0 Q
  have hvp : vp_in (nI p) 100 := vp_in_nI hpl (by decide)
  have hcp : (nI p).toNatClampNeg = p := nI_clamp (by omega)
  have hkl : k ≤ q0 := a_near_lt hnc hpw _ _ _ _ hq0 hnr
  have hm1 : (nI k = -1) = False := nI_nm1 (by omega)
  have hW := fun d w1 x1 p1 c1 g1 Q => R_enter (d := d) (μ := (mo_wAI μ (r + 25) f 2)) (t := f + 1) (u := u) (g0 := g0) (r_sh_c hs (by simp only [mo_ME]) (by simp only [mo_ME]) (by simp only [mo_ME])) (by simp only [mo_ME, mo_u_a, Nat.reduceEqDiff, false_and, if_false]; exact (r_rdI h 27 rfl).trans hf) (by omega) (by simp only [mo_ME, mo_u_a, Nat.reduceEqDiff, false_and, if_false]; exact (r_rdI h 38 rfl).trans hu) hu2 (by simp only [mo_ME, mo_u_a, Nat.reduceEqDiff, false_and, if_false]; exact (r_rdI h 41 rfl).trans hg) w1 x1 p1 c1 g1 Q
  simp only [we99_0, we99_1, we103_0, we103_1, we103_2, we103_3, we103_4, we106_0, we106_1, we106_2, en99, en103, en106, true_and, and_true, if_false, if_true, not_true_eq_false, not_false_eq_true, false_implies, true_implies, implies_true, forall_const, true_or, or_true, false_or, or_false, false_and, and_false, eq_self_iff_true, Option.toList_some, Option.toList_none, List.cons_append, List.nil_append, mo_cat_0, mo_cat_c, mo_ct_i, mo_ct_l, mo_ct_r, mo_ct_n, mo_ct_f, Nat.zero_le, Nat.reduceAdd, Nat.reduceLeDiff, Nat.reduceLT, Nat.reduceEqDiff, Nat.reduceSub, mo_rf_s, mo_rf_n, reduceCtorEq, mo_st, mo_st2, mo_lg_0, mo_lg_s, List.set_cons_zero, List.set_cons_succ, List.length_cons, List.length_nil, List.getElem?_cons_zero, List.getElem?_cons_succ, Nat.reduceBEq, Bool.false_eq_true, beq_self_eq_true, mo_ME, mo_u_a, mo_z_a, mo_y_a, Nat.add_left_cancel_iff, mo_TSW, hs', H, hf, nI_1, nI_pred, mo_LC, Int32.reduceLT, Int32.reduceLE, i01, i12, i23, i34, hv, hc, h0, hk, he, hve, hce, hsrt, hst, hco, hvc, hcc, hn, lN_i, l5, nI_add, hop, hv_i, hc_i, hm1, hob, hcf, hvp, hcp, hN2, hnr, a_enc_s, hW]
  refine kQ _ ⟨r_sh_c hs (by simp only [m_push, mo_ME]) (by simp only [m_push, mo_ME]) (by simp only [m_push, mo_ME]), ?_⟩ ?_
  · simp only [m_push, a_push, r_VW, hvw]
  · repeat (first | with_reducible exact r_fc_rf _ _ | with_reducible refine r_fc_push ?_ | with_reducible refine r_fc_I ?_ | with_reducible refine r_fc_L ?_ | with_reducible refine r_fc_AI (by decide) ?_ | with_reducible refine r_fc_AL (by decide) ?_)
set_option maxRecDepth 100000 in
set_option maxHeartbeats 1000000 in
theorem S_k7nS {r f : Nat} {A : mo_A} {e c nm p q0 nc k : Nat} (hf : A.1 27 0 = nI (f + 1)) (hlt : f < 399) (h0 : A.1 37 0 = 0) (hk : A.1 28 f = 0) (he : A.1 29 f = nI e) (hel : e < 60) (hst : A.1 30 f = 1) (hco : A.1 31 f = nI c) (hcl : c < 8) (hn : A.2 2 e = lN nm) (hnm : nm < 4) (hsrt : A.1 1 e = 7) (hop : ¬ A.1 11 (5 * c + 1 + nm) = 2) (hpw : a_pw A nc) (hnc : nc ≤ 8) (hob : A.1 32 f = nI p) (hpl : p < 100) (hcf : A.1 18 p = nI q0) (hq0 : q0 < nc) (hnr : a_near A 8 q0 nm = some k) (hu : A.1 38 0 = 12) : r_S r A (a_I (a_I A 30 f 2) 37 0 8) := by
  intro μ h d Q kQ
  have hs := h.1
  have hs' := h.1
  unfold r_sh at hs'
  have hvw := h.2
  have H := r_rd h
  have hv : vp_in (nI f) 400 := vp_in_nI (by omega) (by decide)
  have hc : (nI f).toNatClampNeg = f := nI_clamp (by omega)
  have hve : vp_in (nI e) 60 := vp_in_nI hel (by decide)
  have hce : (nI e).toNatClampNeg = e := nI_clamp (by omega)
  have hvc : vp_in (nI c) 8 := vp_in_nI hcl (by decide)
  have hcc : (nI c).toNatClampNeg = c := nI_clamp (by omega)
  have hv_i : vp_in (nI (5 * c + 1 + nm)) 40 := vp_in_nI (by omega) (by decide)
  have hc_i : (nI (5 * c + 1 + nm)).toNatClampNeg = 5 * c + 1 + nm := nI_clamp (by omega)
  have hN := fun d c nm hnm hc Q => R_near (d := d) (nm := nm) (c := c) (μ := (mo_wAI μ (r + 25) f 2)) (A := A) (nc := nc) (r_sh_c hs (by simp only [mo_ME]) (by simp only [mo_ME]) (by simp only [mo_ME])) (fun i => by simp only [mo_ME, mo_u_a, Nat.add_left_cancel_iff, Nat.reduceEqDiff, false_and, if_false, H]) (fun i => by simp only [mo_ME, mo_u_a, Nat.add_left_cancel_iff, Nat.reduceEqDiff, false_and, if_false, H]) hnc hpw hnm hc Q
  have hN2 := fun d Q => hN d q0 nm hnm hq0 Q
  have hvp : vp_in (nI p) 100 := vp_in_nI hpl (by decide)
  have hcp : (nI p).toNatClampNeg = p := nI_clamp (by omega)
  have hkl : k ≤ q0 := a_near_lt hnc hpw _ _ _ _ hq0 hnr
  have hm1 : (nI k = -1) = False := nI_nm1 (by omega)
  have hW := fun d w1 x1 p1 c1 g1 Q => R_enterS (d := d) (μ := (mo_wAI μ (r + 25) f 2)) (r_sh_c hs (by simp only [mo_ME]) (by simp only [mo_ME]) (by simp only [mo_ME])) (by simp only [mo_ME, mo_u_a, Nat.reduceEqDiff, false_and, if_false]; exact (r_rdI h 38 rfl).trans hu) w1 x1 p1 c1 g1 Q
  simp only [we99_0, we99_1, we103_0, we103_1, we103_2, we103_3, we103_4, we106_0, we106_1, we106_2, en99, en103, en106, true_and, and_true, if_false, if_true, not_true_eq_false, not_false_eq_true, false_implies, true_implies, implies_true, forall_const, true_or, or_true, false_or, or_false, false_and, and_false, eq_self_iff_true, Option.toList_some, Option.toList_none, List.cons_append, List.nil_append, mo_cat_0, mo_cat_c, mo_ct_i, mo_ct_l, mo_ct_r, mo_ct_n, mo_ct_f, Nat.zero_le, Nat.reduceAdd, Nat.reduceLeDiff, Nat.reduceLT, Nat.reduceEqDiff, Nat.reduceSub, mo_rf_s, mo_rf_n, reduceCtorEq, mo_st, mo_st2, mo_lg_0, mo_lg_s, List.set_cons_zero, List.set_cons_succ, List.length_cons, List.length_nil, List.getElem?_cons_zero, List.getElem?_cons_succ, Nat.reduceBEq, Bool.false_eq_true, beq_self_eq_true, mo_ME, mo_u_a, mo_z_a, mo_y_a, Nat.add_left_cancel_iff, mo_TSW, hs', H, hf, nI_1, nI_pred, mo_LC, Int32.reduceLT, Int32.reduceLE, i01, i12, i23, i34, hv, hc, h0, hk, he, hve, hce, hsrt, hst, hco, hvc, hcc, hn, lN_i, l5, nI_add, hop, hv_i, hc_i, hm1, hob, hcf, hvp, hcp, hN2, hnr, a_enc_s, hW]
  refine kQ _ ⟨r_sh_c hs (by simp only [m_push, mo_ME]) (by simp only [m_push, mo_ME]) (by simp only [m_push, mo_ME]), ?_⟩ ?_
  · simp only [m_push, a_push, r_VW, hvw]
  · repeat (first | with_reducible exact r_fc_rf _ _ | with_reducible refine r_fc_push ?_ | with_reducible refine r_fc_I ?_ | with_reducible refine r_fc_L ?_ | with_reducible refine r_fc_AI (by decide) ?_ | with_reducible refine r_fc_AL (by decide) ?_)
set_option maxRecDepth 100000 in
set_option maxHeartbeats 1000000 in
theorem S_k7Fa {r f : Nat} {A : mo_A} {e c nm p q0 nc q : Nat} (hf : A.1 27 0 = nI (f + 1)) (hlt : f < 399) (h0 : A.1 37 0 = 0) (hk : A.1 28 f = 0) (he : A.1 29 f = nI e) (hel : e < 60) (hst : A.1 30 f = 1) (hco : A.1 31 f = nI c) (hcl : c < 8) (hn : A.2 2 e = lN nm) (hnm : nm < 4) (hsrt : A.1 1 e = 7) (hop : ¬ A.1 11 (5 * c + 1 + nm) = 2) (hpw : a_pw A nc) (hnc : nc ≤ 8) (hob : A.1 32 f = nI p) (hpl : p < 100) (hcf : A.1 18 p = nI q0) (hq0 : q0 < nc) (hnr : a_near A 8 q0 nm = none) (hq : A.1 39 0 = nI q) (hq4 : q < 4) : r_S r A (a_I (a_I (a_I A 30 f 2) 39 0 (nI (q + 1))) 37 0 1) := by
  intro μ h d Q kQ
  have hs := h.1
  have hs' := h.1
  unfold r_sh at hs'
  have hvw := h.2
  have H := r_rd h
  have hv : vp_in (nI f) 400 := vp_in_nI (by omega) (by decide)
  have hc : (nI f).toNatClampNeg = f := nI_clamp (by omega)
  have hve : vp_in (nI e) 60 := vp_in_nI hel (by decide)
  have hce : (nI e).toNatClampNeg = e := nI_clamp (by omega)
  have hvc : vp_in (nI c) 8 := vp_in_nI hcl (by decide)
  have hcc : (nI c).toNatClampNeg = c := nI_clamp (by omega)
  have hv_i : vp_in (nI (5 * c + 1 + nm)) 40 := vp_in_nI (by omega) (by decide)
  have hc_i : (nI (5 * c + 1 + nm)).toNatClampNeg = 5 * c + 1 + nm := nI_clamp (by omega)
  have hN := fun d c nm hnm hc Q => R_near (d := d) (nm := nm) (c := c) (μ := (mo_wAI μ (r + 25) f 2)) (A := A) (nc := nc) (r_sh_c hs (by simp only [mo_ME]) (by simp only [mo_ME]) (by simp only [mo_ME])) (fun i => by simp only [mo_ME, mo_u_a, Nat.add_left_cancel_iff, Nat.reduceEqDiff, false_and, if_false, H]) (fun i => by simp only [mo_ME, mo_u_a, Nat.add_left_cancel_iff, Nat.reduceEqDiff, false_and, if_false, H]) hnc hpw hnm hc Q
  have hN2 := fun d Q => hN d q0 nm hnm hq0 Q
  have hvp : vp_in (nI p) 100 := vp_in_nI hpl (by decide)
  have hcp : (nI p).toNatClampNeg = p := nI_clamp (by omega)
  have hW := fun d w Q => R_fail (d := d) (μ := (mo_wAI μ (r + 25) f 2)) (k := q) (r_sh_c hs (by simp only [mo_ME]) (by simp only [mo_ME]) (by simp only [mo_ME])) (by simp only [mo_ME, mo_u_a, Nat.reduceEqDiff, false_and, if_false]; exact (r_rdI h 39 rfl).trans hq) hq4 w Q
  simp only [we99_0, we99_1, we103_0, we103_1, we103_2, we103_3, we103_4, we106_0, we106_1, we106_2, en99, en103, en106, true_and, and_true, if_false, if_true, not_true_eq_false, not_false_eq_true, false_implies, true_implies, implies_true, forall_const, true_or, or_true, false_or, or_false, false_and, and_false, eq_self_iff_true, Option.toList_some, Option.toList_none, List.cons_append, List.nil_append, mo_cat_0, mo_cat_c, mo_ct_i, mo_ct_l, mo_ct_r, mo_ct_n, mo_ct_f, Nat.zero_le, Nat.reduceAdd, Nat.reduceLeDiff, Nat.reduceLT, Nat.reduceEqDiff, Nat.reduceSub, mo_rf_s, mo_rf_n, reduceCtorEq, mo_st, mo_st2, mo_lg_0, mo_lg_s, List.set_cons_zero, List.set_cons_succ, List.length_cons, List.length_nil, List.getElem?_cons_zero, List.getElem?_cons_succ, Nat.reduceBEq, Bool.false_eq_true, beq_self_eq_true, mo_ME, mo_u_a, mo_z_a, mo_y_a, Nat.add_left_cancel_iff, mo_TSW, hs', H, hf, nI_1, nI_pred, mo_LC, Int32.reduceLT, Int32.reduceLE, i01, i12, i23, i34, hv, hc, h0, hk, he, hve, hce, hsrt, hst, hco, hvc, hcc, hn, lN_i, l5, nI_add, hop, hv_i, hc_i, hob, hcf, hvp, hcp, hN2, hnr, a_enc_0, hW]
  refine kQ _ ⟨r_sh_c hs (by simp only [m_push, mo_ME]) (by simp only [m_push, mo_ME]) (by simp only [m_push, mo_ME]), ?_⟩ ?_
  · simp only [m_push, a_push, r_VW, hvw]
  · repeat (first | with_reducible exact r_fc_rf _ _ | with_reducible refine r_fc_push ?_ | with_reducible refine r_fc_I ?_ | with_reducible refine r_fc_L ?_ | with_reducible refine r_fc_AI (by decide) ?_ | with_reducible refine r_fc_AL (by decide) ?_)
set_option maxRecDepth 100000 in
set_option maxHeartbeats 1000000 in
theorem S_k8Na {r f : Nat} {A : mo_A} {e c nm q : Nat} (hf : A.1 27 0 = nI (f + 1)) (hlt : f < 399) (h0 : A.1 37 0 = 0) (hk : A.1 28 f = 0) (he : A.1 29 f = nI e) (hel : e < 60) (hst : A.1 30 f = 1) (hco : A.1 31 f = nI c) (hcl : c < 8) (hn : A.2 2 e = lN nm) (hnm : nm < 4) (hsrt : A.1 1 e = 8) (hpp : A.1 6 c = -1) (hq : A.1 39 0 = nI q) (hq4 : q < 4) : r_S r A (a_I (a_I (a_I A 30 f 2) 39 0 (nI (q + 1))) 37 0 1) := by
  intro μ h d Q kQ
  have hs := h.1
  have hs' := h.1
  unfold r_sh at hs'
  have hvw := h.2
  have H := r_rd h
  have hv : vp_in (nI f) 400 := vp_in_nI (by omega) (by decide)
  have hc : (nI f).toNatClampNeg = f := nI_clamp (by omega)
  have hve : vp_in (nI e) 60 := vp_in_nI hel (by decide)
  have hce : (nI e).toNatClampNeg = e := nI_clamp (by omega)
  have hvc : vp_in (nI c) 8 := vp_in_nI hcl (by decide)
  have hcc : (nI c).toNatClampNeg = c := nI_clamp (by omega)
  have hW := fun d w Q => R_fail (d := d) (μ := (mo_wAI μ (r + 25) f 2)) (k := q) (r_sh_c hs (by simp only [mo_ME]) (by simp only [mo_ME]) (by simp only [mo_ME])) (by simp only [mo_ME, mo_u_a, Nat.reduceEqDiff, false_and, if_false]; exact (r_rdI h 39 rfl).trans hq) hq4 w Q
  simp only [we99_0, we99_1, we103_0, we103_1, we103_2, we103_3, we103_4, we106_0, we106_1, we106_2, en99, en103, en106, true_and, and_true, if_false, if_true, not_true_eq_false, not_false_eq_true, false_implies, true_implies, implies_true, forall_const, true_or, or_true, false_or, or_false, false_and, and_false, eq_self_iff_true, Option.toList_some, Option.toList_none, List.cons_append, List.nil_append, mo_cat_0, mo_cat_c, mo_ct_i, mo_ct_l, mo_ct_r, mo_ct_n, mo_ct_f, Nat.zero_le, Nat.reduceAdd, Nat.reduceLeDiff, Nat.reduceLT, Nat.reduceEqDiff, Nat.reduceSub, mo_rf_s, mo_rf_n, reduceCtorEq, mo_st, mo_st2, mo_lg_0, mo_lg_s, List.set_cons_zero, List.set_cons_succ, List.length_cons, List.length_nil, List.getElem?_cons_zero, List.getElem?_cons_succ, Nat.reduceBEq, Bool.false_eq_true, beq_self_eq_true, mo_ME, mo_u_a, mo_z_a, mo_y_a, Nat.add_left_cancel_iff, mo_TSW, hs', H, hf, nI_1, nI_pred, mo_LC, Int32.reduceLT, Int32.reduceLE, i01, i12, i23, i34, hv, hc, h0, hk, he, hve, hce, hsrt, hst, hco, hvc, hcc, hn, lN_i, l5, nI_add, hpp, hW]
  refine kQ _ ⟨r_sh_c hs (by simp only [m_push, mo_ME]) (by simp only [m_push, mo_ME]) (by simp only [m_push, mo_ME]), ?_⟩ ?_
  · simp only [m_push, a_push, r_VW, hvw]
  · repeat (first | with_reducible exact r_fc_rf _ _ | with_reducible refine r_fc_push ?_ | with_reducible refine r_fc_I ?_ | with_reducible refine r_fc_L ?_ | with_reducible refine r_fc_AI (by decide) ?_ | with_reducible refine r_fc_AL (by decide) ?_)
set_option maxRecDepth 100000 in
set_option maxHeartbeats 1000000 in
theorem S_k7Fb {r f : Nat} {A : mo_A} {e c nm p q0 nc  : Nat} (hf : A.1 27 0 = nI (f + 1)) (hlt : f < 399) (h0 : A.1 37 0 = 0) (hk : A.1 28 f = 0) (he : A.1 29 f = nI e) (hel : e < 60) (hst : A.1 30 f = 1) (hco : A.1 31 f = nI c) (hcl : c < 8) (hn : A.2 2 e = lN nm) (hnm : nm < 4) (hsrt : A.1 1 e = 7) (hop : ¬ A.1 11 (5 * c + 1 + nm) = 2) (hpw : a_pw A nc) (hnc : nc ≤ 8) (hob : A.1 32 f = nI p) (hpl : p < 100) (hcf : A.1 18 p = nI q0) (hq0 : q0 < nc) (hnr : a_near A 8 q0 nm = none) (hq : A.1 39 0 = nI 4) : r_S r A (a_I (a_I (a_I A 30 f 2) 39 0 (nI 5)) 37 0 8) := by
  intro μ h d Q kQ
  have hs := h.1
  have hs' := h.1
  unfold r_sh at hs'
  have hvw := h.2
  have H := r_rd h
  have hv : vp_in (nI f) 400 := vp_in_nI (by omega) (by decide)
  have hc : (nI f).toNatClampNeg = f := nI_clamp (by omega)
  have hve : vp_in (nI e) 60 := vp_in_nI hel (by decide)
  have hce : (nI e).toNatClampNeg = e := nI_clamp (by omega)
  have hvc : vp_in (nI c) 8 := vp_in_nI hcl (by decide)
  have hcc : (nI c).toNatClampNeg = c := nI_clamp (by omega)
  have hv_i : vp_in (nI (5 * c + 1 + nm)) 40 := vp_in_nI (by omega) (by decide)
  have hc_i : (nI (5 * c + 1 + nm)).toNatClampNeg = 5 * c + 1 + nm := nI_clamp (by omega)
  have hN := fun d c nm hnm hc Q => R_near (d := d) (nm := nm) (c := c) (μ := (mo_wAI μ (r + 25) f 2)) (A := A) (nc := nc) (r_sh_c hs (by simp only [mo_ME]) (by simp only [mo_ME]) (by simp only [mo_ME])) (fun i => by simp only [mo_ME, mo_u_a, Nat.add_left_cancel_iff, Nat.reduceEqDiff, false_and, if_false, H]) (fun i => by simp only [mo_ME, mo_u_a, Nat.add_left_cancel_iff, Nat.reduceEqDiff, false_and, if_false, H]) hnc hpw hnm hc Q
  have hN2 := fun d Q => hN d q0 nm hnm hq0 Q
  have hvp : vp_in (nI p) 100 := vp_in_nI hpl (by decide)
  have hcp : (nI p).toNatClampNeg = p := nI_clamp (by omega)
  have hW := fun d w Q => R_failS (d := d) (μ := (mo_wAI μ (r + 25) f 2)) (r_sh_c hs (by simp only [mo_ME]) (by simp only [mo_ME]) (by simp only [mo_ME])) (by simp only [mo_ME, mo_u_a, Nat.reduceEqDiff, false_and, if_false]; exact (r_rdI h 39 rfl).trans hq) w Q
  simp only [we99_0, we99_1, we103_0, we103_1, we103_2, we103_3, we103_4, we106_0, we106_1, we106_2, en99, en103, en106, true_and, and_true, if_false, if_true, not_true_eq_false, not_false_eq_true, false_implies, true_implies, implies_true, forall_const, true_or, or_true, false_or, or_false, false_and, and_false, eq_self_iff_true, Option.toList_some, Option.toList_none, List.cons_append, List.nil_append, mo_cat_0, mo_cat_c, mo_ct_i, mo_ct_l, mo_ct_r, mo_ct_n, mo_ct_f, Nat.zero_le, Nat.reduceAdd, Nat.reduceLeDiff, Nat.reduceLT, Nat.reduceEqDiff, Nat.reduceSub, mo_rf_s, mo_rf_n, reduceCtorEq, mo_st, mo_st2, mo_lg_0, mo_lg_s, List.set_cons_zero, List.set_cons_succ, List.length_cons, List.length_nil, List.getElem?_cons_zero, List.getElem?_cons_succ, Nat.reduceBEq, Bool.false_eq_true, beq_self_eq_true, mo_ME, mo_u_a, mo_z_a, mo_y_a, Nat.add_left_cancel_iff, mo_TSW, hs', H, hf, nI_1, nI_pred, mo_LC, Int32.reduceLT, Int32.reduceLE, i01, i12, i23, i34, hv, hc, h0, hk, he, hve, hce, hsrt, hst, hco, hvc, hcc, hn, lN_i, l5, nI_add, hop, hv_i, hc_i, hob, hcf, hvp, hcp, hN2, hnr, a_enc_0, hW]
  refine kQ _ ⟨r_sh_c hs (by simp only [m_push, mo_ME]) (by simp only [m_push, mo_ME]) (by simp only [m_push, mo_ME]), ?_⟩ ?_
  · simp only [m_push, a_push, r_VW, hvw]
  · repeat (first | with_reducible exact r_fc_rf _ _ | with_reducible refine r_fc_push ?_ | with_reducible refine r_fc_I ?_ | with_reducible refine r_fc_L ?_ | with_reducible refine r_fc_AI (by decide) ?_ | with_reducible refine r_fc_AL (by decide) ?_)
set_option maxRecDepth 100000 in
set_option maxHeartbeats 1000000 in
theorem S_k8Nb {r f : Nat} {A : mo_A} {e c nm  : Nat} (hf : A.1 27 0 = nI (f + 1)) (hlt : f < 399) (h0 : A.1 37 0 = 0) (hk : A.1 28 f = 0) (he : A.1 29 f = nI e) (hel : e < 60) (hst : A.1 30 f = 1) (hco : A.1 31 f = nI c) (hcl : c < 8) (hn : A.2 2 e = lN nm) (hnm : nm < 4) (hsrt : A.1 1 e = 8) (hpp : A.1 6 c = -1) (hq : A.1 39 0 = nI 4) : r_S r A (a_I (a_I (a_I A 30 f 2) 39 0 (nI 5)) 37 0 8) := by
  intro μ h d Q kQ
  have hs := h.1
  have hs' := h.1
  unfold r_sh at hs'
  have hvw := h.2
  have H := r_rd h
  have hv : vp_in (nI f) 400 := vp_in_nI (by omega) (by decide)
  have hc : (nI f).toNatClampNeg = f := nI_clamp (by omega)
  have hve : vp_in (nI e) 60 := vp_in_nI hel (by decide)
  have hce : (nI e).toNatClampNeg = e := nI_clamp (by omega)
  have hvc : vp_in (nI c) 8 := vp_in_nI hcl (by decide)
  have hcc : (nI c).toNatClampNeg = c := nI_clamp (by omega)
  have hW := fun d w Q => R_failS (d := d) (μ := (mo_wAI μ (r + 25) f 2)) (r_sh_c hs (by simp only [mo_ME]) (by simp only [mo_ME]) (by simp only [mo_ME])) (by simp only [mo_ME, mo_u_a, Nat.reduceEqDiff, false_and, if_false]; exact (r_rdI h 39 rfl).trans hq) w Q
  simp only [we99_0, we99_1, we103_0, we103_1, we103_2, we103_3, we103_4, we106_0, we106_1, we106_2, en99, en103, en106, true_and, and_true, if_false, if_true, not_true_eq_false, not_false_eq_true, false_implies, true_implies, implies_true, forall_const, true_or, or_true, false_or, or_false, false_and, and_false, eq_self_iff_true, Option.toList_some, Option.toList_none, List.cons_append, List.nil_append, mo_cat_0, mo_cat_c, mo_ct_i, mo_ct_l, mo_ct_r, mo_ct_n, mo_ct_f, Nat.zero_le, Nat.reduceAdd, Nat.reduceLeDiff, Nat.reduceLT, Nat.reduceEqDiff, Nat.reduceSub, mo_rf_s, mo_rf_n, reduceCtorEq, mo_st, mo_st2, mo_lg_0, mo_lg_s, List.set_cons_zero, List.set_cons_succ, List.length_cons, List.length_nil, List.getElem?_cons_zero, List.getElem?_cons_succ, Nat.reduceBEq, Bool.false_eq_true, beq_self_eq_true, mo_ME, mo_u_a, mo_z_a, mo_y_a, Nat.add_left_cancel_iff, mo_TSW, hs', H, hf, nI_1, nI_pred, mo_LC, Int32.reduceLT, Int32.reduceLE, i01, i12, i23, i34, hv, hc, h0, hk, he, hve, hce, hsrt, hst, hco, hvc, hcc, hn, lN_i, l5, nI_add, hpp, hW]
  refine kQ _ ⟨r_sh_c hs (by simp only [m_push, mo_ME]) (by simp only [m_push, mo_ME]) (by simp only [m_push, mo_ME]), ?_⟩ ?_
  · simp only [m_push, a_push, r_VW, hvw]
  · repeat (first | with_reducible exact r_fc_rf _ _ | with_reducible refine r_fc_push ?_ | with_reducible refine r_fc_I ?_ | with_reducible refine r_fc_L ?_ | with_reducible refine r_fc_AI (by decide) ?_ | with_reducible refine r_fc_AL (by decide) ?_)
set_option maxRecDepth 100000 in
set_option maxHeartbeats 1000000 in
theorem S_k8n {r f : Nat} {A : mo_A} {e c nm q0 nc k u g0 : Nat} (hf : A.1 27 0 = nI (f + 1)) (hlt : f < 399) (h0 : A.1 37 0 = 0) (hk : A.1 28 f = 0) (he : A.1 29 f = nI e) (hel : e < 60) (hst : A.1 30 f = 1) (hco : A.1 31 f = nI c) (hcl : c < 8) (hn : A.2 2 e = lN nm) (hnm : nm < 4) (hsrt : A.1 1 e = 8) (hpw : a_pw A nc) (hnc : nc ≤ 8) (hpp : A.1 6 c = nI q0) (hq0 : q0 < nc) (hnr : a_near A 8 q0 nm = some k) (hu : A.1 38 0 = nI u) (hu2 : u < 12) (hg : A.1 41 0 = nI g0) : r_S r A (a_push (a_I (a_I (a_I A 30 f 2) 38 0 (nI (u + 1))) 41 0 (nI (g0 + 1))) (f + 1) 2 (nI (5 * k + 1 + nm)) (A.1 32 f) (nI k) (A.2 36 0)) := by
  intro μ h d Q kQ
  have hs := h.1
  have hs' := h.1
  unfold r_sh at hs'
  have hvw := h.2
  have H := r_rd h
  have hv : vp_in (nI f) 400 := vp_in_nI (by omega) (by decide)
  have hc : (nI f).toNatClampNeg = f := nI_clamp (by omega)
  have hve : vp_in (nI e) 60 := vp_in_nI hel (by decide)
  have hce : (nI e).toNatClampNeg = e := nI_clamp (by omega)
  have hvc : vp_in (nI c) 8 := vp_in_nI hcl (by decide)
  have hcc : (nI c).toNatClampNeg = c := nI_clamp (by omega)
  have hN := fun d c nm hnm hc Q => R_near (d := d) (nm := nm) (c := c) (μ := (mo_wAI μ (r + 25) f 2)) (A := A) (nc := nc) (r_sh_c hs (by simp only [mo_ME]) (by simp only [mo_ME]) (by simp only [mo_ME])) (fun i => by simp only [mo_ME, mo_u_a, Nat.add_left_cancel_iff, Nat.reduceEqDiff, false_and, if_false, H]) (fun i => by simp only [mo_ME, mo_u_a, Nat.add_left_cancel_iff, Nat.reduceEqDiff, false_and, if_false, H]) hnc hpw hnm hc Q
  have hN2 := fun d Q => hN d q0 nm hnm hq0 Q
  have hm0 : (nI q0 = -1) = False := nI_nm1 (by omega)
  have hkl : k ≤ q0 := a_near_lt hnc hpw _ _ _ _ hq0 hnr
  have hm1 : (nI k = -1) = False := nI_nm1 (by omega)
  have hW := fun d w1 x1 p1 c1 g1 Q => R_enter (d := d) (μ := (mo_wAI μ (r + 25) f 2)) (t := f + 1) (u := u) (g0 := g0) (r_sh_c hs (by simp only [mo_ME]) (by simp only [mo_ME]) (by simp only [mo_ME])) (by simp only [mo_ME, mo_u_a, Nat.reduceEqDiff, false_and, if_false]; exact (r_rdI h 27 rfl).trans hf) (by omega) (by simp only [mo_ME, mo_u_a, Nat.reduceEqDiff, false_and, if_false]; exact (r_rdI h 38 rfl).trans hu) hu2 (by simp only [mo_ME, mo_u_a, Nat.reduceEqDiff, false_and, if_false]; exact (r_rdI h 41 rfl).trans hg) w1 x1 p1 c1 g1 Q
  simp only [we99_0, we99_1, we103_0, we103_1, we103_2, we103_3, we103_4, we106_0, we106_1, we106_2, en99, en103, en106, true_and, and_true, if_false, if_true, not_true_eq_false, not_false_eq_true, false_implies, true_implies, implies_true, forall_const, true_or, or_true, false_or, or_false, false_and, and_false, eq_self_iff_true, Option.toList_some, Option.toList_none, List.cons_append, List.nil_append, mo_cat_0, mo_cat_c, mo_ct_i, mo_ct_l, mo_ct_r, mo_ct_n, mo_ct_f, Nat.zero_le, Nat.reduceAdd, Nat.reduceLeDiff, Nat.reduceLT, Nat.reduceEqDiff, Nat.reduceSub, mo_rf_s, mo_rf_n, reduceCtorEq, mo_st, mo_st2, mo_lg_0, mo_lg_s, List.set_cons_zero, List.set_cons_succ, List.length_cons, List.length_nil, List.getElem?_cons_zero, List.getElem?_cons_succ, Nat.reduceBEq, Bool.false_eq_true, beq_self_eq_true, mo_ME, mo_u_a, mo_z_a, mo_y_a, Nat.add_left_cancel_iff, mo_TSW, hs', H, hf, nI_1, nI_pred, mo_LC, Int32.reduceLT, Int32.reduceLE, i01, i12, i23, i34, hv, hc, h0, hk, he, hve, hce, hsrt, hst, hco, hvc, hcc, hn, lN_i, l5, nI_add, hpp, hm0, hm1, hN2, hnr, a_enc_s, hW]
  refine kQ _ ⟨r_sh_c hs (by simp only [m_push, mo_ME]) (by simp only [m_push, mo_ME]) (by simp only [m_push, mo_ME]), ?_⟩ ?_
  · simp only [m_push, a_push, r_VW, hvw]
  · repeat (first | with_reducible exact r_fc_rf _ _ | with_reducible refine r_fc_push ?_ | with_reducible refine r_fc_I ?_ | with_reducible refine r_fc_L ?_ | with_reducible refine r_fc_AI (by decide) ?_ | with_reducible refine r_fc_AL (by decide) ?_)
set_option maxRecDepth 100000 in
set_option maxHeartbeats 1000000 in
theorem S_k8nS {r f : Nat} {A : mo_A} {e c nm q0 nc k : Nat} (hf : A.1 27 0 = nI (f + 1)) (hlt : f < 399) (h0 : A.1 37 0 = 0) (hk : A.1 28 f = 0) (he : A.1 29 f = nI e) (hel : e < 60) (hst : A.1 30 f = 1) (hco : A.1 31 f = nI c) (hcl : c < 8) (hn : A.2 2 e = lN nm) (hnm : nm < 4) (hsrt : A.1 1 e = 8) (hpw : a_pw A nc) (hnc : nc ≤ 8) (hpp : A.1 6 c = nI q0) (hq0 : q0 < nc) (hnr : a_near A 8 q0 nm = some k) (hu : A.1 38 0 = 12) : r_S r A (a_I (a_I A 30 f 2) 37 0 8) := by
  intro μ h d Q kQ
  have hs := h.1
  have hs' := h.1
  unfold r_sh at hs'
  have hvw := h.2
  have H := r_rd h
  have hv : vp_in (nI f) 400 := vp_in_nI (by omega) (by decide)
  have hc : (nI f).toNatClampNeg = f := nI_clamp (by omega)
  have hve : vp_in (nI e) 60 := vp_in_nI hel (by decide)
  have hce : (nI e).toNatClampNeg = e := nI_clamp (by omega)
  have hvc : vp_in (nI c) 8 := vp_in_nI hcl (by decide)
  have hcc : (nI c).toNatClampNeg = c := nI_clamp (by omega)
  have hN := fun d c nm hnm hc Q => R_near (d := d) (nm := nm) (c := c) (μ := (mo_wAI μ (r + 25) f 2)) (A := A) (nc := nc) (r_sh_c hs (by simp only [mo_ME]) (by simp only [mo_ME]) (by simp only [mo_ME])) (fun i => by simp only [mo_ME, mo_u_a, Nat.add_left_cancel_iff, Nat.reduceEqDiff, false_and, if_false, H]) (fun i => by simp only [mo_ME, mo_u_a, Nat.add_left_cancel_iff, Nat.reduceEqDiff, false_and, if_false, H]) hnc hpw hnm hc Q
  have hN2 := fun d Q => hN d q0 nm hnm hq0 Q
  have hm0 : (nI q0 = -1) = False := nI_nm1 (by omega)
  have hkl : k ≤ q0 := a_near_lt hnc hpw _ _ _ _ hq0 hnr
  have hm1 : (nI k = -1) = False := nI_nm1 (by omega)
  have hW := fun d w1 x1 p1 c1 g1 Q => R_enterS (d := d) (μ := (mo_wAI μ (r + 25) f 2)) (r_sh_c hs (by simp only [mo_ME]) (by simp only [mo_ME]) (by simp only [mo_ME])) (by simp only [mo_ME, mo_u_a, Nat.reduceEqDiff, false_and, if_false]; exact (r_rdI h 38 rfl).trans hu) w1 x1 p1 c1 g1 Q
  simp only [we99_0, we99_1, we103_0, we103_1, we103_2, we103_3, we103_4, we106_0, we106_1, we106_2, en99, en103, en106, true_and, and_true, if_false, if_true, not_true_eq_false, not_false_eq_true, false_implies, true_implies, implies_true, forall_const, true_or, or_true, false_or, or_false, false_and, and_false, eq_self_iff_true, Option.toList_some, Option.toList_none, List.cons_append, List.nil_append, mo_cat_0, mo_cat_c, mo_ct_i, mo_ct_l, mo_ct_r, mo_ct_n, mo_ct_f, Nat.zero_le, Nat.reduceAdd, Nat.reduceLeDiff, Nat.reduceLT, Nat.reduceEqDiff, Nat.reduceSub, mo_rf_s, mo_rf_n, reduceCtorEq, mo_st, mo_st2, mo_lg_0, mo_lg_s, List.set_cons_zero, List.set_cons_succ, List.length_cons, List.length_nil, List.getElem?_cons_zero, List.getElem?_cons_succ, Nat.reduceBEq, Bool.false_eq_true, beq_self_eq_true, mo_ME, mo_u_a, mo_z_a, mo_y_a, Nat.add_left_cancel_iff, mo_TSW, hs', H, hf, nI_1, nI_pred, mo_LC, Int32.reduceLT, Int32.reduceLE, i01, i12, i23, i34, hv, hc, h0, hk, he, hve, hce, hsrt, hst, hco, hvc, hcc, hn, lN_i, l5, nI_add, hpp, hm0, hm1, hN2, hnr, a_enc_s, hW]
  refine kQ _ ⟨r_sh_c hs (by simp only [m_push, mo_ME]) (by simp only [m_push, mo_ME]) (by simp only [m_push, mo_ME]), ?_⟩ ?_
  · simp only [m_push, a_push, r_VW, hvw]
  · repeat (first | with_reducible exact r_fc_rf _ _ | with_reducible refine r_fc_push ?_ | with_reducible refine r_fc_I ?_ | with_reducible refine r_fc_L ?_ | with_reducible refine r_fc_AI (by decide) ?_ | with_reducible refine r_fc_AL (by decide) ?_)
set_option maxRecDepth 100000 in
set_option maxHeartbeats 1000000 in
theorem S_k8Fa {r f : Nat} {A : mo_A} {e c nm q0 nc q : Nat} (hf : A.1 27 0 = nI (f + 1)) (hlt : f < 399) (h0 : A.1 37 0 = 0) (hk : A.1 28 f = 0) (he : A.1 29 f = nI e) (hel : e < 60) (hst : A.1 30 f = 1) (hco : A.1 31 f = nI c) (hcl : c < 8) (hn : A.2 2 e = lN nm) (hnm : nm < 4) (hsrt : A.1 1 e = 8) (hpw : a_pw A nc) (hnc : nc ≤ 8) (hpp : A.1 6 c = nI q0) (hq0 : q0 < nc) (hnr : a_near A 8 q0 nm = none) (hq : A.1 39 0 = nI q) (hq4 : q < 4) : r_S r A (a_I (a_I (a_I A 30 f 2) 39 0 (nI (q + 1))) 37 0 1) := by
  intro μ h d Q kQ
  have hs := h.1
  have hs' := h.1
  unfold r_sh at hs'
  have hvw := h.2
  have H := r_rd h
  have hv : vp_in (nI f) 400 := vp_in_nI (by omega) (by decide)
  have hc : (nI f).toNatClampNeg = f := nI_clamp (by omega)
  have hve : vp_in (nI e) 60 := vp_in_nI hel (by decide)
  have hce : (nI e).toNatClampNeg = e := nI_clamp (by omega)
  have hvc : vp_in (nI c) 8 := vp_in_nI hcl (by decide)
  have hcc : (nI c).toNatClampNeg = c := nI_clamp (by omega)
  have hN := fun d c nm hnm hc Q => R_near (d := d) (nm := nm) (c := c) (μ := (mo_wAI μ (r + 25) f 2)) (A := A) (nc := nc) (r_sh_c hs (by simp only [mo_ME]) (by simp only [mo_ME]) (by simp only [mo_ME])) (fun i => by simp only [mo_ME, mo_u_a, Nat.add_left_cancel_iff, Nat.reduceEqDiff, false_and, if_false, H]) (fun i => by simp only [mo_ME, mo_u_a, Nat.add_left_cancel_iff, Nat.reduceEqDiff, false_and, if_false, H]) hnc hpw hnm hc Q
  have hN2 := fun d Q => hN d q0 nm hnm hq0 Q
  have hm0 : (nI q0 = -1) = False := nI_nm1 (by omega)
  have hW := fun d w Q => R_fail (d := d) (μ := (mo_wAI μ (r + 25) f 2)) (k := q) (r_sh_c hs (by simp only [mo_ME]) (by simp only [mo_ME]) (by simp only [mo_ME])) (by simp only [mo_ME, mo_u_a, Nat.reduceEqDiff, false_and, if_false]; exact (r_rdI h 39 rfl).trans hq) hq4 w Q
  simp only [we99_0, we99_1, we103_0, we103_1, we103_2, we103_3, we103_4, we106_0, we106_1, we106_2, en99, en103, en106, true_and, and_true, if_false, if_true, not_true_eq_false, not_false_eq_true, false_implies, true_implies, implies_true, forall_const, true_or, or_true, false_or, or_false, false_and, and_false, eq_self_iff_true, Option.toList_some, Option.toList_none, List.cons_append, List.nil_append, mo_cat_0, mo_cat_c, mo_ct_i, mo_ct_l, mo_ct_r, mo_ct_n, mo_ct_f, Nat.zero_le, Nat.reduceAdd, Nat.reduceLeDiff, Nat.reduceLT, Nat.reduceEqDiff, Nat.reduceSub, mo_rf_s, mo_rf_n, reduceCtorEq, mo_st, mo_st2, mo_lg_0, mo_lg_s, List.set_cons_zero, List.set_cons_succ, List.length_cons, List.length_nil, List.getElem?_cons_zero, List.getElem?_cons_succ, Nat.reduceBEq, Bool.false_eq_true, beq_self_eq_true, mo_ME, mo_u_a, mo_z_a, mo_y_a, Nat.add_left_cancel_iff, mo_TSW, hs', H, hf, nI_1, nI_pred, mo_LC, Int32.reduceLT, Int32.reduceLE, i01, i12, i23, i34, hv, hc, h0, hk, he, hve, hce, hsrt, hst, hco, hvc, hcc, hn, lN_i, l5, nI_add, hpp, hm0, hN2, hnr, a_enc_0, hW]
  refine kQ _ ⟨r_sh_c hs (by simp only [m_push, mo_ME]) (by simp only [m_push, mo_ME]) (by simp only [m_push, mo_ME]), ?_⟩ ?_
  · simp only [m_push, a_push, r_VW, hvw]
  · repeat (first | with_reducible exact r_fc_rf _ _ | with_reducible refine r_fc_push ?_ | with_reducible refine r_fc_I ?_ | with_reducible refine r_fc_L ?_ | with_reducible refine r_fc_AI (by decide) ?_ | with_reducible refine r_fc_AL (by decide) ?_)
set_option maxRecDepth 100000 in
set_option maxHeartbeats 1000000 in
theorem S_k8Fb {r f : Nat} {A : mo_A} {e c nm q0 nc  : Nat} (hf : A.1 27 0 = nI (f + 1)) (hlt : f < 399) (h0 : A.1 37 0 = 0) (hk : A.1 28 f = 0) (he : A.1 29 f = nI e) (hel : e < 60) (hst : A.1 30 f = 1) (hco : A.1 31 f = nI c) (hcl : c < 8) (hn : A.2 2 e = lN nm) (hnm : nm < 4) (hsrt : A.1 1 e = 8) (hpw : a_pw A nc) (hnc : nc ≤ 8) (hpp : A.1 6 c = nI q0) (hq0 : q0 < nc) (hnr : a_near A 8 q0 nm = none) (hq : A.1 39 0 = nI 4) : r_S r A (a_I (a_I (a_I A 30 f 2) 39 0 (nI 5)) 37 0 8) := by
  intro μ h d Q kQ
  have hs := h.1
  have hs' := h.1
  unfold r_sh at hs'
  have hvw := h.2
  have H := r_rd h
  have hv : vp_in (nI f) 400 := vp_in_nI (by omega) (by decide)
  have hc : (nI f).toNatClampNeg = f := nI_clamp (by omega)
  have hve : vp_in (nI e) 60 := vp_in_nI hel (by decide)
  have hce : (nI e).toNatClampNeg = e := nI_clamp (by omega)
  have hvc : vp_in (nI c) 8 := vp_in_nI hcl (by decide)
  have hcc : (nI c).toNatClampNeg = c := nI_clamp (by omega)
  have hN := fun d c nm hnm hc Q => R_near (d := d) (nm := nm) (c := c) (μ := (mo_wAI μ (r + 25) f 2)) (A := A) (nc := nc) (r_sh_c hs (by simp only [mo_ME]) (by simp only [mo_ME]) (by simp only [mo_ME])) (fun i => by simp only [mo_ME, mo_u_a, Nat.add_left_cancel_iff, Nat.reduceEqDiff, false_and, if_false, H]) (fun i => by simp only [mo_ME, mo_u_a, Nat.add_left_cancel_iff, Nat.reduceEqDiff, false_and, if_false, H]) hnc hpw hnm hc Q
  have hN2 := fun d Q => hN d q0 nm hnm hq0 Q
  have hm0 : (nI q0 = -1) = False := nI_nm1 (by omega)
  have hW := fun d w Q => R_failS (d := d) (μ := (mo_wAI μ (r + 25) f 2)) (r_sh_c hs (by simp only [mo_ME]) (by simp only [mo_ME]) (by simp only [mo_ME])) (by simp only [mo_ME, mo_u_a, Nat.reduceEqDiff, false_and, if_false]; exact (r_rdI h 39 rfl).trans hq) w Q
  simp only [we99_0, we99_1, we103_0, we103_1, we103_2, we103_3, we103_4, we106_0, we106_1, we106_2, en99, en103, en106, true_and, and_true, if_false, if_true, not_true_eq_false, not_false_eq_true, false_implies, true_implies, implies_true, forall_const, true_or, or_true, false_or, or_false, false_and, and_false, eq_self_iff_true, Option.toList_some, Option.toList_none, List.cons_append, List.nil_append, mo_cat_0, mo_cat_c, mo_ct_i, mo_ct_l, mo_ct_r, mo_ct_n, mo_ct_f, Nat.zero_le, Nat.reduceAdd, Nat.reduceLeDiff, Nat.reduceLT, Nat.reduceEqDiff, Nat.reduceSub, mo_rf_s, mo_rf_n, reduceCtorEq, mo_st, mo_st2, mo_lg_0, mo_lg_s, List.set_cons_zero, List.set_cons_succ, List.length_cons, List.length_nil, List.getElem?_cons_zero, List.getElem?_cons_succ, Nat.reduceBEq, Bool.false_eq_true, beq_self_eq_true, mo_ME, mo_u_a, mo_z_a, mo_y_a, Nat.add_left_cancel_iff, mo_TSW, hs', H, hf, nI_1, nI_pred, mo_LC, Int32.reduceLT, Int32.reduceLE, i01, i12, i23, i34, hv, hc, h0, hk, he, hve, hce, hsrt, hst, hco, hvc, hcc, hn, lN_i, l5, nI_add, hpp, hm0, hN2, hnr, a_enc_0, hW]
  refine kQ _ ⟨r_sh_c hs (by simp only [m_push, mo_ME]) (by simp only [m_push, mo_ME]) (by simp only [m_push, mo_ME]), ?_⟩ ?_
  · simp only [m_push, a_push, r_VW, hvw]
  · repeat (first | with_reducible exact r_fc_rf _ _ | with_reducible refine r_fc_push ?_ | with_reducible refine r_fc_I ?_ | with_reducible refine r_fc_L ?_ | with_reducible refine r_fc_AI (by decide) ?_ | with_reducible refine r_fc_AL (by decide) ?_)
set_option maxRecDepth 100000 in
set_option maxHeartbeats 1000000 in
theorem S_m9F {r f : Nat} {A : mo_A} {e c : Nat} (hf : A.1 27 0 = nI (f + 1)) (hlt : f < 399) (h0 : A.1 37 0 = 0) (hk : A.1 28 f = 0) (he : A.1 29 f = nI e) (hel : e < 60) (hsrt : A.1 1 e = 9) (hst : A.1 30 f = 2) (hn : A.2 2 e = lN c) (hcl : c < 8) (hob : A.1 17 0 = 100) : r_S r A (a_I (a_I A 30 f 3) 37 0 8) := by
  intro μ h d Q kQ
  have hs := h.1
  have hs' := h.1
  unfold r_sh at hs'
  have hvw := h.2
  have H := r_rd h
  have hv : vp_in (nI f) 400 := vp_in_nI (by omega) (by decide)
  have hc : (nI f).toNatClampNeg = f := nI_clamp (by omega)
  have hve : vp_in (nI e) 60 := vp_in_nI hel (by decide)
  have hce : (nI e).toNatClampNeg = e := nI_clamp (by omega)
  have hvc : vp_in (nI c) 8 := vp_in_nI hcl (by decide)
  have hcc : (nI c).toNatClampNeg = c := nI_clamp (by omega)
  simp only [we99_0, we99_1, we103_0, we103_1, we103_2, we103_3, we103_4, we107_0, we107_1, we107_2, en99, en103, en107, true_and, and_true, if_false, if_true, not_true_eq_false, not_false_eq_true, false_implies, true_implies, implies_true, forall_const, true_or, or_true, false_or, or_false, false_and, and_false, eq_self_iff_true, Option.toList_some, Option.toList_none, List.cons_append, List.nil_append, mo_cat_0, mo_cat_c, mo_ct_i, mo_ct_l, mo_ct_r, mo_ct_n, mo_ct_f, Nat.zero_le, Nat.reduceAdd, Nat.reduceLeDiff, Nat.reduceLT, Nat.reduceEqDiff, Nat.reduceSub, mo_rf_s, mo_rf_n, reduceCtorEq, mo_st, mo_st2, mo_lg_0, mo_lg_s, List.set_cons_zero, List.set_cons_succ, List.length_cons, List.length_nil, List.getElem?_cons_zero, List.getElem?_cons_succ, Nat.reduceBEq, Bool.false_eq_true, beq_self_eq_true, mo_ME, mo_u_a, mo_z_a, mo_y_a, Nat.add_left_cancel_iff, mo_TSW, hs', H, hf, nI_1, nI_pred, mo_LC, Int32.reduceLT, Int32.reduceLE, i01, i12, i23, i34, hv, hc, h0, hk, he, hve, hce, hsrt, hst, hn, lN_i, l5, l24, l3, nI_add, hob]
  refine kQ _ ⟨r_sh_c hs (by simp only [m_push, mo_ME]) (by simp only [m_push, mo_ME]) (by simp only [m_push, mo_ME]), ?_⟩ ?_
  · simp only [m_push, a_push, r_VW, hvw]
  · repeat (first | with_reducible exact r_fc_rf _ _ | with_reducible refine r_fc_push ?_ | with_reducible refine r_fc_I ?_ | with_reducible refine r_fc_L ?_ | with_reducible refine r_fc_AI (by decide) ?_ | with_reducible refine r_fc_AL (by decide) ?_)
set_option maxRecDepth 100000 in
set_option maxHeartbeats 1000000 in
theorem S_m9S {r f : Nat} {A : mo_A} {e c p : Nat} (hf : A.1 27 0 = nI (f + 1)) (hlt : f < 399) (h0 : A.1 37 0 = 0) (hk : A.1 28 f = 0) (he : A.1 29 f = nI e) (hel : e < 60) (hsrt : A.1 1 e = 9) (hst : A.1 30 f = 2) (hn : A.2 2 e = lN c) (hcl : c < 8) (hob : A.1 17 0 = nI p) (hpl : p < 100) (hu : A.1 38 0 = 12) : r_S r A (a_I (a_I (a_I (a_I (a_I (a_I (a_I A 30 f 3) 17 0 (nI (p + 1))) 18 p (nI c)) 19 p 0) 37 0 8) 19 p 2) 33 f (nI p)) := by
  intro μ h d Q kQ
  have hs := h.1
  have hs' := h.1
  unfold r_sh at hs'
  have hvw := h.2
  have H := r_rd h
  have hv : vp_in (nI f) 400 := vp_in_nI (by omega) (by decide)
  have hc : (nI f).toNatClampNeg = f := nI_clamp (by omega)
  have hve : vp_in (nI e) 60 := vp_in_nI hel (by decide)
  have hce : (nI e).toNatClampNeg = e := nI_clamp (by omega)
  have hvc : vp_in (nI c) 8 := vp_in_nI hcl (by decide)
  have hcc : (nI c).toNatClampNeg = c := nI_clamp (by omega)
  have hvp : vp_in (nI p) 100 := vp_in_nI hpl (by decide)
  have hcp : (nI p).toNatClampNeg = p := nI_clamp (by omega)
  have ho1 : (nI p = 100) = False := by rw [show (100 : Int32) = nI 100 from rfl, nI_inj (by omega) (by decide)]; simp; omega
  have hW := fun d g1 a1 b1 c1 Q => R_newobjS (d := d) (c := c) (p := p) (μ := (mo_wAI μ (r + 25) f 3)) (r_sh_c hs (by simp only [mo_ME]) (by simp only [mo_ME]) (by simp only [mo_ME])) (by simp only [mo_ME, mo_u_a, Nat.reduceEqDiff, Nat.add_left_cancel_iff, false_and, if_false]; exact (r_rdI h 17 rfl).trans hob) hpl hcl (by simp only [mo_ME, mo_u_a, Nat.reduceEqDiff, Nat.add_left_cancel_iff, false_and, if_false]; exact (r_rdI h 38 rfl).trans hu) g1 a1 b1 c1 Q
  simp only [we99_0, we99_1, we103_0, we103_1, we103_2, we103_3, we103_4, we107_0, we107_1, we107_2, en99, en103, en107, true_and, and_true, if_false, if_true, not_true_eq_false, not_false_eq_true, false_implies, true_implies, implies_true, forall_const, true_or, or_true, false_or, or_false, false_and, and_false, eq_self_iff_true, Option.toList_some, Option.toList_none, List.cons_append, List.nil_append, mo_cat_0, mo_cat_c, mo_ct_i, mo_ct_l, mo_ct_r, mo_ct_n, mo_ct_f, Nat.zero_le, Nat.reduceAdd, Nat.reduceLeDiff, Nat.reduceLT, Nat.reduceEqDiff, Nat.reduceSub, mo_rf_s, mo_rf_n, reduceCtorEq, mo_st, mo_st2, mo_lg_0, mo_lg_s, List.set_cons_zero, List.set_cons_succ, List.length_cons, List.length_nil, List.getElem?_cons_zero, List.getElem?_cons_succ, Nat.reduceBEq, Bool.false_eq_true, beq_self_eq_true, mo_ME, mo_u_a, mo_z_a, mo_y_a, Nat.add_left_cancel_iff, mo_TSW, hs', H, hf, nI_1, nI_pred, mo_LC, Int32.reduceLT, Int32.reduceLE, i01, i12, i23, i34, hv, hc, h0, hk, he, hve, hce, hsrt, hst, hn, lN_i, l5, l24, l3, nI_add, hvc, hcc, hob, hvp, hcp, ho1, hW]
  refine kQ _ ⟨r_sh_c hs (by simp only [m_push, mo_ME]) (by simp only [m_push, mo_ME]) (by simp only [m_push, mo_ME]), ?_⟩ ?_
  · simp only [m_push, a_push, r_VW, hvw]
  · repeat (first | with_reducible exact r_fc_rf _ _ | with_reducible refine r_fc_push ?_ | with_reducible refine r_fc_I ?_ | with_reducible refine r_fc_L ?_ | with_reducible refine r_fc_AI (by decide) ?_ | with_reducible refine r_fc_AL (by decide) ?_)
set_option maxRecDepth 100000 in
set_option maxHeartbeats 1000000 in
theorem S_m9_0 {r f : Nat} {A : mo_A} {e c p u g0 : Nat} (hf : A.1 27 0 = nI (f + 1)) (hlt : f < 399) (h0 : A.1 37 0 = 0) (hk : A.1 28 f = 0) (he : A.1 29 f = nI e) (hel : e < 60) (hsrt : A.1 1 e = 9) (hst : A.1 30 f = 2) (hn : A.2 2 e = lN c) (hcl : c < 8) (hob : A.1 17 0 = nI p) (hpl : p < 100) (hu : A.1 38 0 = nI u) (hu2 : u < 12) (hg : A.1 41 0 = nI g0) (hcp7 : A.1 7 c = 0) : r_S r A (a_I (a_I (a_push (a_I (a_I (a_I (a_I (a_I (a_I A 30 f 3) 17 0 (nI (p + 1))) 18 p (nI c)) 19 p 0) 38 0 (nI (u + 1))) 41 0 (nI (g0 + 1))) (f + 1) 1 (nI (5 * c)) (nI p) (nI c) (A.2 44 f)) 35 (f + 1) 1) 33 f (nI p)) := by
  intro μ h d Q kQ
  have hs := h.1
  have hs' := h.1
  unfold r_sh at hs'
  have hvw := h.2
  have H := r_rd h
  have hv : vp_in (nI f) 400 := vp_in_nI (by omega) (by decide)
  have hc : (nI f).toNatClampNeg = f := nI_clamp (by omega)
  have hve : vp_in (nI e) 60 := vp_in_nI hel (by decide)
  have hce : (nI e).toNatClampNeg = e := nI_clamp (by omega)
  have hvc : vp_in (nI c) 8 := vp_in_nI hcl (by decide)
  have hcc : (nI c).toNatClampNeg = c := nI_clamp (by omega)
  have hvp : vp_in (nI p) 100 := vp_in_nI hpl (by decide)
  have hcp : (nI p).toNatClampNeg = p := nI_clamp (by omega)
  have ho1 : (nI p = 100) = False := by rw [show (100 : Int32) = nI 100 from rfl, nI_inj (by omega) (by decide)]; simp; omega
  have hW := fun d g1 a1 b1 c1 Q => R_newobj0 (d := d) (c := c) (p := p) (t := f + 1) (u := u) (g0 := g0) (μ := (mo_wAI μ (r + 25) f 3)) (r_sh_c hs (by simp only [mo_ME]) (by simp only [mo_ME]) (by simp only [mo_ME])) (by simp only [mo_ME, mo_u_a, Nat.reduceEqDiff, Nat.add_left_cancel_iff, false_and, if_false]; exact (r_rdI h 27 rfl).trans hf) (by omega) (by simp only [mo_ME, mo_u_a, Nat.reduceEqDiff, Nat.add_left_cancel_iff, false_and, if_false]; exact (r_rdI h 17 rfl).trans hob) hpl hcl (by simp only [mo_ME, mo_u_a, Nat.reduceEqDiff, Nat.add_left_cancel_iff, false_and, if_false]; exact (r_rdI h 38 rfl).trans hu) hu2 (by simp only [mo_ME, mo_u_a, Nat.reduceEqDiff, Nat.add_left_cancel_iff, false_and, if_false]; exact (r_rdI h 41 rfl).trans hg) (by simp only [mo_ME, mo_u_a, Nat.reduceEqDiff, Nat.add_left_cancel_iff, false_and, if_false, H, hcp7]) g1 a1 b1 c1 Q
  simp only [we99_0, we99_1, we103_0, we103_1, we103_2, we103_3, we103_4, we107_0, we107_1, we107_2, en99, en103, en107, true_and, and_true, if_false, if_true, not_true_eq_false, not_false_eq_true, false_implies, true_implies, implies_true, forall_const, true_or, or_true, false_or, or_false, false_and, and_false, eq_self_iff_true, Option.toList_some, Option.toList_none, List.cons_append, List.nil_append, mo_cat_0, mo_cat_c, mo_ct_i, mo_ct_l, mo_ct_r, mo_ct_n, mo_ct_f, Nat.zero_le, Nat.reduceAdd, Nat.reduceLeDiff, Nat.reduceLT, Nat.reduceEqDiff, Nat.reduceSub, mo_rf_s, mo_rf_n, reduceCtorEq, mo_st, mo_st2, mo_lg_0, mo_lg_s, List.set_cons_zero, List.set_cons_succ, List.length_cons, List.length_nil, List.getElem?_cons_zero, List.getElem?_cons_succ, Nat.reduceBEq, Bool.false_eq_true, beq_self_eq_true, mo_ME, mo_u_a, mo_z_a, mo_y_a, Nat.add_left_cancel_iff, mo_TSW, hs', H, hf, nI_1, nI_pred, mo_LC, Int32.reduceLT, Int32.reduceLE, i01, i12, i23, i34, hv, hc, h0, hk, he, hve, hce, hsrt, hst, hn, lN_i, l5, l24, l3, nI_add, hvc, hcc, hob, hvp, hcp, ho1, hW, m_push]
  refine kQ _ ⟨r_sh_c hs (by simp only [m_push, mo_ME]) (by simp only [m_push, mo_ME]) (by simp only [m_push, mo_ME]), ?_⟩ ?_
  · simp only [m_push, a_push, r_VW, hvw]
  · repeat (first | with_reducible exact r_fc_rf _ _ | with_reducible refine r_fc_push ?_ | with_reducible refine r_fc_I ?_ | with_reducible refine r_fc_L ?_ | with_reducible refine r_fc_AI (by decide) ?_ | with_reducible refine r_fc_AL (by decide) ?_)
set_option maxRecDepth 100000 in
set_option maxHeartbeats 1000000 in
theorem S_m9_1 {r f : Nat} {A : mo_A} {e c p u g0 : Nat} (hf : A.1 27 0 = nI (f + 1)) (hlt : f < 399) (h0 : A.1 37 0 = 0) (hk : A.1 28 f = 0) (he : A.1 29 f = nI e) (hel : e < 60) (hsrt : A.1 1 e = 9) (hst : A.1 30 f = 2) (hn : A.2 2 e = lN c) (hcl : c < 8) (hob : A.1 17 0 = nI p) (hpl : p < 100) (hu : A.1 38 0 = nI u) (hu2 : u < 12) (hg : A.1 41 0 = nI g0) (hcp7 : A.1 7 c = 1) : r_S r A (a_I (a_L (a_I (a_push (a_I (a_I (a_I (a_I (a_I (a_I A 30 f 3) 17 0 (nI (p + 1))) 18 p (nI c)) 19 p 0) 38 0 (nI (u + 1))) 41 0 (nI (g0 + 1))) (f + 1) 1 (nI (5 * c)) (nI p) (nI c) (A.2 44 f)) 35 (f + 1) 1) 20 (24 * p + 3 * c) (A.2 36 0)) 33 f (nI p)) := by
  intro μ h d Q kQ
  have hs := h.1
  have hs' := h.1
  unfold r_sh at hs'
  have hvw := h.2
  have H := r_rd h
  have hv : vp_in (nI f) 400 := vp_in_nI (by omega) (by decide)
  have hc : (nI f).toNatClampNeg = f := nI_clamp (by omega)
  have hve : vp_in (nI e) 60 := vp_in_nI hel (by decide)
  have hce : (nI e).toNatClampNeg = e := nI_clamp (by omega)
  have hvc : vp_in (nI c) 8 := vp_in_nI hcl (by decide)
  have hcc : (nI c).toNatClampNeg = c := nI_clamp (by omega)
  have hvp : vp_in (nI p) 100 := vp_in_nI hpl (by decide)
  have hcp : (nI p).toNatClampNeg = p := nI_clamp (by omega)
  have ho1 : (nI p = 100) = False := by rw [show (100 : Int32) = nI 100 from rfl, nI_inj (by omega) (by decide)]; simp; omega
  have hW := fun d g1 a1 b1 c1 Q => R_newobj1 (d := d) (c := c) (p := p) (t := f + 1) (u := u) (g0 := g0) (μ := (mo_wAI μ (r + 25) f 3)) (r_sh_c hs (by simp only [mo_ME]) (by simp only [mo_ME]) (by simp only [mo_ME])) (by simp only [mo_ME, mo_u_a, Nat.reduceEqDiff, Nat.add_left_cancel_iff, false_and, if_false]; exact (r_rdI h 27 rfl).trans hf) (by omega) (by simp only [mo_ME, mo_u_a, Nat.reduceEqDiff, Nat.add_left_cancel_iff, false_and, if_false]; exact (r_rdI h 17 rfl).trans hob) hpl hcl (by simp only [mo_ME, mo_u_a, Nat.reduceEqDiff, Nat.add_left_cancel_iff, false_and, if_false]; exact (r_rdI h 38 rfl).trans hu) hu2 (by simp only [mo_ME, mo_u_a, Nat.reduceEqDiff, Nat.add_left_cancel_iff, false_and, if_false]; exact (r_rdI h 41 rfl).trans hg) (by simp only [mo_ME, mo_u_a, Nat.reduceEqDiff, Nat.add_left_cancel_iff, false_and, if_false, H, hcp7]) g1 a1 b1 c1 Q
  simp only [we99_0, we99_1, we103_0, we103_1, we103_2, we103_3, we103_4, we107_0, we107_1, we107_2, en99, en103, en107, true_and, and_true, if_false, if_true, not_true_eq_false, not_false_eq_true, false_implies, true_implies, implies_true, forall_const, true_or, or_true, false_or, or_false, false_and, and_false, eq_self_iff_true, Option.toList_some, Option.toList_none, List.cons_append, List.nil_append, mo_cat_0, mo_cat_c, mo_ct_i, mo_ct_l, mo_ct_r, mo_ct_n, mo_ct_f, Nat.zero_le, Nat.reduceAdd, Nat.reduceLeDiff, Nat.reduceLT, Nat.reduceEqDiff, Nat.reduceSub, mo_rf_s, mo_rf_n, reduceCtorEq, mo_st, mo_st2, mo_lg_0, mo_lg_s, List.set_cons_zero, List.set_cons_succ, List.length_cons, List.length_nil, List.getElem?_cons_zero, List.getElem?_cons_succ, Nat.reduceBEq, Bool.false_eq_true, beq_self_eq_true, mo_ME, mo_u_a, mo_z_a, mo_y_a, Nat.add_left_cancel_iff, mo_TSW, hs', H, hf, nI_1, nI_pred, mo_LC, Int32.reduceLT, Int32.reduceLE, i01, i12, i23, i34, hv, hc, h0, hk, he, hve, hce, hsrt, hst, hn, lN_i, l5, l24, l3, nI_add, hvc, hcc, hob, hvp, hcp, ho1, hW, m_push]
  refine kQ _ ⟨r_sh_c hs (by simp only [m_push, mo_ME]) (by simp only [m_push, mo_ME]) (by simp only [m_push, mo_ME]), ?_⟩ ?_
  · simp only [m_push, a_push, r_VW, hvw]
  · repeat (first | with_reducible exact r_fc_rf _ _ | with_reducible refine r_fc_push ?_ | with_reducible refine r_fc_I ?_ | with_reducible refine r_fc_L ?_ | with_reducible refine r_fc_AI (by decide) ?_ | with_reducible refine r_fc_AL (by decide) ?_)
set_option maxRecDepth 100000 in
set_option maxHeartbeats 1000000 in
theorem S_m9_2 {r f : Nat} {A : mo_A} {e c p u g0 : Nat} (hf : A.1 27 0 = nI (f + 1)) (hlt : f < 399) (h0 : A.1 37 0 = 0) (hk : A.1 28 f = 0) (he : A.1 29 f = nI e) (hel : e < 60) (hsrt : A.1 1 e = 9) (hst : A.1 30 f = 2) (hn : A.2 2 e = lN c) (hcl : c < 8) (hob : A.1 17 0 = nI p) (hpl : p < 100) (hu : A.1 38 0 = nI u) (hu2 : u < 12) (hg : A.1 41 0 = nI g0) (hcp7 : A.1 7 c = 2) : r_S r A (a_I (a_L (a_L (a_I (a_push (a_I (a_I (a_I (a_I (a_I (a_I A 30 f 3) 17 0 (nI (p + 1))) 18 p (nI c)) 19 p 0) 38 0 (nI (u + 1))) 41 0 (nI (g0 + 1))) (f + 1) 1 (nI (5 * c)) (nI p) (nI c) (A.2 44 f)) 35 (f + 1) 1) 20 (24 * p + 3 * c) (A.2 36 0)) 20 (24 * p + 3 * c + 1) 0) 33 f (nI p)) := by
  intro μ h d Q kQ
  have hs := h.1
  have hs' := h.1
  unfold r_sh at hs'
  have hvw := h.2
  have H := r_rd h
  have hv : vp_in (nI f) 400 := vp_in_nI (by omega) (by decide)
  have hc : (nI f).toNatClampNeg = f := nI_clamp (by omega)
  have hve : vp_in (nI e) 60 := vp_in_nI hel (by decide)
  have hce : (nI e).toNatClampNeg = e := nI_clamp (by omega)
  have hvc : vp_in (nI c) 8 := vp_in_nI hcl (by decide)
  have hcc : (nI c).toNatClampNeg = c := nI_clamp (by omega)
  have hvp : vp_in (nI p) 100 := vp_in_nI hpl (by decide)
  have hcp : (nI p).toNatClampNeg = p := nI_clamp (by omega)
  have ho1 : (nI p = 100) = False := by rw [show (100 : Int32) = nI 100 from rfl, nI_inj (by omega) (by decide)]; simp; omega
  have hW := fun d g1 a1 b1 c1 Q => R_newobj2 (d := d) (c := c) (p := p) (t := f + 1) (u := u) (g0 := g0) (μ := (mo_wAI μ (r + 25) f 3)) (r_sh_c hs (by simp only [mo_ME]) (by simp only [mo_ME]) (by simp only [mo_ME])) (by simp only [mo_ME, mo_u_a, Nat.reduceEqDiff, Nat.add_left_cancel_iff, false_and, if_false]; exact (r_rdI h 27 rfl).trans hf) (by omega) (by simp only [mo_ME, mo_u_a, Nat.reduceEqDiff, Nat.add_left_cancel_iff, false_and, if_false]; exact (r_rdI h 17 rfl).trans hob) hpl hcl (by simp only [mo_ME, mo_u_a, Nat.reduceEqDiff, Nat.add_left_cancel_iff, false_and, if_false]; exact (r_rdI h 38 rfl).trans hu) hu2 (by simp only [mo_ME, mo_u_a, Nat.reduceEqDiff, Nat.add_left_cancel_iff, false_and, if_false]; exact (r_rdI h 41 rfl).trans hg) (by simp only [mo_ME, mo_u_a, Nat.reduceEqDiff, Nat.add_left_cancel_iff, false_and, if_false, H, hcp7]) g1 a1 b1 c1 Q
  simp only [we99_0, we99_1, we103_0, we103_1, we103_2, we103_3, we103_4, we107_0, we107_1, we107_2, en99, en103, en107, true_and, and_true, if_false, if_true, not_true_eq_false, not_false_eq_true, false_implies, true_implies, implies_true, forall_const, true_or, or_true, false_or, or_false, false_and, and_false, eq_self_iff_true, Option.toList_some, Option.toList_none, List.cons_append, List.nil_append, mo_cat_0, mo_cat_c, mo_ct_i, mo_ct_l, mo_ct_r, mo_ct_n, mo_ct_f, Nat.zero_le, Nat.reduceAdd, Nat.reduceLeDiff, Nat.reduceLT, Nat.reduceEqDiff, Nat.reduceSub, mo_rf_s, mo_rf_n, reduceCtorEq, mo_st, mo_st2, mo_lg_0, mo_lg_s, List.set_cons_zero, List.set_cons_succ, List.length_cons, List.length_nil, List.getElem?_cons_zero, List.getElem?_cons_succ, Nat.reduceBEq, Bool.false_eq_true, beq_self_eq_true, mo_ME, mo_u_a, mo_z_a, mo_y_a, Nat.add_left_cancel_iff, mo_TSW, hs', H, hf, nI_1, nI_pred, mo_LC, Int32.reduceLT, Int32.reduceLE, i01, i12, i23, i34, hv, hc, h0, hk, he, hve, hce, hsrt, hst, hn, lN_i, l5, l24, l3, nI_add, hvc, hcc, hob, hvp, hcp, ho1, hW, m_push]
  refine kQ _ ⟨r_sh_c hs (by simp only [m_push, mo_ME]) (by simp only [m_push, mo_ME]) (by simp only [m_push, mo_ME]), ?_⟩ ?_
  · simp only [m_push, a_push, r_VW, hvw]
  · repeat (first | with_reducible exact r_fc_rf _ _ | with_reducible refine r_fc_push ?_ | with_reducible refine r_fc_I ?_ | with_reducible refine r_fc_L ?_ | with_reducible refine r_fc_AI (by decide) ?_ | with_reducible refine r_fc_AL (by decide) ?_)
set_option maxRecDepth 100000 in
set_option maxHeartbeats 1000000 in
theorem S_m9_3 {r f : Nat} {A : mo_A} {e c p u g0 : Nat} (hf : A.1 27 0 = nI (f + 1)) (hlt : f < 399) (h0 : A.1 37 0 = 0) (hk : A.1 28 f = 0) (he : A.1 29 f = nI e) (hel : e < 60) (hsrt : A.1 1 e = 9) (hst : A.1 30 f = 2) (hn : A.2 2 e = lN c) (hcl : c < 8) (hob : A.1 17 0 = nI p) (hpl : p < 100) (hu : A.1 38 0 = nI u) (hu2 : u < 12) (hg : A.1 41 0 = nI g0) (hcp7 : A.1 7 c = 3) : r_S r A (a_I (a_L (a_L (a_L (a_I (a_push (a_I (a_I (a_I (a_I (a_I (a_I A 30 f 3) 17 0 (nI (p + 1))) 18 p (nI c)) 19 p 0) 38 0 (nI (u + 1))) 41 0 (nI (g0 + 1))) (f + 1) 1 (nI (5 * c)) (nI p) (nI c) (A.2 44 f)) 35 (f + 1) 1) 20 (24 * p + 3 * c) (A.2 36 0)) 20 (24 * p + 3 * c + 1) 0) 20 (24 * p + 3 * c + 2) 0) 33 f (nI p)) := by
  intro μ h d Q kQ
  have hs := h.1
  have hs' := h.1
  unfold r_sh at hs'
  have hvw := h.2
  have H := r_rd h
  have hv : vp_in (nI f) 400 := vp_in_nI (by omega) (by decide)
  have hc : (nI f).toNatClampNeg = f := nI_clamp (by omega)
  have hve : vp_in (nI e) 60 := vp_in_nI hel (by decide)
  have hce : (nI e).toNatClampNeg = e := nI_clamp (by omega)
  have hvc : vp_in (nI c) 8 := vp_in_nI hcl (by decide)
  have hcc : (nI c).toNatClampNeg = c := nI_clamp (by omega)
  have hvp : vp_in (nI p) 100 := vp_in_nI hpl (by decide)
  have hcp : (nI p).toNatClampNeg = p := nI_clamp (by omega)
  have ho1 : (nI p = 100) = False := by rw [show (100 : Int32) = nI 100 from rfl, nI_inj (by omega) (by decide)]; simp; omega
  have hW := fun d g1 a1 b1 c1 Q => R_newobj3 (d := d) (c := c) (p := p) (t := f + 1) (u := u) (g0 := g0) (μ := (mo_wAI μ (r + 25) f 3)) (r_sh_c hs (by simp only [mo_ME]) (by simp only [mo_ME]) (by simp only [mo_ME])) (by simp only [mo_ME, mo_u_a, Nat.reduceEqDiff, Nat.add_left_cancel_iff, false_and, if_false]; exact (r_rdI h 27 rfl).trans hf) (by omega) (by simp only [mo_ME, mo_u_a, Nat.reduceEqDiff, Nat.add_left_cancel_iff, false_and, if_false]; exact (r_rdI h 17 rfl).trans hob) hpl hcl (by simp only [mo_ME, mo_u_a, Nat.reduceEqDiff, Nat.add_left_cancel_iff, false_and, if_false]; exact (r_rdI h 38 rfl).trans hu) hu2 (by simp only [mo_ME, mo_u_a, Nat.reduceEqDiff, Nat.add_left_cancel_iff, false_and, if_false]; exact (r_rdI h 41 rfl).trans hg) (by simp only [mo_ME, mo_u_a, Nat.reduceEqDiff, Nat.add_left_cancel_iff, false_and, if_false, H, hcp7]) g1 a1 b1 c1 Q
  simp only [we99_0, we99_1, we103_0, we103_1, we103_2, we103_3, we103_4, we107_0, we107_1, we107_2, en99, en103, en107, true_and, and_true, if_false, if_true, not_true_eq_false, not_false_eq_true, false_implies, true_implies, implies_true, forall_const, true_or, or_true, false_or, or_false, false_and, and_false, eq_self_iff_true, Option.toList_some, Option.toList_none, List.cons_append, List.nil_append, mo_cat_0, mo_cat_c, mo_ct_i, mo_ct_l, mo_ct_r, mo_ct_n, mo_ct_f, Nat.zero_le, Nat.reduceAdd, Nat.reduceLeDiff, Nat.reduceLT, Nat.reduceEqDiff, Nat.reduceSub, mo_rf_s, mo_rf_n, reduceCtorEq, mo_st, mo_st2, mo_lg_0, mo_lg_s, List.set_cons_zero, List.set_cons_succ, List.length_cons, List.length_nil, List.getElem?_cons_zero, List.getElem?_cons_succ, Nat.reduceBEq, Bool.false_eq_true, beq_self_eq_true, mo_ME, mo_u_a, mo_z_a, mo_y_a, Nat.add_left_cancel_iff, mo_TSW, hs', H, hf, nI_1, nI_pred, mo_LC, Int32.reduceLT, Int32.reduceLE, i01, i12, i23, i34, hv, hc, h0, hk, he, hve, hce, hsrt, hst, hn, lN_i, l5, l24, l3, nI_add, hvc, hcc, hob, hvp, hcp, ho1, hW, m_push]
  refine kQ _ ⟨r_sh_c hs (by simp only [m_push, mo_ME]) (by simp only [m_push, mo_ME]) (by simp only [m_push, mo_ME]), ?_⟩ ?_
  · simp only [m_push, a_push, r_VW, hvw]
  · repeat (first | with_reducible exact r_fc_rf _ _ | with_reducible refine r_fc_push ?_ | with_reducible refine r_fc_I ?_ | with_reducible refine r_fc_L ?_ | with_reducible refine r_fc_AI (by decide) ?_ | with_reducible refine r_fc_AL (by decide) ?_)
set_option maxRecDepth 100000 in
set_option maxHeartbeats 1000000 in
theorem S_m9e0 {r f : Nat} {A : mo_A} {e c p : Nat} (hf : A.1 27 0 = nI (f + 1)) (hlt : f < 399) (h0 : A.1 37 0 = 0) (hk : A.1 28 f = 0) (he : A.1 29 f = nI e) (hel : e < 60) (hsrt : A.1 1 e = 9) (hst : A.1 30 f = 3) (hn : A.2 2 e = lN c) (hcl : c < 8) (hin : A.1 33 f = nI p) (hpl : p < 100) (hf8 : A.1 8 c = 0) : r_S r A (a_I (a_L (a_I (a_I A 30 f 4) 19 p 1) 36 0 0) 27 0 (nI f)) := by
  intro μ h d Q kQ
  have hs := h.1
  have hs' := h.1
  unfold r_sh at hs'
  have hvw := h.2
  have H := r_rd h
  have hv : vp_in (nI f) 400 := vp_in_nI (by omega) (by decide)
  have hc : (nI f).toNatClampNeg = f := nI_clamp (by omega)
  have hve : vp_in (nI e) 60 := vp_in_nI hel (by decide)
  have hce : (nI e).toNatClampNeg = e := nI_clamp (by omega)
  have hvc : vp_in (nI c) 8 := vp_in_nI hcl (by decide)
  have hcc : (nI c).toNatClampNeg = c := nI_clamp (by omega)
  have hvp : vp_in (nI p) 100 := vp_in_nI hpl (by decide)
  have hcp : (nI p).toNatClampNeg = p := nI_clamp (by omega)
  have hW := fun d v Q => R_tell (d := d) (μ := (mo_wAI (mo_wAI μ (r + 25) f 4) (r + 17) p 1)) (t := f) (r_sh_c hs (by simp only [mo_ME]) (by simp only [mo_ME]) (by simp only [mo_ME])) (by simp only [mo_ME, mo_u_a, Nat.reduceEqDiff, false_and, if_false]; exact (r_rdI h 27 rfl).trans hf) v Q
  simp only [we99_0, we99_1, we103_0, we103_1, we103_2, we103_3, we103_4, we107_0, we107_1, we107_2, en99, en103, en107, true_and, and_true, if_false, if_true, not_true_eq_false, not_false_eq_true, false_implies, true_implies, implies_true, forall_const, true_or, or_true, false_or, or_false, false_and, and_false, eq_self_iff_true, Option.toList_some, Option.toList_none, List.cons_append, List.nil_append, mo_cat_0, mo_cat_c, mo_ct_i, mo_ct_l, mo_ct_r, mo_ct_n, mo_ct_f, Nat.zero_le, Nat.reduceAdd, Nat.reduceLeDiff, Nat.reduceLT, Nat.reduceEqDiff, Nat.reduceSub, mo_rf_s, mo_rf_n, reduceCtorEq, mo_st, mo_st2, mo_lg_0, mo_lg_s, List.set_cons_zero, List.set_cons_succ, List.length_cons, List.length_nil, List.getElem?_cons_zero, List.getElem?_cons_succ, Nat.reduceBEq, Bool.false_eq_true, beq_self_eq_true, mo_ME, mo_u_a, mo_z_a, mo_y_a, Nat.add_left_cancel_iff, mo_TSW, hs', H, hf, nI_1, nI_pred, mo_LC, Int32.reduceLT, Int32.reduceLE, i01, i12, i23, i34, hv, hc, h0, hk, he, hve, hce, hsrt, hst, hn, lN_i, l5, l24, l3, nI_add, hvc, hcc, hin, hvp, hcp, hf8, hW]
  refine kQ _ ⟨r_sh_c hs (by simp only [m_push, mo_ME]) (by simp only [m_push, mo_ME]) (by simp only [m_push, mo_ME]), ?_⟩ ?_
  · simp only [m_push, a_push, r_VW, hvw]
  · repeat (first | with_reducible exact r_fc_rf _ _ | with_reducible refine r_fc_push ?_ | with_reducible refine r_fc_I ?_ | with_reducible refine r_fc_L ?_ | with_reducible refine r_fc_AI (by decide) ?_ | with_reducible refine r_fc_AL (by decide) ?_)
set_option maxRecDepth 100000 in
set_option maxHeartbeats 1000000 in
theorem S_m9e1 {r f : Nat} {A : mo_A} {e c p : Nat} (hf : A.1 27 0 = nI (f + 1)) (hlt : f < 399) (h0 : A.1 37 0 = 0) (hk : A.1 28 f = 0) (he : A.1 29 f = nI e) (hel : e < 60) (hsrt : A.1 1 e = 9) (hst : A.1 30 f = 3) (hn : A.2 2 e = lN c) (hcl : c < 8) (hin : A.1 33 f = nI p) (hpl : p < 100) (hf8 : ¬ A.1 8 c = 0) : r_S r A (a_I (a_L (a_I (a_I A 30 f 4) 19 p 1) 36 0 (A.2 21 (32 * p + 4 * c))) 27 0 (nI f)) := by
  intro μ h d Q kQ
  have hs := h.1
  have hs' := h.1
  unfold r_sh at hs'
  have hvw := h.2
  have H := r_rd h
  have hv : vp_in (nI f) 400 := vp_in_nI (by omega) (by decide)
  have hc : (nI f).toNatClampNeg = f := nI_clamp (by omega)
  have hve : vp_in (nI e) 60 := vp_in_nI hel (by decide)
  have hce : (nI e).toNatClampNeg = e := nI_clamp (by omega)
  have hvc : vp_in (nI c) 8 := vp_in_nI hcl (by decide)
  have hcc : (nI c).toNatClampNeg = c := nI_clamp (by omega)
  have hvp : vp_in (nI p) 100 := vp_in_nI hpl (by decide)
  have hcp : (nI p).toNatClampNeg = p := nI_clamp (by omega)
  have hv_y : vp_in (nI (32 * p + 4 * c)) 3200 := vp_in_nI (by omega) (by decide)
  have hc_y : (nI (32 * p + 4 * c)).toNatClampNeg = 32 * p + 4 * c := nI_clamp (by omega)
  have hW := fun d v Q => R_tell (d := d) (μ := (mo_wAI (mo_wAI μ (r + 25) f 4) (r + 17) p 1)) (t := f) (r_sh_c hs (by simp only [mo_ME]) (by simp only [mo_ME]) (by simp only [mo_ME])) (by simp only [mo_ME, mo_u_a, Nat.reduceEqDiff, false_and, if_false]; exact (r_rdI h 27 rfl).trans hf) v Q
  simp only [we99_0, we99_1, we103_0, we103_1, we103_2, we103_3, we103_4, we107_0, we107_1, we107_2, en99, en103, en107, true_and, and_true, if_false, if_true, not_true_eq_false, not_false_eq_true, false_implies, true_implies, implies_true, forall_const, true_or, or_true, false_or, or_false, false_and, and_false, eq_self_iff_true, Option.toList_some, Option.toList_none, List.cons_append, List.nil_append, mo_cat_0, mo_cat_c, mo_ct_i, mo_ct_l, mo_ct_r, mo_ct_n, mo_ct_f, Nat.zero_le, Nat.reduceAdd, Nat.reduceLeDiff, Nat.reduceLT, Nat.reduceEqDiff, Nat.reduceSub, mo_rf_s, mo_rf_n, reduceCtorEq, mo_st, mo_st2, mo_lg_0, mo_lg_s, List.set_cons_zero, List.set_cons_succ, List.length_cons, List.length_nil, List.getElem?_cons_zero, List.getElem?_cons_succ, Nat.reduceBEq, Bool.false_eq_true, beq_self_eq_true, mo_ME, mo_u_a, mo_z_a, mo_y_a, Nat.add_left_cancel_iff, mo_TSW, hs', H, hf, nI_1, nI_pred, mo_LC, Int32.reduceLT, Int32.reduceLE, i01, i12, i23, i34, hv, hc, h0, hk, he, hve, hce, hsrt, hst, hn, lN_i, l5, l24, l3, nI_add, l32, l4, hvc, hcc, hin, hvp, hcp, hf8, hv_y, hc_y, hW]
  refine kQ _ ⟨r_sh_c hs (by simp only [m_push, mo_ME]) (by simp only [m_push, mo_ME]) (by simp only [m_push, mo_ME]), ?_⟩ ?_
  · simp only [m_push, a_push, r_VW, hvw]
  · repeat (first | with_reducible exact r_fc_rf _ _ | with_reducible refine r_fc_push ?_ | with_reducible refine r_fc_I ?_ | with_reducible refine r_fc_L ?_ | with_reducible refine r_fc_AI (by decide) ?_ | with_reducible refine r_fc_AL (by decide) ?_)
