set_option maxRecDepth 100000 in
set_option maxHeartbeats 2000000 in
theorem S_M1_00 {r f : Nat} {A : mo_A} {c p q u g0 : Nat} (hf : A.1 27 0 = nI (f + 1)) (hlt : f < 399) (h0 : A.1 37 0 = 0) (hk : A.1 28 f = 1) (hco : A.1 31 f = nI c) (hcl : c < 8) (hst : A.1 30 f = 1) (hpp : A.1 6 c = nI p) (hpc : p < c) (hob : A.1 32 f = nI q) (hql : q < 100) (hu : A.1 38 0 = nI u) (hu2 : u < 12) (hg : A.1 41 0 = nI g0) (hcp7 : A.1 7 p = 0) (hcc7 : A.1 7 c = 0) : r_S r A (a_push (a_I (a_I (a_I A 30 f 2) 38 0 (nI (u + 1))) 41 0 (nI (g0 + 1))) (f + 1) 1 (nI (5 * p)) (nI q) (nI p) (A.2 36 0)) := by
  intro μ h d Q kQ
  have hs := h.1
  have hs' := h.1
  unfold r_sh at hs'
  have hvw := h.2
  have H := r_rd h
  have hv : vp_in (nI f) 400 := vp_in_nI (by omega) (by decide)
  have hc : (nI f).toNatClampNeg = f := nI_clamp (by omega)
  have hvc : vp_in (nI c) 8 := vp_in_nI hcl (by decide)
  have hcc : (nI c).toNatClampNeg = c := nI_clamp (by omega)
  have hvp : vp_in (nI p) 8 := vp_in_nI (by omega) (by decide)
  have hcp : (nI p).toNatClampNeg = p := nI_clamp (by omega)
  obtain ⟨ic, hic⟩ : ∃ ic, ic = 24 * q + 3 * c := ⟨_, rfl⟩
  obtain ⟨ip, hip⟩ : ∃ ip, ip = 24 * q + 3 * p := ⟨_, rfl⟩
  have hic1 : 24 * q + 3 * c = ic := hic.symm
  have hip1 : 24 * q + 3 * p = ip := hip.symm
  have hv_ic0 : vp_in (nI (ic)) 2400 := vp_in_nI (by omega) (by decide)
  have hc_ic0 : (nI (ic)).toNatClampNeg = ic := nI_clamp (by omega)
  have hv_ic1 : vp_in (nI (ic + 1)) 2400 := vp_in_nI (by omega) (by decide)
  have hc_ic1 : (nI (ic + 1)).toNatClampNeg = ic + 1 := nI_clamp (by omega)
  have hv_ic2 : vp_in (nI (ic + 2)) 2400 := vp_in_nI (by omega) (by decide)
  have hc_ic2 : (nI (ic + 2)).toNatClampNeg = ic + 2 := nI_clamp (by omega)
  have hv_ip0 : vp_in (nI (ip)) 2400 := vp_in_nI (by omega) (by decide)
  have hc_ip0 : (nI (ip)).toNatClampNeg = ip := nI_clamp (by omega)
  have hv_ip1 : vp_in (nI (ip + 1)) 2400 := vp_in_nI (by omega) (by decide)
  have hc_ip1 : (nI (ip + 1)).toNatClampNeg = ip + 1 := nI_clamp (by omega)
  have hv_ip2 : vp_in (nI (ip + 2)) 2400 := vp_in_nI (by omega) (by decide)
  have hc_ip2 : (nI (ip + 2)).toNatClampNeg = ip + 2 := nI_clamp (by omega)
  have hd0 : (ic = ip) = False := eq_false (by omega)
  have hd1 : (ic + 1 = ip) = False := eq_false (by omega)
  have hd2 : (ic + 2 = ip) = False := eq_false (by omega)
  have hd3 : (ic = ip + 1) = False := eq_false (by omega)
  have hd4 : (ic = ip + 2) = False := eq_false (by omega)
  have hd5 : (ic + 1 = ip + 1) = False := eq_false (by omega)
  have hd6 : (ic + 2 = ip + 2) = False := eq_false (by omega)
  have hd7 : (ic + 1 = ip + 2) = False := eq_false (by omega)
  have hd8 : (ic + 2 = ip + 1) = False := eq_false (by omega)
  have hW := fun d w1 x1 p1 c1 g1 Q => R_enter (d := d) (μ := (mo_wAI μ (r + 25) f 2)) (t := f + 1) (u := u) (g0 := g0) (r_sh_c hs (by simp only [mo_ME]) (by simp only [mo_ME]) (by simp only [mo_ME])) (by simp only [mo_ME, mo_u_a, Nat.reduceEqDiff, false_and, if_false]; exact (r_rdI h 27 rfl).trans hf) (by omega) (by simp only [mo_ME, mo_u_a, Nat.reduceEqDiff, false_and, if_false]; exact (r_rdI h 38 rfl).trans hu) hu2 (by simp only [mo_ME, mo_u_a, Nat.reduceEqDiff, false_and, if_false]; exact (r_rdI h 41 rfl).trans hg) w1 x1 p1 c1 g1 Q
  simp only [we99_0, we99_1, we108_0, we108_1, we108_2, we108_3, en99, en108, true_and, and_true, if_false, if_true, not_true_eq_false, not_false_eq_true, false_implies, true_implies, implies_true, forall_const, true_or, or_true, false_or, or_false, false_and, and_false, eq_self_iff_true, Option.toList_some, Option.toList_none, List.cons_append, List.nil_append, mo_cat_0, mo_cat_c, mo_ct_i, mo_ct_l, mo_ct_r, mo_ct_n, mo_ct_f, Nat.zero_le, Nat.reduceAdd, Nat.reduceLeDiff, Nat.reduceLT, Nat.reduceEqDiff, Nat.reduceSub, mo_rf_s, mo_rf_n, reduceCtorEq, mo_st, mo_st2, mo_lg_0, mo_lg_s, List.set_cons_zero, List.set_cons_succ, List.length_cons, List.length_nil, List.getElem?_cons_zero, List.getElem?_cons_succ, Nat.reduceBEq, Bool.false_eq_true, beq_self_eq_true, mo_ME, mo_u_a, mo_z_a, mo_y_a, Nat.add_left_cancel_iff, mo_TSW, hs', H, hf, nI_1, nI_2, nI_pred, mo_LC, mo_LE, i01, i12, i23, i34, hv, hc, h0, hk, hco, hvc, hcc, hst, hpp, hob, hvp, hcp, l5, l24, l3, nI_add, Int32.add_zero, hic1, hip1, hv_ic0, hc_ic0, hv_ic1, hc_ic1, hv_ic2, hc_ic2, hv_ip0, hc_ip0, hv_ip1, hc_ip1, hv_ip2, hc_ip2, hd0, hd1, hd2, hd3, hd4, hd5, hd6, hd7, hd8, hcp7, hcc7, hW, m_push]
  rw [wh108_128]
  simp only [we99_0, we99_1, we108_0, we108_1, we108_2, we108_3, true_and, and_true, if_false, if_true, not_true_eq_false, not_false_eq_true, false_implies, true_implies, implies_true, forall_const, true_or, or_true, false_or, or_false, false_and, and_false, eq_self_iff_true, Option.toList_some, Option.toList_none, List.cons_append, List.nil_append, mo_cat_0, mo_cat_c, mo_ct_i, mo_ct_l, mo_ct_r, mo_ct_n, mo_ct_f, Nat.zero_le, Nat.reduceAdd, Nat.reduceLeDiff, Nat.reduceLT, Nat.reduceEqDiff, Nat.reduceSub, mo_rf_s, mo_rf_n, reduceCtorEq, mo_st, mo_st2, mo_lg_0, mo_lg_s, List.set_cons_zero, List.set_cons_succ, List.length_cons, List.length_nil, List.getElem?_cons_zero, List.getElem?_cons_succ, Nat.reduceBEq, Bool.false_eq_true, beq_self_eq_true, mo_ME, mo_u_a, mo_z_a, mo_y_a, Nat.add_left_cancel_iff, mo_TSW, hs', H, hf, nI_1, nI_2, nI_pred, mo_LC, mo_LE, i01, i12, i23, i34, hv, hc, h0, hk, hco, hvc, hcc, hst, hpp, hob, hvp, hcp, l5, l24, l3, nI_add, Int32.add_zero, hic1, hip1, hv_ic0, hc_ic0, hv_ic1, hc_ic1, hv_ic2, hc_ic2, hv_ip0, hc_ip0, hv_ip1, hc_ip1, hv_ip2, hc_ip2, hd0, hd1, hd2, hd3, hd4, hd5, hd6, hd7, hd8, hcp7, hcc7, hW, m_push]
  refine kQ _ ⟨r_sh_c hs (by simp only [m_push, mo_ME]) (by simp only [m_push, mo_ME]) (by simp only [m_push, mo_ME]), ?_⟩ ?_
  · simp only [m_push, a_push, r_VW, hvw, hic, hip]
  · repeat (first | with_reducible exact r_fc_rf _ _ | with_reducible refine r_fc_push ?_ | with_reducible refine r_fc_I ?_ | with_reducible refine r_fc_L ?_ | with_reducible refine r_fc_AI (by decide) ?_ | with_reducible refine r_fc_AL (by decide) ?_)
set_option maxRecDepth 100000 in
set_option maxHeartbeats 2000000 in
theorem S_M1_01 {r f : Nat} {A : mo_A} {c p q u g0 : Nat} (hf : A.1 27 0 = nI (f + 1)) (hlt : f < 399) (h0 : A.1 37 0 = 0) (hk : A.1 28 f = 1) (hco : A.1 31 f = nI c) (hcl : c < 8) (hst : A.1 30 f = 1) (hpp : A.1 6 c = nI p) (hpc : p < c) (hob : A.1 32 f = nI q) (hql : q < 100) (hu : A.1 38 0 = nI u) (hu2 : u < 12) (hg : A.1 41 0 = nI g0) (hcp7 : A.1 7 p = 0) (hcc7 : A.1 7 c = 1) : r_S r A (a_push (a_I (a_I (a_I A 30 f 2) 38 0 (nI (u + 1))) 41 0 (nI (g0 + 1))) (f + 1) 1 (nI (5 * p)) (nI q) (nI p) (A.2 36 0)) := by
  intro μ h d Q kQ
  have hs := h.1
  have hs' := h.1
  unfold r_sh at hs'
  have hvw := h.2
  have H := r_rd h
  have hv : vp_in (nI f) 400 := vp_in_nI (by omega) (by decide)
  have hc : (nI f).toNatClampNeg = f := nI_clamp (by omega)
  have hvc : vp_in (nI c) 8 := vp_in_nI hcl (by decide)
  have hcc : (nI c).toNatClampNeg = c := nI_clamp (by omega)
  have hvp : vp_in (nI p) 8 := vp_in_nI (by omega) (by decide)
  have hcp : (nI p).toNatClampNeg = p := nI_clamp (by omega)
  obtain ⟨ic, hic⟩ : ∃ ic, ic = 24 * q + 3 * c := ⟨_, rfl⟩
  obtain ⟨ip, hip⟩ : ∃ ip, ip = 24 * q + 3 * p := ⟨_, rfl⟩
  have hic1 : 24 * q + 3 * c = ic := hic.symm
  have hip1 : 24 * q + 3 * p = ip := hip.symm
  have hv_ic0 : vp_in (nI (ic)) 2400 := vp_in_nI (by omega) (by decide)
  have hc_ic0 : (nI (ic)).toNatClampNeg = ic := nI_clamp (by omega)
  have hv_ic1 : vp_in (nI (ic + 1)) 2400 := vp_in_nI (by omega) (by decide)
  have hc_ic1 : (nI (ic + 1)).toNatClampNeg = ic + 1 := nI_clamp (by omega)
  have hv_ic2 : vp_in (nI (ic + 2)) 2400 := vp_in_nI (by omega) (by decide)
  have hc_ic2 : (nI (ic + 2)).toNatClampNeg = ic + 2 := nI_clamp (by omega)
  have hv_ip0 : vp_in (nI (ip)) 2400 := vp_in_nI (by omega) (by decide)
  have hc_ip0 : (nI (ip)).toNatClampNeg = ip := nI_clamp (by omega)
  have hv_ip1 : vp_in (nI (ip + 1)) 2400 := vp_in_nI (by omega) (by decide)
  have hc_ip1 : (nI (ip + 1)).toNatClampNeg = ip + 1 := nI_clamp (by omega)
  have hv_ip2 : vp_in (nI (ip + 2)) 2400 := vp_in_nI (by omega) (by decide)
  have hc_ip2 : (nI (ip + 2)).toNatClampNeg = ip + 2 := nI_clamp (by omega)
  have hd0 : (ic = ip) = False := eq_false (by omega)
  have hd1 : (ic + 1 = ip) = False := eq_false (by omega)
  have hd2 : (ic + 2 = ip) = False := eq_false (by omega)
  have hd3 : (ic = ip + 1) = False := eq_false (by omega)
  have hd4 : (ic = ip + 2) = False := eq_false (by omega)
  have hd5 : (ic + 1 = ip + 1) = False := eq_false (by omega)
  have hd6 : (ic + 2 = ip + 2) = False := eq_false (by omega)
  have hd7 : (ic + 1 = ip + 2) = False := eq_false (by omega)
  have hd8 : (ic + 2 = ip + 1) = False := eq_false (by omega)
  have hW := fun d w1 x1 p1 c1 g1 Q => R_enter (d := d) (μ := (mo_wAI μ (r + 25) f 2)) (t := f + 1) (u := u) (g0 := g0) (r_sh_c hs (by simp only [mo_ME]) (by simp only [mo_ME]) (by simp only [mo_ME])) (by simp only [mo_ME, mo_u_a, Nat.reduceEqDiff, false_and, if_false]; exact (r_rdI h 27 rfl).trans hf) (by omega) (by simp only [mo_ME, mo_u_a, Nat.reduceEqDiff, false_and, if_false]; exact (r_rdI h 38 rfl).trans hu) hu2 (by simp only [mo_ME, mo_u_a, Nat.reduceEqDiff, false_and, if_false]; exact (r_rdI h 41 rfl).trans hg) w1 x1 p1 c1 g1 Q
  simp only [we99_0, we99_1, we108_0, we108_1, we108_2, we108_3, en99, en108, true_and, and_true, if_false, if_true, not_true_eq_false, not_false_eq_true, false_implies, true_implies, implies_true, forall_const, true_or, or_true, false_or, or_false, false_and, and_false, eq_self_iff_true, Option.toList_some, Option.toList_none, List.cons_append, List.nil_append, mo_cat_0, mo_cat_c, mo_ct_i, mo_ct_l, mo_ct_r, mo_ct_n, mo_ct_f, Nat.zero_le, Nat.reduceAdd, Nat.reduceLeDiff, Nat.reduceLT, Nat.reduceEqDiff, Nat.reduceSub, mo_rf_s, mo_rf_n, reduceCtorEq, mo_st, mo_st2, mo_lg_0, mo_lg_s, List.set_cons_zero, List.set_cons_succ, List.length_cons, List.length_nil, List.getElem?_cons_zero, List.getElem?_cons_succ, Nat.reduceBEq, Bool.false_eq_true, beq_self_eq_true, mo_ME, mo_u_a, mo_z_a, mo_y_a, Nat.add_left_cancel_iff, mo_TSW, hs', H, hf, nI_1, nI_2, nI_pred, mo_LC, mo_LE, i01, i12, i23, i34, hv, hc, h0, hk, hco, hvc, hcc, hst, hpp, hob, hvp, hcp, l5, l24, l3, nI_add, Int32.add_zero, hic1, hip1, hv_ic0, hc_ic0, hv_ic1, hc_ic1, hv_ic2, hc_ic2, hv_ip0, hc_ip0, hv_ip1, hc_ip1, hv_ip2, hc_ip2, hd0, hd1, hd2, hd3, hd4, hd5, hd6, hd7, hd8, hcp7, hcc7, hW, m_push]
  rw [wh108_128]
  simp only [we99_0, we99_1, we108_0, we108_1, we108_2, we108_3, true_and, and_true, if_false, if_true, not_true_eq_false, not_false_eq_true, false_implies, true_implies, implies_true, forall_const, true_or, or_true, false_or, or_false, false_and, and_false, eq_self_iff_true, Option.toList_some, Option.toList_none, List.cons_append, List.nil_append, mo_cat_0, mo_cat_c, mo_ct_i, mo_ct_l, mo_ct_r, mo_ct_n, mo_ct_f, Nat.zero_le, Nat.reduceAdd, Nat.reduceLeDiff, Nat.reduceLT, Nat.reduceEqDiff, Nat.reduceSub, mo_rf_s, mo_rf_n, reduceCtorEq, mo_st, mo_st2, mo_lg_0, mo_lg_s, List.set_cons_zero, List.set_cons_succ, List.length_cons, List.length_nil, List.getElem?_cons_zero, List.getElem?_cons_succ, Nat.reduceBEq, Bool.false_eq_true, beq_self_eq_true, mo_ME, mo_u_a, mo_z_a, mo_y_a, Nat.add_left_cancel_iff, mo_TSW, hs', H, hf, nI_1, nI_2, nI_pred, mo_LC, mo_LE, i01, i12, i23, i34, hv, hc, h0, hk, hco, hvc, hcc, hst, hpp, hob, hvp, hcp, l5, l24, l3, nI_add, Int32.add_zero, hic1, hip1, hv_ic0, hc_ic0, hv_ic1, hc_ic1, hv_ic2, hc_ic2, hv_ip0, hc_ip0, hv_ip1, hc_ip1, hv_ip2, hc_ip2, hd0, hd1, hd2, hd3, hd4, hd5, hd6, hd7, hd8, hcp7, hcc7, hW, m_push]
  refine kQ _ ⟨r_sh_c hs (by simp only [m_push, mo_ME]) (by simp only [m_push, mo_ME]) (by simp only [m_push, mo_ME]), ?_⟩ ?_
  · simp only [m_push, a_push, r_VW, hvw, hic, hip]
  · repeat (first | with_reducible exact r_fc_rf _ _ | with_reducible refine r_fc_push ?_ | with_reducible refine r_fc_I ?_ | with_reducible refine r_fc_L ?_ | with_reducible refine r_fc_AI (by decide) ?_ | with_reducible refine r_fc_AL (by decide) ?_)
set_option maxRecDepth 100000 in
set_option maxHeartbeats 2000000 in
theorem S_M1_02 {r f : Nat} {A : mo_A} {c p q u g0 : Nat} (hf : A.1 27 0 = nI (f + 1)) (hlt : f < 399) (h0 : A.1 37 0 = 0) (hk : A.1 28 f = 1) (hco : A.1 31 f = nI c) (hcl : c < 8) (hst : A.1 30 f = 1) (hpp : A.1 6 c = nI p) (hpc : p < c) (hob : A.1 32 f = nI q) (hql : q < 100) (hu : A.1 38 0 = nI u) (hu2 : u < 12) (hg : A.1 41 0 = nI g0) (hcp7 : A.1 7 p = 0) (hcc7 : A.1 7 c = 2) : r_S r A (a_push (a_I (a_I (a_I A 30 f 2) 38 0 (nI (u + 1))) 41 0 (nI (g0 + 1))) (f + 1) 1 (nI (5 * p)) (nI q) (nI p) (A.2 36 0)) := by
  intro μ h d Q kQ
  have hs := h.1
  have hs' := h.1
  unfold r_sh at hs'
  have hvw := h.2
  have H := r_rd h
  have hv : vp_in (nI f) 400 := vp_in_nI (by omega) (by decide)
  have hc : (nI f).toNatClampNeg = f := nI_clamp (by omega)
  have hvc : vp_in (nI c) 8 := vp_in_nI hcl (by decide)
  have hcc : (nI c).toNatClampNeg = c := nI_clamp (by omega)
  have hvp : vp_in (nI p) 8 := vp_in_nI (by omega) (by decide)
  have hcp : (nI p).toNatClampNeg = p := nI_clamp (by omega)
  obtain ⟨ic, hic⟩ : ∃ ic, ic = 24 * q + 3 * c := ⟨_, rfl⟩
  obtain ⟨ip, hip⟩ : ∃ ip, ip = 24 * q + 3 * p := ⟨_, rfl⟩
  have hic1 : 24 * q + 3 * c = ic := hic.symm
  have hip1 : 24 * q + 3 * p = ip := hip.symm
  have hv_ic0 : vp_in (nI (ic)) 2400 := vp_in_nI (by omega) (by decide)
  have hc_ic0 : (nI (ic)).toNatClampNeg = ic := nI_clamp (by omega)
  have hv_ic1 : vp_in (nI (ic + 1)) 2400 := vp_in_nI (by omega) (by decide)
  have hc_ic1 : (nI (ic + 1)).toNatClampNeg = ic + 1 := nI_clamp (by omega)
  have hv_ic2 : vp_in (nI (ic + 2)) 2400 := vp_in_nI (by omega) (by decide)
  have hc_ic2 : (nI (ic + 2)).toNatClampNeg = ic + 2 := nI_clamp (by omega)
  have hv_ip0 : vp_in (nI (ip)) 2400 := vp_in_nI (by omega) (by decide)
  have hc_ip0 : (nI (ip)).toNatClampNeg = ip := nI_clamp (by omega)
  have hv_ip1 : vp_in (nI (ip + 1)) 2400 := vp_in_nI (by omega) (by decide)
  have hc_ip1 : (nI (ip + 1)).toNatClampNeg = ip + 1 := nI_clamp (by omega)
  have hv_ip2 : vp_in (nI (ip + 2)) 2400 := vp_in_nI (by omega) (by decide)
  have hc_ip2 : (nI (ip + 2)).toNatClampNeg = ip + 2 := nI_clamp (by omega)
  have hd0 : (ic = ip) = False := eq_false (by omega)
  have hd1 : (ic + 1 = ip) = False := eq_false (by omega)
  have hd2 : (ic + 2 = ip) = False := eq_false (by omega)
  have hd3 : (ic = ip + 1) = False := eq_false (by omega)
  have hd4 : (ic = ip + 2) = False := eq_false (by omega)
  have hd5 : (ic + 1 = ip + 1) = False := eq_false (by omega)
  have hd6 : (ic + 2 = ip + 2) = False := eq_false (by omega)
  have hd7 : (ic + 1 = ip + 2) = False := eq_false (by omega)
  have hd8 : (ic + 2 = ip + 1) = False := eq_false (by omega)
  have hW := fun d w1 x1 p1 c1 g1 Q => R_enter (d := d) (μ := (mo_wAI μ (r + 25) f 2)) (t := f + 1) (u := u) (g0 := g0) (r_sh_c hs (by simp only [mo_ME]) (by simp only [mo_ME]) (by simp only [mo_ME])) (by simp only [mo_ME, mo_u_a, Nat.reduceEqDiff, false_and, if_false]; exact (r_rdI h 27 rfl).trans hf) (by omega) (by simp only [mo_ME, mo_u_a, Nat.reduceEqDiff, false_and, if_false]; exact (r_rdI h 38 rfl).trans hu) hu2 (by simp only [mo_ME, mo_u_a, Nat.reduceEqDiff, false_and, if_false]; exact (r_rdI h 41 rfl).trans hg) w1 x1 p1 c1 g1 Q
  simp only [we99_0, we99_1, we108_0, we108_1, we108_2, we108_3, en99, en108, true_and, and_true, if_false, if_true, not_true_eq_false, not_false_eq_true, false_implies, true_implies, implies_true, forall_const, true_or, or_true, false_or, or_false, false_and, and_false, eq_self_iff_true, Option.toList_some, Option.toList_none, List.cons_append, List.nil_append, mo_cat_0, mo_cat_c, mo_ct_i, mo_ct_l, mo_ct_r, mo_ct_n, mo_ct_f, Nat.zero_le, Nat.reduceAdd, Nat.reduceLeDiff, Nat.reduceLT, Nat.reduceEqDiff, Nat.reduceSub, mo_rf_s, mo_rf_n, reduceCtorEq, mo_st, mo_st2, mo_lg_0, mo_lg_s, List.set_cons_zero, List.set_cons_succ, List.length_cons, List.length_nil, List.getElem?_cons_zero, List.getElem?_cons_succ, Nat.reduceBEq, Bool.false_eq_true, beq_self_eq_true, mo_ME, mo_u_a, mo_z_a, mo_y_a, Nat.add_left_cancel_iff, mo_TSW, hs', H, hf, nI_1, nI_2, nI_pred, mo_LC, mo_LE, i01, i12, i23, i34, hv, hc, h0, hk, hco, hvc, hcc, hst, hpp, hob, hvp, hcp, l5, l24, l3, nI_add, Int32.add_zero, hic1, hip1, hv_ic0, hc_ic0, hv_ic1, hc_ic1, hv_ic2, hc_ic2, hv_ip0, hc_ip0, hv_ip1, hc_ip1, hv_ip2, hc_ip2, hd0, hd1, hd2, hd3, hd4, hd5, hd6, hd7, hd8, hcp7, hcc7, hW, m_push]
  rw [wh108_128]
  simp only [we99_0, we99_1, we108_0, we108_1, we108_2, we108_3, true_and, and_true, if_false, if_true, not_true_eq_false, not_false_eq_true, false_implies, true_implies, implies_true, forall_const, true_or, or_true, false_or, or_false, false_and, and_false, eq_self_iff_true, Option.toList_some, Option.toList_none, List.cons_append, List.nil_append, mo_cat_0, mo_cat_c, mo_ct_i, mo_ct_l, mo_ct_r, mo_ct_n, mo_ct_f, Nat.zero_le, Nat.reduceAdd, Nat.reduceLeDiff, Nat.reduceLT, Nat.reduceEqDiff, Nat.reduceSub, mo_rf_s, mo_rf_n, reduceCtorEq, mo_st, mo_st2, mo_lg_0, mo_lg_s, List.set_cons_zero, List.set_cons_succ, List.length_cons, List.length_nil, List.getElem?_cons_zero, List.getElem?_cons_succ, Nat.reduceBEq, Bool.false_eq_true, beq_self_eq_true, mo_ME, mo_u_a, mo_z_a, mo_y_a, Nat.add_left_cancel_iff, mo_TSW, hs', H, hf, nI_1, nI_2, nI_pred, mo_LC, mo_LE, i01, i12, i23, i34, hv, hc, h0, hk, hco, hvc, hcc, hst, hpp, hob, hvp, hcp, l5, l24, l3, nI_add, Int32.add_zero, hic1, hip1, hv_ic0, hc_ic0, hv_ic1, hc_ic1, hv_ic2, hc_ic2, hv_ip0, hc_ip0, hv_ip1, hc_ip1, hv_ip2, hc_ip2, hd0, hd1, hd2, hd3, hd4, hd5, hd6, hd7, hd8, hcp7, hcc7, hW, m_push]
  refine kQ _ ⟨r_sh_c hs (by simp only [m_push, mo_ME]) (by simp only [m_push, mo_ME]) (by simp only [m_push, mo_ME]), ?_⟩ ?_
  · simp only [m_push, a_push, r_VW, hvw, hic, hip]
  · repeat (first | with_reducible exact r_fc_rf _ _ | with_reducible refine r_fc_push ?_ | with_reducible refine r_fc_I ?_ | with_reducible refine r_fc_L ?_ | with_reducible refine r_fc_AI (by decide) ?_ | with_reducible refine r_fc_AL (by decide) ?_)
set_option maxRecDepth 100000 in
set_option maxHeartbeats 2000000 in
theorem S_M1_03 {r f : Nat} {A : mo_A} {c p q u g0 : Nat} (hf : A.1 27 0 = nI (f + 1)) (hlt : f < 399) (h0 : A.1 37 0 = 0) (hk : A.1 28 f = 1) (hco : A.1 31 f = nI c) (hcl : c < 8) (hst : A.1 30 f = 1) (hpp : A.1 6 c = nI p) (hpc : p < c) (hob : A.1 32 f = nI q) (hql : q < 100) (hu : A.1 38 0 = nI u) (hu2 : u < 12) (hg : A.1 41 0 = nI g0) (hcp7 : A.1 7 p = 0) (hcc7 : A.1 7 c = 3) : r_S r A (a_push (a_I (a_I (a_I A 30 f 2) 38 0 (nI (u + 1))) 41 0 (nI (g0 + 1))) (f + 1) 1 (nI (5 * p)) (nI q) (nI p) (A.2 36 0)) := by
  intro μ h d Q kQ
  have hs := h.1
  have hs' := h.1
  unfold r_sh at hs'
  have hvw := h.2
  have H := r_rd h
  have hv : vp_in (nI f) 400 := vp_in_nI (by omega) (by decide)
  have hc : (nI f).toNatClampNeg = f := nI_clamp (by omega)
  have hvc : vp_in (nI c) 8 := vp_in_nI hcl (by decide)
  have hcc : (nI c).toNatClampNeg = c := nI_clamp (by omega)
  have hvp : vp_in (nI p) 8 := vp_in_nI (by omega) (by decide)
  have hcp : (nI p).toNatClampNeg = p := nI_clamp (by omega)
  obtain ⟨ic, hic⟩ : ∃ ic, ic = 24 * q + 3 * c := ⟨_, rfl⟩
  obtain ⟨ip, hip⟩ : ∃ ip, ip = 24 * q + 3 * p := ⟨_, rfl⟩
  have hic1 : 24 * q + 3 * c = ic := hic.symm
  have hip1 : 24 * q + 3 * p = ip := hip.symm
  have hv_ic0 : vp_in (nI (ic)) 2400 := vp_in_nI (by omega) (by decide)
  have hc_ic0 : (nI (ic)).toNatClampNeg = ic := nI_clamp (by omega)
  have hv_ic1 : vp_in (nI (ic + 1)) 2400 := vp_in_nI (by omega) (by decide)
  have hc_ic1 : (nI (ic + 1)).toNatClampNeg = ic + 1 := nI_clamp (by omega)
  have hv_ic2 : vp_in (nI (ic + 2)) 2400 := vp_in_nI (by omega) (by decide)
  have hc_ic2 : (nI (ic + 2)).toNatClampNeg = ic + 2 := nI_clamp (by omega)
  have hv_ip0 : vp_in (nI (ip)) 2400 := vp_in_nI (by omega) (by decide)
  have hc_ip0 : (nI (ip)).toNatClampNeg = ip := nI_clamp (by omega)
  have hv_ip1 : vp_in (nI (ip + 1)) 2400 := vp_in_nI (by omega) (by decide)
  have hc_ip1 : (nI (ip + 1)).toNatClampNeg = ip + 1 := nI_clamp (by omega)
  have hv_ip2 : vp_in (nI (ip + 2)) 2400 := vp_in_nI (by omega) (by decide)
  have hc_ip2 : (nI (ip + 2)).toNatClampNeg = ip + 2 := nI_clamp (by omega)
  have hd0 : (ic = ip) = False := eq_false (by omega)
  have hd1 : (ic + 1 = ip) = False := eq_false (by omega)
  have hd2 : (ic + 2 = ip) = False := eq_false (by omega)
  have hd3 : (ic = ip + 1) = False := eq_false (by omega)
  have hd4 : (ic = ip + 2) = False := eq_false (by omega)
  have hd5 : (ic + 1 = ip + 1) = False := eq_false (by omega)
  have hd6 : (ic + 2 = ip + 2) = False := eq_false (by omega)
  have hd7 : (ic + 1 = ip + 2) = False := eq_false (by omega)
  have hd8 : (ic + 2 = ip + 1) = False := eq_false (by omega)
  have hW := fun d w1 x1 p1 c1 g1 Q => R_enter (d := d) (μ := (mo_wAI μ (r + 25) f 2)) (t := f + 1) (u := u) (g0 := g0) (r_sh_c hs (by simp only [mo_ME]) (by simp only [mo_ME]) (by simp only [mo_ME])) (by simp only [mo_ME, mo_u_a, Nat.reduceEqDiff, false_and, if_false]; exact (r_rdI h 27 rfl).trans hf) (by omega) (by simp only [mo_ME, mo_u_a, Nat.reduceEqDiff, false_and, if_false]; exact (r_rdI h 38 rfl).trans hu) hu2 (by simp only [mo_ME, mo_u_a, Nat.reduceEqDiff, false_and, if_false]; exact (r_rdI h 41 rfl).trans hg) w1 x1 p1 c1 g1 Q
  simp only [we99_0, we99_1, we108_0, we108_1, we108_2, we108_3, en99, en108, true_and, and_true, if_false, if_true, not_true_eq_false, not_false_eq_true, false_implies, true_implies, implies_true, forall_const, true_or, or_true, false_or, or_false, false_and, and_false, eq_self_iff_true, Option.toList_some, Option.toList_none, List.cons_append, List.nil_append, mo_cat_0, mo_cat_c, mo_ct_i, mo_ct_l, mo_ct_r, mo_ct_n, mo_ct_f, Nat.zero_le, Nat.reduceAdd, Nat.reduceLeDiff, Nat.reduceLT, Nat.reduceEqDiff, Nat.reduceSub, mo_rf_s, mo_rf_n, reduceCtorEq, mo_st, mo_st2, mo_lg_0, mo_lg_s, List.set_cons_zero, List.set_cons_succ, List.length_cons, List.length_nil, List.getElem?_cons_zero, List.getElem?_cons_succ, Nat.reduceBEq, Bool.false_eq_true, beq_self_eq_true, mo_ME, mo_u_a, mo_z_a, mo_y_a, Nat.add_left_cancel_iff, mo_TSW, hs', H, hf, nI_1, nI_2, nI_pred, mo_LC, mo_LE, i01, i12, i23, i34, hv, hc, h0, hk, hco, hvc, hcc, hst, hpp, hob, hvp, hcp, l5, l24, l3, nI_add, Int32.add_zero, hic1, hip1, hv_ic0, hc_ic0, hv_ic1, hc_ic1, hv_ic2, hc_ic2, hv_ip0, hc_ip0, hv_ip1, hc_ip1, hv_ip2, hc_ip2, hd0, hd1, hd2, hd3, hd4, hd5, hd6, hd7, hd8, hcp7, hcc7, hW, m_push]
  rw [wh108_128]
  simp only [we99_0, we99_1, we108_0, we108_1, we108_2, we108_3, true_and, and_true, if_false, if_true, not_true_eq_false, not_false_eq_true, false_implies, true_implies, implies_true, forall_const, true_or, or_true, false_or, or_false, false_and, and_false, eq_self_iff_true, Option.toList_some, Option.toList_none, List.cons_append, List.nil_append, mo_cat_0, mo_cat_c, mo_ct_i, mo_ct_l, mo_ct_r, mo_ct_n, mo_ct_f, Nat.zero_le, Nat.reduceAdd, Nat.reduceLeDiff, Nat.reduceLT, Nat.reduceEqDiff, Nat.reduceSub, mo_rf_s, mo_rf_n, reduceCtorEq, mo_st, mo_st2, mo_lg_0, mo_lg_s, List.set_cons_zero, List.set_cons_succ, List.length_cons, List.length_nil, List.getElem?_cons_zero, List.getElem?_cons_succ, Nat.reduceBEq, Bool.false_eq_true, beq_self_eq_true, mo_ME, mo_u_a, mo_z_a, mo_y_a, Nat.add_left_cancel_iff, mo_TSW, hs', H, hf, nI_1, nI_2, nI_pred, mo_LC, mo_LE, i01, i12, i23, i34, hv, hc, h0, hk, hco, hvc, hcc, hst, hpp, hob, hvp, hcp, l5, l24, l3, nI_add, Int32.add_zero, hic1, hip1, hv_ic0, hc_ic0, hv_ic1, hc_ic1, hv_ic2, hc_ic2, hv_ip0, hc_ip0, hv_ip1, hc_ip1, hv_ip2, hc_ip2, hd0, hd1, hd2, hd3, hd4, hd5, hd6, hd7, hd8, hcp7, hcc7, hW, m_push]
  refine kQ _ ⟨r_sh_c hs (by simp only [m_push, mo_ME]) (by simp only [m_push, mo_ME]) (by simp only [m_push, mo_ME]), ?_⟩ ?_
  · simp only [m_push, a_push, r_VW, hvw, hic, hip]
  · repeat (first | with_reducible exact r_fc_rf _ _ | with_reducible refine r_fc_push ?_ | with_reducible refine r_fc_I ?_ | with_reducible refine r_fc_L ?_ | with_reducible refine r_fc_AI (by decide) ?_ | with_reducible refine r_fc_AL (by decide) ?_)
set_option maxRecDepth 100000 in
set_option maxHeartbeats 2000000 in
theorem S_M1_10 {r f : Nat} {A : mo_A} {c p q u g0 : Nat} (hf : A.1 27 0 = nI (f + 1)) (hlt : f < 399) (h0 : A.1 37 0 = 0) (hk : A.1 28 f = 1) (hco : A.1 31 f = nI c) (hcl : c < 8) (hst : A.1 30 f = 1) (hpp : A.1 6 c = nI p) (hpc : p < c) (hob : A.1 32 f = nI q) (hql : q < 100) (hu : A.1 38 0 = nI u) (hu2 : u < 12) (hg : A.1 41 0 = nI g0) (hcp7 : A.1 7 p = 1) (hcc7 : A.1 7 c = 0) : r_S r A (a_L (a_push (a_I (a_I (a_I A 30 f 2) 38 0 (nI (u + 1))) 41 0 (nI (g0 + 1))) (f + 1) 1 (nI (5 * p)) (nI q) (nI p) (A.2 36 0)) 20 (24 * q + 3 * p) 0) := by
  intro μ h d Q kQ
  have hs := h.1
  have hs' := h.1
  unfold r_sh at hs'
  have hvw := h.2
  have H := r_rd h
  have hv : vp_in (nI f) 400 := vp_in_nI (by omega) (by decide)
  have hc : (nI f).toNatClampNeg = f := nI_clamp (by omega)
  have hvc : vp_in (nI c) 8 := vp_in_nI hcl (by decide)
  have hcc : (nI c).toNatClampNeg = c := nI_clamp (by omega)
  have hvp : vp_in (nI p) 8 := vp_in_nI (by omega) (by decide)
  have hcp : (nI p).toNatClampNeg = p := nI_clamp (by omega)
  obtain ⟨ic, hic⟩ : ∃ ic, ic = 24 * q + 3 * c := ⟨_, rfl⟩
  obtain ⟨ip, hip⟩ : ∃ ip, ip = 24 * q + 3 * p := ⟨_, rfl⟩
  have hic1 : 24 * q + 3 * c = ic := hic.symm
  have hip1 : 24 * q + 3 * p = ip := hip.symm
  have hv_ic0 : vp_in (nI (ic)) 2400 := vp_in_nI (by omega) (by decide)
  have hc_ic0 : (nI (ic)).toNatClampNeg = ic := nI_clamp (by omega)
  have hv_ic1 : vp_in (nI (ic + 1)) 2400 := vp_in_nI (by omega) (by decide)
  have hc_ic1 : (nI (ic + 1)).toNatClampNeg = ic + 1 := nI_clamp (by omega)
  have hv_ic2 : vp_in (nI (ic + 2)) 2400 := vp_in_nI (by omega) (by decide)
  have hc_ic2 : (nI (ic + 2)).toNatClampNeg = ic + 2 := nI_clamp (by omega)
  have hv_ip0 : vp_in (nI (ip)) 2400 := vp_in_nI (by omega) (by decide)
  have hc_ip0 : (nI (ip)).toNatClampNeg = ip := nI_clamp (by omega)
  have hv_ip1 : vp_in (nI (ip + 1)) 2400 := vp_in_nI (by omega) (by decide)
  have hc_ip1 : (nI (ip + 1)).toNatClampNeg = ip + 1 := nI_clamp (by omega)
  have hv_ip2 : vp_in (nI (ip + 2)) 2400 := vp_in_nI (by omega) (by decide)
  have hc_ip2 : (nI (ip + 2)).toNatClampNeg = ip + 2 := nI_clamp (by omega)
  have hd0 : (ic = ip) = False := eq_false (by omega)
  have hd1 : (ic + 1 = ip) = False := eq_false (by omega)
  have hd2 : (ic + 2 = ip) = False := eq_false (by omega)
  have hd3 : (ic = ip + 1) = False := eq_false (by omega)
  have hd4 : (ic = ip + 2) = False := eq_false (by omega)
  have hd5 : (ic + 1 = ip + 1) = False := eq_false (by omega)
  have hd6 : (ic + 2 = ip + 2) = False := eq_false (by omega)
  have hd7 : (ic + 1 = ip + 2) = False := eq_false (by omega)
  have hd8 : (ic + 2 = ip + 1) = False := eq_false (by omega)
  have hW := fun d w1 x1 p1 c1 g1 Q => R_enter (d := d) (μ := (mo_wAI μ (r + 25) f 2)) (t := f + 1) (u := u) (g0 := g0) (r_sh_c hs (by simp only [mo_ME]) (by simp only [mo_ME]) (by simp only [mo_ME])) (by simp only [mo_ME, mo_u_a, Nat.reduceEqDiff, false_and, if_false]; exact (r_rdI h 27 rfl).trans hf) (by omega) (by simp only [mo_ME, mo_u_a, Nat.reduceEqDiff, false_and, if_false]; exact (r_rdI h 38 rfl).trans hu) hu2 (by simp only [mo_ME, mo_u_a, Nat.reduceEqDiff, false_and, if_false]; exact (r_rdI h 41 rfl).trans hg) w1 x1 p1 c1 g1 Q
  simp only [we99_0, we99_1, we108_0, we108_1, we108_2, we108_3, en99, en108, true_and, and_true, if_false, if_true, not_true_eq_false, not_false_eq_true, false_implies, true_implies, implies_true, forall_const, true_or, or_true, false_or, or_false, false_and, and_false, eq_self_iff_true, Option.toList_some, Option.toList_none, List.cons_append, List.nil_append, mo_cat_0, mo_cat_c, mo_ct_i, mo_ct_l, mo_ct_r, mo_ct_n, mo_ct_f, Nat.zero_le, Nat.reduceAdd, Nat.reduceLeDiff, Nat.reduceLT, Nat.reduceEqDiff, Nat.reduceSub, mo_rf_s, mo_rf_n, reduceCtorEq, mo_st, mo_st2, mo_lg_0, mo_lg_s, List.set_cons_zero, List.set_cons_succ, List.length_cons, List.length_nil, List.getElem?_cons_zero, List.getElem?_cons_succ, Nat.reduceBEq, Bool.false_eq_true, beq_self_eq_true, mo_ME, mo_u_a, mo_z_a, mo_y_a, Nat.add_left_cancel_iff, mo_TSW, hs', H, hf, nI_1, nI_2, nI_pred, mo_LC, mo_LE, i01, i12, i23, i34, hv, hc, h0, hk, hco, hvc, hcc, hst, hpp, hob, hvp, hcp, l5, l24, l3, nI_add, Int32.add_zero, hic1, hip1, hv_ic0, hc_ic0, hv_ic1, hc_ic1, hv_ic2, hc_ic2, hv_ip0, hc_ip0, hv_ip1, hc_ip1, hv_ip2, hc_ip2, hd0, hd1, hd2, hd3, hd4, hd5, hd6, hd7, hd8, hcp7, hcc7, hW, m_push]
  rw [wh108_128]
  simp only [we99_0, we99_1, we108_0, we108_1, we108_2, we108_3, true_and, and_true, if_false, if_true, not_true_eq_false, not_false_eq_true, false_implies, true_implies, implies_true, forall_const, true_or, or_true, false_or, or_false, false_and, and_false, eq_self_iff_true, Option.toList_some, Option.toList_none, List.cons_append, List.nil_append, mo_cat_0, mo_cat_c, mo_ct_i, mo_ct_l, mo_ct_r, mo_ct_n, mo_ct_f, Nat.zero_le, Nat.reduceAdd, Nat.reduceLeDiff, Nat.reduceLT, Nat.reduceEqDiff, Nat.reduceSub, mo_rf_s, mo_rf_n, reduceCtorEq, mo_st, mo_st2, mo_lg_0, mo_lg_s, List.set_cons_zero, List.set_cons_succ, List.length_cons, List.length_nil, List.getElem?_cons_zero, List.getElem?_cons_succ, Nat.reduceBEq, Bool.false_eq_true, beq_self_eq_true, mo_ME, mo_u_a, mo_z_a, mo_y_a, Nat.add_left_cancel_iff, mo_TSW, hs', H, hf, nI_1, nI_2, nI_pred, mo_LC, mo_LE, i01, i12, i23, i34, hv, hc, h0, hk, hco, hvc, hcc, hst, hpp, hob, hvp, hcp, l5, l24, l3, nI_add, Int32.add_zero, hic1, hip1, hv_ic0, hc_ic0, hv_ic1, hc_ic1, hv_ic2, hc_ic2, hv_ip0, hc_ip0, hv_ip1, hc_ip1, hv_ip2, hc_ip2, hd0, hd1, hd2, hd3, hd4, hd5, hd6, hd7, hd8, hcp7, hcc7, hW, m_push]
  rw [wh108_128]
  simp only [we99_0, we99_1, we108_0, we108_1, we108_2, we108_3, true_and, and_true, if_false, if_true, not_true_eq_false, not_false_eq_true, false_implies, true_implies, implies_true, forall_const, true_or, or_true, false_or, or_false, false_and, and_false, eq_self_iff_true, Option.toList_some, Option.toList_none, List.cons_append, List.nil_append, mo_cat_0, mo_cat_c, mo_ct_i, mo_ct_l, mo_ct_r, mo_ct_n, mo_ct_f, Nat.zero_le, Nat.reduceAdd, Nat.reduceLeDiff, Nat.reduceLT, Nat.reduceEqDiff, Nat.reduceSub, mo_rf_s, mo_rf_n, reduceCtorEq, mo_st, mo_st2, mo_lg_0, mo_lg_s, List.set_cons_zero, List.set_cons_succ, List.length_cons, List.length_nil, List.getElem?_cons_zero, List.getElem?_cons_succ, Nat.reduceBEq, Bool.false_eq_true, beq_self_eq_true, mo_ME, mo_u_a, mo_z_a, mo_y_a, Nat.add_left_cancel_iff, mo_TSW, hs', H, hf, nI_1, nI_2, nI_pred, mo_LC, mo_LE, i01, i12, i23, i34, hv, hc, h0, hk, hco, hvc, hcc, hst, hpp, hob, hvp, hcp, l5, l24, l3, nI_add, Int32.add_zero, hic1, hip1, hv_ic0, hc_ic0, hv_ic1, hc_ic1, hv_ic2, hc_ic2, hv_ip0, hc_ip0, hv_ip1, hc_ip1, hv_ip2, hc_ip2, hd0, hd1, hd2, hd3, hd4, hd5, hd6, hd7, hd8, hcp7, hcc7, hW, m_push]
  refine kQ _ ⟨r_sh_c hs (by simp only [m_push, mo_ME]) (by simp only [m_push, mo_ME]) (by simp only [m_push, mo_ME]), ?_⟩ ?_
  · simp only [m_push, a_push, r_VW, hvw, hic, hip]
  · repeat (first | with_reducible exact r_fc_rf _ _ | with_reducible refine r_fc_push ?_ | with_reducible refine r_fc_I ?_ | with_reducible refine r_fc_L ?_ | with_reducible refine r_fc_AI (by decide) ?_ | with_reducible refine r_fc_AL (by decide) ?_)
set_option maxRecDepth 100000 in
set_option maxHeartbeats 2000000 in
theorem S_M1_11 {r f : Nat} {A : mo_A} {c p q u g0 : Nat} (hf : A.1 27 0 = nI (f + 1)) (hlt : f < 399) (h0 : A.1 37 0 = 0) (hk : A.1 28 f = 1) (hco : A.1 31 f = nI c) (hcl : c < 8) (hst : A.1 30 f = 1) (hpp : A.1 6 c = nI p) (hpc : p < c) (hob : A.1 32 f = nI q) (hql : q < 100) (hu : A.1 38 0 = nI u) (hu2 : u < 12) (hg : A.1 41 0 = nI g0) (hcp7 : A.1 7 p = 1) (hcc7 : A.1 7 c = 1) : r_S r A (a_L (a_push (a_I (a_I (a_I A 30 f 2) 38 0 (nI (u + 1))) 41 0 (nI (g0 + 1))) (f + 1) 1 (nI (5 * p)) (nI q) (nI p) (A.2 36 0)) 20 (24 * q + 3 * p) (A.2 20 (24 * q + 3 * c))) := by
  intro μ h d Q kQ
  have hs := h.1
  have hs' := h.1
  unfold r_sh at hs'
  have hvw := h.2
  have H := r_rd h
  have hv : vp_in (nI f) 400 := vp_in_nI (by omega) (by decide)
  have hc : (nI f).toNatClampNeg = f := nI_clamp (by omega)
  have hvc : vp_in (nI c) 8 := vp_in_nI hcl (by decide)
  have hcc : (nI c).toNatClampNeg = c := nI_clamp (by omega)
  have hvp : vp_in (nI p) 8 := vp_in_nI (by omega) (by decide)
  have hcp : (nI p).toNatClampNeg = p := nI_clamp (by omega)
  obtain ⟨ic, hic⟩ : ∃ ic, ic = 24 * q + 3 * c := ⟨_, rfl⟩
  obtain ⟨ip, hip⟩ : ∃ ip, ip = 24 * q + 3 * p := ⟨_, rfl⟩
  have hic1 : 24 * q + 3 * c = ic := hic.symm
  have hip1 : 24 * q + 3 * p = ip := hip.symm
  have hv_ic0 : vp_in (nI (ic)) 2400 := vp_in_nI (by omega) (by decide)
  have hc_ic0 : (nI (ic)).toNatClampNeg = ic := nI_clamp (by omega)
  have hv_ic1 : vp_in (nI (ic + 1)) 2400 := vp_in_nI (by omega) (by decide)
  have hc_ic1 : (nI (ic + 1)).toNatClampNeg = ic + 1 := nI_clamp (by omega)
  have hv_ic2 : vp_in (nI (ic + 2)) 2400 := vp_in_nI (by omega) (by decide)
  have hc_ic2 : (nI (ic + 2)).toNatClampNeg = ic + 2 := nI_clamp (by omega)
  have hv_ip0 : vp_in (nI (ip)) 2400 := vp_in_nI (by omega) (by decide)
  have hc_ip0 : (nI (ip)).toNatClampNeg = ip := nI_clamp (by omega)
  have hv_ip1 : vp_in (nI (ip + 1)) 2400 := vp_in_nI (by omega) (by decide)
  have hc_ip1 : (nI (ip + 1)).toNatClampNeg = ip + 1 := nI_clamp (by omega)
  have hv_ip2 : vp_in (nI (ip + 2)) 2400 := vp_in_nI (by omega) (by decide)
  have hc_ip2 : (nI (ip + 2)).toNatClampNeg = ip + 2 := nI_clamp (by omega)
  have hd0 : (ic = ip) = False := eq_false (by omega)
  have hd1 : (ic + 1 = ip) = False := eq_false (by omega)
  have hd2 : (ic + 2 = ip) = False := eq_false (by omega)
  have hd3 : (ic = ip + 1) = False := eq_false (by omega)
  have hd4 : (ic = ip + 2) = False := eq_false (by omega)
  have hd5 : (ic + 1 = ip + 1) = False := eq_false (by omega)
  have hd6 : (ic + 2 = ip + 2) = False := eq_false (by omega)
  have hd7 : (ic + 1 = ip + 2) = False := eq_false (by omega)
  have hd8 : (ic + 2 = ip + 1) = False := eq_false (by omega)
  have hW := fun d w1 x1 p1 c1 g1 Q => R_enter (d := d) (μ := (mo_wAI μ (r + 25) f 2)) (t := f + 1) (u := u) (g0 := g0) (r_sh_c hs (by simp only [mo_ME]) (by simp only [mo_ME]) (by simp only [mo_ME])) (by simp only [mo_ME, mo_u_a, Nat.reduceEqDiff, false_and, if_false]; exact (r_rdI h 27 rfl).trans hf) (by omega) (by simp only [mo_ME, mo_u_a, Nat.reduceEqDiff, false_and, if_false]; exact (r_rdI h 38 rfl).trans hu) hu2 (by simp only [mo_ME, mo_u_a, Nat.reduceEqDiff, false_and, if_false]; exact (r_rdI h 41 rfl).trans hg) w1 x1 p1 c1 g1 Q
  simp only [we99_0, we99_1, we108_0, we108_1, we108_2, we108_3, en99, en108, true_and, and_true, if_false, if_true, not_true_eq_false, not_false_eq_true, false_implies, true_implies, implies_true, forall_const, true_or, or_true, false_or, or_false, false_and, and_false, eq_self_iff_true, Option.toList_some, Option.toList_none, List.cons_append, List.nil_append, mo_cat_0, mo_cat_c, mo_ct_i, mo_ct_l, mo_ct_r, mo_ct_n, mo_ct_f, Nat.zero_le, Nat.reduceAdd, Nat.reduceLeDiff, Nat.reduceLT, Nat.reduceEqDiff, Nat.reduceSub, mo_rf_s, mo_rf_n, reduceCtorEq, mo_st, mo_st2, mo_lg_0, mo_lg_s, List.set_cons_zero, List.set_cons_succ, List.length_cons, List.length_nil, List.getElem?_cons_zero, List.getElem?_cons_succ, Nat.reduceBEq, Bool.false_eq_true, beq_self_eq_true, mo_ME, mo_u_a, mo_z_a, mo_y_a, Nat.add_left_cancel_iff, mo_TSW, hs', H, hf, nI_1, nI_2, nI_pred, mo_LC, mo_LE, i01, i12, i23, i34, hv, hc, h0, hk, hco, hvc, hcc, hst, hpp, hob, hvp, hcp, l5, l24, l3, nI_add, Int32.add_zero, hic1, hip1, hv_ic0, hc_ic0, hv_ic1, hc_ic1, hv_ic2, hc_ic2, hv_ip0, hc_ip0, hv_ip1, hc_ip1, hv_ip2, hc_ip2, hd0, hd1, hd2, hd3, hd4, hd5, hd6, hd7, hd8, hcp7, hcc7, hW, m_push]
  rw [wh108_128]
  simp only [we99_0, we99_1, we108_0, we108_1, we108_2, we108_3, true_and, and_true, if_false, if_true, not_true_eq_false, not_false_eq_true, false_implies, true_implies, implies_true, forall_const, true_or, or_true, false_or, or_false, false_and, and_false, eq_self_iff_true, Option.toList_some, Option.toList_none, List.cons_append, List.nil_append, mo_cat_0, mo_cat_c, mo_ct_i, mo_ct_l, mo_ct_r, mo_ct_n, mo_ct_f, Nat.zero_le, Nat.reduceAdd, Nat.reduceLeDiff, Nat.reduceLT, Nat.reduceEqDiff, Nat.reduceSub, mo_rf_s, mo_rf_n, reduceCtorEq, mo_st, mo_st2, mo_lg_0, mo_lg_s, List.set_cons_zero, List.set_cons_succ, List.length_cons, List.length_nil, List.getElem?_cons_zero, List.getElem?_cons_succ, Nat.reduceBEq, Bool.false_eq_true, beq_self_eq_true, mo_ME, mo_u_a, mo_z_a, mo_y_a, Nat.add_left_cancel_iff, mo_TSW, hs', H, hf, nI_1, nI_2, nI_pred, mo_LC, mo_LE, i01, i12, i23, i34, hv, hc, h0, hk, hco, hvc, hcc, hst, hpp, hob, hvp, hcp, l5, l24, l3, nI_add, Int32.add_zero, hic1, hip1, hv_ic0, hc_ic0, hv_ic1, hc_ic1, hv_ic2, hc_ic2, hv_ip0, hc_ip0, hv_ip1, hc_ip1, hv_ip2, hc_ip2, hd0, hd1, hd2, hd3, hd4, hd5, hd6, hd7, hd8, hcp7, hcc7, hW, m_push]
  rw [wh108_128]
  simp only [we99_0, we99_1, we108_0, we108_1, we108_2, we108_3, true_and, and_true, if_false, if_true, not_true_eq_false, not_false_eq_true, false_implies, true_implies, implies_true, forall_const, true_or, or_true, false_or, or_false, false_and, and_false, eq_self_iff_true, Option.toList_some, Option.toList_none, List.cons_append, List.nil_append, mo_cat_0, mo_cat_c, mo_ct_i, mo_ct_l, mo_ct_r, mo_ct_n, mo_ct_f, Nat.zero_le, Nat.reduceAdd, Nat.reduceLeDiff, Nat.reduceLT, Nat.reduceEqDiff, Nat.reduceSub, mo_rf_s, mo_rf_n, reduceCtorEq, mo_st, mo_st2, mo_lg_0, mo_lg_s, List.set_cons_zero, List.set_cons_succ, List.length_cons, List.length_nil, List.getElem?_cons_zero, List.getElem?_cons_succ, Nat.reduceBEq, Bool.false_eq_true, beq_self_eq_true, mo_ME, mo_u_a, mo_z_a, mo_y_a, Nat.add_left_cancel_iff, mo_TSW, hs', H, hf, nI_1, nI_2, nI_pred, mo_LC, mo_LE, i01, i12, i23, i34, hv, hc, h0, hk, hco, hvc, hcc, hst, hpp, hob, hvp, hcp, l5, l24, l3, nI_add, Int32.add_zero, hic1, hip1, hv_ic0, hc_ic0, hv_ic1, hc_ic1, hv_ic2, hc_ic2, hv_ip0, hc_ip0, hv_ip1, hc_ip1, hv_ip2, hc_ip2, hd0, hd1, hd2, hd3, hd4, hd5, hd6, hd7, hd8, hcp7, hcc7, hW, m_push]
  refine kQ _ ⟨r_sh_c hs (by simp only [m_push, mo_ME]) (by simp only [m_push, mo_ME]) (by simp only [m_push, mo_ME]), ?_⟩ ?_
  · simp only [m_push, a_push, r_VW, hvw, hic, hip]
  · repeat (first | with_reducible exact r_fc_rf _ _ | with_reducible refine r_fc_push ?_ | with_reducible refine r_fc_I ?_ | with_reducible refine r_fc_L ?_ | with_reducible refine r_fc_AI (by decide) ?_ | with_reducible refine r_fc_AL (by decide) ?_)
set_option maxRecDepth 100000 in
set_option maxHeartbeats 2000000 in
theorem S_M1_12 {r f : Nat} {A : mo_A} {c p q u g0 : Nat} (hf : A.1 27 0 = nI (f + 1)) (hlt : f < 399) (h0 : A.1 37 0 = 0) (hk : A.1 28 f = 1) (hco : A.1 31 f = nI c) (hcl : c < 8) (hst : A.1 30 f = 1) (hpp : A.1 6 c = nI p) (hpc : p < c) (hob : A.1 32 f = nI q) (hql : q < 100) (hu : A.1 38 0 = nI u) (hu2 : u < 12) (hg : A.1 41 0 = nI g0) (hcp7 : A.1 7 p = 1) (hcc7 : A.1 7 c = 2) : r_S r A (a_L (a_push (a_I (a_I (a_I A 30 f 2) 38 0 (nI (u + 1))) 41 0 (nI (g0 + 1))) (f + 1) 1 (nI (5 * p)) (nI q) (nI p) (A.2 36 0)) 20 (24 * q + 3 * p) (A.2 20 (24 * q + 3 * c))) := by
  intro μ h d Q kQ
  have hs := h.1
  have hs' := h.1
  unfold r_sh at hs'
  have hvw := h.2
  have H := r_rd h
  have hv : vp_in (nI f) 400 := vp_in_nI (by omega) (by decide)
  have hc : (nI f).toNatClampNeg = f := nI_clamp (by omega)
  have hvc : vp_in (nI c) 8 := vp_in_nI hcl (by decide)
  have hcc : (nI c).toNatClampNeg = c := nI_clamp (by omega)
  have hvp : vp_in (nI p) 8 := vp_in_nI (by omega) (by decide)
  have hcp : (nI p).toNatClampNeg = p := nI_clamp (by omega)
  obtain ⟨ic, hic⟩ : ∃ ic, ic = 24 * q + 3 * c := ⟨_, rfl⟩
  obtain ⟨ip, hip⟩ : ∃ ip, ip = 24 * q + 3 * p := ⟨_, rfl⟩
  have hic1 : 24 * q + 3 * c = ic := hic.symm
  have hip1 : 24 * q + 3 * p = ip := hip.symm
  have hv_ic0 : vp_in (nI (ic)) 2400 := vp_in_nI (by omega) (by decide)
  have hc_ic0 : (nI (ic)).toNatClampNeg = ic := nI_clamp (by omega)
  have hv_ic1 : vp_in (nI (ic + 1)) 2400 := vp_in_nI (by omega) (by decide)
  have hc_ic1 : (nI (ic + 1)).toNatClampNeg = ic + 1 := nI_clamp (by omega)
  have hv_ic2 : vp_in (nI (ic + 2)) 2400 := vp_in_nI (by omega) (by decide)
  have hc_ic2 : (nI (ic + 2)).toNatClampNeg = ic + 2 := nI_clamp (by omega)
  have hv_ip0 : vp_in (nI (ip)) 2400 := vp_in_nI (by omega) (by decide)
  have hc_ip0 : (nI (ip)).toNatClampNeg = ip := nI_clamp (by omega)
  have hv_ip1 : vp_in (nI (ip + 1)) 2400 := vp_in_nI (by omega) (by decide)
  have hc_ip1 : (nI (ip + 1)).toNatClampNeg = ip + 1 := nI_clamp (by omega)
  have hv_ip2 : vp_in (nI (ip + 2)) 2400 := vp_in_nI (by omega) (by decide)
  have hc_ip2 : (nI (ip + 2)).toNatClampNeg = ip + 2 := nI_clamp (by omega)
  have hd0 : (ic = ip) = False := eq_false (by omega)
  have hd1 : (ic + 1 = ip) = False := eq_false (by omega)
  have hd2 : (ic + 2 = ip) = False := eq_false (by omega)
  have hd3 : (ic = ip + 1) = False := eq_false (by omega)
  have hd4 : (ic = ip + 2) = False := eq_false (by omega)
  have hd5 : (ic + 1 = ip + 1) = False := eq_false (by omega)
  have hd6 : (ic + 2 = ip + 2) = False := eq_false (by omega)
  have hd7 : (ic + 1 = ip + 2) = False := eq_false (by omega)
  have hd8 : (ic + 2 = ip + 1) = False := eq_false (by omega)
  have hW := fun d w1 x1 p1 c1 g1 Q => R_enter (d := d) (μ := (mo_wAI μ (r + 25) f 2)) (t := f + 1) (u := u) (g0 := g0) (r_sh_c hs (by simp only [mo_ME]) (by simp only [mo_ME]) (by simp only [mo_ME])) (by simp only [mo_ME, mo_u_a, Nat.reduceEqDiff, false_and, if_false]; exact (r_rdI h 27 rfl).trans hf) (by omega) (by simp only [mo_ME, mo_u_a, Nat.reduceEqDiff, false_and, if_false]; exact (r_rdI h 38 rfl).trans hu) hu2 (by simp only [mo_ME, mo_u_a, Nat.reduceEqDiff, false_and, if_false]; exact (r_rdI h 41 rfl).trans hg) w1 x1 p1 c1 g1 Q
  simp only [we99_0, we99_1, we108_0, we108_1, we108_2, we108_3, en99, en108, true_and, and_true, if_false, if_true, not_true_eq_false, not_false_eq_true, false_implies, true_implies, implies_true, forall_const, true_or, or_true, false_or, or_false, false_and, and_false, eq_self_iff_true, Option.toList_some, Option.toList_none, List.cons_append, List.nil_append, mo_cat_0, mo_cat_c, mo_ct_i, mo_ct_l, mo_ct_r, mo_ct_n, mo_ct_f, Nat.zero_le, Nat.reduceAdd, Nat.reduceLeDiff, Nat.reduceLT, Nat.reduceEqDiff, Nat.reduceSub, mo_rf_s, mo_rf_n, reduceCtorEq, mo_st, mo_st2, mo_lg_0, mo_lg_s, List.set_cons_zero, List.set_cons_succ, List.length_cons, List.length_nil, List.getElem?_cons_zero, List.getElem?_cons_succ, Nat.reduceBEq, Bool.false_eq_true, beq_self_eq_true, mo_ME, mo_u_a, mo_z_a, mo_y_a, Nat.add_left_cancel_iff, mo_TSW, hs', H, hf, nI_1, nI_2, nI_pred, mo_LC, mo_LE, i01, i12, i23, i34, hv, hc, h0, hk, hco, hvc, hcc, hst, hpp, hob, hvp, hcp, l5, l24, l3, nI_add, Int32.add_zero, hic1, hip1, hv_ic0, hc_ic0, hv_ic1, hc_ic1, hv_ic2, hc_ic2, hv_ip0, hc_ip0, hv_ip1, hc_ip1, hv_ip2, hc_ip2, hd0, hd1, hd2, hd3, hd4, hd5, hd6, hd7, hd8, hcp7, hcc7, hW, m_push]
  rw [wh108_128]
  simp only [we99_0, we99_1, we108_0, we108_1, we108_2, we108_3, true_and, and_true, if_false, if_true, not_true_eq_false, not_false_eq_true, false_implies, true_implies, implies_true, forall_const, true_or, or_true, false_or, or_false, false_and, and_false, eq_self_iff_true, Option.toList_some, Option.toList_none, List.cons_append, List.nil_append, mo_cat_0, mo_cat_c, mo_ct_i, mo_ct_l, mo_ct_r, mo_ct_n, mo_ct_f, Nat.zero_le, Nat.reduceAdd, Nat.reduceLeDiff, Nat.reduceLT, Nat.reduceEqDiff, Nat.reduceSub, mo_rf_s, mo_rf_n, reduceCtorEq, mo_st, mo_st2, mo_lg_0, mo_lg_s, List.set_cons_zero, List.set_cons_succ, List.length_cons, List.length_nil, List.getElem?_cons_zero, List.getElem?_cons_succ, Nat.reduceBEq, Bool.false_eq_true, beq_self_eq_true, mo_ME, mo_u_a, mo_z_a, mo_y_a, Nat.add_left_cancel_iff, mo_TSW, hs', H, hf, nI_1, nI_2, nI_pred, mo_LC, mo_LE, i01, i12, i23, i34, hv, hc, h0, hk, hco, hvc, hcc, hst, hpp, hob, hvp, hcp, l5, l24, l3, nI_add, Int32.add_zero, hic1, hip1, hv_ic0, hc_ic0, hv_ic1, hc_ic1, hv_ic2, hc_ic2, hv_ip0, hc_ip0, hv_ip1, hc_ip1, hv_ip2, hc_ip2, hd0, hd1, hd2, hd3, hd4, hd5, hd6, hd7, hd8, hcp7, hcc7, hW, m_push]
  rw [wh108_128]
  simp only [we99_0, we99_1, we108_0, we108_1, we108_2, we108_3, true_and, and_true, if_false, if_true, not_true_eq_false, not_false_eq_true, false_implies, true_implies, implies_true, forall_const, true_or, or_true, false_or, or_false, false_and, and_false, eq_self_iff_true, Option.toList_some, Option.toList_none, List.cons_append, List.nil_append, mo_cat_0, mo_cat_c, mo_ct_i, mo_ct_l, mo_ct_r, mo_ct_n, mo_ct_f, Nat.zero_le, Nat.reduceAdd, Nat.reduceLeDiff, Nat.reduceLT, Nat.reduceEqDiff, Nat.reduceSub, mo_rf_s, mo_rf_n, reduceCtorEq, mo_st, mo_st2, mo_lg_0, mo_lg_s, List.set_cons_zero, List.set_cons_succ, List.length_cons, List.length_nil, List.getElem?_cons_zero, List.getElem?_cons_succ, Nat.reduceBEq, Bool.false_eq_true, beq_self_eq_true, mo_ME, mo_u_a, mo_z_a, mo_y_a, Nat.add_left_cancel_iff, mo_TSW, hs', H, hf, nI_1, nI_2, nI_pred, mo_LC, mo_LE, i01, i12, i23, i34, hv, hc, h0, hk, hco, hvc, hcc, hst, hpp, hob, hvp, hcp, l5, l24, l3, nI_add, Int32.add_zero, hic1, hip1, hv_ic0, hc_ic0, hv_ic1, hc_ic1, hv_ic2, hc_ic2, hv_ip0, hc_ip0, hv_ip1, hc_ip1, hv_ip2, hc_ip2, hd0, hd1, hd2, hd3, hd4, hd5, hd6, hd7, hd8, hcp7, hcc7, hW, m_push]
  refine kQ _ ⟨r_sh_c hs (by simp only [m_push, mo_ME]) (by simp only [m_push, mo_ME]) (by simp only [m_push, mo_ME]), ?_⟩ ?_
  · simp only [m_push, a_push, r_VW, hvw, hic, hip]
  · repeat (first | with_reducible exact r_fc_rf _ _ | with_reducible refine r_fc_push ?_ | with_reducible refine r_fc_I ?_ | with_reducible refine r_fc_L ?_ | with_reducible refine r_fc_AI (by decide) ?_ | with_reducible refine r_fc_AL (by decide) ?_)
set_option maxRecDepth 100000 in
set_option maxHeartbeats 2000000 in
theorem S_M1_13 {r f : Nat} {A : mo_A} {c p q u g0 : Nat} (hf : A.1 27 0 = nI (f + 1)) (hlt : f < 399) (h0 : A.1 37 0 = 0) (hk : A.1 28 f = 1) (hco : A.1 31 f = nI c) (hcl : c < 8) (hst : A.1 30 f = 1) (hpp : A.1 6 c = nI p) (hpc : p < c) (hob : A.1 32 f = nI q) (hql : q < 100) (hu : A.1 38 0 = nI u) (hu2 : u < 12) (hg : A.1 41 0 = nI g0) (hcp7 : A.1 7 p = 1) (hcc7 : A.1 7 c = 3) : r_S r A (a_L (a_push (a_I (a_I (a_I A 30 f 2) 38 0 (nI (u + 1))) 41 0 (nI (g0 + 1))) (f + 1) 1 (nI (5 * p)) (nI q) (nI p) (A.2 36 0)) 20 (24 * q + 3 * p) (A.2 20 (24 * q + 3 * c))) := by
  intro μ h d Q kQ
  have hs := h.1
  have hs' := h.1
  unfold r_sh at hs'
  have hvw := h.2
  have H := r_rd h
  have hv : vp_in (nI f) 400 := vp_in_nI (by omega) (by decide)
  have hc : (nI f).toNatClampNeg = f := nI_clamp (by omega)
  have hvc : vp_in (nI c) 8 := vp_in_nI hcl (by decide)
  have hcc : (nI c).toNatClampNeg = c := nI_clamp (by omega)
  have hvp : vp_in (nI p) 8 := vp_in_nI (by omega) (by decide)
  have hcp : (nI p).toNatClampNeg = p := nI_clamp (by omega)
  obtain ⟨ic, hic⟩ : ∃ ic, ic = 24 * q + 3 * c := ⟨_, rfl⟩
  obtain ⟨ip, hip⟩ : ∃ ip, ip = 24 * q + 3 * p := ⟨_, rfl⟩
  have hic1 : 24 * q + 3 * c = ic := hic.symm
  have hip1 : 24 * q + 3 * p = ip := hip.symm
  have hv_ic0 : vp_in (nI (ic)) 2400 := vp_in_nI (by omega) (by decide)
  have hc_ic0 : (nI (ic)).toNatClampNeg = ic := nI_clamp (by omega)
  have hv_ic1 : vp_in (nI (ic + 1)) 2400 := vp_in_nI (by omega) (by decide)
  have hc_ic1 : (nI (ic + 1)).toNatClampNeg = ic + 1 := nI_clamp (by omega)
  have hv_ic2 : vp_in (nI (ic + 2)) 2400 := vp_in_nI (by omega) (by decide)
  have hc_ic2 : (nI (ic + 2)).toNatClampNeg = ic + 2 := nI_clamp (by omega)
  have hv_ip0 : vp_in (nI (ip)) 2400 := vp_in_nI (by omega) (by decide)
  have hc_ip0 : (nI (ip)).toNatClampNeg = ip := nI_clamp (by omega)
  have hv_ip1 : vp_in (nI (ip + 1)) 2400 := vp_in_nI (by omega) (by decide)
  have hc_ip1 : (nI (ip + 1)).toNatClampNeg = ip + 1 := nI_clamp (by omega)
  have hv_ip2 : vp_in (nI (ip + 2)) 2400 := vp_in_nI (by omega) (by decide)
  have hc_ip2 : (nI (ip + 2)).toNatClampNeg = ip + 2 := nI_clamp (by omega)
  have hd0 : (ic = ip) = False := eq_false (by omega)
  have hd1 : (ic + 1 = ip) = False := eq_false (by omega)
  have hd2 : (ic + 2 = ip) = False := eq_false (by omega)
  have hd3 : (ic = ip + 1) = False := eq_false (by omega)
  have hd4 : (ic = ip + 2) = False := eq_false (by omega)
  have hd5 : (ic + 1 = ip + 1) = False := eq_false (by omega)
  have hd6 : (ic + 2 = ip + 2) = False := eq_false (by omega)
  have hd7 : (ic + 1 = ip + 2) = False := eq_false (by omega)
  have hd8 : (ic + 2 = ip + 1) = False := eq_false (by omega)
  have hW := fun d w1 x1 p1 c1 g1 Q => R_enter (d := d) (μ := (mo_wAI μ (r + 25) f 2)) (t := f + 1) (u := u) (g0 := g0) (r_sh_c hs (by simp only [mo_ME]) (by simp only [mo_ME]) (by simp only [mo_ME])) (by simp only [mo_ME, mo_u_a, Nat.reduceEqDiff, false_and, if_false]; exact (r_rdI h 27 rfl).trans hf) (by omega) (by simp only [mo_ME, mo_u_a, Nat.reduceEqDiff, false_and, if_false]; exact (r_rdI h 38 rfl).trans hu) hu2 (by simp only [mo_ME, mo_u_a, Nat.reduceEqDiff, false_and, if_false]; exact (r_rdI h 41 rfl).trans hg) w1 x1 p1 c1 g1 Q
  simp only [we99_0, we99_1, we108_0, we108_1, we108_2, we108_3, en99, en108, true_and, and_true, if_false, if_true, not_true_eq_false, not_false_eq_true, false_implies, true_implies, implies_true, forall_const, true_or, or_true, false_or, or_false, false_and, and_false, eq_self_iff_true, Option.toList_some, Option.toList_none, List.cons_append, List.nil_append, mo_cat_0, mo_cat_c, mo_ct_i, mo_ct_l, mo_ct_r, mo_ct_n, mo_ct_f, Nat.zero_le, Nat.reduceAdd, Nat.reduceLeDiff, Nat.reduceLT, Nat.reduceEqDiff, Nat.reduceSub, mo_rf_s, mo_rf_n, reduceCtorEq, mo_st, mo_st2, mo_lg_0, mo_lg_s, List.set_cons_zero, List.set_cons_succ, List.length_cons, List.length_nil, List.getElem?_cons_zero, List.getElem?_cons_succ, Nat.reduceBEq, Bool.false_eq_true, beq_self_eq_true, mo_ME, mo_u_a, mo_z_a, mo_y_a, Nat.add_left_cancel_iff, mo_TSW, hs', H, hf, nI_1, nI_2, nI_pred, mo_LC, mo_LE, i01, i12, i23, i34, hv, hc, h0, hk, hco, hvc, hcc, hst, hpp, hob, hvp, hcp, l5, l24, l3, nI_add, Int32.add_zero, hic1, hip1, hv_ic0, hc_ic0, hv_ic1, hc_ic1, hv_ic2, hc_ic2, hv_ip0, hc_ip0, hv_ip1, hc_ip1, hv_ip2, hc_ip2, hd0, hd1, hd2, hd3, hd4, hd5, hd6, hd7, hd8, hcp7, hcc7, hW, m_push]
  rw [wh108_128]
  simp only [we99_0, we99_1, we108_0, we108_1, we108_2, we108_3, true_and, and_true, if_false, if_true, not_true_eq_false, not_false_eq_true, false_implies, true_implies, implies_true, forall_const, true_or, or_true, false_or, or_false, false_and, and_false, eq_self_iff_true, Option.toList_some, Option.toList_none, List.cons_append, List.nil_append, mo_cat_0, mo_cat_c, mo_ct_i, mo_ct_l, mo_ct_r, mo_ct_n, mo_ct_f, Nat.zero_le, Nat.reduceAdd, Nat.reduceLeDiff, Nat.reduceLT, Nat.reduceEqDiff, Nat.reduceSub, mo_rf_s, mo_rf_n, reduceCtorEq, mo_st, mo_st2, mo_lg_0, mo_lg_s, List.set_cons_zero, List.set_cons_succ, List.length_cons, List.length_nil, List.getElem?_cons_zero, List.getElem?_cons_succ, Nat.reduceBEq, Bool.false_eq_true, beq_self_eq_true, mo_ME, mo_u_a, mo_z_a, mo_y_a, Nat.add_left_cancel_iff, mo_TSW, hs', H, hf, nI_1, nI_2, nI_pred, mo_LC, mo_LE, i01, i12, i23, i34, hv, hc, h0, hk, hco, hvc, hcc, hst, hpp, hob, hvp, hcp, l5, l24, l3, nI_add, Int32.add_zero, hic1, hip1, hv_ic0, hc_ic0, hv_ic1, hc_ic1, hv_ic2, hc_ic2, hv_ip0, hc_ip0, hv_ip1, hc_ip1, hv_ip2, hc_ip2, hd0, hd1, hd2, hd3, hd4, hd5, hd6, hd7, hd8, hcp7, hcc7, hW, m_push]
  rw [wh108_128]
  simp only [we99_0, we99_1, we108_0, we108_1, we108_2, we108_3, true_and, and_true, if_false, if_true, not_true_eq_false, not_false_eq_true, false_implies, true_implies, implies_true, forall_const, true_or, or_true, false_or, or_false, false_and, and_false, eq_self_iff_true, Option.toList_some, Option.toList_none, List.cons_append, List.nil_append, mo_cat_0, mo_cat_c, mo_ct_i, mo_ct_l, mo_ct_r, mo_ct_n, mo_ct_f, Nat.zero_le, Nat.reduceAdd, Nat.reduceLeDiff, Nat.reduceLT, Nat.reduceEqDiff, Nat.reduceSub, mo_rf_s, mo_rf_n, reduceCtorEq, mo_st, mo_st2, mo_lg_0, mo_lg_s, List.set_cons_zero, List.set_cons_succ, List.length_cons, List.length_nil, List.getElem?_cons_zero, List.getElem?_cons_succ, Nat.reduceBEq, Bool.false_eq_true, beq_self_eq_true, mo_ME, mo_u_a, mo_z_a, mo_y_a, Nat.add_left_cancel_iff, mo_TSW, hs', H, hf, nI_1, nI_2, nI_pred, mo_LC, mo_LE, i01, i12, i23, i34, hv, hc, h0, hk, hco, hvc, hcc, hst, hpp, hob, hvp, hcp, l5, l24, l3, nI_add, Int32.add_zero, hic1, hip1, hv_ic0, hc_ic0, hv_ic1, hc_ic1, hv_ic2, hc_ic2, hv_ip0, hc_ip0, hv_ip1, hc_ip1, hv_ip2, hc_ip2, hd0, hd1, hd2, hd3, hd4, hd5, hd6, hd7, hd8, hcp7, hcc7, hW, m_push]
  refine kQ _ ⟨r_sh_c hs (by simp only [m_push, mo_ME]) (by simp only [m_push, mo_ME]) (by simp only [m_push, mo_ME]), ?_⟩ ?_
  · simp only [m_push, a_push, r_VW, hvw, hic, hip]
  · repeat (first | with_reducible exact r_fc_rf _ _ | with_reducible refine r_fc_push ?_ | with_reducible refine r_fc_I ?_ | with_reducible refine r_fc_L ?_ | with_reducible refine r_fc_AI (by decide) ?_ | with_reducible refine r_fc_AL (by decide) ?_)
set_option maxRecDepth 100000 in
set_option maxHeartbeats 2000000 in
theorem S_M1_20 {r f : Nat} {A : mo_A} {c p q u g0 : Nat} (hf : A.1 27 0 = nI (f + 1)) (hlt : f < 399) (h0 : A.1 37 0 = 0) (hk : A.1 28 f = 1) (hco : A.1 31 f = nI c) (hcl : c < 8) (hst : A.1 30 f = 1) (hpp : A.1 6 c = nI p) (hpc : p < c) (hob : A.1 32 f = nI q) (hql : q < 100) (hu : A.1 38 0 = nI u) (hu2 : u < 12) (hg : A.1 41 0 = nI g0) (hcp7 : A.1 7 p = 2) (hcc7 : A.1 7 c = 0) : r_S r A (a_L (a_L (a_push (a_I (a_I (a_I A 30 f 2) 38 0 (nI (u + 1))) 41 0 (nI (g0 + 1))) (f + 1) 1 (nI (5 * p)) (nI q) (nI p) (A.2 36 0)) 20 (24 * q + 3 * p) 0) 20 (24 * q + 3 * p + 1) 0) := by
  intro μ h d Q kQ
  have hs := h.1
  have hs' := h.1
  unfold r_sh at hs'
  have hvw := h.2
  have H := r_rd h
  have hv : vp_in (nI f) 400 := vp_in_nI (by omega) (by decide)
  have hc : (nI f).toNatClampNeg = f := nI_clamp (by omega)
  have hvc : vp_in (nI c) 8 := vp_in_nI hcl (by decide)
  have hcc : (nI c).toNatClampNeg = c := nI_clamp (by omega)
  have hvp : vp_in (nI p) 8 := vp_in_nI (by omega) (by decide)
  have hcp : (nI p).toNatClampNeg = p := nI_clamp (by omega)
  obtain ⟨ic, hic⟩ : ∃ ic, ic = 24 * q + 3 * c := ⟨_, rfl⟩
  obtain ⟨ip, hip⟩ : ∃ ip, ip = 24 * q + 3 * p := ⟨_, rfl⟩
  have hic1 : 24 * q + 3 * c = ic := hic.symm
  have hip1 : 24 * q + 3 * p = ip := hip.symm
  have hv_ic0 : vp_in (nI (ic)) 2400 := vp_in_nI (by omega) (by decide)
  have hc_ic0 : (nI (ic)).toNatClampNeg = ic := nI_clamp (by omega)
  have hv_ic1 : vp_in (nI (ic + 1)) 2400 := vp_in_nI (by omega) (by decide)
  have hc_ic1 : (nI (ic + 1)).toNatClampNeg = ic + 1 := nI_clamp (by omega)
  have hv_ic2 : vp_in (nI (ic + 2)) 2400 := vp_in_nI (by omega) (by decide)
  have hc_ic2 : (nI (ic + 2)).toNatClampNeg = ic + 2 := nI_clamp (by omega)
  have hv_ip0 : vp_in (nI (ip)) 2400 := vp_in_nI (by omega) (by decide)
  have hc_ip0 : (nI (ip)).toNatClampNeg = ip := nI_clamp (by omega)
  have hv_ip1 : vp_in (nI (ip + 1)) 2400 := vp_in_nI (by omega) (by decide)
  have hc_ip1 : (nI (ip + 1)).toNatClampNeg = ip + 1 := nI_clamp (by omega)
  have hv_ip2 : vp_in (nI (ip + 2)) 2400 := vp_in_nI (by omega) (by decide)
  have hc_ip2 : (nI (ip + 2)).toNatClampNeg = ip + 2 := nI_clamp (by omega)
  have hd0 : (ic = ip) = False := eq_false (by omega)
  have hd1 : (ic + 1 = ip) = False := eq_false (by omega)
  have hd2 : (ic + 2 = ip) = False := eq_false (by omega)
  have hd3 : (ic = ip + 1) = False := eq_false (by omega)
  have hd4 : (ic = ip + 2) = False := eq_false (by omega)
  have hd5 : (ic + 1 = ip + 1) = False := eq_false (by omega)
  have hd6 : (ic + 2 = ip + 2) = False := eq_false (by omega)
  have hd7 : (ic + 1 = ip + 2) = False := eq_false (by omega)
  have hd8 : (ic + 2 = ip + 1) = False := eq_false (by omega)
  have hW := fun d w1 x1 p1 c1 g1 Q => R_enter (d := d) (μ := (mo_wAI μ (r + 25) f 2)) (t := f + 1) (u := u) (g0 := g0) (r_sh_c hs (by simp only [mo_ME]) (by simp only [mo_ME]) (by simp only [mo_ME])) (by simp only [mo_ME, mo_u_a, Nat.reduceEqDiff, false_and, if_false]; exact (r_rdI h 27 rfl).trans hf) (by omega) (by simp only [mo_ME, mo_u_a, Nat.reduceEqDiff, false_and, if_false]; exact (r_rdI h 38 rfl).trans hu) hu2 (by simp only [mo_ME, mo_u_a, Nat.reduceEqDiff, false_and, if_false]; exact (r_rdI h 41 rfl).trans hg) w1 x1 p1 c1 g1 Q
  simp only [we99_0, we99_1, we108_0, we108_1, we108_2, we108_3, en99, en108, true_and, and_true, if_false, if_true, not_true_eq_false, not_false_eq_true, false_implies, true_implies, implies_true, forall_const, true_or, or_true, false_or, or_false, false_and, and_false, eq_self_iff_true, Option.toList_some, Option.toList_none, List.cons_append, List.nil_append, mo_cat_0, mo_cat_c, mo_ct_i, mo_ct_l, mo_ct_r, mo_ct_n, mo_ct_f, Nat.zero_le, Nat.reduceAdd, Nat.reduceLeDiff, Nat.reduceLT, Nat.reduceEqDiff, Nat.reduceSub, mo_rf_s, mo_rf_n, reduceCtorEq, mo_st, mo_st2, mo_lg_0, mo_lg_s, List.set_cons_zero, List.set_cons_succ, List.length_cons, List.length_nil, List.getElem?_cons_zero, List.getElem?_cons_succ, Nat.reduceBEq, Bool.false_eq_true, beq_self_eq_true, mo_ME, mo_u_a, mo_z_a, mo_y_a, Nat.add_left_cancel_iff, mo_TSW, hs', H, hf, nI_1, nI_2, nI_pred, mo_LC, mo_LE, i01, i12, i23, i34, hv, hc, h0, hk, hco, hvc, hcc, hst, hpp, hob, hvp, hcp, l5, l24, l3, nI_add, Int32.add_zero, hic1, hip1, hv_ic0, hc_ic0, hv_ic1, hc_ic1, hv_ic2, hc_ic2, hv_ip0, hc_ip0, hv_ip1, hc_ip1, hv_ip2, hc_ip2, hd0, hd1, hd2, hd3, hd4, hd5, hd6, hd7, hd8, hcp7, hcc7, hW, m_push]
  rw [wh108_128]
  simp only [we99_0, we99_1, we108_0, we108_1, we108_2, we108_3, true_and, and_true, if_false, if_true, not_true_eq_false, not_false_eq_true, false_implies, true_implies, implies_true, forall_const, true_or, or_true, false_or, or_false, false_and, and_false, eq_self_iff_true, Option.toList_some, Option.toList_none, List.cons_append, List.nil_append, mo_cat_0, mo_cat_c, mo_ct_i, mo_ct_l, mo_ct_r, mo_ct_n, mo_ct_f, Nat.zero_le, Nat.reduceAdd, Nat.reduceLeDiff, Nat.reduceLT, Nat.reduceEqDiff, Nat.reduceSub, mo_rf_s, mo_rf_n, reduceCtorEq, mo_st, mo_st2, mo_lg_0, mo_lg_s, List.set_cons_zero, List.set_cons_succ, List.length_cons, List.length_nil, List.getElem?_cons_zero, List.getElem?_cons_succ, Nat.reduceBEq, Bool.false_eq_true, beq_self_eq_true, mo_ME, mo_u_a, mo_z_a, mo_y_a, Nat.add_left_cancel_iff, mo_TSW, hs', H, hf, nI_1, nI_2, nI_pred, mo_LC, mo_LE, i01, i12, i23, i34, hv, hc, h0, hk, hco, hvc, hcc, hst, hpp, hob, hvp, hcp, l5, l24, l3, nI_add, Int32.add_zero, hic1, hip1, hv_ic0, hc_ic0, hv_ic1, hc_ic1, hv_ic2, hc_ic2, hv_ip0, hc_ip0, hv_ip1, hc_ip1, hv_ip2, hc_ip2, hd0, hd1, hd2, hd3, hd4, hd5, hd6, hd7, hd8, hcp7, hcc7, hW, m_push]
  rw [wh108_128]
  simp only [we99_0, we99_1, we108_0, we108_1, we108_2, we108_3, true_and, and_true, if_false, if_true, not_true_eq_false, not_false_eq_true, false_implies, true_implies, implies_true, forall_const, true_or, or_true, false_or, or_false, false_and, and_false, eq_self_iff_true, Option.toList_some, Option.toList_none, List.cons_append, List.nil_append, mo_cat_0, mo_cat_c, mo_ct_i, mo_ct_l, mo_ct_r, mo_ct_n, mo_ct_f, Nat.zero_le, Nat.reduceAdd, Nat.reduceLeDiff, Nat.reduceLT, Nat.reduceEqDiff, Nat.reduceSub, mo_rf_s, mo_rf_n, reduceCtorEq, mo_st, mo_st2, mo_lg_0, mo_lg_s, List.set_cons_zero, List.set_cons_succ, List.length_cons, List.length_nil, List.getElem?_cons_zero, List.getElem?_cons_succ, Nat.reduceBEq, Bool.false_eq_true, beq_self_eq_true, mo_ME, mo_u_a, mo_z_a, mo_y_a, Nat.add_left_cancel_iff, mo_TSW, hs', H, hf, nI_1, nI_2, nI_pred, mo_LC, mo_LE, i01, i12, i23, i34, hv, hc, h0, hk, hco, hvc, hcc, hst, hpp, hob, hvp, hcp, l5, l24, l3, nI_add, Int32.add_zero, hic1, hip1, hv_ic0, hc_ic0, hv_ic1, hc_ic1, hv_ic2, hc_ic2, hv_ip0, hc_ip0, hv_ip1, hc_ip1, hv_ip2, hc_ip2, hd0, hd1, hd2, hd3, hd4, hd5, hd6, hd7, hd8, hcp7, hcc7, hW, m_push]
  rw [wh108_128]
  simp only [we99_0, we99_1, we108_0, we108_1, we108_2, we108_3, true_and, and_true, if_false, if_true, not_true_eq_false, not_false_eq_true, false_implies, true_implies, implies_true, forall_const, true_or, or_true, false_or, or_false, false_and, and_false, eq_self_iff_true, Option.toList_some, Option.toList_none, List.cons_append, List.nil_append, mo_cat_0, mo_cat_c, mo_ct_i, mo_ct_l, mo_ct_r, mo_ct_n, mo_ct_f, Nat.zero_le, Nat.reduceAdd, Nat.reduceLeDiff, Nat.reduceLT, Nat.reduceEqDiff, Nat.reduceSub, mo_rf_s, mo_rf_n, reduceCtorEq, mo_st, mo_st2, mo_lg_0, mo_lg_s, List.set_cons_zero, List.set_cons_succ, List.length_cons, List.length_nil, List.getElem?_cons_zero, List.getElem?_cons_succ, Nat.reduceBEq, Bool.false_eq_true, beq_self_eq_true, mo_ME, mo_u_a, mo_z_a, mo_y_a, Nat.add_left_cancel_iff, mo_TSW, hs', H, hf, nI_1, nI_2, nI_pred, mo_LC, mo_LE, i01, i12, i23, i34, hv, hc, h0, hk, hco, hvc, hcc, hst, hpp, hob, hvp, hcp, l5, l24, l3, nI_add, Int32.add_zero, hic1, hip1, hv_ic0, hc_ic0, hv_ic1, hc_ic1, hv_ic2, hc_ic2, hv_ip0, hc_ip0, hv_ip1, hc_ip1, hv_ip2, hc_ip2, hd0, hd1, hd2, hd3, hd4, hd5, hd6, hd7, hd8, hcp7, hcc7, hW, m_push]
  refine kQ _ ⟨r_sh_c hs (by simp only [m_push, mo_ME]) (by simp only [m_push, mo_ME]) (by simp only [m_push, mo_ME]), ?_⟩ ?_
  · simp only [m_push, a_push, r_VW, hvw, hic, hip]
  · repeat (first | with_reducible exact r_fc_rf _ _ | with_reducible refine r_fc_push ?_ | with_reducible refine r_fc_I ?_ | with_reducible refine r_fc_L ?_ | with_reducible refine r_fc_AI (by decide) ?_ | with_reducible refine r_fc_AL (by decide) ?_)
set_option maxRecDepth 100000 in
set_option maxHeartbeats 2000000 in
theorem S_M1_21 {r f : Nat} {A : mo_A} {c p q u g0 : Nat} (hf : A.1 27 0 = nI (f + 1)) (hlt : f < 399) (h0 : A.1 37 0 = 0) (hk : A.1 28 f = 1) (hco : A.1 31 f = nI c) (hcl : c < 8) (hst : A.1 30 f = 1) (hpp : A.1 6 c = nI p) (hpc : p < c) (hob : A.1 32 f = nI q) (hql : q < 100) (hu : A.1 38 0 = nI u) (hu2 : u < 12) (hg : A.1 41 0 = nI g0) (hcp7 : A.1 7 p = 2) (hcc7 : A.1 7 c = 1) : r_S r A (a_L (a_L (a_push (a_I (a_I (a_I A 30 f 2) 38 0 (nI (u + 1))) 41 0 (nI (g0 + 1))) (f + 1) 1 (nI (5 * p)) (nI q) (nI p) (A.2 36 0)) 20 (24 * q + 3 * p) (A.2 20 (24 * q + 3 * c))) 20 (24 * q + 3 * p + 1) 0) := by
  intro μ h d Q kQ
  have hs := h.1
  have hs' := h.1
  unfold r_sh at hs'
  have hvw := h.2
  have H := r_rd h
  have hv : vp_in (nI f) 400 := vp_in_nI (by omega) (by decide)
  have hc : (nI f).toNatClampNeg = f := nI_clamp (by omega)
  have hvc : vp_in (nI c) 8 := vp_in_nI hcl (by decide)
  have hcc : (nI c).toNatClampNeg = c := nI_clamp (by omega)
  have hvp : vp_in (nI p) 8 := vp_in_nI (by omega) (by decide)
  have hcp : (nI p).toNatClampNeg = p := nI_clamp (by omega)
  obtain ⟨ic, hic⟩ : ∃ ic, ic = 24 * q + 3 * c := ⟨_, rfl⟩
  obtain ⟨ip, hip⟩ : ∃ ip, ip = 24 * q + 3 * p := ⟨_, rfl⟩
  have hic1 : 24 * q + 3 * c = ic := hic.symm
  have hip1 : 24 * q + 3 * p = ip := hip.symm
  have hv_ic0 : vp_in (nI (ic)) 2400 := vp_in_nI (by omega) (by decide)
  have hc_ic0 : (nI (ic)).toNatClampNeg = ic := nI_clamp (by omega)
  have hv_ic1 : vp_in (nI (ic + 1)) 2400 := vp_in_nI (by omega) (by decide)
  have hc_ic1 : (nI (ic + 1)).toNatClampNeg = ic + 1 := nI_clamp (by omega)
  have hv_ic2 : vp_in (nI (ic + 2)) 2400 := vp_in_nI (by omega) (by decide)
  have hc_ic2 : (nI (ic + 2)).toNatClampNeg = ic + 2 := nI_clamp (by omega)
  have hv_ip0 : vp_in (nI (ip)) 2400 := vp_in_nI (by omega) (by decide)
  have hc_ip0 : (nI (ip)).toNatClampNeg = ip := nI_clamp (by omega)
  have hv_ip1 : vp_in (nI (ip + 1)) 2400 := vp_in_nI (by omega) (by decide)
  have hc_ip1 : (nI (ip + 1)).toNatClampNeg = ip + 1 := nI_clamp (by omega)
  have hv_ip2 : vp_in (nI (ip + 2)) 2400 := vp_in_nI (by omega) (by decide)
  have hc_ip2 : (nI (ip + 2)).toNatClampNeg = ip + 2 := nI_clamp (by omega)
  have hd0 : (ic = ip) = False := eq_false (by omega)
  have hd1 : (ic + 1 = ip) = False := eq_false (by omega)
  have hd2 : (ic + 2 = ip) = False := eq_false (by omega)
  have hd3 : (ic = ip + 1) = False := eq_false (by omega)
  have hd4 : (ic = ip + 2) = False := eq_false (by omega)
  have hd5 : (ic + 1 = ip + 1) = False := eq_false (by omega)
  have hd6 : (ic + 2 = ip + 2) = False := eq_false (by omega)
  have hd7 : (ic + 1 = ip + 2) = False := eq_false (by omega)
  have hd8 : (ic + 2 = ip + 1) = False := eq_false (by omega)
  have hW := fun d w1 x1 p1 c1 g1 Q => R_enter (d := d) (μ := (mo_wAI μ (r + 25) f 2)) (t := f + 1) (u := u) (g0 := g0) (r_sh_c hs (by simp only [mo_ME]) (by simp only [mo_ME]) (by simp only [mo_ME])) (by simp only [mo_ME, mo_u_a, Nat.reduceEqDiff, false_and, if_false]; exact (r_rdI h 27 rfl).trans hf) (by omega) (by simp only [mo_ME, mo_u_a, Nat.reduceEqDiff, false_and, if_false]; exact (r_rdI h 38 rfl).trans hu) hu2 (by simp only [mo_ME, mo_u_a, Nat.reduceEqDiff, false_and, if_false]; exact (r_rdI h 41 rfl).trans hg) w1 x1 p1 c1 g1 Q
  simp only [we99_0, we99_1, we108_0, we108_1, we108_2, we108_3, en99, en108, true_and, and_true, if_false, if_true, not_true_eq_false, not_false_eq_true, false_implies, true_implies, implies_true, forall_const, true_or, or_true, false_or, or_false, false_and, and_false, eq_self_iff_true, Option.toList_some, Option.toList_none, List.cons_append, List.nil_append, mo_cat_0, mo_cat_c, mo_ct_i, mo_ct_l, mo_ct_r, mo_ct_n, mo_ct_f, Nat.zero_le, Nat.reduceAdd, Nat.reduceLeDiff, Nat.reduceLT, Nat.reduceEqDiff, Nat.reduceSub, mo_rf_s, mo_rf_n, reduceCtorEq, mo_st, mo_st2, mo_lg_0, mo_lg_s, List.set_cons_zero, List.set_cons_succ, List.length_cons, List.length_nil, List.getElem?_cons_zero, List.getElem?_cons_succ, Nat.reduceBEq, Bool.false_eq_true, beq_self_eq_true, mo_ME, mo_u_a, mo_z_a, mo_y_a, Nat.add_left_cancel_iff, mo_TSW, hs', H, hf, nI_1, nI_2, nI_pred, mo_LC, mo_LE, i01, i12, i23, i34, hv, hc, h0, hk, hco, hvc, hcc, hst, hpp, hob, hvp, hcp, l5, l24, l3, nI_add, Int32.add_zero, hic1, hip1, hv_ic0, hc_ic0, hv_ic1, hc_ic1, hv_ic2, hc_ic2, hv_ip0, hc_ip0, hv_ip1, hc_ip1, hv_ip2, hc_ip2, hd0, hd1, hd2, hd3, hd4, hd5, hd6, hd7, hd8, hcp7, hcc7, hW, m_push]
  rw [wh108_128]
  simp only [we99_0, we99_1, we108_0, we108_1, we108_2, we108_3, true_and, and_true, if_false, if_true, not_true_eq_false, not_false_eq_true, false_implies, true_implies, implies_true, forall_const, true_or, or_true, false_or, or_false, false_and, and_false, eq_self_iff_true, Option.toList_some, Option.toList_none, List.cons_append, List.nil_append, mo_cat_0, mo_cat_c, mo_ct_i, mo_ct_l, mo_ct_r, mo_ct_n, mo_ct_f, Nat.zero_le, Nat.reduceAdd, Nat.reduceLeDiff, Nat.reduceLT, Nat.reduceEqDiff, Nat.reduceSub, mo_rf_s, mo_rf_n, reduceCtorEq, mo_st, mo_st2, mo_lg_0, mo_lg_s, List.set_cons_zero, List.set_cons_succ, List.length_cons, List.length_nil, List.getElem?_cons_zero, List.getElem?_cons_succ, Nat.reduceBEq, Bool.false_eq_true, beq_self_eq_true, mo_ME, mo_u_a, mo_z_a, mo_y_a, Nat.add_left_cancel_iff, mo_TSW, hs', H, hf, nI_1, nI_2, nI_pred, mo_LC, mo_LE, i01, i12, i23, i34, hv, hc, h0, hk, hco, hvc, hcc, hst, hpp, hob, hvp, hcp, l5, l24, l3, nI_add, Int32.add_zero, hic1, hip1, hv_ic0, hc_ic0, hv_ic1, hc_ic1, hv_ic2, hc_ic2, hv_ip0, hc_ip0, hv_ip1, hc_ip1, hv_ip2, hc_ip2, hd0, hd1, hd2, hd3, hd4, hd5, hd6, hd7, hd8, hcp7, hcc7, hW, m_push]
  rw [wh108_128]
  simp only [we99_0, we99_1, we108_0, we108_1, we108_2, we108_3, true_and, and_true, if_false, if_true, not_true_eq_false, not_false_eq_true, false_implies, true_implies, implies_true, forall_const, true_or, or_true, false_or, or_false, false_and, and_false, eq_self_iff_true, Option.toList_some, Option.toList_none, List.cons_append, List.nil_append, mo_cat_0, mo_cat_c, mo_ct_i, mo_ct_l, mo_ct_r, mo_ct_n, mo_ct_f, Nat.zero_le, Nat.reduceAdd, Nat.reduceLeDiff, Nat.reduceLT, Nat.reduceEqDiff, Nat.reduceSub, mo_rf_s, mo_rf_n, reduceCtorEq, mo_st, mo_st2, mo_lg_0, mo_lg_s, List.set_cons_zero, List.set_cons_succ, List.length_cons, List.length_nil, List.getElem?_cons_zero, List.getElem?_cons_succ, Nat.reduceBEq, Bool.false_eq_true, beq_self_eq_true, mo_ME, mo_u_a, mo_z_a, mo_y_a, Nat.add_left_cancel_iff, mo_TSW, hs', H, hf, nI_1, nI_2, nI_pred, mo_LC, mo_LE, i01, i12, i23, i34, hv, hc, h0, hk, hco, hvc, hcc, hst, hpp, hob, hvp, hcp, l5, l24, l3, nI_add, Int32.add_zero, hic1, hip1, hv_ic0, hc_ic0, hv_ic1, hc_ic1, hv_ic2, hc_ic2, hv_ip0, hc_ip0, hv_ip1, hc_ip1, hv_ip2, hc_ip2, hd0, hd1, hd2, hd3, hd4, hd5, hd6, hd7, hd8, hcp7, hcc7, hW, m_push]
  rw [wh108_128]
  simp only [we99_0, we99_1, we108_0, we108_1, we108_2, we108_3, true_and, and_true, if_false, if_true, not_true_eq_false, not_false_eq_true, false_implies, true_implies, implies_true, forall_const, true_or, or_true, false_or, or_false, false_and, and_false, eq_self_iff_true, Option.toList_some, Option.toList_none, List.cons_append, List.nil_append, mo_cat_0, mo_cat_c, mo_ct_i, mo_ct_l, mo_ct_r, mo_ct_n, mo_ct_f, Nat.zero_le, Nat.reduceAdd, Nat.reduceLeDiff, Nat.reduceLT, Nat.reduceEqDiff, Nat.reduceSub, mo_rf_s, mo_rf_n, reduceCtorEq, mo_st, mo_st2, mo_lg_0, mo_lg_s, List.set_cons_zero, List.set_cons_succ, List.length_cons, List.length_nil, List.getElem?_cons_zero, List.getElem?_cons_succ, Nat.reduceBEq, Bool.false_eq_true, beq_self_eq_true, mo_ME, mo_u_a, mo_z_a, mo_y_a, Nat.add_left_cancel_iff, mo_TSW, hs', H, hf, nI_1, nI_2, nI_pred, mo_LC, mo_LE, i01, i12, i23, i34, hv, hc, h0, hk, hco, hvc, hcc, hst, hpp, hob, hvp, hcp, l5, l24, l3, nI_add, Int32.add_zero, hic1, hip1, hv_ic0, hc_ic0, hv_ic1, hc_ic1, hv_ic2, hc_ic2, hv_ip0, hc_ip0, hv_ip1, hc_ip1, hv_ip2, hc_ip2, hd0, hd1, hd2, hd3, hd4, hd5, hd6, hd7, hd8, hcp7, hcc7, hW, m_push]
  refine kQ _ ⟨r_sh_c hs (by simp only [m_push, mo_ME]) (by simp only [m_push, mo_ME]) (by simp only [m_push, mo_ME]), ?_⟩ ?_
  · simp only [m_push, a_push, r_VW, hvw, hic, hip]
  · repeat (first | with_reducible exact r_fc_rf _ _ | with_reducible refine r_fc_push ?_ | with_reducible refine r_fc_I ?_ | with_reducible refine r_fc_L ?_ | with_reducible refine r_fc_AI (by decide) ?_ | with_reducible refine r_fc_AL (by decide) ?_)
set_option maxRecDepth 100000 in
set_option maxHeartbeats 2000000 in
theorem S_M1_22 {r f : Nat} {A : mo_A} {c p q u g0 : Nat} (hf : A.1 27 0 = nI (f + 1)) (hlt : f < 399) (h0 : A.1 37 0 = 0) (hk : A.1 28 f = 1) (hco : A.1 31 f = nI c) (hcl : c < 8) (hst : A.1 30 f = 1) (hpp : A.1 6 c = nI p) (hpc : p < c) (hob : A.1 32 f = nI q) (hql : q < 100) (hu : A.1 38 0 = nI u) (hu2 : u < 12) (hg : A.1 41 0 = nI g0) (hcp7 : A.1 7 p = 2) (hcc7 : A.1 7 c = 2) : r_S r A (a_L (a_L (a_push (a_I (a_I (a_I A 30 f 2) 38 0 (nI (u + 1))) 41 0 (nI (g0 + 1))) (f + 1) 1 (nI (5 * p)) (nI q) (nI p) (A.2 36 0)) 20 (24 * q + 3 * p) (A.2 20 (24 * q + 3 * c))) 20 (24 * q + 3 * p + 1) (A.2 20 (24 * q + 3 * c + 1))) := by
  intro μ h d Q kQ
  have hs := h.1
  have hs' := h.1
  unfold r_sh at hs'
  have hvw := h.2
  have H := r_rd h
  have hv : vp_in (nI f) 400 := vp_in_nI (by omega) (by decide)
  have hc : (nI f).toNatClampNeg = f := nI_clamp (by omega)
  have hvc : vp_in (nI c) 8 := vp_in_nI hcl (by decide)
  have hcc : (nI c).toNatClampNeg = c := nI_clamp (by omega)
  have hvp : vp_in (nI p) 8 := vp_in_nI (by omega) (by decide)
  have hcp : (nI p).toNatClampNeg = p := nI_clamp (by omega)
  obtain ⟨ic, hic⟩ : ∃ ic, ic = 24 * q + 3 * c := ⟨_, rfl⟩
  obtain ⟨ip, hip⟩ : ∃ ip, ip = 24 * q + 3 * p := ⟨_, rfl⟩
  have hic1 : 24 * q + 3 * c = ic := hic.symm
  have hip1 : 24 * q + 3 * p = ip := hip.symm
  have hv_ic0 : vp_in (nI (ic)) 2400 := vp_in_nI (by omega) (by decide)
  have hc_ic0 : (nI (ic)).toNatClampNeg = ic := nI_clamp (by omega)
  have hv_ic1 : vp_in (nI (ic + 1)) 2400 := vp_in_nI (by omega) (by decide)
  have hc_ic1 : (nI (ic + 1)).toNatClampNeg = ic + 1 := nI_clamp (by omega)
  have hv_ic2 : vp_in (nI (ic + 2)) 2400 := vp_in_nI (by omega) (by decide)
  have hc_ic2 : (nI (ic + 2)).toNatClampNeg = ic + 2 := nI_clamp (by omega)
  have hv_ip0 : vp_in (nI (ip)) 2400 := vp_in_nI (by omega) (by decide)
  have hc_ip0 : (nI (ip)).toNatClampNeg = ip := nI_clamp (by omega)
  have hv_ip1 : vp_in (nI (ip + 1)) 2400 := vp_in_nI (by omega) (by decide)
  have hc_ip1 : (nI (ip + 1)).toNatClampNeg = ip + 1 := nI_clamp (by omega)
  have hv_ip2 : vp_in (nI (ip + 2)) 2400 := vp_in_nI (by omega) (by decide)
  have hc_ip2 : (nI (ip + 2)).toNatClampNeg = ip + 2 := nI_clamp (by omega)
  have hd0 : (ic = ip) = False := eq_false (by omega)
  have hd1 : (ic + 1 = ip) = False := eq_false (by omega)
  have hd2 : (ic + 2 = ip) = False := eq_false (by omega)
  have hd3 : (ic = ip + 1) = False := eq_false (by omega)
  have hd4 : (ic = ip + 2) = False := eq_false (by omega)
  have hd5 : (ic + 1 = ip + 1) = False := eq_false (by omega)
  have hd6 : (ic + 2 = ip + 2) = False := eq_false (by omega)
  have hd7 : (ic + 1 = ip + 2) = False := eq_false (by omega)
  have hd8 : (ic + 2 = ip + 1) = False := eq_false (by omega)
  have hW := fun d w1 x1 p1 c1 g1 Q => R_enter (d := d) (μ := (mo_wAI μ (r + 25) f 2)) (t := f + 1) (u := u) (g0 := g0) (r_sh_c hs (by simp only [mo_ME]) (by simp only [mo_ME]) (by simp only [mo_ME])) (by simp only [mo_ME, mo_u_a, Nat.reduceEqDiff, false_and, if_false]; exact (r_rdI h 27 rfl).trans hf) (by omega) (by simp only [mo_ME, mo_u_a, Nat.reduceEqDiff, false_and, if_false]; exact (r_rdI h 38 rfl).trans hu) hu2 (by simp only [mo_ME, mo_u_a, Nat.reduceEqDiff, false_and, if_false]; exact (r_rdI h 41 rfl).trans hg) w1 x1 p1 c1 g1 Q
  simp only [we99_0, we99_1, we108_0, we108_1, we108_2, we108_3, en99, en108, true_and, and_true, if_false, if_true, not_true_eq_false, not_false_eq_true, false_implies, true_implies, implies_true, forall_const, true_or, or_true, false_or, or_false, false_and, and_false, eq_self_iff_true, Option.toList_some, Option.toList_none, List.cons_append, List.nil_append, mo_cat_0, mo_cat_c, mo_ct_i, mo_ct_l, mo_ct_r, mo_ct_n, mo_ct_f, Nat.zero_le, Nat.reduceAdd, Nat.reduceLeDiff, Nat.reduceLT, Nat.reduceEqDiff, Nat.reduceSub, mo_rf_s, mo_rf_n, reduceCtorEq, mo_st, mo_st2, mo_lg_0, mo_lg_s, List.set_cons_zero, List.set_cons_succ, List.length_cons, List.length_nil, List.getElem?_cons_zero, List.getElem?_cons_succ, Nat.reduceBEq, Bool.false_eq_true, beq_self_eq_true, mo_ME, mo_u_a, mo_z_a, mo_y_a, Nat.add_left_cancel_iff, mo_TSW, hs', H, hf, nI_1, nI_2, nI_pred, mo_LC, mo_LE, i01, i12, i23, i34, hv, hc, h0, hk, hco, hvc, hcc, hst, hpp, hob, hvp, hcp, l5, l24, l3, nI_add, Int32.add_zero, hic1, hip1, hv_ic0, hc_ic0, hv_ic1, hc_ic1, hv_ic2, hc_ic2, hv_ip0, hc_ip0, hv_ip1, hc_ip1, hv_ip2, hc_ip2, hd0, hd1, hd2, hd3, hd4, hd5, hd6, hd7, hd8, hcp7, hcc7, hW, m_push]
  rw [wh108_128]
  simp only [we99_0, we99_1, we108_0, we108_1, we108_2, we108_3, true_and, and_true, if_false, if_true, not_true_eq_false, not_false_eq_true, false_implies, true_implies, implies_true, forall_const, true_or, or_true, false_or, or_false, false_and, and_false, eq_self_iff_true, Option.toList_some, Option.toList_none, List.cons_append, List.nil_append, mo_cat_0, mo_cat_c, mo_ct_i, mo_ct_l, mo_ct_r, mo_ct_n, mo_ct_f, Nat.zero_le, Nat.reduceAdd, Nat.reduceLeDiff, Nat.reduceLT, Nat.reduceEqDiff, Nat.reduceSub, mo_rf_s, mo_rf_n, reduceCtorEq, mo_st, mo_st2, mo_lg_0, mo_lg_s, List.set_cons_zero, List.set_cons_succ, List.length_cons, List.length_nil, List.getElem?_cons_zero, List.getElem?_cons_succ, Nat.reduceBEq, Bool.false_eq_true, beq_self_eq_true, mo_ME, mo_u_a, mo_z_a, mo_y_a, Nat.add_left_cancel_iff, mo_TSW, hs', H, hf, nI_1, nI_2, nI_pred, mo_LC, mo_LE, i01, i12, i23, i34, hv, hc, h0, hk, hco, hvc, hcc, hst, hpp, hob, hvp, hcp, l5, l24, l3, nI_add, Int32.add_zero, hic1, hip1, hv_ic0, hc_ic0, hv_ic1, hc_ic1, hv_ic2, hc_ic2, hv_ip0, hc_ip0, hv_ip1, hc_ip1, hv_ip2, hc_ip2, hd0, hd1, hd2, hd3, hd4, hd5, hd6, hd7, hd8, hcp7, hcc7, hW, m_push]
  rw [wh108_128]
  simp only [we99_0, we99_1, we108_0, we108_1, we108_2, we108_3, true_and, and_true, if_false, if_true, not_true_eq_false, not_false_eq_true, false_implies, true_implies, implies_true, forall_const, true_or, or_true, false_or, or_false, false_and, and_false, eq_self_iff_true, Option.toList_some, Option.toList_none, List.cons_append, List.nil_append, mo_cat_0, mo_cat_c, mo_ct_i, mo_ct_l, mo_ct_r, mo_ct_n, mo_ct_f, Nat.zero_le, Nat.reduceAdd, Nat.reduceLeDiff, Nat.reduceLT, Nat.reduceEqDiff, Nat.reduceSub, mo_rf_s, mo_rf_n, reduceCtorEq, mo_st, mo_st2, mo_lg_0, mo_lg_s, List.set_cons_zero, List.set_cons_succ, List.length_cons, List.length_nil, List.getElem?_cons_zero, List.getElem?_cons_succ, Nat.reduceBEq, Bool.false_eq_true, beq_self_eq_true, mo_ME, mo_u_a, mo_z_a, mo_y_a, Nat.add_left_cancel_iff, mo_TSW, hs', H, hf, nI_1, nI_2, nI_pred, mo_LC, mo_LE, i01, i12, i23, i34, hv, hc, h0, hk, hco, hvc, hcc, hst, hpp, hob, hvp, hcp, l5, l24, l3, nI_add, Int32.add_zero, hic1, hip1, hv_ic0, hc_ic0, hv_ic1, hc_ic1, hv_ic2, hc_ic2, hv_ip0, hc_ip0, hv_ip1, hc_ip1, hv_ip2, hc_ip2, hd0, hd1, hd2, hd3, hd4, hd5, hd6, hd7, hd8, hcp7, hcc7, hW, m_push]
  rw [wh108_128]
  simp only [we99_0, we99_1, we108_0, we108_1, we108_2, we108_3, true_and, and_true, if_false, if_true, not_true_eq_false, not_false_eq_true, false_implies, true_implies, implies_true, forall_const, true_or, or_true, false_or, or_false, false_and, and_false, eq_self_iff_true, Option.toList_some, Option.toList_none, List.cons_append, List.nil_append, mo_cat_0, mo_cat_c, mo_ct_i, mo_ct_l, mo_ct_r, mo_ct_n, mo_ct_f, Nat.zero_le, Nat.reduceAdd, Nat.reduceLeDiff, Nat.reduceLT, Nat.reduceEqDiff, Nat.reduceSub, mo_rf_s, mo_rf_n, reduceCtorEq, mo_st, mo_st2, mo_lg_0, mo_lg_s, List.set_cons_zero, List.set_cons_succ, List.length_cons, List.length_nil, List.getElem?_cons_zero, List.getElem?_cons_succ, Nat.reduceBEq, Bool.false_eq_true, beq_self_eq_true, mo_ME, mo_u_a, mo_z_a, mo_y_a, Nat.add_left_cancel_iff, mo_TSW, hs', H, hf, nI_1, nI_2, nI_pred, mo_LC, mo_LE, i01, i12, i23, i34, hv, hc, h0, hk, hco, hvc, hcc, hst, hpp, hob, hvp, hcp, l5, l24, l3, nI_add, Int32.add_zero, hic1, hip1, hv_ic0, hc_ic0, hv_ic1, hc_ic1, hv_ic2, hc_ic2, hv_ip0, hc_ip0, hv_ip1, hc_ip1, hv_ip2, hc_ip2, hd0, hd1, hd2, hd3, hd4, hd5, hd6, hd7, hd8, hcp7, hcc7, hW, m_push]
  refine kQ _ ⟨r_sh_c hs (by simp only [m_push, mo_ME]) (by simp only [m_push, mo_ME]) (by simp only [m_push, mo_ME]), ?_⟩ ?_
  · simp only [m_push, a_push, r_VW, hvw, hic, hip]
  · repeat (first | with_reducible exact r_fc_rf _ _ | with_reducible refine r_fc_push ?_ | with_reducible refine r_fc_I ?_ | with_reducible refine r_fc_L ?_ | with_reducible refine r_fc_AI (by decide) ?_ | with_reducible refine r_fc_AL (by decide) ?_)
set_option maxRecDepth 100000 in
set_option maxHeartbeats 2000000 in
theorem S_M1_23 {r f : Nat} {A : mo_A} {c p q u g0 : Nat} (hf : A.1 27 0 = nI (f + 1)) (hlt : f < 399) (h0 : A.1 37 0 = 0) (hk : A.1 28 f = 1) (hco : A.1 31 f = nI c) (hcl : c < 8) (hst : A.1 30 f = 1) (hpp : A.1 6 c = nI p) (hpc : p < c) (hob : A.1 32 f = nI q) (hql : q < 100) (hu : A.1 38 0 = nI u) (hu2 : u < 12) (hg : A.1 41 0 = nI g0) (hcp7 : A.1 7 p = 2) (hcc7 : A.1 7 c = 3) : r_S r A (a_L (a_L (a_push (a_I (a_I (a_I A 30 f 2) 38 0 (nI (u + 1))) 41 0 (nI (g0 + 1))) (f + 1) 1 (nI (5 * p)) (nI q) (nI p) (A.2 36 0)) 20 (24 * q + 3 * p) (A.2 20 (24 * q + 3 * c))) 20 (24 * q + 3 * p + 1) (A.2 20 (24 * q + 3 * c + 1))) := by
  intro μ h d Q kQ
  have hs := h.1
  have hs' := h.1
  unfold r_sh at hs'
  have hvw := h.2
  have H := r_rd h
  have hv : vp_in (nI f) 400 := vp_in_nI (by omega) (by decide)
  have hc : (nI f).toNatClampNeg = f := nI_clamp (by omega)
  have hvc : vp_in (nI c) 8 := vp_in_nI hcl (by decide)
  have hcc : (nI c).toNatClampNeg = c := nI_clamp (by omega)
  have hvp : vp_in (nI p) 8 := vp_in_nI (by omega) (by decide)
  have hcp : (nI p).toNatClampNeg = p := nI_clamp (by omega)
  obtain ⟨ic, hic⟩ : ∃ ic, ic = 24 * q + 3 * c := ⟨_, rfl⟩
  obtain ⟨ip, hip⟩ : ∃ ip, ip = 24 * q + 3 * p := ⟨_, rfl⟩
  have hic1 : 24 * q + 3 * c = ic := hic.symm
  have hip1 : 24 * q + 3 * p = ip := hip.symm
  have hv_ic0 : vp_in (nI (ic)) 2400 := vp_in_nI (by omega) (by decide)
  have hc_ic0 : (nI (ic)).toNatClampNeg = ic := nI_clamp (by omega)
  have hv_ic1 : vp_in (nI (ic + 1)) 2400 := vp_in_nI (by omega) (by decide)
  have hc_ic1 : (nI (ic + 1)).toNatClampNeg = ic + 1 := nI_clamp (by omega)
  have hv_ic2 : vp_in (nI (ic + 2)) 2400 := vp_in_nI (by omega) (by decide)
  have hc_ic2 : (nI (ic + 2)).toNatClampNeg = ic + 2 := nI_clamp (by omega)
  have hv_ip0 : vp_in (nI (ip)) 2400 := vp_in_nI (by omega) (by decide)
  have hc_ip0 : (nI (ip)).toNatClampNeg = ip := nI_clamp (by omega)
  have hv_ip1 : vp_in (nI (ip + 1)) 2400 := vp_in_nI (by omega) (by decide)
  have hc_ip1 : (nI (ip + 1)).toNatClampNeg = ip + 1 := nI_clamp (by omega)
  have hv_ip2 : vp_in (nI (ip + 2)) 2400 := vp_in_nI (by omega) (by decide)
  have hc_ip2 : (nI (ip + 2)).toNatClampNeg = ip + 2 := nI_clamp (by omega)
  have hd0 : (ic = ip) = False := eq_false (by omega)
  have hd1 : (ic + 1 = ip) = False := eq_false (by omega)
  have hd2 : (ic + 2 = ip) = False := eq_false (by omega)
  have hd3 : (ic = ip + 1) = False := eq_false (by omega)
  have hd4 : (ic = ip + 2) = False := eq_false (by omega)
  have hd5 : (ic + 1 = ip + 1) = False := eq_false (by omega)
  have hd6 : (ic + 2 = ip + 2) = False := eq_false (by omega)
  have hd7 : (ic + 1 = ip + 2) = False := eq_false (by omega)
  have hd8 : (ic + 2 = ip + 1) = False := eq_false (by omega)
  have hW := fun d w1 x1 p1 c1 g1 Q => R_enter (d := d) (μ := (mo_wAI μ (r + 25) f 2)) (t := f + 1) (u := u) (g0 := g0) (r_sh_c hs (by simp only [mo_ME]) (by simp only [mo_ME]) (by simp only [mo_ME])) (by simp only [mo_ME, mo_u_a, Nat.reduceEqDiff, false_and, if_false]; exact (r_rdI h 27 rfl).trans hf) (by omega) (by simp only [mo_ME, mo_u_a, Nat.reduceEqDiff, false_and, if_false]; exact (r_rdI h 38 rfl).trans hu) hu2 (by simp only [mo_ME, mo_u_a, Nat.reduceEqDiff, false_and, if_false]; exact (r_rdI h 41 rfl).trans hg) w1 x1 p1 c1 g1 Q
  simp only [we99_0, we99_1, we108_0, we108_1, we108_2, we108_3, en99, en108, true_and, and_true, if_false, if_true, not_true_eq_false, not_false_eq_true, false_implies, true_implies, implies_true, forall_const, true_or, or_true, false_or, or_false, false_and, and_false, eq_self_iff_true, Option.toList_some, Option.toList_none, List.cons_append, List.nil_append, mo_cat_0, mo_cat_c, mo_ct_i, mo_ct_l, mo_ct_r, mo_ct_n, mo_ct_f, Nat.zero_le, Nat.reduceAdd, Nat.reduceLeDiff, Nat.reduceLT, Nat.reduceEqDiff, Nat.reduceSub, mo_rf_s, mo_rf_n, reduceCtorEq, mo_st, mo_st2, mo_lg_0, mo_lg_s, List.set_cons_zero, List.set_cons_succ, List.length_cons, List.length_nil, List.getElem?_cons_zero, List.getElem?_cons_succ, Nat.reduceBEq, Bool.false_eq_true, beq_self_eq_true, mo_ME, mo_u_a, mo_z_a, mo_y_a, Nat.add_left_cancel_iff, mo_TSW, hs', H, hf, nI_1, nI_2, nI_pred, mo_LC, mo_LE, i01, i12, i23, i34, hv, hc, h0, hk, hco, hvc, hcc, hst, hpp, hob, hvp, hcp, l5, l24, l3, nI_add, Int32.add_zero, hic1, hip1, hv_ic0, hc_ic0, hv_ic1, hc_ic1, hv_ic2, hc_ic2, hv_ip0, hc_ip0, hv_ip1, hc_ip1, hv_ip2, hc_ip2, hd0, hd1, hd2, hd3, hd4, hd5, hd6, hd7, hd8, hcp7, hcc7, hW, m_push]
  rw [wh108_128]
  simp only [we99_0, we99_1, we108_0, we108_1, we108_2, we108_3, true_and, and_true, if_false, if_true, not_true_eq_false, not_false_eq_true, false_implies, true_implies, implies_true, forall_const, true_or, or_true, false_or, or_false, false_and, and_false, eq_self_iff_true, Option.toList_some, Option.toList_none, List.cons_append, List.nil_append, mo_cat_0, mo_cat_c, mo_ct_i, mo_ct_l, mo_ct_r, mo_ct_n, mo_ct_f, Nat.zero_le, Nat.reduceAdd, Nat.reduceLeDiff, Nat.reduceLT, Nat.reduceEqDiff, Nat.reduceSub, mo_rf_s, mo_rf_n, reduceCtorEq, mo_st, mo_st2, mo_lg_0, mo_lg_s, List.set_cons_zero, List.set_cons_succ, List.length_cons, List.length_nil, List.getElem?_cons_zero, List.getElem?_cons_succ, Nat.reduceBEq, Bool.false_eq_true, beq_self_eq_true, mo_ME, mo_u_a, mo_z_a, mo_y_a, Nat.add_left_cancel_iff, mo_TSW, hs', H, hf, nI_1, nI_2, nI_pred, mo_LC, mo_LE, i01, i12, i23, i34, hv, hc, h0, hk, hco, hvc, hcc, hst, hpp, hob, hvp, hcp, l5, l24, l3, nI_add, Int32.add_zero, hic1, hip1, hv_ic0, hc_ic0, hv_ic1, hc_ic1, hv_ic2, hc_ic2, hv_ip0, hc_ip0, hv_ip1, hc_ip1, hv_ip2, hc_ip2, hd0, hd1, hd2, hd3, hd4, hd5, hd6, hd7, hd8, hcp7, hcc7, hW, m_push]
  rw [wh108_128]
  simp only [we99_0, we99_1, we108_0, we108_1, we108_2, we108_3, true_and, and_true, if_false, if_true, not_true_eq_false, not_false_eq_true, false_implies, true_implies, implies_true, forall_const, true_or, or_true, false_or, or_false, false_and, and_false, eq_self_iff_true, Option.toList_some, Option.toList_none, List.cons_append, List.nil_append, mo_cat_0, mo_cat_c, mo_ct_i, mo_ct_l, mo_ct_r, mo_ct_n, mo_ct_f, Nat.zero_le, Nat.reduceAdd, Nat.reduceLeDiff, Nat.reduceLT, Nat.reduceEqDiff, Nat.reduceSub, mo_rf_s, mo_rf_n, reduceCtorEq, mo_st, mo_st2, mo_lg_0, mo_lg_s, List.set_cons_zero, List.set_cons_succ, List.length_cons, List.length_nil, List.getElem?_cons_zero, List.getElem?_cons_succ, Nat.reduceBEq, Bool.false_eq_true, beq_self_eq_true, mo_ME, mo_u_a, mo_z_a, mo_y_a, Nat.add_left_cancel_iff, mo_TSW, hs', H, hf, nI_1, nI_2, nI_pred, mo_LC, mo_LE, i01, i12, i23, i34, hv, hc, h0, hk, hco, hvc, hcc, hst, hpp, hob, hvp, hcp, l5, l24, l3, nI_add, Int32.add_zero, hic1, hip1, hv_ic0, hc_ic0, hv_ic1, hc_ic1, hv_ic2, hc_ic2, hv_ip0, hc_ip0, hv_ip1, hc_ip1, hv_ip2, hc_ip2, hd0, hd1, hd2, hd3, hd4, hd5, hd6, hd7, hd8, hcp7, hcc7, hW, m_push]
  rw [wh108_128]
  simp only [we99_0, we99_1, we108_0, we108_1, we108_2, we108_3, true_and, and_true, if_false, if_true, not_true_eq_false, not_false_eq_true, false_implies, true_implies, implies_true, forall_const, true_or, or_true, false_or, or_false, false_and, and_false, eq_self_iff_true, Option.toList_some, Option.toList_none, List.cons_append, List.nil_append, mo_cat_0, mo_cat_c, mo_ct_i, mo_ct_l, mo_ct_r, mo_ct_n, mo_ct_f, Nat.zero_le, Nat.reduceAdd, Nat.reduceLeDiff, Nat.reduceLT, Nat.reduceEqDiff, Nat.reduceSub, mo_rf_s, mo_rf_n, reduceCtorEq, mo_st, mo_st2, mo_lg_0, mo_lg_s, List.set_cons_zero, List.set_cons_succ, List.length_cons, List.length_nil, List.getElem?_cons_zero, List.getElem?_cons_succ, Nat.reduceBEq, Bool.false_eq_true, beq_self_eq_true, mo_ME, mo_u_a, mo_z_a, mo_y_a, Nat.add_left_cancel_iff, mo_TSW, hs', H, hf, nI_1, nI_2, nI_pred, mo_LC, mo_LE, i01, i12, i23, i34, hv, hc, h0, hk, hco, hvc, hcc, hst, hpp, hob, hvp, hcp, l5, l24, l3, nI_add, Int32.add_zero, hic1, hip1, hv_ic0, hc_ic0, hv_ic1, hc_ic1, hv_ic2, hc_ic2, hv_ip0, hc_ip0, hv_ip1, hc_ip1, hv_ip2, hc_ip2, hd0, hd1, hd2, hd3, hd4, hd5, hd6, hd7, hd8, hcp7, hcc7, hW, m_push]
  refine kQ _ ⟨r_sh_c hs (by simp only [m_push, mo_ME]) (by simp only [m_push, mo_ME]) (by simp only [m_push, mo_ME]), ?_⟩ ?_
  · simp only [m_push, a_push, r_VW, hvw, hic, hip]
  · repeat (first | with_reducible exact r_fc_rf _ _ | with_reducible refine r_fc_push ?_ | with_reducible refine r_fc_I ?_ | with_reducible refine r_fc_L ?_ | with_reducible refine r_fc_AI (by decide) ?_ | with_reducible refine r_fc_AL (by decide) ?_)
set_option maxRecDepth 100000 in
set_option maxHeartbeats 2000000 in
theorem S_M1_30 {r f : Nat} {A : mo_A} {c p q u g0 : Nat} (hf : A.1 27 0 = nI (f + 1)) (hlt : f < 399) (h0 : A.1 37 0 = 0) (hk : A.1 28 f = 1) (hco : A.1 31 f = nI c) (hcl : c < 8) (hst : A.1 30 f = 1) (hpp : A.1 6 c = nI p) (hpc : p < c) (hob : A.1 32 f = nI q) (hql : q < 100) (hu : A.1 38 0 = nI u) (hu2 : u < 12) (hg : A.1 41 0 = nI g0) (hcp7 : A.1 7 p = 3) (hcc7 : A.1 7 c = 0) : r_S r A (a_L (a_L (a_L (a_push (a_I (a_I (a_I A 30 f 2) 38 0 (nI (u + 1))) 41 0 (nI (g0 + 1))) (f + 1) 1 (nI (5 * p)) (nI q) (nI p) (A.2 36 0)) 20 (24 * q + 3 * p) 0) 20 (24 * q + 3 * p + 1) 0) 20 (24 * q + 3 * p + 2) 0) := by
  intro μ h d Q kQ
  have hs := h.1
  have hs' := h.1
  unfold r_sh at hs'
  have hvw := h.2
  have H := r_rd h
  have hv : vp_in (nI f) 400 := vp_in_nI (by omega) (by decide)
  have hc : (nI f).toNatClampNeg = f := nI_clamp (by omega)
  have hvc : vp_in (nI c) 8 := vp_in_nI hcl (by decide)
  have hcc : (nI c).toNatClampNeg = c := nI_clamp (by omega)
  have hvp : vp_in (nI p) 8 := vp_in_nI (by omega) (by decide)
  have hcp : (nI p).toNatClampNeg = p := nI_clamp (by omega)
  obtain ⟨ic, hic⟩ : ∃ ic, ic = 24 * q + 3 * c := ⟨_, rfl⟩
  obtain ⟨ip, hip⟩ : ∃ ip, ip = 24 * q + 3 * p := ⟨_, rfl⟩
  have hic1 : 24 * q + 3 * c = ic := hic.symm
  have hip1 : 24 * q + 3 * p = ip := hip.symm
  have hv_ic0 : vp_in (nI (ic)) 2400 := vp_in_nI (by omega) (by decide)
  have hc_ic0 : (nI (ic)).toNatClampNeg = ic := nI_clamp (by omega)
  have hv_ic1 : vp_in (nI (ic + 1)) 2400 := vp_in_nI (by omega) (by decide)
  have hc_ic1 : (nI (ic + 1)).toNatClampNeg = ic + 1 := nI_clamp (by omega)
  have hv_ic2 : vp_in (nI (ic + 2)) 2400 := vp_in_nI (by omega) (by decide)
  have hc_ic2 : (nI (ic + 2)).toNatClampNeg = ic + 2 := nI_clamp (by omega)
  have hv_ip0 : vp_in (nI (ip)) 2400 := vp_in_nI (by omega) (by decide)
  have hc_ip0 : (nI (ip)).toNatClampNeg = ip := nI_clamp (by omega)
  have hv_ip1 : vp_in (nI (ip + 1)) 2400 := vp_in_nI (by omega) (by decide)
  have hc_ip1 : (nI (ip + 1)).toNatClampNeg = ip + 1 := nI_clamp (by omega)
  have hv_ip2 : vp_in (nI (ip + 2)) 2400 := vp_in_nI (by omega) (by decide)
  have hc_ip2 : (nI (ip + 2)).toNatClampNeg = ip + 2 := nI_clamp (by omega)
  have hd0 : (ic = ip) = False := eq_false (by omega)
  have hd1 : (ic + 1 = ip) = False := eq_false (by omega)
  have hd2 : (ic + 2 = ip) = False := eq_false (by omega)
  have hd3 : (ic = ip + 1) = False := eq_false (by omega)
  have hd4 : (ic = ip + 2) = False := eq_false (by omega)
  have hd5 : (ic + 1 = ip + 1) = False := eq_false (by omega)
  have hd6 : (ic + 2 = ip + 2) = False := eq_false (by omega)
  have hd7 : (ic + 1 = ip + 2) = False := eq_false (by omega)
  have hd8 : (ic + 2 = ip + 1) = False := eq_false (by omega)
  have hW := fun d w1 x1 p1 c1 g1 Q => R_enter (d := d) (μ := (mo_wAI μ (r + 25) f 2)) (t := f + 1) (u := u) (g0 := g0) (r_sh_c hs (by simp only [mo_ME]) (by simp only [mo_ME]) (by simp only [mo_ME])) (by simp only [mo_ME, mo_u_a, Nat.reduceEqDiff, false_and, if_false]; exact (r_rdI h 27 rfl).trans hf) (by omega) (by simp only [mo_ME, mo_u_a, Nat.reduceEqDiff, false_and, if_false]; exact (r_rdI h 38 rfl).trans hu) hu2 (by simp only [mo_ME, mo_u_a, Nat.reduceEqDiff, false_and, if_false]; exact (r_rdI h 41 rfl).trans hg) w1 x1 p1 c1 g1 Q
  simp only [we99_0, we99_1, we108_0, we108_1, we108_2, we108_3, en99, en108, true_and, and_true, if_false, if_true, not_true_eq_false, not_false_eq_true, false_implies, true_implies, implies_true, forall_const, true_or, or_true, false_or, or_false, false_and, and_false, eq_self_iff_true, Option.toList_some, Option.toList_none, List.cons_append, List.nil_append, mo_cat_0, mo_cat_c, mo_ct_i, mo_ct_l, mo_ct_r, mo_ct_n, mo_ct_f, Nat.zero_le, Nat.reduceAdd, Nat.reduceLeDiff, Nat.reduceLT, Nat.reduceEqDiff, Nat.reduceSub, mo_rf_s, mo_rf_n, reduceCtorEq, mo_st, mo_st2, mo_lg_0, mo_lg_s, List.set_cons_zero, List.set_cons_succ, List.length_cons, List.length_nil, List.getElem?_cons_zero, List.getElem?_cons_succ, Nat.reduceBEq, Bool.false_eq_true, beq_self_eq_true, mo_ME, mo_u_a, mo_z_a, mo_y_a, Nat.add_left_cancel_iff, mo_TSW, hs', H, hf, nI_1, nI_2, nI_pred, mo_LC, mo_LE, i01, i12, i23, i34, hv, hc, h0, hk, hco, hvc, hcc, hst, hpp, hob, hvp, hcp, l5, l24, l3, nI_add, Int32.add_zero, hic1, hip1, hv_ic0, hc_ic0, hv_ic1, hc_ic1, hv_ic2, hc_ic2, hv_ip0, hc_ip0, hv_ip1, hc_ip1, hv_ip2, hc_ip2, hd0, hd1, hd2, hd3, hd4, hd5, hd6, hd7, hd8, hcp7, hcc7, hW, m_push]
  rw [wh108_128]
  simp only [we99_0, we99_1, we108_0, we108_1, we108_2, we108_3, true_and, and_true, if_false, if_true, not_true_eq_false, not_false_eq_true, false_implies, true_implies, implies_true, forall_const, true_or, or_true, false_or, or_false, false_and, and_false, eq_self_iff_true, Option.toList_some, Option.toList_none, List.cons_append, List.nil_append, mo_cat_0, mo_cat_c, mo_ct_i, mo_ct_l, mo_ct_r, mo_ct_n, mo_ct_f, Nat.zero_le, Nat.reduceAdd, Nat.reduceLeDiff, Nat.reduceLT, Nat.reduceEqDiff, Nat.reduceSub, mo_rf_s, mo_rf_n, reduceCtorEq, mo_st, mo_st2, mo_lg_0, mo_lg_s, List.set_cons_zero, List.set_cons_succ, List.length_cons, List.length_nil, List.getElem?_cons_zero, List.getElem?_cons_succ, Nat.reduceBEq, Bool.false_eq_true, beq_self_eq_true, mo_ME, mo_u_a, mo_z_a, mo_y_a, Nat.add_left_cancel_iff, mo_TSW, hs', H, hf, nI_1, nI_2, nI_pred, mo_LC, mo_LE, i01, i12, i23, i34, hv, hc, h0, hk, hco, hvc, hcc, hst, hpp, hob, hvp, hcp, l5, l24, l3, nI_add, Int32.add_zero, hic1, hip1, hv_ic0, hc_ic0, hv_ic1, hc_ic1, hv_ic2, hc_ic2, hv_ip0, hc_ip0, hv_ip1, hc_ip1, hv_ip2, hc_ip2, hd0, hd1, hd2, hd3, hd4, hd5, hd6, hd7, hd8, hcp7, hcc7, hW, m_push]
  rw [wh108_128]
  simp only [we99_0, we99_1, we108_0, we108_1, we108_2, we108_3, true_and, and_true, if_false, if_true, not_true_eq_false, not_false_eq_true, false_implies, true_implies, implies_true, forall_const, true_or, or_true, false_or, or_false, false_and, and_false, eq_self_iff_true, Option.toList_some, Option.toList_none, List.cons_append, List.nil_append, mo_cat_0, mo_cat_c, mo_ct_i, mo_ct_l, mo_ct_r, mo_ct_n, mo_ct_f, Nat.zero_le, Nat.reduceAdd, Nat.reduceLeDiff, Nat.reduceLT, Nat.reduceEqDiff, Nat.reduceSub, mo_rf_s, mo_rf_n, reduceCtorEq, mo_st, mo_st2, mo_lg_0, mo_lg_s, List.set_cons_zero, List.set_cons_succ, List.length_cons, List.length_nil, List.getElem?_cons_zero, List.getElem?_cons_succ, Nat.reduceBEq, Bool.false_eq_true, beq_self_eq_true, mo_ME, mo_u_a, mo_z_a, mo_y_a, Nat.add_left_cancel_iff, mo_TSW, hs', H, hf, nI_1, nI_2, nI_pred, mo_LC, mo_LE, i01, i12, i23, i34, hv, hc, h0, hk, hco, hvc, hcc, hst, hpp, hob, hvp, hcp, l5, l24, l3, nI_add, Int32.add_zero, hic1, hip1, hv_ic0, hc_ic0, hv_ic1, hc_ic1, hv_ic2, hc_ic2, hv_ip0, hc_ip0, hv_ip1, hc_ip1, hv_ip2, hc_ip2, hd0, hd1, hd2, hd3, hd4, hd5, hd6, hd7, hd8, hcp7, hcc7, hW, m_push]
  rw [wh108_128]
  simp only [we99_0, we99_1, we108_0, we108_1, we108_2, we108_3, true_and, and_true, if_false, if_true, not_true_eq_false, not_false_eq_true, false_implies, true_implies, implies_true, forall_const, true_or, or_true, false_or, or_false, false_and, and_false, eq_self_iff_true, Option.toList_some, Option.toList_none, List.cons_append, List.nil_append, mo_cat_0, mo_cat_c, mo_ct_i, mo_ct_l, mo_ct_r, mo_ct_n, mo_ct_f, Nat.zero_le, Nat.reduceAdd, Nat.reduceLeDiff, Nat.reduceLT, Nat.reduceEqDiff, Nat.reduceSub, mo_rf_s, mo_rf_n, reduceCtorEq, mo_st, mo_st2, mo_lg_0, mo_lg_s, List.set_cons_zero, List.set_cons_succ, List.length_cons, List.length_nil, List.getElem?_cons_zero, List.getElem?_cons_succ, Nat.reduceBEq, Bool.false_eq_true, beq_self_eq_true, mo_ME, mo_u_a, mo_z_a, mo_y_a, Nat.add_left_cancel_iff, mo_TSW, hs', H, hf, nI_1, nI_2, nI_pred, mo_LC, mo_LE, i01, i12, i23, i34, hv, hc, h0, hk, hco, hvc, hcc, hst, hpp, hob, hvp, hcp, l5, l24, l3, nI_add, Int32.add_zero, hic1, hip1, hv_ic0, hc_ic0, hv_ic1, hc_ic1, hv_ic2, hc_ic2, hv_ip0, hc_ip0, hv_ip1, hc_ip1, hv_ip2, hc_ip2, hd0, hd1, hd2, hd3, hd4, hd5, hd6, hd7, hd8, hcp7, hcc7, hW, m_push]
  rw [wh108_128]
  simp only [we99_0, we99_1, we108_0, we108_1, we108_2, we108_3, true_and, and_true, if_false, if_true, not_true_eq_false, not_false_eq_true, false_implies, true_implies, implies_true, forall_const, true_or, or_true, false_or, or_false, false_and, and_false, eq_self_iff_true, Option.toList_some, Option.toList_none, List.cons_append, List.nil_append, mo_cat_0, mo_cat_c, mo_ct_i, mo_ct_l, mo_ct_r, mo_ct_n, mo_ct_f, Nat.zero_le, Nat.reduceAdd, Nat.reduceLeDiff, Nat.reduceLT, Nat.reduceEqDiff, Nat.reduceSub, mo_rf_s, mo_rf_n, reduceCtorEq, mo_st, mo_st2, mo_lg_0, mo_lg_s, List.set_cons_zero, List.set_cons_succ, List.length_cons, List.length_nil, List.getElem?_cons_zero, List.getElem?_cons_succ, Nat.reduceBEq, Bool.false_eq_true, beq_self_eq_true, mo_ME, mo_u_a, mo_z_a, mo_y_a, Nat.add_left_cancel_iff, mo_TSW, hs', H, hf, nI_1, nI_2, nI_pred, mo_LC, mo_LE, i01, i12, i23, i34, hv, hc, h0, hk, hco, hvc, hcc, hst, hpp, hob, hvp, hcp, l5, l24, l3, nI_add, Int32.add_zero, hic1, hip1, hv_ic0, hc_ic0, hv_ic1, hc_ic1, hv_ic2, hc_ic2, hv_ip0, hc_ip0, hv_ip1, hc_ip1, hv_ip2, hc_ip2, hd0, hd1, hd2, hd3, hd4, hd5, hd6, hd7, hd8, hcp7, hcc7, hW, m_push]
  refine kQ _ ⟨r_sh_c hs (by simp only [m_push, mo_ME]) (by simp only [m_push, mo_ME]) (by simp only [m_push, mo_ME]), ?_⟩ ?_
  · simp only [m_push, a_push, r_VW, hvw, hic, hip]
  · repeat (first | with_reducible exact r_fc_rf _ _ | with_reducible refine r_fc_push ?_ | with_reducible refine r_fc_I ?_ | with_reducible refine r_fc_L ?_ | with_reducible refine r_fc_AI (by decide) ?_ | with_reducible refine r_fc_AL (by decide) ?_)
set_option maxRecDepth 100000 in
set_option maxHeartbeats 2000000 in
theorem S_M1_31 {r f : Nat} {A : mo_A} {c p q u g0 : Nat} (hf : A.1 27 0 = nI (f + 1)) (hlt : f < 399) (h0 : A.1 37 0 = 0) (hk : A.1 28 f = 1) (hco : A.1 31 f = nI c) (hcl : c < 8) (hst : A.1 30 f = 1) (hpp : A.1 6 c = nI p) (hpc : p < c) (hob : A.1 32 f = nI q) (hql : q < 100) (hu : A.1 38 0 = nI u) (hu2 : u < 12) (hg : A.1 41 0 = nI g0) (hcp7 : A.1 7 p = 3) (hcc7 : A.1 7 c = 1) : r_S r A (a_L (a_L (a_L (a_push (a_I (a_I (a_I A 30 f 2) 38 0 (nI (u + 1))) 41 0 (nI (g0 + 1))) (f + 1) 1 (nI (5 * p)) (nI q) (nI p) (A.2 36 0)) 20 (24 * q + 3 * p) (A.2 20 (24 * q + 3 * c))) 20 (24 * q + 3 * p + 1) 0) 20 (24 * q + 3 * p + 2) 0) := by
  intro μ h d Q kQ
  have hs := h.1
  have hs' := h.1
  unfold r_sh at hs'
  have hvw := h.2
  have H := r_rd h
  have hv : vp_in (nI f) 400 := vp_in_nI (by omega) (by decide)
  have hc : (nI f).toNatClampNeg = f := nI_clamp (by omega)
  have hvc : vp_in (nI c) 8 := vp_in_nI hcl (by decide)
  have hcc : (nI c).toNatClampNeg = c := nI_clamp (by omega)
  have hvp : vp_in (nI p) 8 := vp_in_nI (by omega) (by decide)
  have hcp : (nI p).toNatClampNeg = p := nI_clamp (by omega)
  obtain ⟨ic, hic⟩ : ∃ ic, ic = 24 * q + 3 * c := ⟨_, rfl⟩
  obtain ⟨ip, hip⟩ : ∃ ip, ip = 24 * q + 3 * p := ⟨_, rfl⟩
  have hic1 : 24 * q + 3 * c = ic := hic.symm
  have hip1 : 24 * q + 3 * p = ip := hip.symm
  have hv_ic0 : vp_in (nI (ic)) 2400 := vp_in_nI (by omega) (by decide)
  have hc_ic0 : (nI (ic)).toNatClampNeg = ic := nI_clamp (by omega)
  have hv_ic1 : vp_in (nI (ic + 1)) 2400 := vp_in_nI (by omega) (by decide)
  have hc_ic1 : (nI (ic + 1)).toNatClampNeg = ic + 1 := nI_clamp (by omega)
  have hv_ic2 : vp_in (nI (ic + 2)) 2400 := vp_in_nI (by omega) (by decide)
  have hc_ic2 : (nI (ic + 2)).toNatClampNeg = ic + 2 := nI_clamp (by omega)
  have hv_ip0 : vp_in (nI (ip)) 2400 := vp_in_nI (by omega) (by decide)
  have hc_ip0 : (nI (ip)).toNatClampNeg = ip := nI_clamp (by omega)
  have hv_ip1 : vp_in (nI (ip + 1)) 2400 := vp_in_nI (by omega) (by decide)
  have hc_ip1 : (nI (ip + 1)).toNatClampNeg = ip + 1 := nI_clamp (by omega)
  have hv_ip2 : vp_in (nI (ip + 2)) 2400 := vp_in_nI (by omega) (by decide)
  have hc_ip2 : (nI (ip + 2)).toNatClampNeg = ip + 2 := nI_clamp (by omega)
  have hd0 : (ic = ip) = False := eq_false (by omega)
  have hd1 : (ic + 1 = ip) = False := eq_false (by omega)
  have hd2 : (ic + 2 = ip) = False := eq_false (by omega)
  have hd3 : (ic = ip + 1) = False := eq_false (by omega)
  have hd4 : (ic = ip + 2) = False := eq_false (by omega)
  have hd5 : (ic + 1 = ip + 1) = False := eq_false (by omega)
  have hd6 : (ic + 2 = ip + 2) = False := eq_false (by omega)
  have hd7 : (ic + 1 = ip + 2) = False := eq_false (by omega)
  have hd8 : (ic + 2 = ip + 1) = False := eq_false (by omega)
  have hW := fun d w1 x1 p1 c1 g1 Q => R_enter (d := d) (μ := (mo_wAI μ (r + 25) f 2)) (t := f + 1) (u := u) (g0 := g0) (r_sh_c hs (by simp only [mo_ME]) (by simp only [mo_ME]) (by simp only [mo_ME])) (by simp only [mo_ME, mo_u_a, Nat.reduceEqDiff, false_and, if_false]; exact (r_rdI h 27 rfl).trans hf) (by omega) (by simp only [mo_ME, mo_u_a, Nat.reduceEqDiff, false_and, if_false]; exact (r_rdI h 38 rfl).trans hu) hu2 (by simp only [mo_ME, mo_u_a, Nat.reduceEqDiff, false_and, if_false]; exact (r_rdI h 41 rfl).trans hg) w1 x1 p1 c1 g1 Q
  simp only [we99_0, we99_1, we108_0, we108_1, we108_2, we108_3, en99, en108, true_and, and_true, if_false, if_true, not_true_eq_false, not_false_eq_true, false_implies, true_implies, implies_true, forall_const, true_or, or_true, false_or, or_false, false_and, and_false, eq_self_iff_true, Option.toList_some, Option.toList_none, List.cons_append, List.nil_append, mo_cat_0, mo_cat_c, mo_ct_i, mo_ct_l, mo_ct_r, mo_ct_n, mo_ct_f, Nat.zero_le, Nat.reduceAdd, Nat.reduceLeDiff, Nat.reduceLT, Nat.reduceEqDiff, Nat.reduceSub, mo_rf_s, mo_rf_n, reduceCtorEq, mo_st, mo_st2, mo_lg_0, mo_lg_s, List.set_cons_zero, List.set_cons_succ, List.length_cons, List.length_nil, List.getElem?_cons_zero, List.getElem?_cons_succ, Nat.reduceBEq, Bool.false_eq_true, beq_self_eq_true, mo_ME, mo_u_a, mo_z_a, mo_y_a, Nat.add_left_cancel_iff, mo_TSW, hs', H, hf, nI_1, nI_2, nI_pred, mo_LC, mo_LE, i01, i12, i23, i34, hv, hc, h0, hk, hco, hvc, hcc, hst, hpp, hob, hvp, hcp, l5, l24, l3, nI_add, Int32.add_zero, hic1, hip1, hv_ic0, hc_ic0, hv_ic1, hc_ic1, hv_ic2, hc_ic2, hv_ip0, hc_ip0, hv_ip1, hc_ip1, hv_ip2, hc_ip2, hd0, hd1, hd2, hd3, hd4, hd5, hd6, hd7, hd8, hcp7, hcc7, hW, m_push]
  rw [wh108_128]
  simp only [we99_0, we99_1, we108_0, we108_1, we108_2, we108_3, true_and, and_true, if_false, if_true, not_true_eq_false, not_false_eq_true, false_implies, true_implies, implies_true, forall_const, true_or, or_true, false_or, or_false, false_and, and_false, eq_self_iff_true, Option.toList_some, Option.toList_none, List.cons_append, List.nil_append, mo_cat_0, mo_cat_c, mo_ct_i, mo_ct_l, mo_ct_r, mo_ct_n, mo_ct_f, Nat.zero_le, Nat.reduceAdd, Nat.reduceLeDiff, Nat.reduceLT, Nat.reduceEqDiff, Nat.reduceSub, mo_rf_s, mo_rf_n, reduceCtorEq, mo_st, mo_st2, mo_lg_0, mo_lg_s, List.set_cons_zero, List.set_cons_succ, List.length_cons, List.length_nil, List.getElem?_cons_zero, List.getElem?_cons_succ, Nat.reduceBEq, Bool.false_eq_true, beq_self_eq_true, mo_ME, mo_u_a, mo_z_a, mo_y_a, Nat.add_left_cancel_iff, mo_TSW, hs', H, hf, nI_1, nI_2, nI_pred, mo_LC, mo_LE, i01, i12, i23, i34, hv, hc, h0, hk, hco, hvc, hcc, hst, hpp, hob, hvp, hcp, l5, l24, l3, nI_add, Int32.add_zero, hic1, hip1, hv_ic0, hc_ic0, hv_ic1, hc_ic1, hv_ic2, hc_ic2, hv_ip0, hc_ip0, hv_ip1, hc_ip1, hv_ip2, hc_ip2, hd0, hd1, hd2, hd3, hd4, hd5, hd6, hd7, hd8, hcp7, hcc7, hW, m_push]
  rw [wh108_128]
  simp only [we99_0, we99_1, we108_0, we108_1, we108_2, we108_3, true_and, and_true, if_false, if_true, not_true_eq_false, not_false_eq_true, false_implies, true_implies, implies_true, forall_const, true_or, or_true, false_or, or_false, false_and, and_false, eq_self_iff_true, Option.toList_some, Option.toList_none, List.cons_append, List.nil_append, mo_cat_0, mo_cat_c, mo_ct_i, mo_ct_l, mo_ct_r, mo_ct_n, mo_ct_f, Nat.zero_le, Nat.reduceAdd, Nat.reduceLeDiff, Nat.reduceLT, Nat.reduceEqDiff, Nat.reduceSub, mo_rf_s, mo_rf_n, reduceCtorEq, mo_st, mo_st2, mo_lg_0, mo_lg_s, List.set_cons_zero, List.set_cons_succ, List.length_cons, List.length_nil, List.getElem?_cons_zero, List.getElem?_cons_succ, Nat.reduceBEq, Bool.false_eq_true, beq_self_eq_true, mo_ME, mo_u_a, mo_z_a, mo_y_a, Nat.add_left_cancel_iff, mo_TSW, hs', H, hf, nI_1, nI_2, nI_pred, mo_LC, mo_LE, i01, i12, i23, i34, hv, hc, h0, hk, hco, hvc, hcc, hst, hpp, hob, hvp, hcp, l5, l24, l3, nI_add, Int32.add_zero, hic1, hip1, hv_ic0, hc_ic0, hv_ic1, hc_ic1, hv_ic2, hc_ic2, hv_ip0, hc_ip0, hv_ip1, hc_ip1, hv_ip2, hc_ip2, hd0, hd1, hd2, hd3, hd4, hd5, hd6, hd7, hd8, hcp7, hcc7, hW, m_push]
  rw [wh108_128]
  simp only [we99_0, we99_1, we108_0, we108_1, we108_2, we108_3, true_and, and_true, if_false, if_true, not_true_eq_false, not_false_eq_true, false_implies, true_implies, implies_true, forall_const, true_or, or_true, false_or, or_false, false_and, and_false, eq_self_iff_true, Option.toList_some, Option.toList_none, List.cons_append, List.nil_append, mo_cat_0, mo_cat_c, mo_ct_i, mo_ct_l, mo_ct_r, mo_ct_n, mo_ct_f, Nat.zero_le, Nat.reduceAdd, Nat.reduceLeDiff, Nat.reduceLT, Nat.reduceEqDiff, Nat.reduceSub, mo_rf_s, mo_rf_n, reduceCtorEq, mo_st, mo_st2, mo_lg_0, mo_lg_s, List.set_cons_zero, List.set_cons_succ, List.length_cons, List.length_nil, List.getElem?_cons_zero, List.getElem?_cons_succ, Nat.reduceBEq, Bool.false_eq_true, beq_self_eq_true, mo_ME, mo_u_a, mo_z_a, mo_y_a, Nat.add_left_cancel_iff, mo_TSW, hs', H, hf, nI_1, nI_2, nI_pred, mo_LC, mo_LE, i01, i12, i23, i34, hv, hc, h0, hk, hco, hvc, hcc, hst, hpp, hob, hvp, hcp, l5, l24, l3, nI_add, Int32.add_zero, hic1, hip1, hv_ic0, hc_ic0, hv_ic1, hc_ic1, hv_ic2, hc_ic2, hv_ip0, hc_ip0, hv_ip1, hc_ip1, hv_ip2, hc_ip2, hd0, hd1, hd2, hd3, hd4, hd5, hd6, hd7, hd8, hcp7, hcc7, hW, m_push]
  rw [wh108_128]
  simp only [we99_0, we99_1, we108_0, we108_1, we108_2, we108_3, true_and, and_true, if_false, if_true, not_true_eq_false, not_false_eq_true, false_implies, true_implies, implies_true, forall_const, true_or, or_true, false_or, or_false, false_and, and_false, eq_self_iff_true, Option.toList_some, Option.toList_none, List.cons_append, List.nil_append, mo_cat_0, mo_cat_c, mo_ct_i, mo_ct_l, mo_ct_r, mo_ct_n, mo_ct_f, Nat.zero_le, Nat.reduceAdd, Nat.reduceLeDiff, Nat.reduceLT, Nat.reduceEqDiff, Nat.reduceSub, mo_rf_s, mo_rf_n, reduceCtorEq, mo_st, mo_st2, mo_lg_0, mo_lg_s, List.set_cons_zero, List.set_cons_succ, List.length_cons, List.length_nil, List.getElem?_cons_zero, List.getElem?_cons_succ, Nat.reduceBEq, Bool.false_eq_true, beq_self_eq_true, mo_ME, mo_u_a, mo_z_a, mo_y_a, Nat.add_left_cancel_iff, mo_TSW, hs', H, hf, nI_1, nI_2, nI_pred, mo_LC, mo_LE, i01, i12, i23, i34, hv, hc, h0, hk, hco, hvc, hcc, hst, hpp, hob, hvp, hcp, l5, l24, l3, nI_add, Int32.add_zero, hic1, hip1, hv_ic0, hc_ic0, hv_ic1, hc_ic1, hv_ic2, hc_ic2, hv_ip0, hc_ip0, hv_ip1, hc_ip1, hv_ip2, hc_ip2, hd0, hd1, hd2, hd3, hd4, hd5, hd6, hd7, hd8, hcp7, hcc7, hW, m_push]
  refine kQ _ ⟨r_sh_c hs (by simp only [m_push, mo_ME]) (by simp only [m_push, mo_ME]) (by simp only [m_push, mo_ME]), ?_⟩ ?_
  · simp only [m_push, a_push, r_VW, hvw, hic, hip]
  · repeat (first | with_reducible exact r_fc_rf _ _ | with_reducible refine r_fc_push ?_ | with_reducible refine r_fc_I ?_ | with_reducible refine r_fc_L ?_ | with_reducible refine r_fc_AI (by decide) ?_ | with_reducible refine r_fc_AL (by decide) ?_)
set_option maxRecDepth 100000 in
set_option maxHeartbeats 2000000 in
theorem S_M1_32 {r f : Nat} {A : mo_A} {c p q u g0 : Nat} (hf : A.1 27 0 = nI (f + 1)) (hlt : f < 399) (h0 : A.1 37 0 = 0) (hk : A.1 28 f = 1) (hco : A.1 31 f = nI c) (hcl : c < 8) (hst : A.1 30 f = 1) (hpp : A.1 6 c = nI p) (hpc : p < c) (hob : A.1 32 f = nI q) (hql : q < 100) (hu : A.1 38 0 = nI u) (hu2 : u < 12) (hg : A.1 41 0 = nI g0) (hcp7 : A.1 7 p = 3) (hcc7 : A.1 7 c = 2) : r_S r A (a_L (a_L (a_L (a_push (a_I (a_I (a_I A 30 f 2) 38 0 (nI (u + 1))) 41 0 (nI (g0 + 1))) (f + 1) 1 (nI (5 * p)) (nI q) (nI p) (A.2 36 0)) 20 (24 * q + 3 * p) (A.2 20 (24 * q + 3 * c))) 20 (24 * q + 3 * p + 1) (A.2 20 (24 * q + 3 * c + 1))) 20 (24 * q + 3 * p + 2) 0) := by
  intro μ h d Q kQ
  have hs := h.1
  have hs' := h.1
  unfold r_sh at hs'
  have hvw := h.2
  have H := r_rd h
  have hv : vp_in (nI f) 400 := vp_in_nI (by omega) (by decide)
  have hc : (nI f).toNatClampNeg = f := nI_clamp (by omega)
  have hvc : vp_in (nI c) 8 := vp_in_nI hcl (by decide)
  have hcc : (nI c).toNatClampNeg = c := nI_clamp (by omega)
  have hvp : vp_in (nI p) 8 := vp_in_nI (by omega) (by decide)
  have hcp : (nI p).toNatClampNeg = p := nI_clamp (by omega)
  obtain ⟨ic, hic⟩ : ∃ ic, ic = 24 * q + 3 * c := ⟨_, rfl⟩
  obtain ⟨ip, hip⟩ : ∃ ip, ip = 24 * q + 3 * p := ⟨_, rfl⟩
  have hic1 : 24 * q + 3 * c = ic := hic.symm
  have hip1 : 24 * q + 3 * p = ip := hip.symm
  have hv_ic0 : vp_in (nI (ic)) 2400 := vp_in_nI (by omega) (by decide)
  have hc_ic0 : (nI (ic)).toNatClampNeg = ic := nI_clamp (by omega)
  have hv_ic1 : vp_in (nI (ic + 1)) 2400 := vp_in_nI (by omega) (by decide)
  have hc_ic1 : (nI (ic + 1)).toNatClampNeg = ic + 1 := nI_clamp (by omega)
  have hv_ic2 : vp_in (nI (ic + 2)) 2400 := vp_in_nI (by omega) (by decide)
  have hc_ic2 : (nI (ic + 2)).toNatClampNeg = ic + 2 := nI_clamp (by omega)
  have hv_ip0 : vp_in (nI (ip)) 2400 := vp_in_nI (by omega) (by decide)
  have hc_ip0 : (nI (ip)).toNatClampNeg = ip := nI_clamp (by omega)
  have hv_ip1 : vp_in (nI (ip + 1)) 2400 := vp_in_nI (by omega) (by decide)
  have hc_ip1 : (nI (ip + 1)).toNatClampNeg = ip + 1 := nI_clamp (by omega)
  have hv_ip2 : vp_in (nI (ip + 2)) 2400 := vp_in_nI (by omega) (by decide)
  have hc_ip2 : (nI (ip + 2)).toNatClampNeg = ip + 2 := nI_clamp (by omega)
  have hd0 : (ic = ip) = False := eq_false (by omega)
  have hd1 : (ic + 1 = ip) = False := eq_false (by omega)
  have hd2 : (ic + 2 = ip) = False := eq_false (by omega)
  have hd3 : (ic = ip + 1) = False := eq_false (by omega)
  have hd4 : (ic = ip + 2) = False := eq_false (by omega)
  have hd5 : (ic + 1 = ip + 1) = False := eq_false (by omega)
  have hd6 : (ic + 2 = ip + 2) = False := eq_false (by omega)
  have hd7 : (ic + 1 = ip + 2) = False := eq_false (by omega)
  have hd8 : (ic + 2 = ip + 1) = False := eq_false (by omega)
  have hW := fun d w1 x1 p1 c1 g1 Q => R_enter (d := d) (μ := (mo_wAI μ (r + 25) f 2)) (t := f + 1) (u := u) (g0 := g0) (r_sh_c hs (by simp only [mo_ME]) (by simp only [mo_ME]) (by simp only [mo_ME])) (by simp only [mo_ME, mo_u_a, Nat.reduceEqDiff, false_and, if_false]; exact (r_rdI h 27 rfl).trans hf) (by omega) (by simp only [mo_ME, mo_u_a, Nat.reduceEqDiff, false_and, if_false]; exact (r_rdI h 38 rfl).trans hu) hu2 (by simp only [mo_ME, mo_u_a, Nat.reduceEqDiff, false_and, if_false]; exact (r_rdI h 41 rfl).trans hg) w1 x1 p1 c1 g1 Q
  simp only [we99_0, we99_1, we108_0, we108_1, we108_2, we108_3, en99, en108, true_and, and_true, if_false, if_true, not_true_eq_false, not_false_eq_true, false_implies, true_implies, implies_true, forall_const, true_or, or_true, false_or, or_false, false_and, and_false, eq_self_iff_true, Option.toList_some, Option.toList_none, List.cons_append, List.nil_append, mo_cat_0, mo_cat_c, mo_ct_i, mo_ct_l, mo_ct_r, mo_ct_n, mo_ct_f, Nat.zero_le, Nat.reduceAdd, Nat.reduceLeDiff, Nat.reduceLT, Nat.reduceEqDiff, Nat.reduceSub, mo_rf_s, mo_rf_n, reduceCtorEq, mo_st, mo_st2, mo_lg_0, mo_lg_s, List.set_cons_zero, List.set_cons_succ, List.length_cons, List.length_nil, List.getElem?_cons_zero, List.getElem?_cons_succ, Nat.reduceBEq, Bool.false_eq_true, beq_self_eq_true, mo_ME, mo_u_a, mo_z_a, mo_y_a, Nat.add_left_cancel_iff, mo_TSW, hs', H, hf, nI_1, nI_2, nI_pred, mo_LC, mo_LE, i01, i12, i23, i34, hv, hc, h0, hk, hco, hvc, hcc, hst, hpp, hob, hvp, hcp, l5, l24, l3, nI_add, Int32.add_zero, hic1, hip1, hv_ic0, hc_ic0, hv_ic1, hc_ic1, hv_ic2, hc_ic2, hv_ip0, hc_ip0, hv_ip1, hc_ip1, hv_ip2, hc_ip2, hd0, hd1, hd2, hd3, hd4, hd5, hd6, hd7, hd8, hcp7, hcc7, hW, m_push]
  rw [wh108_128]
  simp only [we99_0, we99_1, we108_0, we108_1, we108_2, we108_3, true_and, and_true, if_false, if_true, not_true_eq_false, not_false_eq_true, false_implies, true_implies, implies_true, forall_const, true_or, or_true, false_or, or_false, false_and, and_false, eq_self_iff_true, Option.toList_some, Option.toList_none, List.cons_append, List.nil_append, mo_cat_0, mo_cat_c, mo_ct_i, mo_ct_l, mo_ct_r, mo_ct_n, mo_ct_f, Nat.zero_le, Nat.reduceAdd, Nat.reduceLeDiff, Nat.reduceLT, Nat.reduceEqDiff, Nat.reduceSub, mo_rf_s, mo_rf_n, reduceCtorEq, mo_st, mo_st2, mo_lg_0, mo_lg_s, List.set_cons_zero, List.set_cons_succ, List.length_cons, List.length_nil, List.getElem?_cons_zero, List.getElem?_cons_succ, Nat.reduceBEq, Bool.false_eq_true, beq_self_eq_true, mo_ME, mo_u_a, mo_z_a, mo_y_a, Nat.add_left_cancel_iff, mo_TSW, hs', H, hf, nI_1, nI_2, nI_pred, mo_LC, mo_LE, i01, i12, i23, i34, hv, hc, h0, hk, hco, hvc, hcc, hst, hpp, hob, hvp, hcp, l5, l24, l3, nI_add, Int32.add_zero, hic1, hip1, hv_ic0, hc_ic0, hv_ic1, hc_ic1, hv_ic2, hc_ic2, hv_ip0, hc_ip0, hv_ip1, hc_ip1, hv_ip2, hc_ip2, hd0, hd1, hd2, hd3, hd4, hd5, hd6, hd7, hd8, hcp7, hcc7, hW, m_push]
  rw [wh108_128]
  simp only [we99_0, we99_1, we108_0, we108_1, we108_2, we108_3, true_and, and_true, if_false, if_true, not_true_eq_false, not_false_eq_true, false_implies, true_implies, implies_true, forall_const, true_or, or_true, false_or, or_false, false_and, and_false, eq_self_iff_true, Option.toList_some, Option.toList_none, List.cons_append, List.nil_append, mo_cat_0, mo_cat_c, mo_ct_i, mo_ct_l, mo_ct_r, mo_ct_n, mo_ct_f, Nat.zero_le, Nat.reduceAdd, Nat.reduceLeDiff, Nat.reduceLT, Nat.reduceEqDiff, Nat.reduceSub, mo_rf_s, mo_rf_n, reduceCtorEq, mo_st, mo_st2, mo_lg_0, mo_lg_s, List.set_cons_zero, List.set_cons_succ, List.length_cons, List.length_nil, List.getElem?_cons_zero, List.getElem?_cons_succ, Nat.reduceBEq, Bool.false_eq_true, beq_self_eq_true, mo_ME, mo_u_a, mo_z_a, mo_y_a, Nat.add_left_cancel_iff, mo_TSW, hs', H, hf, nI_1, nI_2, nI_pred, mo_LC, mo_LE, i01, i12, i23, i34, hv, hc, h0, hk, hco, hvc, hcc, hst, hpp, hob, hvp, hcp, l5, l24, l3, nI_add, Int32.add_zero, hic1, hip1, hv_ic0, hc_ic0, hv_ic1, hc_ic1, hv_ic2, hc_ic2, hv_ip0, hc_ip0, hv_ip1, hc_ip1, hv_ip2, hc_ip2, hd0, hd1, hd2, hd3, hd4, hd5, hd6, hd7, hd8, hcp7, hcc7, hW, m_push]
  rw [wh108_128]
  simp only [we99_0, we99_1, we108_0, we108_1, we108_2, we108_3, true_and, and_true, if_false, if_true, not_true_eq_false, not_false_eq_true, false_implies, true_implies, implies_true, forall_const, true_or, or_true, false_or, or_false, false_and, and_false, eq_self_iff_true, Option.toList_some, Option.toList_none, List.cons_append, List.nil_append, mo_cat_0, mo_cat_c, mo_ct_i, mo_ct_l, mo_ct_r, mo_ct_n, mo_ct_f, Nat.zero_le, Nat.reduceAdd, Nat.reduceLeDiff, Nat.reduceLT, Nat.reduceEqDiff, Nat.reduceSub, mo_rf_s, mo_rf_n, reduceCtorEq, mo_st, mo_st2, mo_lg_0, mo_lg_s, List.set_cons_zero, List.set_cons_succ, List.length_cons, List.length_nil, List.getElem?_cons_zero, List.getElem?_cons_succ, Nat.reduceBEq, Bool.false_eq_true, beq_self_eq_true, mo_ME, mo_u_a, mo_z_a, mo_y_a, Nat.add_left_cancel_iff, mo_TSW, hs', H, hf, nI_1, nI_2, nI_pred, mo_LC, mo_LE, i01, i12, i23, i34, hv, hc, h0, hk, hco, hvc, hcc, hst, hpp, hob, hvp, hcp, l5, l24, l3, nI_add, Int32.add_zero, hic1, hip1, hv_ic0, hc_ic0, hv_ic1, hc_ic1, hv_ic2, hc_ic2, hv_ip0, hc_ip0, hv_ip1, hc_ip1, hv_ip2, hc_ip2, hd0, hd1, hd2, hd3, hd4, hd5, hd6, hd7, hd8, hcp7, hcc7, hW, m_push]
  rw [wh108_128]
  simp only [we99_0, we99_1, we108_0, we108_1, we108_2, we108_3, true_and, and_true, if_false, if_true, not_true_eq_false, not_false_eq_true, false_implies, true_implies, implies_true, forall_const, true_or, or_true, false_or, or_false, false_and, and_false, eq_self_iff_true, Option.toList_some, Option.toList_none, List.cons_append, List.nil_append, mo_cat_0, mo_cat_c, mo_ct_i, mo_ct_l, mo_ct_r, mo_ct_n, mo_ct_f, Nat.zero_le, Nat.reduceAdd, Nat.reduceLeDiff, Nat.reduceLT, Nat.reduceEqDiff, Nat.reduceSub, mo_rf_s, mo_rf_n, reduceCtorEq, mo_st, mo_st2, mo_lg_0, mo_lg_s, List.set_cons_zero, List.set_cons_succ, List.length_cons, List.length_nil, List.getElem?_cons_zero, List.getElem?_cons_succ, Nat.reduceBEq, Bool.false_eq_true, beq_self_eq_true, mo_ME, mo_u_a, mo_z_a, mo_y_a, Nat.add_left_cancel_iff, mo_TSW, hs', H, hf, nI_1, nI_2, nI_pred, mo_LC, mo_LE, i01, i12, i23, i34, hv, hc, h0, hk, hco, hvc, hcc, hst, hpp, hob, hvp, hcp, l5, l24, l3, nI_add, Int32.add_zero, hic1, hip1, hv_ic0, hc_ic0, hv_ic1, hc_ic1, hv_ic2, hc_ic2, hv_ip0, hc_ip0, hv_ip1, hc_ip1, hv_ip2, hc_ip2, hd0, hd1, hd2, hd3, hd4, hd5, hd6, hd7, hd8, hcp7, hcc7, hW, m_push]
  refine kQ _ ⟨r_sh_c hs (by simp only [m_push, mo_ME]) (by simp only [m_push, mo_ME]) (by simp only [m_push, mo_ME]), ?_⟩ ?_
  · simp only [m_push, a_push, r_VW, hvw, hic, hip]
  · repeat (first | with_reducible exact r_fc_rf _ _ | with_reducible refine r_fc_push ?_ | with_reducible refine r_fc_I ?_ | with_reducible refine r_fc_L ?_ | with_reducible refine r_fc_AI (by decide) ?_ | with_reducible refine r_fc_AL (by decide) ?_)
set_option maxRecDepth 100000 in
set_option maxHeartbeats 2000000 in
theorem S_M1_33 {r f : Nat} {A : mo_A} {c p q u g0 : Nat} (hf : A.1 27 0 = nI (f + 1)) (hlt : f < 399) (h0 : A.1 37 0 = 0) (hk : A.1 28 f = 1) (hco : A.1 31 f = nI c) (hcl : c < 8) (hst : A.1 30 f = 1) (hpp : A.1 6 c = nI p) (hpc : p < c) (hob : A.1 32 f = nI q) (hql : q < 100) (hu : A.1 38 0 = nI u) (hu2 : u < 12) (hg : A.1 41 0 = nI g0) (hcp7 : A.1 7 p = 3) (hcc7 : A.1 7 c = 3) : r_S r A (a_L (a_L (a_L (a_push (a_I (a_I (a_I A 30 f 2) 38 0 (nI (u + 1))) 41 0 (nI (g0 + 1))) (f + 1) 1 (nI (5 * p)) (nI q) (nI p) (A.2 36 0)) 20 (24 * q + 3 * p) (A.2 20 (24 * q + 3 * c))) 20 (24 * q + 3 * p + 1) (A.2 20 (24 * q + 3 * c + 1))) 20 (24 * q + 3 * p + 2) (A.2 20 (24 * q + 3 * c + 2))) := by
  intro μ h d Q kQ
  have hs := h.1
  have hs' := h.1
  unfold r_sh at hs'
  have hvw := h.2
  have H := r_rd h
  have hv : vp_in (nI f) 400 := vp_in_nI (by omega) (by decide)
  have hc : (nI f).toNatClampNeg = f := nI_clamp (by omega)
  have hvc : vp_in (nI c) 8 := vp_in_nI hcl (by decide)
  have hcc : (nI c).toNatClampNeg = c := nI_clamp (by omega)
  have hvp : vp_in (nI p) 8 := vp_in_nI (by omega) (by decide)
  have hcp : (nI p).toNatClampNeg = p := nI_clamp (by omega)
  obtain ⟨ic, hic⟩ : ∃ ic, ic = 24 * q + 3 * c := ⟨_, rfl⟩
  obtain ⟨ip, hip⟩ : ∃ ip, ip = 24 * q + 3 * p := ⟨_, rfl⟩
  have hic1 : 24 * q + 3 * c = ic := hic.symm
  have hip1 : 24 * q + 3 * p = ip := hip.symm
  have hv_ic0 : vp_in (nI (ic)) 2400 := vp_in_nI (by omega) (by decide)
  have hc_ic0 : (nI (ic)).toNatClampNeg = ic := nI_clamp (by omega)
  have hv_ic1 : vp_in (nI (ic + 1)) 2400 := vp_in_nI (by omega) (by decide)
  have hc_ic1 : (nI (ic + 1)).toNatClampNeg = ic + 1 := nI_clamp (by omega)
  have hv_ic2 : vp_in (nI (ic + 2)) 2400 := vp_in_nI (by omega) (by decide)
  have hc_ic2 : (nI (ic + 2)).toNatClampNeg = ic + 2 := nI_clamp (by omega)
  have hv_ip0 : vp_in (nI (ip)) 2400 := vp_in_nI (by omega) (by decide)
  have hc_ip0 : (nI (ip)).toNatClampNeg = ip := nI_clamp (by omega)
  have hv_ip1 : vp_in (nI (ip + 1)) 2400 := vp_in_nI (by omega) (by decide)
  have hc_ip1 : (nI (ip + 1)).toNatClampNeg = ip + 1 := nI_clamp (by omega)
  have hv_ip2 : vp_in (nI (ip + 2)) 2400 := vp_in_nI (by omega) (by decide)
  have hc_ip2 : (nI (ip + 2)).toNatClampNeg = ip + 2 := nI_clamp (by omega)
  have hd0 : (ic = ip) = False := eq_false (by omega)
  have hd1 : (ic + 1 = ip) = False := eq_false (by omega)
  have hd2 : (ic + 2 = ip) = False := eq_false (by omega)
  have hd3 : (ic = ip + 1) = False := eq_false (by omega)
  have hd4 : (ic = ip + 2) = False := eq_false (by omega)
  have hd5 : (ic + 1 = ip + 1) = False := eq_false (by omega)
  have hd6 : (ic + 2 = ip + 2) = False := eq_false (by omega)
  have hd7 : (ic + 1 = ip + 2) = False := eq_false (by omega)
  have hd8 : (ic + 2 = ip + 1) = False := eq_false (by omega)
  have hW := fun d w1 x1 p1 c1 g1 Q => R_enter (d := d) (μ := (mo_wAI μ (r + 25) f 2)) (t := f + 1) (u := u) (g0 := g0) (r_sh_c hs (by simp only [mo_ME]) (by simp only [mo_ME]) (by simp only [mo_ME])) (by simp only [mo_ME, mo_u_a, Nat.reduceEqDiff, false_and, if_false]; exact (r_rdI h 27 rfl).trans hf) (by omega) (by simp only [mo_ME, mo_u_a, Nat.reduceEqDiff, false_and, if_false]; exact (r_rdI h 38 rfl).trans hu) hu2 (by simp only [mo_ME, mo_u_a, Nat.reduceEqDiff, false_and, if_false]; exact (r_rdI h 41 rfl).trans hg) w1 x1 p1 c1 g1 Q
  simp only [we99_0, we99_1, we108_0, we108_1, we108_2, we108_3, en99, en108, true_and, and_true, if_false, if_true, not_true_eq_false, not_false_eq_true, false_implies, true_implies, implies_true, forall_const, true_or, or_true, false_or, or_false, false_and, and_false, eq_self_iff_true, Option.toList_some, Option.toList_none, List.cons_append, List.nil_append, mo_cat_0, mo_cat_c, mo_ct_i, mo_ct_l, mo_ct_r, mo_ct_n, mo_ct_f, Nat.zero_le, Nat.reduceAdd, Nat.reduceLeDiff, Nat.reduceLT, Nat.reduceEqDiff, Nat.reduceSub, mo_rf_s, mo_rf_n, reduceCtorEq, mo_st, mo_st2, mo_lg_0, mo_lg_s, List.set_cons_zero, List.set_cons_succ, List.length_cons, List.length_nil, List.getElem?_cons_zero, List.getElem?_cons_succ, Nat.reduceBEq, Bool.false_eq_true, beq_self_eq_true, mo_ME, mo_u_a, mo_z_a, mo_y_a, Nat.add_left_cancel_iff, mo_TSW, hs', H, hf, nI_1, nI_2, nI_pred, mo_LC, mo_LE, i01, i12, i23, i34, hv, hc, h0, hk, hco, hvc, hcc, hst, hpp, hob, hvp, hcp, l5, l24, l3, nI_add, Int32.add_zero, hic1, hip1, hv_ic0, hc_ic0, hv_ic1, hc_ic1, hv_ic2, hc_ic2, hv_ip0, hc_ip0, hv_ip1, hc_ip1, hv_ip2, hc_ip2, hd0, hd1, hd2, hd3, hd4, hd5, hd6, hd7, hd8, hcp7, hcc7, hW, m_push]
  rw [wh108_128]
  simp only [we99_0, we99_1, we108_0, we108_1, we108_2, we108_3, true_and, and_true, if_false, if_true, not_true_eq_false, not_false_eq_true, false_implies, true_implies, implies_true, forall_const, true_or, or_true, false_or, or_false, false_and, and_false, eq_self_iff_true, Option.toList_some, Option.toList_none, List.cons_append, List.nil_append, mo_cat_0, mo_cat_c, mo_ct_i, mo_ct_l, mo_ct_r, mo_ct_n, mo_ct_f, Nat.zero_le, Nat.reduceAdd, Nat.reduceLeDiff, Nat.reduceLT, Nat.reduceEqDiff, Nat.reduceSub, mo_rf_s, mo_rf_n, reduceCtorEq, mo_st, mo_st2, mo_lg_0, mo_lg_s, List.set_cons_zero, List.set_cons_succ, List.length_cons, List.length_nil, List.getElem?_cons_zero, List.getElem?_cons_succ, Nat.reduceBEq, Bool.false_eq_true, beq_self_eq_true, mo_ME, mo_u_a, mo_z_a, mo_y_a, Nat.add_left_cancel_iff, mo_TSW, hs', H, hf, nI_1, nI_2, nI_pred, mo_LC, mo_LE, i01, i12, i23, i34, hv, hc, h0, hk, hco, hvc, hcc, hst, hpp, hob, hvp, hcp, l5, l24, l3, nI_add, Int32.add_zero, hic1, hip1, hv_ic0, hc_ic0, hv_ic1, hc_ic1, hv_ic2, hc_ic2, hv_ip0, hc_ip0, hv_ip1, hc_ip1, hv_ip2, hc_ip2, hd0, hd1, hd2, hd3, hd4, hd5, hd6, hd7, hd8, hcp7, hcc7, hW, m_push]
  rw [wh108_128]
  simp only [we99_0, we99_1, we108_0, we108_1, we108_2, we108_3, true_and, and_true, if_false, if_true, not_true_eq_false, not_false_eq_true, false_implies, true_implies, implies_true, forall_const, true_or, or_true, false_or, or_false, false_and, and_false, eq_self_iff_true, Option.toList_some, Option.toList_none, List.cons_append, List.nil_append, mo_cat_0, mo_cat_c, mo_ct_i, mo_ct_l, mo_ct_r, mo_ct_n, mo_ct_f, Nat.zero_le, Nat.reduceAdd, Nat.reduceLeDiff, Nat.reduceLT, Nat.reduceEqDiff, Nat.reduceSub, mo_rf_s, mo_rf_n, reduceCtorEq, mo_st, mo_st2, mo_lg_0, mo_lg_s, List.set_cons_zero, List.set_cons_succ, List.length_cons, List.length_nil, List.getElem?_cons_zero, List.getElem?_cons_succ, Nat.reduceBEq, Bool.false_eq_true, beq_self_eq_true, mo_ME, mo_u_a, mo_z_a, mo_y_a, Nat.add_left_cancel_iff, mo_TSW, hs', H, hf, nI_1, nI_2, nI_pred, mo_LC, mo_LE, i01, i12, i23, i34, hv, hc, h0, hk, hco, hvc, hcc, hst, hpp, hob, hvp, hcp, l5, l24, l3, nI_add, Int32.add_zero, hic1, hip1, hv_ic0, hc_ic0, hv_ic1, hc_ic1, hv_ic2, hc_ic2, hv_ip0, hc_ip0, hv_ip1, hc_ip1, hv_ip2, hc_ip2, hd0, hd1, hd2, hd3, hd4, hd5, hd6, hd7, hd8, hcp7, hcc7, hW, m_push]
  rw [wh108_128]
  simp only [we99_0, we99_1, we108_0, we108_1, we108_2, we108_3, true_and, and_true, if_false, if_true, not_true_eq_false, not_false_eq_true, false_implies, true_implies, implies_true, forall_const, true_or, or_true, false_or, or_false, false_and, and_false, eq_self_iff_true, Option.toList_some, Option.toList_none, List.cons_append, List.nil_append, mo_cat_0, mo_cat_c, mo_ct_i, mo_ct_l, mo_ct_r, mo_ct_n, mo_ct_f, Nat.zero_le, Nat.reduceAdd, Nat.reduceLeDiff, Nat.reduceLT, Nat.reduceEqDiff, Nat.reduceSub, mo_rf_s, mo_rf_n, reduceCtorEq, mo_st, mo_st2, mo_lg_0, mo_lg_s, List.set_cons_zero, List.set_cons_succ, List.length_cons, List.length_nil, List.getElem?_cons_zero, List.getElem?_cons_succ, Nat.reduceBEq, Bool.false_eq_true, beq_self_eq_true, mo_ME, mo_u_a, mo_z_a, mo_y_a, Nat.add_left_cancel_iff, mo_TSW, hs', H, hf, nI_1, nI_2, nI_pred, mo_LC, mo_LE, i01, i12, i23, i34, hv, hc, h0, hk, hco, hvc, hcc, hst, hpp, hob, hvp, hcp, l5, l24, l3, nI_add, Int32.add_zero, hic1, hip1, hv_ic0, hc_ic0, hv_ic1, hc_ic1, hv_ic2, hc_ic2, hv_ip0, hc_ip0, hv_ip1, hc_ip1, hv_ip2, hc_ip2, hd0, hd1, hd2, hd3, hd4, hd5, hd6, hd7, hd8, hcp7, hcc7, hW, m_push]
  rw [wh108_128]
  simp only [we99_0, we99_1, we108_0, we108_1, we108_2, we108_3, true_and, and_true, if_false, if_true, not_true_eq_false, not_false_eq_true, false_implies, true_implies, implies_true, forall_const, true_or, or_true, false_or, or_false, false_and, and_false, eq_self_iff_true, Option.toList_some, Option.toList_none, List.cons_append, List.nil_append, mo_cat_0, mo_cat_c, mo_ct_i, mo_ct_l, mo_ct_r, mo_ct_n, mo_ct_f, Nat.zero_le, Nat.reduceAdd, Nat.reduceLeDiff, Nat.reduceLT, Nat.reduceEqDiff, Nat.reduceSub, mo_rf_s, mo_rf_n, reduceCtorEq, mo_st, mo_st2, mo_lg_0, mo_lg_s, List.set_cons_zero, List.set_cons_succ, List.length_cons, List.length_nil, List.getElem?_cons_zero, List.getElem?_cons_succ, Nat.reduceBEq, Bool.false_eq_true, beq_self_eq_true, mo_ME, mo_u_a, mo_z_a, mo_y_a, Nat.add_left_cancel_iff, mo_TSW, hs', H, hf, nI_1, nI_2, nI_pred, mo_LC, mo_LE, i01, i12, i23, i34, hv, hc, h0, hk, hco, hvc, hcc, hst, hpp, hob, hvp, hcp, l5, l24, l3, nI_add, Int32.add_zero, hic1, hip1, hv_ic0, hc_ic0, hv_ic1, hc_ic1, hv_ic2, hc_ic2, hv_ip0, hc_ip0, hv_ip1, hc_ip1, hv_ip2, hc_ip2, hd0, hd1, hd2, hd3, hd4, hd5, hd6, hd7, hd8, hcp7, hcc7, hW, m_push]
  refine kQ _ ⟨r_sh_c hs (by simp only [m_push, mo_ME]) (by simp only [m_push, mo_ME]) (by simp only [m_push, mo_ME]), ?_⟩ ?_
  · simp only [m_push, a_push, r_VW, hvw, hic, hip]
  · repeat (first | with_reducible exact r_fc_rf _ _ | with_reducible refine r_fc_push ?_ | with_reducible refine r_fc_I ?_ | with_reducible refine r_fc_L ?_ | with_reducible refine r_fc_AI (by decide) ?_ | with_reducible refine r_fc_AL (by decide) ?_)
set_option maxRecDepth 100000 in
set_option maxHeartbeats 2000000 in
theorem S_M1S {r f : Nat} {A : mo_A} {c p q : Nat} (hf : A.1 27 0 = nI (f + 1)) (hlt : f < 399) (h0 : A.1 37 0 = 0) (hk : A.1 28 f = 1) (hco : A.1 31 f = nI c) (hcl : c < 8) (hst : A.1 30 f = 1) (hpp : A.1 6 c = nI p) (hpc : p < c) (hob : A.1 32 f = nI q) (hql : q < 100) (hu : A.1 38 0 = 12) : r_S r A (a_I (a_I A 30 f 2) 37 0 8) := by
  intro μ h d Q kQ
  have hs := h.1
  have hs' := h.1
  unfold r_sh at hs'
  have hvw := h.2
  have H := r_rd h
  have hv : vp_in (nI f) 400 := vp_in_nI (by omega) (by decide)
  have hc : (nI f).toNatClampNeg = f := nI_clamp (by omega)
  have hvc : vp_in (nI c) 8 := vp_in_nI hcl (by decide)
  have hcc : (nI c).toNatClampNeg = c := nI_clamp (by omega)
  have hvp : vp_in (nI p) 8 := vp_in_nI (by omega) (by decide)
  have hcp : (nI p).toNatClampNeg = p := nI_clamp (by omega)
  have hW := fun d w1 x1 p1 c1 g1 Q => R_enterS (d := d) (μ := (mo_wAI μ (r + 25) f 2)) (r_sh_c hs (by simp only [mo_ME]) (by simp only [mo_ME]) (by simp only [mo_ME])) (by simp only [mo_ME, mo_u_a, Nat.reduceEqDiff, false_and, if_false]; exact (r_rdI h 38 rfl).trans hu) w1 x1 p1 c1 g1 Q
  simp only [we99_0, we99_1, we108_0, we108_1, we108_2, we108_3, en99, en108, true_and, and_true, if_false, if_true, not_true_eq_false, not_false_eq_true, false_implies, true_implies, implies_true, forall_const, true_or, or_true, false_or, or_false, false_and, and_false, eq_self_iff_true, Option.toList_some, Option.toList_none, List.cons_append, List.nil_append, mo_cat_0, mo_cat_c, mo_ct_i, mo_ct_l, mo_ct_r, mo_ct_n, mo_ct_f, Nat.zero_le, Nat.reduceAdd, Nat.reduceLeDiff, Nat.reduceLT, Nat.reduceEqDiff, Nat.reduceSub, mo_rf_s, mo_rf_n, reduceCtorEq, mo_st, mo_st2, mo_lg_0, mo_lg_s, List.set_cons_zero, List.set_cons_succ, List.length_cons, List.length_nil, List.getElem?_cons_zero, List.getElem?_cons_succ, Nat.reduceBEq, Bool.false_eq_true, beq_self_eq_true, mo_ME, mo_u_a, mo_z_a, mo_y_a, Nat.add_left_cancel_iff, mo_TSW, hs', H, hf, nI_1, nI_2, nI_pred, mo_LC, mo_LE, i01, i12, i23, i34, hv, hc, h0, hk, hco, hvc, hcc, hst, hpp, hob, hvp, hcp, l5, l24, l3, nI_add, Int32.add_zero, hW]
  rw [wh108_128]
  simp only [we99_0, we99_1, we108_0, we108_1, we108_2, we108_3, true_and, and_true, if_false, if_true, not_true_eq_false, not_false_eq_true, false_implies, true_implies, implies_true, forall_const, true_or, or_true, false_or, or_false, false_and, and_false, eq_self_iff_true, Option.toList_some, Option.toList_none, List.cons_append, List.nil_append, mo_cat_0, mo_cat_c, mo_ct_i, mo_ct_l, mo_ct_r, mo_ct_n, mo_ct_f, Nat.zero_le, Nat.reduceAdd, Nat.reduceLeDiff, Nat.reduceLT, Nat.reduceEqDiff, Nat.reduceSub, mo_rf_s, mo_rf_n, reduceCtorEq, mo_st, mo_st2, mo_lg_0, mo_lg_s, List.set_cons_zero, List.set_cons_succ, List.length_cons, List.length_nil, List.getElem?_cons_zero, List.getElem?_cons_succ, Nat.reduceBEq, Bool.false_eq_true, beq_self_eq_true, mo_ME, mo_u_a, mo_z_a, mo_y_a, Nat.add_left_cancel_iff, mo_TSW, hs', H, hf, nI_1, nI_2, nI_pred, mo_LC, mo_LE, i01, i12, i23, i34, hv, hc, h0, hk, hco, hvc, hcc, hst, hpp, hob, hvp, hcp, l5, l24, l3, nI_add, Int32.add_zero, hW]
  have key : Q none (mo_wI (mo_wAI μ (r + 25) f 2) 805 r 8) := by
    refine kQ _ ⟨r_sh_c hs (by simp only [m_push, mo_ME]) (by simp only [m_push, mo_ME]) (by simp only [m_push, mo_ME]), ?_⟩ ?_
    · simp only [m_push, a_push, r_VW, hvw]
    · repeat (first | with_reducible exact r_fc_rf _ _ | with_reducible refine r_fc_push ?_ | with_reducible refine r_fc_I ?_ | with_reducible refine r_fc_L ?_ | with_reducible refine r_fc_AI (by decide) ?_ | with_reducible refine r_fc_AL (by decide) ?_)
  exact ⟨fun _ => key, fun _ => key⟩
