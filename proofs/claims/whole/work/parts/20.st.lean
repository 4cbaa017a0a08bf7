theorem nI_ne {a b : Nat} (ha : a < 2 ^ 31) (hb : b < 2 ^ 31) (h : a ≠ b) : (nI a = nI b) = False := by rw [nI_inj ha hb]; simp [h]
set_option maxRecDepth 100000 in
theorem mo_TSW : mo_tsw 1 103 2 8 #[43, 63, 103, 103, 103, 83, 83] 2 = 44 ∧ mo_tsw 1 103 2 8 #[43, 63, 103, 103, 103, 83, 83] 3 = 64 ∧ mo_tsw 1 103 2 8 #[43, 63, 103, 103, 103, 83, 83] 4 = 104 ∧ mo_tsw 1 103 2 8 #[43, 63, 103, 103, 103, 83, 83] 5 = 104 ∧ mo_tsw 1 103 2 8 #[43, 63, 103, 103, 103, 83, 83] 6 = 104 ∧ mo_tsw 1 103 2 8 #[43, 63, 103, 103, 103, 83, 83] 7 = 84 ∧ mo_tsw 1 103 2 8 #[43, 63, 103, 103, 103, 83, 83] 8 = 84 ∧ mo_tsw 1 103 2 8 #[43, 63, 103, 103, 103, 83, 83] 0 = 104 ∧ mo_tsw 1 103 2 8 #[43, 63, 103, 103, 103, 83, 83] 1 = 104 ∧ mo_tsw 1 103 2 8 #[43, 63, 103, 103, 103, 83, 83] 9 = 104 ∧ mo_tsw 1 103 2 8 #[43, 63, 103, 103, 103, 83, 83] 10 = 104 ∧ mo_tsw 11 178 0 9 #[53, 58, 64, 73, 82, 87, 92, 100, 132, 159] 0 = 64 ∧ mo_tsw 11 178 0 9 #[53, 58, 64, 73, 82, 87, 92, 100, 132, 159] 1 = 69 ∧ mo_tsw 11 178 0 9 #[53, 58, 64, 73, 82, 87, 92, 100, 132, 159] 2 = 75 ∧ mo_tsw 11 178 0 9 #[53, 58, 64, 73, 82, 87, 92, 100, 132, 159] 3 = 84 ∧ mo_tsw 11 178 0 9 #[53, 58, 64, 73, 82, 87, 92, 100, 132, 159] 4 = 93 ∧ mo_tsw 11 178 0 9 #[53, 58, 64, 73, 82, 87, 92, 100, 132, 159] 5 = 98 ∧ mo_tsw 11 178 0 9 #[53, 58, 64, 73, 82, 87, 92, 100, 132, 159] 6 = 103 ∧ mo_tsw 11 178 0 9 #[53, 58, 64, 73, 82, 87, 92, 100, 132, 159] 7 = 111 ∧ mo_tsw 11 178 0 9 #[53, 58, 64, 73, 82, 87, 92, 100, 132, 159] 8 = 143 ∧ mo_tsw 11 178 0 9 #[53, 58, 64, 73, 82, 87, 92, 100, 132, 159] 9 = 170 ∧ mo_tsw 11 178 0 9 #[53, 58, 64, 73, 82, 87, 92, 100, 132, 159] 10 = 189 ∧ mo_tsw 1 126 0 7 #[47, 55, 63, 71, 82, 93, 104, 115] 0 = 48 ∧ mo_tsw 1 126 0 7 #[47, 55, 63, 71, 82, 93, 104, 115] 1 = 56 ∧ mo_tsw 1 126 0 7 #[47, 55, 63, 71, 82, 93, 104, 115] 2 = 64 ∧ mo_tsw 1 126 0 7 #[47, 55, 63, 71, 82, 93, 104, 115] 3 = 72 ∧ mo_tsw 1 126 0 7 #[47, 55, 63, 71, 82, 93, 104, 115] 4 = 83 ∧ mo_tsw 1 126 0 7 #[47, 55, 63, 71, 82, 93, 104, 115] 5 = 94 ∧ mo_tsw 1 126 0 7 #[47, 55, 63, 71, 82, 93, 104, 115] 6 = 105 ∧ mo_tsw 1 126 0 7 #[47, 55, 63, 71, 82, 93, 104, 115] 7 = 116 ∧ mo_tsw 31 253 0 10 #[57, 70, 83, 141, 253, 253, 253, 199, 199, 210, 221] 0 = 88 ∧ mo_tsw 31 253 0 10 #[57, 70, 83, 141, 253, 253, 253, 199, 199, 210, 221] 1 = 101 ∧ mo_tsw 31 253 0 10 #[57, 70, 83, 141, 253, 253, 253, 199, 199, 210, 221] 2 = 114 ∧ mo_tsw 31 253 0 10 #[57, 70, 83, 141, 253, 253, 253, 199, 199, 210, 221] 3 = 172 ∧ mo_tsw 31 253 0 10 #[57, 70, 83, 141, 253, 253, 253, 199, 199, 210, 221] 4 = 284 ∧ mo_tsw 31 253 0 10 #[57, 70, 83, 141, 253, 253, 253, 199, 199, 210, 221] 5 = 284 ∧ mo_tsw 31 253 0 10 #[57, 70, 83, 141, 253, 253, 253, 199, 199, 210, 221] 6 = 284 ∧ mo_tsw 31 253 0 10 #[57, 70, 83, 141, 253, 253, 253, 199, 199, 210, 221] 7 = 230 ∧ mo_tsw 31 253 0 10 #[57, 70, 83, 141, 253, 253, 253, 199, 199, 210, 221] 8 = 230 ∧ mo_tsw 31 253 0 10 #[57, 70, 83, 141, 253, 253, 253, 199, 199, 210, 221] 9 = 241 ∧ mo_tsw 31 253 0 10 #[57, 70, 83, 141, 253, 253, 253, 199, 199, 210, 221] 10 = 252 ∧ mo_tsw 1 87 0 7 #[47, 52, 57, 62, 67, 72, 77, 82] 0 = 48 ∧ mo_tsw 1 87 0 7 #[47, 52, 57, 62, 67, 72, 77, 82] 1 = 53 ∧ mo_tsw 1 87 0 7 #[47, 52, 57, 62, 67, 72, 77, 82] 2 = 58 ∧ mo_tsw 1 87 0 7 #[47, 52, 57, 62, 67, 72, 77, 82] 3 = 63 ∧ mo_tsw 1 87 0 7 #[47, 52, 57, 62, 67, 72, 77, 82] 4 = 68 ∧ mo_tsw 1 87 0 7 #[47, 52, 57, 62, 67, 72, 77, 82] 5 = 73 ∧ mo_tsw 1 87 0 7 #[47, 52, 57, 62, 67, 72, 77, 82] 6 = 78 ∧ mo_tsw 1 87 0 7 #[47, 52, 57, 62, 67, 72, 77, 82] 7 = 83 ∧ mo_tsw 33 989 0 17 #[87, 170, 213, 246, 289, 358, 421, 612, 685, 699, 732, 776, 820, 853, 896, 920, 953, 976] 0 = 120 ∧ mo_tsw 33 989 0 17 #[87, 170, 213, 246, 289, 358, 421, 612, 685, 699, 732, 776, 820, 853, 896, 920, 953, 976] 1 = 203 ∧ mo_tsw 33 989 0 17 #[87, 170, 213, 246, 289, 358, 421, 612, 685, 699, 732, 776, 820, 853, 896, 920, 953, 976] 2 = 246 ∧ mo_tsw 33 989 0 17 #[87, 170, 213, 246, 289, 358, 421, 612, 685, 699, 732, 776, 820, 853, 896, 920, 953, 976] 3 = 279 ∧ mo_tsw 33 989 0 17 #[87, 170, 213, 246, 289, 358, 421, 612, 685, 699, 732, 776, 820, 853, 896, 920, 953, 976] 4 = 322 ∧ mo_tsw 33 989 0 17 #[87, 170, 213, 246, 289, 358, 421, 612, 685, 699, 732, 776, 820, 853, 896, 920, 953, 976] 5 = 391 ∧ mo_tsw 33 989 0 17 #[87, 170, 213, 246, 289, 358, 421, 612, 685, 699, 732, 776, 820, 853, 896, 920, 953, 976] 6 = 454 ∧ mo_tsw 33 989 0 17 #[87, 170, 213, 246, 289, 358, 421, 612, 685, 699, 732, 776, 820, 853, 896, 920, 953, 976] 7 = 645 ∧ mo_tsw 33 989 0 17 #[87, 170, 213, 246, 289, 358, 421, 612, 685, 699, 732, 776, 820, 853, 896, 920, 953, 976] 8 = 718 ∧ mo_tsw 33 989 0 17 #[87, 170, 213, 246, 289, 358, 421, 612, 685, 699, 732, 776, 820, 853, 896, 920, 953, 976] 9 = 732 ∧ mo_tsw 33 989 0 17 #[87, 170, 213, 246, 289, 358, 421, 612, 685, 699, 732, 776, 820, 853, 896, 920, 953, 976] 10 = 765 ∧ mo_tsw 33 989 0 17 #[87, 170, 213, 246, 289, 358, 421, 612, 685, 699, 732, 776, 820, 853, 896, 920, 953, 976] 11 = 809 ∧ mo_tsw 33 989 0 17 #[87, 170, 213, 246, 289, 358, 421, 612, 685, 699, 732, 776, 820, 853, 896, 920, 953, 976] 12 = 853 ∧ mo_tsw 33 989 0 17 #[87, 170, 213, 246, 289, 358, 421, 612, 685, 699, 732, 776, 820, 853, 896, 920, 953, 976] 13 = 886 ∧ mo_tsw 33 989 0 17 #[87, 170, 213, 246, 289, 358, 421, 612, 685, 699, 732, 776, 820, 853, 896, 920, 953, 976] 14 = 929 ∧ mo_tsw 33 989 0 17 #[87, 170, 213, 246, 289, 358, 421, 612, 685, 699, 732, 776, 820, 853, 896, 920, 953, 976] 15 = 953 ∧ mo_tsw 33 989 0 17 #[87, 170, 213, 246, 289, 358, 421, 612, 685, 699, 732, 776, 820, 853, 896, 920, 953, 976] 16 = 986 ∧ mo_tsw 33 989 0 17 #[87, 170, 213, 246, 289, 358, 421, 612, 685, 699, 732, 776, 820, 853, 896, 920, 953, 976] 17 = 1009 ∧ mo_tsw 33 989 0 17 #[87, 170, 213, 246, 289, 358, 421, 612, 685, 699, 732, 776, 820, 853, 896, 920, 953, 976] 18 = 1022 ∧ mo_tsw 33 989 0 17 #[87, 170, 213, 246, 289, 358, 421, 612, 685, 699, 732, 776, 820, 853, 896, 920, 953, 976] 19 = 1022 ∧ mo_tsw 33 989 0 17 #[87, 170, 213, 246, 289, 358, 421, 612, 685, 699, 732, 776, 820, 853, 896, 920, 953, 976] 20 = 1022 ∧ mo_tsw 33 989 0 17 #[87, 170, 213, 246, 289, 358, 421, 612, 685, 699, 732, 776, 820, 853, 896, 920, 953, 976] 21 = 1022 ∧ mo_tsw 33 989 0 17 #[87, 170, 213, 246, 289, 358, 421, 612, 685, 699, 732, 776, 820, 853, 896, 920, 953, 976] 22 = 1022 ∧ mo_tsw 33 989 0 17 #[87, 170, 213, 246, 289, 358, 421, 612, 685, 699, 732, 776, 820, 853, 896, 920, 953, 976] 23 = 1022 ∧ mo_tsw 33 989 0 17 #[87, 170, 213, 246, 289, 358, 421, 612, 685, 699, 732, 776, 820, 853, 896, 920, 953, 976] 24 = 1022 ∧ mo_tsw 33 989 0 17 #[87, 170, 213, 246, 289, 358, 421, 612, 685, 699, 732, 776, 820, 853, 896, 920, 953, 976] 25 = 1022 ∧ mo_tsw 33 989 0 17 #[87, 170, 213, 246, 289, 358, 421, 612, 685, 699, 732, 776, 820, 853, 896, 920, 953, 976] 26 = 1022 ∧ mo_tsw 33 989 0 17 #[87, 170, 213, 246, 289, 358, 421, 612, 685, 699, 732, 776, 820, 853, 896, 920, 953, 976] 27 = 1022 ∧ mo_tsw 33 989 0 17 #[87, 170, 213, 246, 289, 358, 421, 612, 685, 699, 732, 776, 820, 853, 896, 920, 953, 976] 28 = 1022 ∧ mo_tsw 33 989 0 17 #[87, 170, 213, 246, 289, 358, 421, 612, 685, 699, 732, 776, 820, 853, 896, 920, 953, 976] 29 = 1022 ∧ mo_tsw 33 989 0 17 #[87, 170, 213, 246, 289, 358, 421, 612, 685, 699, 732, 776, 820, 853, 896, 920, 953, 976] 30 = 1022 ∧ mo_tsw 33 989 0 17 #[87, 170, 213, 246, 289, 358, 421, 612, 685, 699, 732, 776, 820, 853, 896, 920, 953, 976] 31 = 1022 := by
  refine ⟨?_, ?_, ?_, ?_, ?_, ?_, ?_, ?_, ?_, ?_, ?_, ?_, ?_, ?_, ?_, ?_, ?_, ?_, ?_, ?_, ?_, ?_, ?_, ?_, ?_, ?_, ?_, ?_, ?_, ?_, ?_, ?_, ?_, ?_, ?_, ?_, ?_, ?_, ?_, ?_, ?_, ?_, ?_, ?_, ?_, ?_, ?_, ?_, ?_, ?_, ?_, ?_, ?_, ?_, ?_, ?_, ?_, ?_, ?_, ?_, ?_, ?_, ?_, ?_, ?_, ?_, ?_, ?_, ?_, ?_, ?_, ?_, ?_, ?_, ?_, ?_, ?_, ?_, ?_, ?_, ?_⟩ <;> decide +kernel
theorem r_rdI {r : Nat} {μ : mo_Mem} {A : mo_A} (h : r_at r μ A) (j : Nat) (hj : r_off j = 0) : mo_I μ (768 + j) r = A.1 j 0 := by
  obtain ⟨-, rfl⟩ := h
  simp [r_vw, hj]
theorem l3 (c : Nat) : (3 : Int32) * nI c = nI (3 * c) := pk_mul 3 c
theorem l4 (c : Nat) : (4 : Int32) * nI c = nI (4 * c) := pk_mul 4 c
theorem l5 (c : Nat) : (5 : Int32) * nI c = nI (5 * c) := pk_mul 5 c
theorem l8 (c : Nat) : (8 : Int32) * nI c = nI (8 * c) := pk_mul 8 c
theorem l24 (c : Nat) : (24 : Int32) * nI c = nI (24 * c) := pk_mul 24 c
theorem l32 (c : Nat) : (32 : Int32) * nI c = nI (32 * c) := pk_mul 32 c
theorem cmL (x y : Int64) : (lg_cmp x y < 0) = (x < y) := propext (lg_cmp_lt x y)
theorem cmE (x y : Int64) : (lg_cmp x y = 0) = (x = y) := propext (lg_cmp_eq x y)
set_option maxRecDepth 100000 in
set_option maxHeartbeats 1000000 in
theorem S_num {r f : Nat} {A : mo_A} {e : Nat} (hf : A.1 27 0 = nI (f + 1)) (hlt : f < 399) (h0 : A.1 37 0 = 0) (hk : A.1 28 f = 0) (he : A.1 29 f = nI e) (hel : e < 60) (hsrt : A.1 1 e = 0) : r_S r A (a_I (a_L (a_I A 30 f (A.1 30 f + 1)) 36 0 (A.2 2 e)) 27 0 (nI f)) := by
  intro μ h d Q kQ
  have hs := h.1
  have hs' := h.1
  unfold r_sh at hs'
  have hvw := h.2
  have H := r_rd h
  have hv : vp_in (nI f) 400 := vp_in_nI (by omega) (by decide)
  have hc : (nI f).toNatClampNeg = f := nI_clamp (by omega)
  have hve : vp_in (nI e) 60 := vp_in_nI hel (by decide)
  have hce : (nI e).toNatClampNeg = e := nI_clamp (by omega)
  have hW := fun d v Q => R_tell (d := d) (μ := (mo_wAI μ (r + 25) f (A.1 30 f + 1))) (t := f) (r_sh_c hs (by simp only [mo_ME]) (by simp only [mo_ME]) (by simp only [mo_ME])) (by simp only [mo_ME, mo_u_a, Nat.reduceEqDiff, false_and, if_false]; exact (r_rdI h 27 rfl).trans hf) v Q
  simp only [we99_0, we99_1, we103_0, we103_1, we103_2, we103_3, we103_4, en99, en103, true_and, and_true, if_false, if_true, not_true_eq_false, not_false_eq_true, false_implies, true_implies, implies_true, forall_const, true_or, or_true, false_or, or_false, false_and, and_false, eq_self_iff_true, Option.toList_some, Option.toList_none, List.cons_append, List.nil_append, mo_cat_0, mo_cat_c, mo_ct_i, mo_ct_l, mo_ct_r, mo_ct_n, mo_ct_f, Nat.zero_le, Nat.reduceAdd, Nat.reduceLeDiff, Nat.reduceLT, Nat.reduceEqDiff, Nat.reduceSub, mo_rf_s, mo_rf_n, reduceCtorEq, mo_st, mo_st2, mo_lg_0, mo_lg_s, List.set_cons_zero, List.set_cons_succ, List.length_cons, List.length_nil, List.getElem?_cons_zero, List.getElem?_cons_succ, Nat.reduceBEq, Bool.false_eq_true, beq_self_eq_true, mo_ME, mo_u_a, mo_z_a, mo_y_a, Nat.add_left_cancel_iff, mo_TSW, hs', H, hf, nI_1, nI_pred, mo_LC, Int32.reduceLT, Int32.reduceLE, i01, i12, i23, i34, hv, hc, h0, hk, he, hve, hce, hsrt, hW]
  refine kQ _ ⟨r_sh_c hs (by simp only [m_push, mo_ME]) (by simp only [m_push, mo_ME]) (by simp only [m_push, mo_ME]), ?_⟩ ?_
  · simp only [r_vw_push, r_VW, hvw]
  · repeat (first | with_reducible exact r_fc_rf _ _ | with_reducible refine r_fc_push ?_ | with_reducible refine r_fc_I ?_ | with_reducible refine r_fc_L ?_ | with_reducible refine r_fc_AI (by decide) ?_ | with_reducible refine r_fc_AL (by decide) ?_)
set_option maxRecDepth 100000 in
set_option maxHeartbeats 1000000 in
theorem S_given {r f : Nat} {A : mo_A} {e : Nat} (hf : A.1 27 0 = nI (f + 1)) (hlt : f < 399) (h0 : A.1 37 0 = 0) (hk : A.1 28 f = 0) (he : A.1 29 f = nI e) (hel : e < 60) (hsrt : A.1 1 e = 1) : r_S r A (a_I (a_L (a_I A 30 f (A.1 30 f + 1)) 36 0 (A.2 34 f)) 27 0 (nI f)) := by
  intro μ h d Q kQ
  have hs := h.1
  have hs' := h.1
  unfold r_sh at hs'
  have hvw := h.2
  have H := r_rd h
  have hv : vp_in (nI f) 400 := vp_in_nI (by omega) (by decide)
  have hc : (nI f).toNatClampNeg = f := nI_clamp (by omega)
  have hve : vp_in (nI e) 60 := vp_in_nI hel (by decide)
  have hce : (nI e).toNatClampNeg = e := nI_clamp (by omega)
  have hW := fun d v Q => R_tell (d := d) (μ := (mo_wAI μ (r + 25) f (A.1 30 f + 1))) (t := f) (r_sh_c hs (by simp only [mo_ME]) (by simp only [mo_ME]) (by simp only [mo_ME])) (by simp only [mo_ME, mo_u_a, Nat.reduceEqDiff, false_and, if_false]; exact (r_rdI h 27 rfl).trans hf) v Q
  simp only [we99_0, we99_1, we103_0, we103_1, we103_2, we103_3, we103_4, en99, en103, true_and, and_true, if_false, if_true, not_true_eq_false, not_false_eq_true, false_implies, true_implies, implies_true, forall_const, true_or, or_true, false_or, or_false, false_and, and_false, eq_self_iff_true, Option.toList_some, Option.toList_none, List.cons_append, List.nil_append, mo_cat_0, mo_cat_c, mo_ct_i, mo_ct_l, mo_ct_r, mo_ct_n, mo_ct_f, Nat.zero_le, Nat.reduceAdd, Nat.reduceLeDiff, Nat.reduceLT, Nat.reduceEqDiff, Nat.reduceSub, mo_rf_s, mo_rf_n, reduceCtorEq, mo_st, mo_st2, mo_lg_0, mo_lg_s, List.set_cons_zero, List.set_cons_succ, List.length_cons, List.length_nil, List.getElem?_cons_zero, List.getElem?_cons_succ, Nat.reduceBEq, Bool.false_eq_true, beq_self_eq_true, mo_ME, mo_u_a, mo_z_a, mo_y_a, Nat.add_left_cancel_iff, mo_TSW, hs', H, hf, nI_1, nI_pred, mo_LC, Int32.reduceLT, Int32.reduceLE, i01, i12, i23, i34, hv, hc, h0, hk, he, hve, hce, hsrt, hW]
  refine kQ _ ⟨r_sh_c hs (by simp only [m_push, mo_ME]) (by simp only [m_push, mo_ME]) (by simp only [m_push, mo_ME]), ?_⟩ ?_
  · simp only [r_vw_push, r_VW, hvw]
  · repeat (first | with_reducible exact r_fc_rf _ _ | with_reducible refine r_fc_push ?_ | with_reducible refine r_fc_I ?_ | with_reducible refine r_fc_L ?_ | with_reducible refine r_fc_AI (by decide) ?_ | with_reducible refine r_fc_AL (by decide) ?_)
set_option maxRecDepth 100000 in
set_option maxHeartbeats 1000000 in
theorem S_cap {r f : Nat} {A : mo_A} {e c p k : Nat} (hf : A.1 27 0 = nI (f + 1)) (hlt : f < 399) (h0 : A.1 37 0 = 0) (hk : A.1 28 f = 0) (he : A.1 29 f = nI e) (hel : e < 60) (hsrt : A.1 1 e = 2) (hco : A.1 31 f = nI c) (hcl : c < 8) (hob : A.1 32 f = nI p) (hpl : p < 100) (hn : A.2 2 e = lN k) (hkl : k < 3) (hlt2 : lN k < (A.1 7 c).toInt64) : r_S r A (a_I (a_L (a_I A 30 f (A.1 30 f + 1)) 36 0 (A.2 20 (24 * p + 3 * c + k))) 27 0 (nI f)) := by
  intro μ h d Q kQ
  have hs := h.1
  have hs' := h.1
  unfold r_sh at hs'
  have hvw := h.2
  have H := r_rd h
  have hv : vp_in (nI f) 400 := vp_in_nI (by omega) (by decide)
  have hc : (nI f).toNatClampNeg = f := nI_clamp (by omega)
  have hve : vp_in (nI e) 60 := vp_in_nI hel (by decide)
  have hce : (nI e).toNatClampNeg = e := nI_clamp (by omega)
  have hvc : vp_in (nI c) 8 := vp_in_nI hcl (by decide)
  have hcc : (nI c).toNatClampNeg = c := nI_clamp (by omega)
  have hv_i : vp_in (nI (24 * p + 3 * c + k)) 2400 := vp_in_nI (by omega) (by decide)
  have hc_i : (nI (24 * p + 3 * c + k)).toNatClampNeg = 24 * p + 3 * c + k := nI_clamp (by omega)
  have hW := fun d v Q => R_tell (d := d) (μ := (mo_wAI μ (r + 25) f (A.1 30 f + 1))) (t := f) (r_sh_c hs (by simp only [mo_ME]) (by simp only [mo_ME]) (by simp only [mo_ME])) (by simp only [mo_ME, mo_u_a, Nat.reduceEqDiff, false_and, if_false]; exact (r_rdI h 27 rfl).trans hf) v Q
  simp only [we99_0, we99_1, we103_0, we103_1, we103_2, we103_3, we103_4, en99, en103, true_and, and_true, if_false, if_true, not_true_eq_false, not_false_eq_true, false_implies, true_implies, implies_true, forall_const, true_or, or_true, false_or, or_false, false_and, and_false, eq_self_iff_true, Option.toList_some, Option.toList_none, List.cons_append, List.nil_append, mo_cat_0, mo_cat_c, mo_ct_i, mo_ct_l, mo_ct_r, mo_ct_n, mo_ct_f, Nat.zero_le, Nat.reduceAdd, Nat.reduceLeDiff, Nat.reduceLT, Nat.reduceEqDiff, Nat.reduceSub, mo_rf_s, mo_rf_n, reduceCtorEq, mo_st, mo_st2, mo_lg_0, mo_lg_s, List.set_cons_zero, List.set_cons_succ, List.length_cons, List.length_nil, List.getElem?_cons_zero, List.getElem?_cons_succ, Nat.reduceBEq, Bool.false_eq_true, beq_self_eq_true, mo_ME, mo_u_a, mo_z_a, mo_y_a, Nat.add_left_cancel_iff, mo_TSW, hs', H, hf, nI_1, nI_pred, mo_LC, Int32.reduceLT, Int32.reduceLE, i01, i12, i23, i34, hv, hc, h0, hk, he, hve, hce, hsrt, hco, hvc, hcc, hob, hn, hlt2, cmL, l24, l32, l3, l4, nI_add, lN_i, hv_i, hc_i, hW]
  refine kQ _ ⟨r_sh_c hs (by simp only [m_push, mo_ME]) (by simp only [m_push, mo_ME]) (by simp only [m_push, mo_ME]), ?_⟩ ?_
  · simp only [r_vw_push, r_VW, hvw]
  · repeat (first | with_reducible exact r_fc_rf _ _ | with_reducible refine r_fc_push ?_ | with_reducible refine r_fc_I ?_ | with_reducible refine r_fc_L ?_ | with_reducible refine r_fc_AI (by decide) ?_ | with_reducible refine r_fc_AL (by decide) ?_)
set_option maxRecDepth 100000 in
set_option maxHeartbeats 1000000 in
theorem S_capFa {r f : Nat} {A : mo_A} {e c q : Nat} (hf : A.1 27 0 = nI (f + 1)) (hlt : f < 399) (h0 : A.1 37 0 = 0) (hk : A.1 28 f = 0) (he : A.1 29 f = nI e) (hel : e < 60) (hsrt : A.1 1 e = 2) (hco : A.1 31 f = nI c) (hcl : c < 8) (hlt2 : ¬ A.2 2 e < (A.1 7 c).toInt64) (hq : A.1 39 0 = nI q) (hq4 : q < 4) : r_S r A (a_I (a_I (a_I A 30 f (A.1 30 f + 1)) 39 0 (nI (q + 1))) 37 0 2) := by
  intro μ h d Q kQ
  have hs := h.1
  have hs' := h.1
  unfold r_sh at hs'
  have hvw := h.2
  have H := r_rd h
  have hv : vp_in (nI f) 400 := vp_in_nI (by omega) (by decide)
  have hc : (nI f).toNatClampNeg = f := nI_clamp (by omega)
  have hve : vp_in (nI e) 60 := vp_in_nI hel (by decide)
  have hce : (nI e).toNatClampNeg = e := nI_clamp (by omega)
  have hvc : vp_in (nI c) 8 := vp_in_nI hcl (by decide)
  have hcc : (nI c).toNatClampNeg = c := nI_clamp (by omega)
  have hW := fun d w Q => R_fail (d := d) (μ := (mo_wAI μ (r + 25) f (A.1 30 f + 1))) (k := q) (r_sh_c hs (by simp only [mo_ME]) (by simp only [mo_ME]) (by simp only [mo_ME])) (by simp only [mo_ME, mo_u_a, Nat.reduceEqDiff, false_and, if_false]; exact (r_rdI h 39 rfl).trans hq) hq4 w Q
  simp only [we99_0, we99_1, we103_0, we103_1, we103_2, we103_3, we103_4, en99, en103, true_and, and_true, if_false, if_true, not_true_eq_false, not_false_eq_true, false_implies, true_implies, implies_true, forall_const, true_or, or_true, false_or, or_false, false_and, and_false, eq_self_iff_true, Option.toList_some, Option.toList_none, List.cons_append, List.nil_append, mo_cat_0, mo_cat_c, mo_ct_i, mo_ct_l, mo_ct_r, mo_ct_n, mo_ct_f, Nat.zero_le, Nat.reduceAdd, Nat.reduceLeDiff, Nat.reduceLT, Nat.reduceEqDiff, Nat.reduceSub, mo_rf_s, mo_rf_n, reduceCtorEq, mo_st, mo_st2, mo_lg_0, mo_lg_s, List.set_cons_zero, List.set_cons_succ, List.length_cons, List.length_nil, List.getElem?_cons_zero, List.getElem?_cons_succ, Nat.reduceBEq, Bool.false_eq_true, beq_self_eq_true, mo_ME, mo_u_a, mo_z_a, mo_y_a, Nat.add_left_cancel_iff, mo_TSW, hs', H, hf, nI_1, nI_pred, mo_LC, Int32.reduceLT, Int32.reduceLE, i01, i12, i23, i34, hv, hc, h0, hk, he, hve, hce, hsrt, hco, hvc, hcc, hlt2, cmL, hW]
  refine kQ _ ⟨r_sh_c hs (by simp only [m_push, mo_ME]) (by simp only [m_push, mo_ME]) (by simp only [m_push, mo_ME]), ?_⟩ ?_
  · simp only [r_vw_push, r_VW, hvw]
  · repeat (first | with_reducible exact r_fc_rf _ _ | with_reducible refine r_fc_push ?_ | with_reducible refine r_fc_I ?_ | with_reducible refine r_fc_L ?_ | with_reducible refine r_fc_AI (by decide) ?_ | with_reducible refine r_fc_AL (by decide) ?_)
set_option maxRecDepth 100000 in
set_option maxHeartbeats 1000000 in
theorem S_capFb {r f : Nat} {A : mo_A} {e c  : Nat} (hf : A.1 27 0 = nI (f + 1)) (hlt : f < 399) (h0 : A.1 37 0 = 0) (hk : A.1 28 f = 0) (he : A.1 29 f = nI e) (hel : e < 60) (hsrt : A.1 1 e = 2) (hco : A.1 31 f = nI c) (hcl : c < 8) (hlt2 : ¬ A.2 2 e < (A.1 7 c).toInt64) (hq : A.1 39 0 = nI 4) : r_S r A (a_I (a_I (a_I A 30 f (A.1 30 f + 1)) 39 0 (nI 5)) 37 0 8) := by
  intro μ h d Q kQ
  have hs := h.1
  have hs' := h.1
  unfold r_sh at hs'
  have hvw := h.2
  have H := r_rd h
  have hv : vp_in (nI f) 400 := vp_in_nI (by omega) (by decide)
  have hc : (nI f).toNatClampNeg = f := nI_clamp (by omega)
  have hve : vp_in (nI e) 60 := vp_in_nI hel (by decide)
  have hce : (nI e).toNatClampNeg = e := nI_clamp (by omega)
  have hvc : vp_in (nI c) 8 := vp_in_nI hcl (by decide)
  have hcc : (nI c).toNatClampNeg = c := nI_clamp (by omega)
  have hW := fun d w Q => R_failS (d := d) (μ := (mo_wAI μ (r + 25) f (A.1 30 f + 1))) (r_sh_c hs (by simp only [mo_ME]) (by simp only [mo_ME]) (by simp only [mo_ME])) (by simp only [mo_ME, mo_u_a, Nat.reduceEqDiff, false_and, if_false]; exact (r_rdI h 39 rfl).trans hq) w Q
  simp only [we99_0, we99_1, we103_0, we103_1, we103_2, we103_3, we103_4, en99, en103, true_and, and_true, if_false, if_true, not_true_eq_false, not_false_eq_true, false_implies, true_implies, implies_true, forall_const, true_or, or_true, false_or, or_false, false_and, and_false, eq_self_iff_true, Option.toList_some, Option.toList_none, List.cons_append, List.nil_append, mo_cat_0, mo_cat_c, mo_ct_i, mo_ct_l, mo_ct_r, mo_ct_n, mo_ct_f, Nat.zero_le, Nat.reduceAdd, Nat.reduceLeDiff, Nat.reduceLT, Nat.reduceEqDiff, Nat.reduceSub, mo_rf_s, mo_rf_n, reduceCtorEq, mo_st, mo_st2, mo_lg_0, mo_lg_s, List.set_cons_zero, List.set_cons_succ, List.length_cons, List.length_nil, List.getElem?_cons_zero, List.getElem?_cons_succ, Nat.reduceBEq, Bool.false_eq_true, beq_self_eq_true, mo_ME, mo_u_a, mo_z_a, mo_y_a, Nat.add_left_cancel_iff, mo_TSW, hs', H, hf, nI_1, nI_pred, mo_LC, Int32.reduceLT, Int32.reduceLE, i01, i12, i23, i34, hv, hc, h0, hk, he, hve, hce, hsrt, hco, hvc, hcc, hlt2, cmL, hW]
  refine kQ _ ⟨r_sh_c hs (by simp only [m_push, mo_ME]) (by simp only [m_push, mo_ME]) (by simp only [m_push, mo_ME]), ?_⟩ ?_
  · simp only [r_vw_push, r_VW, hvw]
  · repeat (first | with_reducible exact r_fc_rf _ _ | with_reducible refine r_fc_push ?_ | with_reducible refine r_fc_I ?_ | with_reducible refine r_fc_L ?_ | with_reducible refine r_fc_AI (by decide) ?_ | with_reducible refine r_fc_AL (by decide) ?_)
set_option maxRecDepth 100000 in
set_option maxHeartbeats 1000000 in
theorem S_fld {r f : Nat} {A : mo_A} {e c p k : Nat} (hf : A.1 27 0 = nI (f + 1)) (hlt : f < 399) (h0 : A.1 37 0 = 0) (hk : A.1 28 f = 0) (he : A.1 29 f = nI e) (hel : e < 60) (hsrt : A.1 1 e = 3) (hco : A.1 31 f = nI c) (hcl : c < 8) (hob : A.1 32 f = nI p) (hpl : p < 100) (hn : A.2 2 e = lN k) (hkl : k < 4) (hlt2 : lN k < (A.1 8 c).toInt64) : r_S r A (a_I (a_L (a_I A 30 f (A.1 30 f + 1)) 36 0 (A.2 21 (32 * p + 4 * c + k))) 27 0 (nI f)) := by
  intro μ h d Q kQ
  have hs := h.1
  have hs' := h.1
  unfold r_sh at hs'
  have hvw := h.2
  have H := r_rd h
  have hv : vp_in (nI f) 400 := vp_in_nI (by omega) (by decide)
  have hc : (nI f).toNatClampNeg = f := nI_clamp (by omega)
  have hve : vp_in (nI e) 60 := vp_in_nI hel (by decide)
  have hce : (nI e).toNatClampNeg = e := nI_clamp (by omega)
  have hvc : vp_in (nI c) 8 := vp_in_nI hcl (by decide)
  have hcc : (nI c).toNatClampNeg = c := nI_clamp (by omega)
  have hv_i : vp_in (nI (32 * p + 4 * c + k)) 3200 := vp_in_nI (by omega) (by decide)
  have hc_i : (nI (32 * p + 4 * c + k)).toNatClampNeg = 32 * p + 4 * c + k := nI_clamp (by omega)
  have hW := fun d v Q => R_tell (d := d) (μ := (mo_wAI μ (r + 25) f (A.1 30 f + 1))) (t := f) (r_sh_c hs (by simp only [mo_ME]) (by simp only [mo_ME]) (by simp only [mo_ME])) (by simp only [mo_ME, mo_u_a, Nat.reduceEqDiff, false_and, if_false]; exact (r_rdI h 27 rfl).trans hf) v Q
  simp only [we99_0, we99_1, we103_0, we103_1, we103_2, we103_3, we103_4, en99, en103, true_and, and_true, if_false, if_true, not_true_eq_false, not_false_eq_true, false_implies, true_implies, implies_true, forall_const, true_or, or_true, false_or, or_false, false_and, and_false, eq_self_iff_true, Option.toList_some, Option.toList_none, List.cons_append, List.nil_append, mo_cat_0, mo_cat_c, mo_ct_i, mo_ct_l, mo_ct_r, mo_ct_n, mo_ct_f, Nat.zero_le, Nat.reduceAdd, Nat.reduceLeDiff, Nat.reduceLT, Nat.reduceEqDiff, Nat.reduceSub, mo_rf_s, mo_rf_n, reduceCtorEq, mo_st, mo_st2, mo_lg_0, mo_lg_s, List.set_cons_zero, List.set_cons_succ, List.length_cons, List.length_nil, List.getElem?_cons_zero, List.getElem?_cons_succ, Nat.reduceBEq, Bool.false_eq_true, beq_self_eq_true, mo_ME, mo_u_a, mo_z_a, mo_y_a, Nat.add_left_cancel_iff, mo_TSW, hs', H, hf, nI_1, nI_pred, mo_LC, Int32.reduceLT, Int32.reduceLE, i01, i12, i23, i34, hv, hc, h0, hk, he, hve, hce, hsrt, hco, hvc, hcc, hob, hn, hlt2, cmL, l24, l32, l3, l4, nI_add, lN_i, hv_i, hc_i, hW]
  refine kQ _ ⟨r_sh_c hs (by simp only [m_push, mo_ME]) (by simp only [m_push, mo_ME]) (by simp only [m_push, mo_ME]), ?_⟩ ?_
  · simp only [r_vw_push, r_VW, hvw]
  · repeat (first | with_reducible exact r_fc_rf _ _ | with_reducible refine r_fc_push ?_ | with_reducible refine r_fc_I ?_ | with_reducible refine r_fc_L ?_ | with_reducible refine r_fc_AI (by decide) ?_ | with_reducible refine r_fc_AL (by decide) ?_)
set_option maxRecDepth 100000 in
set_option maxHeartbeats 1000000 in
theorem S_fldFa {r f : Nat} {A : mo_A} {e c q : Nat} (hf : A.1 27 0 = nI (f + 1)) (hlt : f < 399) (h0 : A.1 37 0 = 0) (hk : A.1 28 f = 0) (he : A.1 29 f = nI e) (hel : e < 60) (hsrt : A.1 1 e = 3) (hco : A.1 31 f = nI c) (hcl : c < 8) (hlt2 : ¬ A.2 2 e < (A.1 8 c).toInt64) (hq : A.1 39 0 = nI q) (hq4 : q < 4) : r_S r A (a_I (a_I (a_I A 30 f (A.1 30 f + 1)) 39 0 (nI (q + 1))) 37 0 2) := by
  intro μ h d Q kQ
  have hs := h.1
  have hs' := h.1
  unfold r_sh at hs'
  have hvw := h.2
  have H := r_rd h
  have hv : vp_in (nI f) 400 := vp_in_nI (by omega) (by decide)
  have hc : (nI f).toNatClampNeg = f := nI_clamp (by omega)
  have hve : vp_in (nI e) 60 := vp_in_nI hel (by decide)
  have hce : (nI e).toNatClampNeg = e := nI_clamp (by omega)
  have hvc : vp_in (nI c) 8 := vp_in_nI hcl (by decide)
  have hcc : (nI c).toNatClampNeg = c := nI_clamp (by omega)
  have hW := fun d w Q => R_fail (d := d) (μ := (mo_wAI μ (r + 25) f (A.1 30 f + 1))) (k := q) (r_sh_c hs (by simp only [mo_ME]) (by simp only [mo_ME]) (by simp only [mo_ME])) (by simp only [mo_ME, mo_u_a, Nat.reduceEqDiff, false_and, if_false]; exact (r_rdI h 39 rfl).trans hq) hq4 w Q
  simp only [we99_0, we99_1, we103_0, we103_1, we103_2, we103_3, we103_4, en99, en103, true_and, and_true, if_false, if_true, not_true_eq_false, not_false_eq_true, false_implies, true_implies, implies_true, forall_const, true_or, or_true, false_or, or_false, false_and, and_false, eq_self_iff_true, Option.toList_some, Option.toList_none, List.cons_append, List.nil_append, mo_cat_0, mo_cat_c, mo_ct_i, mo_ct_l, mo_ct_r, mo_ct_n, mo_ct_f, Nat.zero_le, Nat.reduceAdd, Nat.reduceLeDiff, Nat.reduceLT, Nat.reduceEqDiff, Nat.reduceSub, mo_rf_s, mo_rf_n, reduceCtorEq, mo_st, mo_st2, mo_lg_0, mo_lg_s, List.set_cons_zero, List.set_cons_succ, List.length_cons, List.length_nil, List.getElem?_cons_zero, List.getElem?_cons_succ, Nat.reduceBEq, Bool.false_eq_true, beq_self_eq_true, mo_ME, mo_u_a, mo_z_a, mo_y_a, Nat.add_left_cancel_iff, mo_TSW, hs', H, hf, nI_1, nI_pred, mo_LC, Int32.reduceLT, Int32.reduceLE, i01, i12, i23, i34, hv, hc, h0, hk, he, hve, hce, hsrt, hco, hvc, hcc, hlt2, cmL, hW]
  refine kQ _ ⟨r_sh_c hs (by simp only [m_push, mo_ME]) (by simp only [m_push, mo_ME]) (by simp only [m_push, mo_ME]), ?_⟩ ?_
  · simp only [r_vw_push, r_VW, hvw]
  · repeat (first | with_reducible exact r_fc_rf _ _ | with_reducible refine r_fc_push ?_ | with_reducible refine r_fc_I ?_ | with_reducible refine r_fc_L ?_ | with_reducible refine r_fc_AI (by decide) ?_ | with_reducible refine r_fc_AL (by decide) ?_)
set_option maxRecDepth 100000 in
set_option maxHeartbeats 1000000 in
theorem S_fldFb {r f : Nat} {A : mo_A} {e c  : Nat} (hf : A.1 27 0 = nI (f + 1)) (hlt : f < 399) (h0 : A.1 37 0 = 0) (hk : A.1 28 f = 0) (he : A.1 29 f = nI e) (hel : e < 60) (hsrt : A.1 1 e = 3) (hco : A.1 31 f = nI c) (hcl : c < 8) (hlt2 : ¬ A.2 2 e < (A.1 8 c).toInt64) (hq : A.1 39 0 = nI 4) : r_S r A (a_I (a_I (a_I A 30 f (A.1 30 f + 1)) 39 0 (nI 5)) 37 0 8) := by
  intro μ h d Q kQ
  have hs := h.1
  have hs' := h.1
  unfold r_sh at hs'
  have hvw := h.2
  have H := r_rd h
  have hv : vp_in (nI f) 400 := vp_in_nI (by omega) (by decide)
  have hc : (nI f).toNatClampNeg = f := nI_clamp (by omega)
  have hve : vp_in (nI e) 60 := vp_in_nI hel (by decide)
  have hce : (nI e).toNatClampNeg = e := nI_clamp (by omega)
  have hvc : vp_in (nI c) 8 := vp_in_nI hcl (by decide)
  have hcc : (nI c).toNatClampNeg = c := nI_clamp (by omega)
  have hW := fun d w Q => R_failS (d := d) (μ := (mo_wAI μ (r + 25) f (A.1 30 f + 1))) (r_sh_c hs (by simp only [mo_ME]) (by simp only [mo_ME]) (by simp only [mo_ME])) (by simp only [mo_ME, mo_u_a, Nat.reduceEqDiff, false_and, if_false]; exact (r_rdI h 39 rfl).trans hq) w Q
  simp only [we99_0, we99_1, we103_0, we103_1, we103_2, we103_3, we103_4, en99, en103, true_and, and_true, if_false, if_true, not_true_eq_false, not_false_eq_true, false_implies, true_implies, implies_true, forall_const, true_or, or_true, false_or, or_false, false_and, and_false, eq_self_iff_true, Option.toList_some, Option.toList_none, List.cons_append, List.nil_append, mo_cat_0, mo_cat_c, mo_ct_i, mo_ct_l, mo_ct_r, mo_ct_n, mo_ct_f, Nat.zero_le, Nat.reduceAdd, Nat.reduceLeDiff, Nat.reduceLT, Nat.reduceEqDiff, Nat.reduceSub, mo_rf_s, mo_rf_n, reduceCtorEq, mo_st, mo_st2, mo_lg_0, mo_lg_s, List.set_cons_zero, List.set_cons_succ, List.length_cons, List.length_nil, List.getElem?_cons_zero, List.getElem?_cons_succ, Nat.reduceBEq, Bool.false_eq_true, beq_self_eq_true, mo_ME, mo_u_a, mo_z_a, mo_y_a, Nat.add_left_cancel_iff, mo_TSW, hs', H, hf, nI_1, nI_pred, mo_LC, Int32.reduceLT, Int32.reduceLE, i01, i12, i23, i34, hv, hc, h0, hk, he, hve, hce, hsrt, hco, hvc, hcc, hlt2, cmL, hW]
  refine kQ _ ⟨r_sh_c hs (by simp only [m_push, mo_ME]) (by simp only [m_push, mo_ME]) (by simp only [m_push, mo_ME]), ?_⟩ ?_
  · simp only [r_vw_push, r_VW, hvw]
  · repeat (first | with_reducible exact r_fc_rf _ _ | with_reducible refine r_fc_push ?_ | with_reducible refine r_fc_I ?_ | with_reducible refine r_fc_L ?_ | with_reducible refine r_fc_AI (by decide) ?_ | with_reducible refine r_fc_AL (by decide) ?_)
set_option maxRecDepth 100000 in
set_option maxHeartbeats 1000000 in
theorem S_a4 {r f : Nat} {A : mo_A} {e b : Nat} (hf : A.1 27 0 = nI (f + 1)) (hlt : f < 399) (h0 : A.1 37 0 = 0) (hk : A.1 28 f = 0) (he : A.1 29 f = nI e) (hel : e < 60) (hsrt : A.1 1 e = 4) (hst : A.1 30 f = 0) (hb : A.1 40 0 = nI b) (hb3 : b < 300) : r_S r A (a_push (a_I (a_I A 30 f 1) 40 0 (nI (b + 1))) (f + 1) 0 (A.1 3 e) (A.1 32 f) (A.1 31 f) (A.2 34 f)) := by
  intro μ h d Q kQ
  have hs := h.1
  have hs' := h.1
  unfold r_sh at hs'
  have hvw := h.2
  have H := r_rd h
  have hv : vp_in (nI f) 400 := vp_in_nI (by omega) (by decide)
  have hc : (nI f).toNatClampNeg = f := nI_clamp (by omega)
  have hve : vp_in (nI e) 60 := vp_in_nI hel (by decide)
  have hce : (nI e).toNatClampNeg = e := nI_clamp (by omega)
  have hW := fun d e Q => R_work (d := d) (μ := (mo_wAI μ (r + 25) f 1)) (t := f + 1) (f := f) (b := b) (r_sh_c hs (by simp only [mo_ME]) (by simp only [mo_ME]) (by simp only [mo_ME])) (by simp only [mo_ME, mo_u_a, Nat.reduceEqDiff, false_and, if_false]; exact (r_rdI h 27 rfl).trans hf) (by omega) (by simp only [mo_ME, mo_u_a, Nat.reduceEqDiff, false_and, if_false]; exact (r_rdI h 40 rfl).trans hb) hb3 (by omega) e Q
  simp only [we99_0, we99_1, we103_0, we103_1, we103_2, we103_3, we103_4, we104_0, we104_1, we104_2, en99, en103, en104, true_and, and_true, if_false, if_true, not_true_eq_false, not_false_eq_true, false_implies, true_implies, implies_true, forall_const, true_or, or_true, false_or, or_false, false_and, and_false, eq_self_iff_true, Option.toList_some, Option.toList_none, List.cons_append, List.nil_append, mo_cat_0, mo_cat_c, mo_ct_i, mo_ct_l, mo_ct_r, mo_ct_n, mo_ct_f, Nat.zero_le, Nat.reduceAdd, Nat.reduceLeDiff, Nat.reduceLT, Nat.reduceEqDiff, Nat.reduceSub, mo_rf_s, mo_rf_n, reduceCtorEq, mo_st, mo_st2, mo_lg_0, mo_lg_s, List.set_cons_zero, List.set_cons_succ, List.length_cons, List.length_nil, List.getElem?_cons_zero, List.getElem?_cons_succ, Nat.reduceBEq, Bool.false_eq_true, beq_self_eq_true, mo_ME, mo_u_a, mo_z_a, mo_y_a, Nat.add_left_cancel_iff, mo_TSW, hs', H, hf, nI_1, nI_pred, mo_LC, Int32.reduceLT, Int32.reduceLE, i01, i12, i23, i34, hv, hc, h0, hk, he, hve, hce, hsrt, hst, hW]
  refine kQ _ ⟨r_sh_c hs (by simp only [m_push, mo_ME]) (by simp only [m_push, mo_ME]) (by simp only [m_push, mo_ME]), ?_⟩ ?_
  · simp only [r_vw_push, r_VW, hvw]
  · repeat (first | with_reducible exact r_fc_rf _ _ | with_reducible refine r_fc_push ?_ | with_reducible refine r_fc_I ?_ | with_reducible refine r_fc_L ?_ | with_reducible refine r_fc_AI (by decide) ?_ | with_reducible refine r_fc_AL (by decide) ?_)
set_option maxRecDepth 100000 in
set_option maxHeartbeats 1000000 in
theorem S_a4S {r f : Nat} {A : mo_A} {e : Nat} (hf : A.1 27 0 = nI (f + 1)) (hlt : f < 399) (h0 : A.1 37 0 = 0) (hk : A.1 28 f = 0) (he : A.1 29 f = nI e) (hel : e < 60) (hsrt : A.1 1 e = 4) (hst : A.1 30 f = 0) (hb : A.1 40 0 = 300) : r_S r A (a_I (a_I A 30 f 1) 37 0 8) := by
  intro μ h d Q kQ
  have hs := h.1
  have hs' := h.1
  unfold r_sh at hs'
  have hvw := h.2
  have H := r_rd h
  have hv : vp_in (nI f) 400 := vp_in_nI (by omega) (by decide)
  have hc : (nI f).toNatClampNeg = f := nI_clamp (by omega)
  have hve : vp_in (nI e) 60 := vp_in_nI hel (by decide)
  have hce : (nI e).toNatClampNeg = e := nI_clamp (by omega)
  have hW := fun d e x Q => R_workS (d := d) (μ := (mo_wAI μ (r + 25) f 1)) (r_sh_c hs (by simp only [mo_ME]) (by simp only [mo_ME]) (by simp only [mo_ME])) (by simp only [mo_ME, mo_u_a, Nat.reduceEqDiff, false_and, if_false]; exact (r_rdI h 40 rfl).trans hb) e x Q
  simp only [we99_0, we99_1, we103_0, we103_1, we103_2, we103_3, we103_4, we104_0, we104_1, we104_2, en99, en103, en104, true_and, and_true, if_false, if_true, not_true_eq_false, not_false_eq_true, false_implies, true_implies, implies_true, forall_const, true_or, or_true, false_or, or_false, false_and, and_false, eq_self_iff_true, Option.toList_some, Option.toList_none, List.cons_append, List.nil_append, mo_cat_0, mo_cat_c, mo_ct_i, mo_ct_l, mo_ct_r, mo_ct_n, mo_ct_f, Nat.zero_le, Nat.reduceAdd, Nat.reduceLeDiff, Nat.reduceLT, Nat.reduceEqDiff, Nat.reduceSub, mo_rf_s, mo_rf_n, reduceCtorEq, mo_st, mo_st2, mo_lg_0, mo_lg_s, List.set_cons_zero, List.set_cons_succ, List.length_cons, List.length_nil, List.getElem?_cons_zero, List.getElem?_cons_succ, Nat.reduceBEq, Bool.false_eq_true, beq_self_eq_true, mo_ME, mo_u_a, mo_z_a, mo_y_a, Nat.add_left_cancel_iff, mo_TSW, hs', H, hf, nI_1, nI_pred, mo_LC, Int32.reduceLT, Int32.reduceLE, i01, i12, i23, i34, hv, hc, h0, hk, he, hve, hce, hsrt, hst, hW]
  refine kQ _ ⟨r_sh_c hs (by simp only [m_push, mo_ME]) (by simp only [m_push, mo_ME]) (by simp only [m_push, mo_ME]), ?_⟩ ?_
  · simp only [r_vw_push, r_VW, hvw]
  · repeat (first | with_reducible exact r_fc_rf _ _ | with_reducible refine r_fc_push ?_ | with_reducible refine r_fc_I ?_ | with_reducible refine r_fc_L ?_ | with_reducible refine r_fc_AI (by decide) ?_ | with_reducible refine r_fc_AL (by decide) ?_)
set_option maxRecDepth 100000 in
set_option maxHeartbeats 1000000 in
theorem S_a5 {r f : Nat} {A : mo_A} {e b : Nat} (hf : A.1 27 0 = nI (f + 1)) (hlt : f < 399) (h0 : A.1 37 0 = 0) (hk : A.1 28 f = 0) (he : A.1 29 f = nI e) (hel : e < 60) (hsrt : A.1 1 e = 5) (hst : A.1 30 f = 0) (hb : A.1 40 0 = nI b) (hb3 : b < 300) : r_S r A (a_push (a_I (a_I A 30 f 1) 40 0 (nI (b + 1))) (f + 1) 0 (A.1 3 e) (A.1 32 f) (A.1 31 f) (A.2 34 f)) := by
  intro μ h d Q kQ
  have hs := h.1
  have hs' := h.1
  unfold r_sh at hs'
  have hvw := h.2
  have H := r_rd h
  have hv : vp_in (nI f) 400 := vp_in_nI (by omega) (by decide)
  have hc : (nI f).toNatClampNeg = f := nI_clamp (by omega)
  have hve : vp_in (nI e) 60 := vp_in_nI hel (by decide)
  have hce : (nI e).toNatClampNeg = e := nI_clamp (by omega)
  have hW := fun d e Q => R_work (d := d) (μ := (mo_wAI μ (r + 25) f 1)) (t := f + 1) (f := f) (b := b) (r_sh_c hs (by simp only [mo_ME]) (by simp only [mo_ME]) (by simp only [mo_ME])) (by simp only [mo_ME, mo_u_a, Nat.reduceEqDiff, false_and, if_false]; exact (r_rdI h 27 rfl).trans hf) (by omega) (by simp only [mo_ME, mo_u_a, Nat.reduceEqDiff, false_and, if_false]; exact (r_rdI h 40 rfl).trans hb) hb3 (by omega) e Q
  simp only [we99_0, we99_1, we103_0, we103_1, we103_2, we103_3, we103_4, we104_0, we104_1, we104_2, en99, en103, en104, true_and, and_true, if_false, if_true, not_true_eq_false, not_false_eq_true, false_implies, true_implies, implies_true, forall_const, true_or, or_true, false_or, or_false, false_and, and_false, eq_self_iff_true, Option.toList_some, Option.toList_none, List.cons_append, List.nil_append, mo_cat_0, mo_cat_c, mo_ct_i, mo_ct_l, mo_ct_r, mo_ct_n, mo_ct_f, Nat.zero_le, Nat.reduceAdd, Nat.reduceLeDiff, Nat.reduceLT, Nat.reduceEqDiff, Nat.reduceSub, mo_rf_s, mo_rf_n, reduceCtorEq, mo_st, mo_st2, mo_lg_0, mo_lg_s, List.set_cons_zero, List.set_cons_succ, List.length_cons, List.length_nil, List.getElem?_cons_zero, List.getElem?_cons_succ, Nat.reduceBEq, Bool.false_eq_true, beq_self_eq_true, mo_ME, mo_u_a, mo_z_a, mo_y_a, Nat.add_left_cancel_iff, mo_TSW, hs', H, hf, nI_1, nI_pred, mo_LC, Int32.reduceLT, Int32.reduceLE, i01, i12, i23, i34, hv, hc, h0, hk, he, hve, hce, hsrt, hst, hW]
  refine kQ _ ⟨r_sh_c hs (by simp only [m_push, mo_ME]) (by simp only [m_push, mo_ME]) (by simp only [m_push, mo_ME]), ?_⟩ ?_
  · simp only [r_vw_push, r_VW, hvw]
  · repeat (first | with_reducible exact r_fc_rf _ _ | with_reducible refine r_fc_push ?_ | with_reducible refine r_fc_I ?_ | with_reducible refine r_fc_L ?_ | with_reducible refine r_fc_AI (by decide) ?_ | with_reducible refine r_fc_AL (by decide) ?_)
set_option maxRecDepth 100000 in
set_option maxHeartbeats 1000000 in
theorem S_a5S {r f : Nat} {A : mo_A} {e : Nat} (hf : A.1 27 0 = nI (f + 1)) (hlt : f < 399) (h0 : A.1 37 0 = 0) (hk : A.1 28 f = 0) (he : A.1 29 f = nI e) (hel : e < 60) (hsrt : A.1 1 e = 5) (hst : A.1 30 f = 0) (hb : A.1 40 0 = 300) : r_S r A (a_I (a_I A 30 f 1) 37 0 8) := by
  intro μ h d Q kQ
  have hs := h.1
  have hs' := h.1
  unfold r_sh at hs'
  have hvw := h.2
  have H := r_rd h
  have hv : vp_in (nI f) 400 := vp_in_nI (by omega) (by decide)
  have hc : (nI f).toNatClampNeg = f := nI_clamp (by omega)
  have hve : vp_in (nI e) 60 := vp_in_nI hel (by decide)
  have hce : (nI e).toNatClampNeg = e := nI_clamp (by omega)
  have hW := fun d e x Q => R_workS (d := d) (μ := (mo_wAI μ (r + 25) f 1)) (r_sh_c hs (by simp only [mo_ME]) (by simp only [mo_ME]) (by simp only [mo_ME])) (by simp only [mo_ME, mo_u_a, Nat.reduceEqDiff, false_and, if_false]; exact (r_rdI h 40 rfl).trans hb) e x Q
  simp only [we99_0, we99_1, we103_0, we103_1, we103_2, we103_3, we103_4, we104_0, we104_1, we104_2, en99, en103, en104, true_and, and_true, if_false, if_true, not_true_eq_false, not_false_eq_true, false_implies, true_implies, implies_true, forall_const, true_or, or_true, false_or, or_false, false_and, and_false, eq_self_iff_true, Option.toList_some, Option.toList_none, List.cons_append, List.nil_append, mo_cat_0, mo_cat_c, mo_ct_i, mo_ct_l, mo_ct_r, mo_ct_n, mo_ct_f, Nat.zero_le, Nat.reduceAdd, Nat.reduceLeDiff, Nat.reduceLT, Nat.reduceEqDiff, Nat.reduceSub, mo_rf_s, mo_rf_n, reduceCtorEq, mo_st, mo_st2, mo_lg_0, mo_lg_s, List.set_cons_zero, List.set_cons_succ, List.length_cons, List.length_nil, List.getElem?_cons_zero, List.getElem?_cons_succ, Nat.reduceBEq, Bool.false_eq_true, beq_self_eq_true, mo_ME, mo_u_a, mo_z_a, mo_y_a, Nat.add_left_cancel_iff, mo_TSW, hs', H, hf, nI_1, nI_pred, mo_LC, Int32.reduceLT, Int32.reduceLE, i01, i12, i23, i34, hv, hc, h0, hk, he, hve, hce, hsrt, hst, hW]
  refine kQ _ ⟨r_sh_c hs (by simp only [m_push, mo_ME]) (by simp only [m_push, mo_ME]) (by simp only [m_push, mo_ME]), ?_⟩ ?_
  · simp only [r_vw_push, r_VW, hvw]
  · repeat (first | with_reducible exact r_fc_rf _ _ | with_reducible refine r_fc_push ?_ | with_reducible refine r_fc_I ?_ | with_reducible refine r_fc_L ?_ | with_reducible refine r_fc_AI (by decide) ?_ | with_reducible refine r_fc_AL (by decide) ?_)
set_option maxRecDepth 100000 in
set_option maxHeartbeats 1000000 in
theorem S_a6 {r f : Nat} {A : mo_A} {e b : Nat} (hf : A.1 27 0 = nI (f + 1)) (hlt : f < 399) (h0 : A.1 37 0 = 0) (hk : A.1 28 f = 0) (he : A.1 29 f = nI e) (hel : e < 60) (hsrt : A.1 1 e = 6) (hst : A.1 30 f = 0) (hb : A.1 40 0 = nI b) (hb3 : b < 300) : r_S r A (a_push (a_I (a_I A 30 f 1) 40 0 (nI (b + 1))) (f + 1) 0 (A.1 3 e) (A.1 32 f) (A.1 31 f) (A.2 34 f)) := by
  intro μ h d Q kQ
  have hs := h.1
  have hs' := h.1
  unfold r_sh at hs'
  have hvw := h.2
  have H := r_rd h
  have hv : vp_in (nI f) 400 := vp_in_nI (by omega) (by decide)
  have hc : (nI f).toNatClampNeg = f := nI_clamp (by omega)
  have hve : vp_in (nI e) 60 := vp_in_nI hel (by decide)
  have hce : (nI e).toNatClampNeg = e := nI_clamp (by omega)
  have hW := fun d e Q => R_work (d := d) (μ := (mo_wAI μ (r + 25) f 1)) (t := f + 1) (f := f) (b := b) (r_sh_c hs (by simp only [mo_ME]) (by simp only [mo_ME]) (by simp only [mo_ME])) (by simp only [mo_ME, mo_u_a, Nat.reduceEqDiff, false_and, if_false]; exact (r_rdI h 27 rfl).trans hf) (by omega) (by simp only [mo_ME, mo_u_a, Nat.reduceEqDiff, false_and, if_false]; exact (r_rdI h 40 rfl).trans hb) hb3 (by omega) e Q
  simp only [we99_0, we99_1, we103_0, we103_1, we103_2, we103_3, we103_4, we104_0, we104_1, we104_2, en99, en103, en104, true_and, and_true, if_false, if_true, not_true_eq_false, not_false_eq_true, false_implies, true_implies, implies_true, forall_const, true_or, or_true, false_or, or_false, false_and, and_false, eq_self_iff_true, Option.toList_some, Option.toList_none, List.cons_append, List.nil_append, mo_cat_0, mo_cat_c, mo_ct_i, mo_ct_l, mo_ct_r, mo_ct_n, mo_ct_f, Nat.zero_le, Nat.reduceAdd, Nat.reduceLeDiff, Nat.reduceLT, Nat.reduceEqDiff, Nat.reduceSub, mo_rf_s, mo_rf_n, reduceCtorEq, mo_st, mo_st2, mo_lg_0, mo_lg_s, List.set_cons_zero, List.set_cons_succ, List.length_cons, List.length_nil, List.getElem?_cons_zero, List.getElem?_cons_succ, Nat.reduceBEq, Bool.false_eq_true, beq_self_eq_true, mo_ME, mo_u_a, mo_z_a, mo_y_a, Nat.add_left_cancel_iff, mo_TSW, hs', H, hf, nI_1, nI_pred, mo_LC, Int32.reduceLT, Int32.reduceLE, i01, i12, i23, i34, hv, hc, h0, hk, he, hve, hce, hsrt, hst, hW]
  refine kQ _ ⟨r_sh_c hs (by simp only [m_push, mo_ME]) (by simp only [m_push, mo_ME]) (by simp only [m_push, mo_ME]), ?_⟩ ?_
  · simp only [r_vw_push, r_VW, hvw]
  · repeat (first | with_reducible exact r_fc_rf _ _ | with_reducible refine r_fc_push ?_ | with_reducible refine r_fc_I ?_ | with_reducible refine r_fc_L ?_ | with_reducible refine r_fc_AI (by decide) ?_ | with_reducible refine r_fc_AL (by decide) ?_)
set_option maxRecDepth 100000 in
set_option maxHeartbeats 1000000 in
theorem S_a6S {r f : Nat} {A : mo_A} {e : Nat} (hf : A.1 27 0 = nI (f + 1)) (hlt : f < 399) (h0 : A.1 37 0 = 0) (hk : A.1 28 f = 0) (he : A.1 29 f = nI e) (hel : e < 60) (hsrt : A.1 1 e = 6) (hst : A.1 30 f = 0) (hb : A.1 40 0 = 300) : r_S r A (a_I (a_I A 30 f 1) 37 0 8) := by
  intro μ h d Q kQ
  have hs := h.1
  have hs' := h.1
  unfold r_sh at hs'
  have hvw := h.2
  have H := r_rd h
  have hv : vp_in (nI f) 400 := vp_in_nI (by omega) (by decide)
  have hc : (nI f).toNatClampNeg = f := nI_clamp (by omega)
  have hve : vp_in (nI e) 60 := vp_in_nI hel (by decide)
  have hce : (nI e).toNatClampNeg = e := nI_clamp (by omega)
  have hW := fun d e x Q => R_workS (d := d) (μ := (mo_wAI μ (r + 25) f 1)) (r_sh_c hs (by simp only [mo_ME]) (by simp only [mo_ME]) (by simp only [mo_ME])) (by simp only [mo_ME, mo_u_a, Nat.reduceEqDiff, false_and, if_false]; exact (r_rdI h 40 rfl).trans hb) e x Q
  simp only [we99_0, we99_1, we103_0, we103_1, we103_2, we103_3, we103_4, we104_0, we104_1, we104_2, en99, en103, en104, true_and, and_true, if_false, if_true, not_true_eq_false, not_false_eq_true, false_implies, true_implies, implies_true, forall_const, true_or, or_true, false_or, or_false, false_and, and_false, eq_self_iff_true, Option.toList_some, Option.toList_none, List.cons_append, List.nil_append, mo_cat_0, mo_cat_c, mo_ct_i, mo_ct_l, mo_ct_r, mo_ct_n, mo_ct_f, Nat.zero_le, Nat.reduceAdd, Nat.reduceLeDiff, Nat.reduceLT, Nat.reduceEqDiff, Nat.reduceSub, mo_rf_s, mo_rf_n, reduceCtorEq, mo_st, mo_st2, mo_lg_0, mo_lg_s, List.set_cons_zero, List.set_cons_succ, List.length_cons, List.length_nil, List.getElem?_cons_zero, List.getElem?_cons_succ, Nat.reduceBEq, Bool.false_eq_true, beq_self_eq_true, mo_ME, mo_u_a, mo_z_a, mo_y_a, Nat.add_left_cancel_iff, mo_TSW, hs', H, hf, nI_1, nI_pred, mo_LC, Int32.reduceLT, Int32.reduceLE, i01, i12, i23, i34, hv, hc, h0, hk, he, hve, hce, hsrt, hst, hW]
  refine kQ _ ⟨r_sh_c hs (by simp only [m_push, mo_ME]) (by simp only [m_push, mo_ME]) (by simp only [m_push, mo_ME]), ?_⟩ ?_
  · simp only [r_vw_push, r_VW, hvw]
  · repeat (first | with_reducible exact r_fc_rf _ _ | with_reducible refine r_fc_push ?_ | with_reducible refine r_fc_I ?_ | with_reducible refine r_fc_L ?_ | with_reducible refine r_fc_AI (by decide) ?_ | with_reducible refine r_fc_AL (by decide) ?_)
set_option maxRecDepth 100000 in
set_option maxHeartbeats 1000000 in
theorem S_a7 {r f : Nat} {A : mo_A} {e b : Nat} (hf : A.1 27 0 = nI (f + 1)) (hlt : f < 399) (h0 : A.1 37 0 = 0) (hk : A.1 28 f = 0) (he : A.1 29 f = nI e) (hel : e < 60) (hsrt : A.1 1 e = 7) (hst : A.1 30 f = 0) (hb : A.1 40 0 = nI b) (hb3 : b < 300) : r_S r A (a_push (a_I (a_I A 30 f 1) 40 0 (nI (b + 1))) (f + 1) 0 (A.1 3 e) (A.1 32 f) (A.1 31 f) (A.2 34 f)) := by
  intro μ h d Q kQ
  have hs := h.1
  have hs' := h.1
  unfold r_sh at hs'
  have hvw := h.2
  have H := r_rd h
  have hv : vp_in (nI f) 400 := vp_in_nI (by omega) (by decide)
  have hc : (nI f).toNatClampNeg = f := nI_clamp (by omega)
  have hve : vp_in (nI e) 60 := vp_in_nI hel (by decide)
  have hce : (nI e).toNatClampNeg = e := nI_clamp (by omega)
  have hW := fun d e Q => R_work (d := d) (μ := (mo_wAI μ (r + 25) f 1)) (t := f + 1) (f := f) (b := b) (r_sh_c hs (by simp only [mo_ME]) (by simp only [mo_ME]) (by simp only [mo_ME])) (by simp only [mo_ME, mo_u_a, Nat.reduceEqDiff, false_and, if_false]; exact (r_rdI h 27 rfl).trans hf) (by omega) (by simp only [mo_ME, mo_u_a, Nat.reduceEqDiff, false_and, if_false]; exact (r_rdI h 40 rfl).trans hb) hb3 (by omega) e Q
  simp only [we99_0, we99_1, we103_0, we103_1, we103_2, we103_3, we103_4, we106_0, we106_1, we106_2, en99, en103, en106, true_and, and_true, if_false, if_true, not_true_eq_false, not_false_eq_true, false_implies, true_implies, implies_true, forall_const, true_or, or_true, false_or, or_false, false_and, and_false, eq_self_iff_true, Option.toList_some, Option.toList_none, List.cons_append, List.nil_append, mo_cat_0, mo_cat_c, mo_ct_i, mo_ct_l, mo_ct_r, mo_ct_n, mo_ct_f, Nat.zero_le, Nat.reduceAdd, Nat.reduceLeDiff, Nat.reduceLT, Nat.reduceEqDiff, Nat.reduceSub, mo_rf_s, mo_rf_n, reduceCtorEq, mo_st, mo_st2, mo_lg_0, mo_lg_s, List.set_cons_zero, List.set_cons_succ, List.length_cons, List.length_nil, List.getElem?_cons_zero, List.getElem?_cons_succ, Nat.reduceBEq, Bool.false_eq_true, beq_self_eq_true, mo_ME, mo_u_a, mo_z_a, mo_y_a, Nat.add_left_cancel_iff, mo_TSW, hs', H, hf, nI_1, nI_pred, mo_LC, Int32.reduceLT, Int32.reduceLE, i01, i12, i23, i34, hv, hc, h0, hk, he, hve, hce, hsrt, hst, hW]
  refine kQ _ ⟨r_sh_c hs (by simp only [m_push, mo_ME]) (by simp only [m_push, mo_ME]) (by simp only [m_push, mo_ME]), ?_⟩ ?_
  · simp only [r_vw_push, r_VW, hvw]
  · repeat (first | with_reducible exact r_fc_rf _ _ | with_reducible refine r_fc_push ?_ | with_reducible refine r_fc_I ?_ | with_reducible refine r_fc_L ?_ | with_reducible refine r_fc_AI (by decide) ?_ | with_reducible refine r_fc_AL (by decide) ?_)
set_option maxRecDepth 100000 in
set_option maxHeartbeats 1000000 in
theorem S_a7S {r f : Nat} {A : mo_A} {e : Nat} (hf : A.1 27 0 = nI (f + 1)) (hlt : f < 399) (h0 : A.1 37 0 = 0) (hk : A.1 28 f = 0) (he : A.1 29 f = nI e) (hel : e < 60) (hsrt : A.1 1 e = 7) (hst : A.1 30 f = 0) (hb : A.1 40 0 = 300) : r_S r A (a_I (a_I A 30 f 1) 37 0 8) := by
  intro μ h d Q kQ
  have hs := h.1
  have hs' := h.1
  unfold r_sh at hs'
  have hvw := h.2
  have H := r_rd h
  have hv : vp_in (nI f) 400 := vp_in_nI (by omega) (by decide)
  have hc : (nI f).toNatClampNeg = f := nI_clamp (by omega)
  have hve : vp_in (nI e) 60 := vp_in_nI hel (by decide)
  have hce : (nI e).toNatClampNeg = e := nI_clamp (by omega)
  have hW := fun d e x Q => R_workS (d := d) (μ := (mo_wAI μ (r + 25) f 1)) (r_sh_c hs (by simp only [mo_ME]) (by simp only [mo_ME]) (by simp only [mo_ME])) (by simp only [mo_ME, mo_u_a, Nat.reduceEqDiff, false_and, if_false]; exact (r_rdI h 40 rfl).trans hb) e x Q
  simp only [we99_0, we99_1, we103_0, we103_1, we103_2, we103_3, we103_4, we106_0, we106_1, we106_2, en99, en103, en106, true_and, and_true, if_false, if_true, not_true_eq_false, not_false_eq_true, false_implies, true_implies, implies_true, forall_const, true_or, or_true, false_or, or_false, false_and, and_false, eq_self_iff_true, Option.toList_some, Option.toList_none, List.cons_append, List.nil_append, mo_cat_0, mo_cat_c, mo_ct_i, mo_ct_l, mo_ct_r, mo_ct_n, mo_ct_f, Nat.zero_le, Nat.reduceAdd, Nat.reduceLeDiff, Nat.reduceLT, Nat.reduceEqDiff, Nat.reduceSub, mo_rf_s, mo_rf_n, reduceCtorEq, mo_st, mo_st2, mo_lg_0, mo_lg_s, List.set_cons_zero, List.set_cons_succ, List.length_cons, List.length_nil, List.getElem?_cons_zero, List.getElem?_cons_succ, Nat.reduceBEq, Bool.false_eq_true, beq_self_eq_true, mo_ME, mo_u_a, mo_z_a, mo_y_a, Nat.add_left_cancel_iff, mo_TSW, hs', H, hf, nI_1, nI_pred, mo_LC, Int32.reduceLT, Int32.reduceLE, i01, i12, i23, i34, hv, hc, h0, hk, he, hve, hce, hsrt, hst, hW]
  refine kQ _ ⟨r_sh_c hs (by simp only [m_push, mo_ME]) (by simp only [m_push, mo_ME]) (by simp only [m_push, mo_ME]), ?_⟩ ?_
  · simp only [r_vw_push, r_VW, hvw]
  · repeat (first | with_reducible exact r_fc_rf _ _ | with_reducible refine r_fc_push ?_ | with_reducible refine r_fc_I ?_ | with_reducible refine r_fc_L ?_ | with_reducible refine r_fc_AI (by decide) ?_ | with_reducible refine r_fc_AL (by decide) ?_)
set_option maxRecDepth 100000 in
set_option maxHeartbeats 1000000 in
theorem S_a8 {r f : Nat} {A : mo_A} {e b : Nat} (hf : A.1 27 0 = nI (f + 1)) (hlt : f < 399) (h0 : A.1 37 0 = 0) (hk : A.1 28 f = 0) (he : A.1 29 f = nI e) (hel : e < 60) (hsrt : A.1 1 e = 8) (hst : A.1 30 f = 0) (hb : A.1 40 0 = nI b) (hb3 : b < 300) : r_S r A (a_push (a_I (a_I A 30 f 1) 40 0 (nI (b + 1))) (f + 1) 0 (A.1 3 e) (A.1 32 f) (A.1 31 f) (A.2 34 f)) := by
  intro μ h d Q kQ
  have hs := h.1
  have hs' := h.1
  unfold r_sh at hs'
  have hvw := h.2
  have H := r_rd h
  have hv : vp_in (nI f) 400 := vp_in_nI (by omega) (by decide)
  have hc : (nI f).toNatClampNeg = f := nI_clamp (by omega)
  have hve : vp_in (nI e) 60 := vp_in_nI hel (by decide)
  have hce : (nI e).toNatClampNeg = e := nI_clamp (by omega)
  have hW := fun d e Q => R_work (d := d) (μ := (mo_wAI μ (r + 25) f 1)) (t := f + 1) (f := f) (b := b) (r_sh_c hs (by simp only [mo_ME]) (by simp only [mo_ME]) (by simp only [mo_ME])) (by simp only [mo_ME, mo_u_a, Nat.reduceEqDiff, false_and, if_false]; exact (r_rdI h 27 rfl).trans hf) (by omega) (by simp only [mo_ME, mo_u_a, Nat.reduceEqDiff, false_and, if_false]; exact (r_rdI h 40 rfl).trans hb) hb3 (by omega) e Q
  simp only [we99_0, we99_1, we103_0, we103_1, we103_2, we103_3, we103_4, we106_0, we106_1, we106_2, en99, en103, en106, true_and, and_true, if_false, if_true, not_true_eq_false, not_false_eq_true, false_implies, true_implies, implies_true, forall_const, true_or, or_true, false_or, or_false, false_and, and_false, eq_self_iff_true, Option.toList_some, Option.toList_none, List.cons_append, List.nil_append, mo_cat_0, mo_cat_c, mo_ct_i, mo_ct_l, mo_ct_r, mo_ct_n, mo_ct_f, Nat.zero_le, Nat.reduceAdd, Nat.reduceLeDiff, Nat.reduceLT, Nat.reduceEqDiff, Nat.reduceSub, mo_rf_s, mo_rf_n, reduceCtorEq, mo_st, mo_st2, mo_lg_0, mo_lg_s, List.set_cons_zero, List.set_cons_succ, List.length_cons, List.length_nil, List.getElem?_cons_zero, List.getElem?_cons_succ, Nat.reduceBEq, Bool.false_eq_true, beq_self_eq_true, mo_ME, mo_u_a, mo_z_a, mo_y_a, Nat.add_left_cancel_iff, mo_TSW, hs', H, hf, nI_1, nI_pred, mo_LC, Int32.reduceLT, Int32.reduceLE, i01, i12, i23, i34, hv, hc, h0, hk, he, hve, hce, hsrt, hst, hW]
  refine kQ _ ⟨r_sh_c hs (by simp only [m_push, mo_ME]) (by simp only [m_push, mo_ME]) (by simp only [m_push, mo_ME]), ?_⟩ ?_
  · simp only [r_vw_push, r_VW, hvw]
  · repeat (first | with_reducible exact r_fc_rf _ _ | with_reducible refine r_fc_push ?_ | with_reducible refine r_fc_I ?_ | with_reducible refine r_fc_L ?_ | with_reducible refine r_fc_AI (by decide) ?_ | with_reducible refine r_fc_AL (by decide) ?_)
set_option maxRecDepth 100000 in
set_option maxHeartbeats 1000000 in
theorem S_a8S {r f : Nat} {A : mo_A} {e : Nat} (hf : A.1 27 0 = nI (f + 1)) (hlt : f < 399) (h0 : A.1 37 0 = 0) (hk : A.1 28 f = 0) (he : A.1 29 f = nI e) (hel : e < 60) (hsrt : A.1 1 e = 8) (hst : A.1 30 f = 0) (hb : A.1 40 0 = 300) : r_S r A (a_I (a_I A 30 f 1) 37 0 8) := by
  intro μ h d Q kQ
  have hs := h.1
  have hs' := h.1
  unfold r_sh at hs'
  have hvw := h.2
  have H := r_rd h
  have hv : vp_in (nI f) 400 := vp_in_nI (by omega) (by decide)
  have hc : (nI f).toNatClampNeg = f := nI_clamp (by omega)
  have hve : vp_in (nI e) 60 := vp_in_nI hel (by decide)
  have hce : (nI e).toNatClampNeg = e := nI_clamp (by omega)
  have hW := fun d e x Q => R_workS (d := d) (μ := (mo_wAI μ (r + 25) f 1)) (r_sh_c hs (by simp only [mo_ME]) (by simp only [mo_ME]) (by simp only [mo_ME])) (by simp only [mo_ME, mo_u_a, Nat.reduceEqDiff, false_and, if_false]; exact (r_rdI h 40 rfl).trans hb) e x Q
  simp only [we99_0, we99_1, we103_0, we103_1, we103_2, we103_3, we103_4, we106_0, we106_1, we106_2, en99, en103, en106, true_and, and_true, if_false, if_true, not_true_eq_false, not_false_eq_true, false_implies, true_implies, implies_true, forall_const, true_or, or_true, false_or, or_false, false_and, and_false, eq_self_iff_true, Option.toList_some, Option.toList_none, List.cons_append, List.nil_append, mo_cat_0, mo_cat_c, mo_ct_i, mo_ct_l, mo_ct_r, mo_ct_n, mo_ct_f, Nat.zero_le, Nat.reduceAdd, Nat.reduceLeDiff, Nat.reduceLT, Nat.reduceEqDiff, Nat.reduceSub, mo_rf_s, mo_rf_n, reduceCtorEq, mo_st, mo_st2, mo_lg_0, mo_lg_s, List.set_cons_zero, List.set_cons_succ, List.length_cons, List.length_nil, List.getElem?_cons_zero, List.getElem?_cons_succ, Nat.reduceBEq, Bool.false_eq_true, beq_self_eq_true, mo_ME, mo_u_a, mo_z_a, mo_y_a, Nat.add_left_cancel_iff, mo_TSW, hs', H, hf, nI_1, nI_pred, mo_LC, Int32.reduceLT, Int32.reduceLE, i01, i12, i23, i34, hv, hc, h0, hk, he, hve, hce, hsrt, hst, hW]
  refine kQ _ ⟨r_sh_c hs (by simp only [m_push, mo_ME]) (by simp only [m_push, mo_ME]) (by simp only [m_push, mo_ME]), ?_⟩ ?_
  · simp only [r_vw_push, r_VW, hvw]
  · repeat (first | with_reducible exact r_fc_rf _ _ | with_reducible refine r_fc_push ?_ | with_reducible refine r_fc_I ?_ | with_reducible refine r_fc_L ?_ | with_reducible refine r_fc_AI (by decide) ?_ | with_reducible refine r_fc_AL (by decide) ?_)
set_option maxRecDepth 100000 in
set_option maxHeartbeats 1000000 in
theorem S_a9 {r f : Nat} {A : mo_A} {e b : Nat} (hf : A.1 27 0 = nI (f + 1)) (hlt : f < 399) (h0 : A.1 37 0 = 0) (hk : A.1 28 f = 0) (he : A.1 29 f = nI e) (hel : e < 60) (hsrt : A.1 1 e = 9) (hst : A.1 30 f = 0) (hb : A.1 40 0 = nI b) (hb3 : b < 300) : r_S r A (a_push (a_I (a_I A 30 f 1) 40 0 (nI (b + 1))) (f + 1) 0 (A.1 3 e) (A.1 32 f) (A.1 31 f) (A.2 34 f)) := by
  intro μ h d Q kQ
  have hs := h.1
  have hs' := h.1
  unfold r_sh at hs'
  have hvw := h.2
  have H := r_rd h
  have hv : vp_in (nI f) 400 := vp_in_nI (by omega) (by decide)
  have hc : (nI f).toNatClampNeg = f := nI_clamp (by omega)
  have hve : vp_in (nI e) 60 := vp_in_nI hel (by decide)
  have hce : (nI e).toNatClampNeg = e := nI_clamp (by omega)
  have hW := fun d e Q => R_work (d := d) (μ := (mo_wAI μ (r + 25) f 1)) (t := f + 1) (f := f) (b := b) (r_sh_c hs (by simp only [mo_ME]) (by simp only [mo_ME]) (by simp only [mo_ME])) (by simp only [mo_ME, mo_u_a, Nat.reduceEqDiff, false_and, if_false]; exact (r_rdI h 27 rfl).trans hf) (by omega) (by simp only [mo_ME, mo_u_a, Nat.reduceEqDiff, false_and, if_false]; exact (r_rdI h 40 rfl).trans hb) hb3 (by omega) e Q
  simp only [we99_0, we99_1, we103_0, we103_1, we103_2, we103_3, we103_4, we107_0, we107_1, we107_2, en99, en103, en107, true_and, and_true, if_false, if_true, not_true_eq_false, not_false_eq_true, false_implies, true_implies, implies_true, forall_const, true_or, or_true, false_or, or_false, false_and, and_false, eq_self_iff_true, Option.toList_some, Option.toList_none, List.cons_append, List.nil_append, mo_cat_0, mo_cat_c, mo_ct_i, mo_ct_l, mo_ct_r, mo_ct_n, mo_ct_f, Nat.zero_le, Nat.reduceAdd, Nat.reduceLeDiff, Nat.reduceLT, Nat.reduceEqDiff, Nat.reduceSub, mo_rf_s, mo_rf_n, reduceCtorEq, mo_st, mo_st2, mo_lg_0, mo_lg_s, List.set_cons_zero, List.set_cons_succ, List.length_cons, List.length_nil, List.getElem?_cons_zero, List.getElem?_cons_succ, Nat.reduceBEq, Bool.false_eq_true, beq_self_eq_true, mo_ME, mo_u_a, mo_z_a, mo_y_a, Nat.add_left_cancel_iff, mo_TSW, hs', H, hf, nI_1, nI_pred, mo_LC, Int32.reduceLT, Int32.reduceLE, i01, i12, i23, i34, hv, hc, h0, hk, he, hve, hce, hsrt, hst, hW]
  refine kQ _ ⟨r_sh_c hs (by simp only [m_push, mo_ME]) (by simp only [m_push, mo_ME]) (by simp only [m_push, mo_ME]), ?_⟩ ?_
  · simp only [r_vw_push, r_VW, hvw]
  · repeat (first | with_reducible exact r_fc_rf _ _ | with_reducible refine r_fc_push ?_ | with_reducible refine r_fc_I ?_ | with_reducible refine r_fc_L ?_ | with_reducible refine r_fc_AI (by decide) ?_ | with_reducible refine r_fc_AL (by decide) ?_)
set_option maxRecDepth 100000 in
set_option maxHeartbeats 1000000 in
theorem S_a9S {r f : Nat} {A : mo_A} {e : Nat} (hf : A.1 27 0 = nI (f + 1)) (hlt : f < 399) (h0 : A.1 37 0 = 0) (hk : A.1 28 f = 0) (he : A.1 29 f = nI e) (hel : e < 60) (hsrt : A.1 1 e = 9) (hst : A.1 30 f = 0) (hb : A.1 40 0 = 300) : r_S r A (a_I (a_I A 30 f 1) 37 0 8) := by
  intro μ h d Q kQ
  have hs := h.1
  have hs' := h.1
  unfold r_sh at hs'
  have hvw := h.2
  have H := r_rd h
  have hv : vp_in (nI f) 400 := vp_in_nI (by omega) (by decide)
  have hc : (nI f).toNatClampNeg = f := nI_clamp (by omega)
  have hve : vp_in (nI e) 60 := vp_in_nI hel (by decide)
  have hce : (nI e).toNatClampNeg = e := nI_clamp (by omega)
  have hW := fun d e x Q => R_workS (d := d) (μ := (mo_wAI μ (r + 25) f 1)) (r_sh_c hs (by simp only [mo_ME]) (by simp only [mo_ME]) (by simp only [mo_ME])) (by simp only [mo_ME, mo_u_a, Nat.reduceEqDiff, false_and, if_false]; exact (r_rdI h 40 rfl).trans hb) e x Q
  simp only [we99_0, we99_1, we103_0, we103_1, we103_2, we103_3, we103_4, we107_0, we107_1, we107_2, en99, en103, en107, true_and, and_true, if_false, if_true, not_true_eq_false, not_false_eq_true, false_implies, true_implies, implies_true, forall_const, true_or, or_true, false_or, or_false, false_and, and_false, eq_self_iff_true, Option.toList_some, Option.toList_none, List.cons_append, List.nil_append, mo_cat_0, mo_cat_c, mo_ct_i, mo_ct_l, mo_ct_r, mo_ct_n, mo_ct_f, Nat.zero_le, Nat.reduceAdd, Nat.reduceLeDiff, Nat.reduceLT, Nat.reduceEqDiff, Nat.reduceSub, mo_rf_s, mo_rf_n, reduceCtorEq, mo_st, mo_st2, mo_lg_0, mo_lg_s, List.set_cons_zero, List.set_cons_succ, List.length_cons, List.length_nil, List.getElem?_cons_zero, List.getElem?_cons_succ, Nat.reduceBEq, Bool.false_eq_true, beq_self_eq_true, mo_ME, mo_u_a, mo_z_a, mo_y_a, Nat.add_left_cancel_iff, mo_TSW, hs', H, hf, nI_1, nI_pred, mo_LC, Int32.reduceLT, Int32.reduceLE, i01, i12, i23, i34, hv, hc, h0, hk, he, hve, hce, hsrt, hst, hW]
  refine kQ _ ⟨r_sh_c hs (by simp only [m_push, mo_ME]) (by simp only [m_push, mo_ME]) (by simp only [m_push, mo_ME]), ?_⟩ ?_
  · simp only [r_vw_push, r_VW, hvw]
  · repeat (first | with_reducible exact r_fc_rf _ _ | with_reducible refine r_fc_push ?_ | with_reducible refine r_fc_I ?_ | with_reducible refine r_fc_L ?_ | with_reducible refine r_fc_AI (by decide) ?_ | with_reducible refine r_fc_AL (by decide) ?_)
set_option maxRecDepth 100000 in
set_option maxHeartbeats 1000000 in
theorem S_a10 {r f : Nat} {A : mo_A} {e b : Nat} (hf : A.1 27 0 = nI (f + 1)) (hlt : f < 399) (h0 : A.1 37 0 = 0) (hk : A.1 28 f = 0) (he : A.1 29 f = nI e) (hel : e < 60) (hsrt : A.1 1 e = 10) (hst : A.1 30 f = 0) (hb : A.1 40 0 = nI b) (hb3 : b < 300) : r_S r A (a_push (a_I (a_I A 30 f 1) 40 0 (nI (b + 1))) (f + 1) 0 (A.1 3 e) (A.1 32 f) (A.1 31 f) (A.2 34 f)) := by
  intro μ h d Q kQ
  have hs := h.1
  have hs' := h.1
  unfold r_sh at hs'
  have hvw := h.2
  have H := r_rd h
  have hv : vp_in (nI f) 400 := vp_in_nI (by omega) (by decide)
  have hc : (nI f).toNatClampNeg = f := nI_clamp (by omega)
  have hve : vp_in (nI e) 60 := vp_in_nI hel (by decide)
  have hce : (nI e).toNatClampNeg = e := nI_clamp (by omega)
  have hW := fun d e Q => R_work (d := d) (μ := (mo_wAI μ (r + 25) f 1)) (t := f + 1) (f := f) (b := b) (r_sh_c hs (by simp only [mo_ME]) (by simp only [mo_ME]) (by simp only [mo_ME])) (by simp only [mo_ME, mo_u_a, Nat.reduceEqDiff, false_and, if_false]; exact (r_rdI h 27 rfl).trans hf) (by omega) (by simp only [mo_ME, mo_u_a, Nat.reduceEqDiff, false_and, if_false]; exact (r_rdI h 40 rfl).trans hb) hb3 (by omega) e Q
  simp only [we99_0, we99_1, we103_0, we103_1, we103_2, we103_3, we103_4, en99, en103, true_and, and_true, if_false, if_true, not_true_eq_false, not_false_eq_true, false_implies, true_implies, implies_true, forall_const, true_or, or_true, false_or, or_false, false_and, and_false, eq_self_iff_true, Option.toList_some, Option.toList_none, List.cons_append, List.nil_append, mo_cat_0, mo_cat_c, mo_ct_i, mo_ct_l, mo_ct_r, mo_ct_n, mo_ct_f, Nat.zero_le, Nat.reduceAdd, Nat.reduceLeDiff, Nat.reduceLT, Nat.reduceEqDiff, Nat.reduceSub, mo_rf_s, mo_rf_n, reduceCtorEq, mo_st, mo_st2, mo_lg_0, mo_lg_s, List.set_cons_zero, List.set_cons_succ, List.length_cons, List.length_nil, List.getElem?_cons_zero, List.getElem?_cons_succ, Nat.reduceBEq, Bool.false_eq_true, beq_self_eq_true, mo_ME, mo_u_a, mo_z_a, mo_y_a, Nat.add_left_cancel_iff, mo_TSW, hs', H, hf, nI_1, nI_pred, mo_LC, Int32.reduceLT, Int32.reduceLE, i01, i12, i23, i34, hv, hc, h0, hk, he, hve, hce, hsrt, hst, hW]
  refine kQ _ ⟨r_sh_c hs (by simp only [m_push, mo_ME]) (by simp only [m_push, mo_ME]) (by simp only [m_push, mo_ME]), ?_⟩ ?_
  · simp only [r_vw_push, r_VW, hvw]
  · repeat (first | with_reducible exact r_fc_rf _ _ | with_reducible refine r_fc_push ?_ | with_reducible refine r_fc_I ?_ | with_reducible refine r_fc_L ?_ | with_reducible refine r_fc_AI (by decide) ?_ | with_reducible refine r_fc_AL (by decide) ?_)
set_option maxRecDepth 100000 in
set_option maxHeartbeats 1000000 in
theorem S_a10S {r f : Nat} {A : mo_A} {e : Nat} (hf : A.1 27 0 = nI (f + 1)) (hlt : f < 399) (h0 : A.1 37 0 = 0) (hk : A.1 28 f = 0) (he : A.1 29 f = nI e) (hel : e < 60) (hsrt : A.1 1 e = 10) (hst : A.1 30 f = 0) (hb : A.1 40 0 = 300) : r_S r A (a_I (a_I A 30 f 1) 37 0 8) := by
  intro μ h d Q kQ
  have hs := h.1
  have hs' := h.1
  unfold r_sh at hs'
  have hvw := h.2
  have H := r_rd h
  have hv : vp_in (nI f) 400 := vp_in_nI (by omega) (by decide)
  have hc : (nI f).toNatClampNeg = f := nI_clamp (by omega)
  have hve : vp_in (nI e) 60 := vp_in_nI hel (by decide)
  have hce : (nI e).toNatClampNeg = e := nI_clamp (by omega)
  have hW := fun d e x Q => R_workS (d := d) (μ := (mo_wAI μ (r + 25) f 1)) (r_sh_c hs (by simp only [mo_ME]) (by simp only [mo_ME]) (by simp only [mo_ME])) (by simp only [mo_ME, mo_u_a, Nat.reduceEqDiff, false_and, if_false]; exact (r_rdI h 40 rfl).trans hb) e x Q
  simp only [we99_0, we99_1, we103_0, we103_1, we103_2, we103_3, we103_4, en99, en103, true_and, and_true, if_false, if_true, not_true_eq_false, not_false_eq_true, false_implies, true_implies, implies_true, forall_const, true_or, or_true, false_or, or_false, false_and, and_false, eq_self_iff_true, Option.toList_some, Option.toList_none, List.cons_append, List.nil_append, mo_cat_0, mo_cat_c, mo_ct_i, mo_ct_l, mo_ct_r, mo_ct_n, mo_ct_f, Nat.zero_le, Nat.reduceAdd, Nat.reduceLeDiff, Nat.reduceLT, Nat.reduceEqDiff, Nat.reduceSub, mo_rf_s, mo_rf_n, reduceCtorEq, mo_st, mo_st2, mo_lg_0, mo_lg_s, List.set_cons_zero, List.set_cons_succ, List.length_cons, List.length_nil, List.getElem?_cons_zero, List.getElem?_cons_succ, Nat.reduceBEq, Bool.false_eq_true, beq_self_eq_true, mo_ME, mo_u_a, mo_z_a, mo_y_a, Nat.add_left_cancel_iff, mo_TSW, hs', H, hf, nI_1, nI_pred, mo_LC, Int32.reduceLT, Int32.reduceLE, i01, i12, i23, i34, hv, hc, h0, hk, he, hve, hce, hsrt, hst, hW]
  refine kQ _ ⟨r_sh_c hs (by simp only [m_push, mo_ME]) (by simp only [m_push, mo_ME]) (by simp only [m_push, mo_ME]), ?_⟩ ?_
  · simp only [r_vw_push, r_VW, hvw]
  · repeat (first | with_reducible exact r_fc_rf _ _ | with_reducible refine r_fc_push ?_ | with_reducible refine r_fc_I ?_ | with_reducible refine r_fc_L ?_ | with_reducible refine r_fc_AI (by decide) ?_ | with_reducible refine r_fc_AL (by decide) ?_)
set_option maxRecDepth 100000 in
set_option maxHeartbeats 1000000 in
theorem S_b4 {r f : Nat} {A : mo_A} {e b : Nat} (hf : A.1 27 0 = nI (f + 1)) (hlt : f < 399) (h0 : A.1 37 0 = 0) (hk : A.1 28 f = 0) (he : A.1 29 f = nI e) (hel : e < 60) (hsrt : A.1 1 e = 4) (hst : A.1 30 f = 1) (hb : A.1 40 0 = nI b) (hb3 : b < 300) : r_S r A (a_push (a_I (a_L (a_I A 30 f 2) 44 f (A.2 36 0)) 40 0 (nI (b + 1))) (f + 1) 0 (A.1 4 e) (A.1 32 f) (A.1 31 f) (A.2 34 f)) := by
  intro μ h d Q kQ
  have hs := h.1
  have hs' := h.1
  unfold r_sh at hs'
  have hvw := h.2
  have H := r_rd h
  have hv : vp_in (nI f) 400 := vp_in_nI (by omega) (by decide)
  have hc : (nI f).toNatClampNeg = f := nI_clamp (by omega)
  have hve : vp_in (nI e) 60 := vp_in_nI hel (by decide)
  have hce : (nI e).toNatClampNeg = e := nI_clamp (by omega)
  have hW := fun d e Q => R_work (d := d) (μ := (mo_wAL (mo_wAI μ (r + 25) f 2) (r + 31) f (A.2 36 0))) (t := f + 1) (f := f) (b := b) (r_sh_c hs (by simp only [mo_ME]) (by simp only [mo_ME]) (by simp only [mo_ME])) (by simp only [mo_ME, mo_u_a, Nat.reduceEqDiff, false_and, if_false]; exact (r_rdI h 27 rfl).trans hf) (by omega) (by simp only [mo_ME, mo_u_a, Nat.reduceEqDiff, false_and, if_false]; exact (r_rdI h 40 rfl).trans hb) hb3 (by omega) e Q
  simp only [we99_0, we99_1, we103_0, we103_1, we103_2, we103_3, we103_4, we104_0, we104_1, we104_2, en99, en103, en104, true_and, and_true, if_false, if_true, not_true_eq_false, not_false_eq_true, false_implies, true_implies, implies_true, forall_const, true_or, or_true, false_or, or_false, false_and, and_false, eq_self_iff_true, Option.toList_some, Option.toList_none, List.cons_append, List.nil_append, mo_cat_0, mo_cat_c, mo_ct_i, mo_ct_l, mo_ct_r, mo_ct_n, mo_ct_f, Nat.zero_le, Nat.reduceAdd, Nat.reduceLeDiff, Nat.reduceLT, Nat.reduceEqDiff, Nat.reduceSub, mo_rf_s, mo_rf_n, reduceCtorEq, mo_st, mo_st2, mo_lg_0, mo_lg_s, List.set_cons_zero, List.set_cons_succ, List.length_cons, List.length_nil, List.getElem?_cons_zero, List.getElem?_cons_succ, Nat.reduceBEq, Bool.false_eq_true, beq_self_eq_true, mo_ME, mo_u_a, mo_z_a, mo_y_a, Nat.add_left_cancel_iff, mo_TSW, hs', H, hf, nI_1, nI_pred, mo_LC, Int32.reduceLT, Int32.reduceLE, i01, i12, i23, i34, hv, hc, h0, hk, he, hve, hce, hsrt, hst, hW]
  refine kQ _ ⟨r_sh_c hs (by simp only [m_push, mo_ME]) (by simp only [m_push, mo_ME]) (by simp only [m_push, mo_ME]), ?_⟩ ?_
  · simp only [r_vw_push, r_VW, hvw]
  · repeat (first | with_reducible exact r_fc_rf _ _ | with_reducible refine r_fc_push ?_ | with_reducible refine r_fc_I ?_ | with_reducible refine r_fc_L ?_ | with_reducible refine r_fc_AI (by decide) ?_ | with_reducible refine r_fc_AL (by decide) ?_)
set_option maxRecDepth 100000 in
set_option maxHeartbeats 1000000 in
theorem S_b4S {r f : Nat} {A : mo_A} {e : Nat} (hf : A.1 27 0 = nI (f + 1)) (hlt : f < 399) (h0 : A.1 37 0 = 0) (hk : A.1 28 f = 0) (he : A.1 29 f = nI e) (hel : e < 60) (hsrt : A.1 1 e = 4) (hst : A.1 30 f = 1) (hb : A.1 40 0 = 300) : r_S r A (a_I (a_L (a_I A 30 f 2) 44 f (A.2 36 0)) 37 0 8) := by
  intro μ h d Q kQ
  have hs := h.1
  have hs' := h.1
  unfold r_sh at hs'
  have hvw := h.2
  have H := r_rd h
  have hv : vp_in (nI f) 400 := vp_in_nI (by omega) (by decide)
  have hc : (nI f).toNatClampNeg = f := nI_clamp (by omega)
  have hve : vp_in (nI e) 60 := vp_in_nI hel (by decide)
  have hce : (nI e).toNatClampNeg = e := nI_clamp (by omega)
  have hW := fun d e x Q => R_workS (d := d) (μ := (mo_wAL (mo_wAI μ (r + 25) f 2) (r + 31) f (A.2 36 0))) (r_sh_c hs (by simp only [mo_ME]) (by simp only [mo_ME]) (by simp only [mo_ME])) (by simp only [mo_ME, mo_u_a, Nat.reduceEqDiff, false_and, if_false]; exact (r_rdI h 40 rfl).trans hb) e x Q
  simp only [we99_0, we99_1, we103_0, we103_1, we103_2, we103_3, we103_4, we104_0, we104_1, we104_2, en99, en103, en104, true_and, and_true, if_false, if_true, not_true_eq_false, not_false_eq_true, false_implies, true_implies, implies_true, forall_const, true_or, or_true, false_or, or_false, false_and, and_false, eq_self_iff_true, Option.toList_some, Option.toList_none, List.cons_append, List.nil_append, mo_cat_0, mo_cat_c, mo_ct_i, mo_ct_l, mo_ct_r, mo_ct_n, mo_ct_f, Nat.zero_le, Nat.reduceAdd, Nat.reduceLeDiff, Nat.reduceLT, Nat.reduceEqDiff, Nat.reduceSub, mo_rf_s, mo_rf_n, reduceCtorEq, mo_st, mo_st2, mo_lg_0, mo_lg_s, List.set_cons_zero, List.set_cons_succ, List.length_cons, List.length_nil, List.getElem?_cons_zero, List.getElem?_cons_succ, Nat.reduceBEq, Bool.false_eq_true, beq_self_eq_true, mo_ME, mo_u_a, mo_z_a, mo_y_a, Nat.add_left_cancel_iff, mo_TSW, hs', H, hf, nI_1, nI_pred, mo_LC, Int32.reduceLT, Int32.reduceLE, i01, i12, i23, i34, hv, hc, h0, hk, he, hve, hce, hsrt, hst, hW]
  refine kQ _ ⟨r_sh_c hs (by simp only [m_push, mo_ME]) (by simp only [m_push, mo_ME]) (by simp only [m_push, mo_ME]), ?_⟩ ?_
  · simp only [r_vw_push, r_VW, hvw]
  · repeat (first | with_reducible exact r_fc_rf _ _ | with_reducible refine r_fc_push ?_ | with_reducible refine r_fc_I ?_ | with_reducible refine r_fc_L ?_ | with_reducible refine r_fc_AI (by decide) ?_ | with_reducible refine r_fc_AL (by decide) ?_)
set_option maxRecDepth 100000 in
set_option maxHeartbeats 1000000 in
theorem S_b5 {r f : Nat} {A : mo_A} {e b : Nat} (hf : A.1 27 0 = nI (f + 1)) (hlt : f < 399) (h0 : A.1 37 0 = 0) (hk : A.1 28 f = 0) (he : A.1 29 f = nI e) (hel : e < 60) (hsrt : A.1 1 e = 5) (hst : A.1 30 f = 1) (hb : A.1 40 0 = nI b) (hb3 : b < 300) : r_S r A (a_push (a_I (a_L (a_I A 30 f 2) 44 f (A.2 36 0)) 40 0 (nI (b + 1))) (f + 1) 0 (A.1 4 e) (A.1 32 f) (A.1 31 f) (A.2 34 f)) := by
  intro μ h d Q kQ
  have hs := h.1
  have hs' := h.1
  unfold r_sh at hs'
  have hvw := h.2
  have H := r_rd h
  have hv : vp_in (nI f) 400 := vp_in_nI (by omega) (by decide)
  have hc : (nI f).toNatClampNeg = f := nI_clamp (by omega)
  have hve : vp_in (nI e) 60 := vp_in_nI hel (by decide)
  have hce : (nI e).toNatClampNeg = e := nI_clamp (by omega)
  have hW := fun d e Q => R_work (d := d) (μ := (mo_wAL (mo_wAI μ (r + 25) f 2) (r + 31) f (A.2 36 0))) (t := f + 1) (f := f) (b := b) (r_sh_c hs (by simp only [mo_ME]) (by simp only [mo_ME]) (by simp only [mo_ME])) (by simp only [mo_ME, mo_u_a, Nat.reduceEqDiff, false_and, if_false]; exact (r_rdI h 27 rfl).trans hf) (by omega) (by simp only [mo_ME, mo_u_a, Nat.reduceEqDiff, false_and, if_false]; exact (r_rdI h 40 rfl).trans hb) hb3 (by omega) e Q
  simp only [we99_0, we99_1, we103_0, we103_1, we103_2, we103_3, we103_4, we104_0, we104_1, we104_2, en99, en103, en104, true_and, and_true, if_false, if_true, not_true_eq_false, not_false_eq_true, false_implies, true_implies, implies_true, forall_const, true_or, or_true, false_or, or_false, false_and, and_false, eq_self_iff_true, Option.toList_some, Option.toList_none, List.cons_append, List.nil_append, mo_cat_0, mo_cat_c, mo_ct_i, mo_ct_l, mo_ct_r, mo_ct_n, mo_ct_f, Nat.zero_le, Nat.reduceAdd, Nat.reduceLeDiff, Nat.reduceLT, Nat.reduceEqDiff, Nat.reduceSub, mo_rf_s, mo_rf_n, reduceCtorEq, mo_st, mo_st2, mo_lg_0, mo_lg_s, List.set_cons_zero, List.set_cons_succ, List.length_cons, List.length_nil, List.getElem?_cons_zero, List.getElem?_cons_succ, Nat.reduceBEq, Bool.false_eq_true, beq_self_eq_true, mo_ME, mo_u_a, mo_z_a, mo_y_a, Nat.add_left_cancel_iff, mo_TSW, hs', H, hf, nI_1, nI_pred, mo_LC, Int32.reduceLT, Int32.reduceLE, i01, i12, i23, i34, hv, hc, h0, hk, he, hve, hce, hsrt, hst, hW]
  refine kQ _ ⟨r_sh_c hs (by simp only [m_push, mo_ME]) (by simp only [m_push, mo_ME]) (by simp only [m_push, mo_ME]), ?_⟩ ?_
  · simp only [r_vw_push, r_VW, hvw]
  · repeat (first | with_reducible exact r_fc_rf _ _ | with_reducible refine r_fc_push ?_ | with_reducible refine r_fc_I ?_ | with_reducible refine r_fc_L ?_ | with_reducible refine r_fc_AI (by decide) ?_ | with_reducible refine r_fc_AL (by decide) ?_)
set_option maxRecDepth 100000 in
set_option maxHeartbeats 1000000 in
theorem S_b5S {r f : Nat} {A : mo_A} {e : Nat} (hf : A.1 27 0 = nI (f + 1)) (hlt : f < 399) (h0 : A.1 37 0 = 0) (hk : A.1 28 f = 0) (he : A.1 29 f = nI e) (hel : e < 60) (hsrt : A.1 1 e = 5) (hst : A.1 30 f = 1) (hb : A.1 40 0 = 300) : r_S r A (a_I (a_L (a_I A 30 f 2) 44 f (A.2 36 0)) 37 0 8) := by
  intro μ h d Q kQ
  have hs := h.1
  have hs' := h.1
  unfold r_sh at hs'
  have hvw := h.2
  have H := r_rd h
  have hv : vp_in (nI f) 400 := vp_in_nI (by omega) (by decide)
  have hc : (nI f).toNatClampNeg = f := nI_clamp (by omega)
  have hve : vp_in (nI e) 60 := vp_in_nI hel (by decide)
  have hce : (nI e).toNatClampNeg = e := nI_clamp (by omega)
  have hW := fun d e x Q => R_workS (d := d) (μ := (mo_wAL (mo_wAI μ (r + 25) f 2) (r + 31) f (A.2 36 0))) (r_sh_c hs (by simp only [mo_ME]) (by simp only [mo_ME]) (by simp only [mo_ME])) (by simp only [mo_ME, mo_u_a, Nat.reduceEqDiff, false_and, if_false]; exact (r_rdI h 40 rfl).trans hb) e x Q
  simp only [we99_0, we99_1, we103_0, we103_1, we103_2, we103_3, we103_4, we104_0, we104_1, we104_2, en99, en103, en104, true_and, and_true, if_false, if_true, not_true_eq_false, not_false_eq_true, false_implies, true_implies, implies_true, forall_const, true_or, or_true, false_or, or_false, false_and, and_false, eq_self_iff_true, Option.toList_some, Option.toList_none, List.cons_append, List.nil_append, mo_cat_0, mo_cat_c, mo_ct_i, mo_ct_l, mo_ct_r, mo_ct_n, mo_ct_f, Nat.zero_le, Nat.reduceAdd, Nat.reduceLeDiff, Nat.reduceLT, Nat.reduceEqDiff, Nat.reduceSub, mo_rf_s, mo_rf_n, reduceCtorEq, mo_st, mo_st2, mo_lg_0, mo_lg_s, List.set_cons_zero, List.set_cons_succ, List.length_cons, List.length_nil, List.getElem?_cons_zero, List.getElem?_cons_succ, Nat.reduceBEq, Bool.false_eq_true, beq_self_eq_true, mo_ME, mo_u_a, mo_z_a, mo_y_a, Nat.add_left_cancel_iff, mo_TSW, hs', H, hf, nI_1, nI_pred, mo_LC, Int32.reduceLT, Int32.reduceLE, i01, i12, i23, i34, hv, hc, h0, hk, he, hve, hce, hsrt, hst, hW]
  refine kQ _ ⟨r_sh_c hs (by simp only [m_push, mo_ME]) (by simp only [m_push, mo_ME]) (by simp only [m_push, mo_ME]), ?_⟩ ?_
  · simp only [r_vw_push, r_VW, hvw]
  · repeat (first | with_reducible exact r_fc_rf _ _ | with_reducible refine r_fc_push ?_ | with_reducible refine r_fc_I ?_ | with_reducible refine r_fc_L ?_ | with_reducible refine r_fc_AI (by decide) ?_ | with_reducible refine r_fc_AL (by decide) ?_)
set_option maxRecDepth 100000 in
set_option maxHeartbeats 1000000 in
theorem S_b6 {r f : Nat} {A : mo_A} {e b : Nat} (hf : A.1 27 0 = nI (f + 1)) (hlt : f < 399) (h0 : A.1 37 0 = 0) (hk : A.1 28 f = 0) (he : A.1 29 f = nI e) (hel : e < 60) (hsrt : A.1 1 e = 6) (hst : A.1 30 f = 1) (hb : A.1 40 0 = nI b) (hb3 : b < 300) : r_S r A (a_push (a_I (a_L (a_I A 30 f 2) 44 f (A.2 36 0)) 40 0 (nI (b + 1))) (f + 1) 0 (A.1 4 e) (A.1 32 f) (A.1 31 f) (A.2 34 f)) := by
  intro μ h d Q kQ
  have hs := h.1
  have hs' := h.1
  unfold r_sh at hs'
  have hvw := h.2
  have H := r_rd h
  have hv : vp_in (nI f) 400 := vp_in_nI (by omega) (by decide)
  have hc : (nI f).toNatClampNeg = f := nI_clamp (by omega)
  have hve : vp_in (nI e) 60 := vp_in_nI hel (by decide)
  have hce : (nI e).toNatClampNeg = e := nI_clamp (by omega)
  have hW := fun d e Q => R_work (d := d) (μ := (mo_wAL (mo_wAI μ (r + 25) f 2) (r + 31) f (A.2 36 0))) (t := f + 1) (f := f) (b := b) (r_sh_c hs (by simp only [mo_ME]) (by simp only [mo_ME]) (by simp only [mo_ME])) (by simp only [mo_ME, mo_u_a, Nat.reduceEqDiff, false_and, if_false]; exact (r_rdI h 27 rfl).trans hf) (by omega) (by simp only [mo_ME, mo_u_a, Nat.reduceEqDiff, false_and, if_false]; exact (r_rdI h 40 rfl).trans hb) hb3 (by omega) e Q
  simp only [we99_0, we99_1, we103_0, we103_1, we103_2, we103_3, we103_4, we104_0, we104_1, we104_2, en99, en103, en104, true_and, and_true, if_false, if_true, not_true_eq_false, not_false_eq_true, false_implies, true_implies, implies_true, forall_const, true_or, or_true, false_or, or_false, false_and, and_false, eq_self_iff_true, Option.toList_some, Option.toList_none, List.cons_append, List.nil_append, mo_cat_0, mo_cat_c, mo_ct_i, mo_ct_l, mo_ct_r, mo_ct_n, mo_ct_f, Nat.zero_le, Nat.reduceAdd, Nat.reduceLeDiff, Nat.reduceLT, Nat.reduceEqDiff, Nat.reduceSub, mo_rf_s, mo_rf_n, reduceCtorEq, mo_st, mo_st2, mo_lg_0, mo_lg_s, List.set_cons_zero, List.set_cons_succ, List.length_cons, List.length_nil, List.getElem?_cons_zero, List.getElem?_cons_succ, Nat.reduceBEq, Bool.false_eq_true, beq_self_eq_true, mo_ME, mo_u_a, mo_z_a, mo_y_a, Nat.add_left_cancel_iff, mo_TSW, hs', H, hf, nI_1, nI_pred, mo_LC, Int32.reduceLT, Int32.reduceLE, i01, i12, i23, i34, hv, hc, h0, hk, he, hve, hce, hsrt, hst, hW]
  refine kQ _ ⟨r_sh_c hs (by simp only [m_push, mo_ME]) (by simp only [m_push, mo_ME]) (by simp only [m_push, mo_ME]), ?_⟩ ?_
  · simp only [r_vw_push, r_VW, hvw]
  · repeat (first | with_reducible exact r_fc_rf _ _ | with_reducible refine r_fc_push ?_ | with_reducible refine r_fc_I ?_ | with_reducible refine r_fc_L ?_ | with_reducible refine r_fc_AI (by decide) ?_ | with_reducible refine r_fc_AL (by decide) ?_)
set_option maxRecDepth 100000 in
set_option maxHeartbeats 1000000 in
theorem S_b6S {r f : Nat} {A : mo_A} {e : Nat} (hf : A.1 27 0 = nI (f + 1)) (hlt : f < 399) (h0 : A.1 37 0 = 0) (hk : A.1 28 f = 0) (he : A.1 29 f = nI e) (hel : e < 60) (hsrt : A.1 1 e = 6) (hst : A.1 30 f = 1) (hb : A.1 40 0 = 300) : r_S r A (a_I (a_L (a_I A 30 f 2) 44 f (A.2 36 0)) 37 0 8) := by
  intro μ h d Q kQ
  have hs := h.1
  have hs' := h.1
  unfold r_sh at hs'
  have hvw := h.2
  have H := r_rd h
  have hv : vp_in (nI f) 400 := vp_in_nI (by omega) (by decide)
  have hc : (nI f).toNatClampNeg = f := nI_clamp (by omega)
  have hve : vp_in (nI e) 60 := vp_in_nI hel (by decide)
  have hce : (nI e).toNatClampNeg = e := nI_clamp (by omega)
  have hW := fun d e x Q => R_workS (d := d) (μ := (mo_wAL (mo_wAI μ (r + 25) f 2) (r + 31) f (A.2 36 0))) (r_sh_c hs (by simp only [mo_ME]) (by simp only [mo_ME]) (by simp only [mo_ME])) (by simp only [mo_ME, mo_u_a, Nat.reduceEqDiff, false_and, if_false]; exact (r_rdI h 40 rfl).trans hb) e x Q
  simp only [we99_0, we99_1, we103_0, we103_1, we103_2, we103_3, we103_4, we104_0, we104_1, we104_2, en99, en103, en104, true_and, and_true, if_false, if_true, not_true_eq_false, not_false_eq_true, false_implies, true_implies, implies_true, forall_const, true_or, or_true, false_or, or_false, false_and, and_false, eq_self_iff_true, Option.toList_some, Option.toList_none, List.cons_append, List.nil_append, mo_cat_0, mo_cat_c, mo_ct_i, mo_ct_l, mo_ct_r, mo_ct_n, mo_ct_f, Nat.zero_le, Nat.reduceAdd, Nat.reduceLeDiff, Nat.reduceLT, Nat.reduceEqDiff, Nat.reduceSub, mo_rf_s, mo_rf_n, reduceCtorEq, mo_st, mo_st2, mo_lg_0, mo_lg_s, List.set_cons_zero, List.set_cons_succ, List.length_cons, List.length_nil, List.getElem?_cons_zero, List.getElem?_cons_succ, Nat.reduceBEq, Bool.false_eq_true, beq_self_eq_true, mo_ME, mo_u_a, mo_z_a, mo_y_a, Nat.add_left_cancel_iff, mo_TSW, hs', H, hf, nI_1, nI_pred, mo_LC, Int32.reduceLT, Int32.reduceLE, i01, i12, i23, i34, hv, hc, h0, hk, he, hve, hce, hsrt, hst, hW]
  refine kQ _ ⟨r_sh_c hs (by simp only [m_push, mo_ME]) (by simp only [m_push, mo_ME]) (by simp only [m_push, mo_ME]), ?_⟩ ?_
  · simp only [r_vw_push, r_VW, hvw]
  · repeat (first | with_reducible exact r_fc_rf _ _ | with_reducible refine r_fc_push ?_ | with_reducible refine r_fc_I ?_ | with_reducible refine r_fc_L ?_ | with_reducible refine r_fc_AI (by decide) ?_ | with_reducible refine r_fc_AL (by decide) ?_)
set_option maxRecDepth 100000 in
set_option maxHeartbeats 1000000 in
theorem S_b9 {r f : Nat} {A : mo_A} {e b : Nat} (hf : A.1 27 0 = nI (f + 1)) (hlt : f < 399) (h0 : A.1 37 0 = 0) (hk : A.1 28 f = 0) (he : A.1 29 f = nI e) (hel : e < 60) (hsrt : A.1 1 e = 9) (hst : A.1 30 f = 1) (hb : A.1 40 0 = nI b) (hb3 : b < 300) : r_S r A (a_push (a_I (a_L (a_I A 30 f 2) 44 f (A.2 36 0)) 40 0 (nI (b + 1))) (f + 1) 0 (A.1 4 e) (A.1 32 f) (A.1 31 f) (A.2 34 f)) := by
  intro μ h d Q kQ
  have hs := h.1
  have hs' := h.1
  unfold r_sh at hs'
  have hvw := h.2
  have H := r_rd h
  have hv : vp_in (nI f) 400 := vp_in_nI (by omega) (by decide)
  have hc : (nI f).toNatClampNeg = f := nI_clamp (by omega)
  have hve : vp_in (nI e) 60 := vp_in_nI hel (by decide)
  have hce : (nI e).toNatClampNeg = e := nI_clamp (by omega)
  have hW := fun d e Q => R_work (d := d) (μ := (mo_wAL (mo_wAI μ (r + 25) f 2) (r + 31) f (A.2 36 0))) (t := f + 1) (f := f) (b := b) (r_sh_c hs (by simp only [mo_ME]) (by simp only [mo_ME]) (by simp only [mo_ME])) (by simp only [mo_ME, mo_u_a, Nat.reduceEqDiff, false_and, if_false]; exact (r_rdI h 27 rfl).trans hf) (by omega) (by simp only [mo_ME, mo_u_a, Nat.reduceEqDiff, false_and, if_false]; exact (r_rdI h 40 rfl).trans hb) hb3 (by omega) e Q
  simp only [we99_0, we99_1, we103_0, we103_1, we103_2, we103_3, we103_4, we107_0, we107_1, we107_2, en99, en103, en107, true_and, and_true, if_false, if_true, not_true_eq_false, not_false_eq_true, false_implies, true_implies, implies_true, forall_const, true_or, or_true, false_or, or_false, false_and, and_false, eq_self_iff_true, Option.toList_some, Option.toList_none, List.cons_append, List.nil_append, mo_cat_0, mo_cat_c, mo_ct_i, mo_ct_l, mo_ct_r, mo_ct_n, mo_ct_f, Nat.zero_le, Nat.reduceAdd, Nat.reduceLeDiff, Nat.reduceLT, Nat.reduceEqDiff, Nat.reduceSub, mo_rf_s, mo_rf_n, reduceCtorEq, mo_st, mo_st2, mo_lg_0, mo_lg_s, List.set_cons_zero, List.set_cons_succ, List.length_cons, List.length_nil, List.getElem?_cons_zero, List.getElem?_cons_succ, Nat.reduceBEq, Bool.false_eq_true, beq_self_eq_true, mo_ME, mo_u_a, mo_z_a, mo_y_a, Nat.add_left_cancel_iff, mo_TSW, hs', H, hf, nI_1, nI_pred, mo_LC, Int32.reduceLT, Int32.reduceLE, i01, i12, i23, i34, hv, hc, h0, hk, he, hve, hce, hsrt, hst, hW]
  refine kQ _ ⟨r_sh_c hs (by simp only [m_push, mo_ME]) (by simp only [m_push, mo_ME]) (by simp only [m_push, mo_ME]), ?_⟩ ?_
  · simp only [r_vw_push, r_VW, hvw]
  · repeat (first | with_reducible exact r_fc_rf _ _ | with_reducible refine r_fc_push ?_ | with_reducible refine r_fc_I ?_ | with_reducible refine r_fc_L ?_ | with_reducible refine r_fc_AI (by decide) ?_ | with_reducible refine r_fc_AL (by decide) ?_)
set_option maxRecDepth 100000 in
set_option maxHeartbeats 1000000 in
theorem S_b9S {r f : Nat} {A : mo_A} {e : Nat} (hf : A.1 27 0 = nI (f + 1)) (hlt : f < 399) (h0 : A.1 37 0 = 0) (hk : A.1 28 f = 0) (he : A.1 29 f = nI e) (hel : e < 60) (hsrt : A.1 1 e = 9) (hst : A.1 30 f = 1) (hb : A.1 40 0 = 300) : r_S r A (a_I (a_L (a_I A 30 f 2) 44 f (A.2 36 0)) 37 0 8) := by
  intro μ h d Q kQ
  have hs := h.1
  have hs' := h.1
  unfold r_sh at hs'
  have hvw := h.2
  have H := r_rd h
  have hv : vp_in (nI f) 400 := vp_in_nI (by omega) (by decide)
  have hc : (nI f).toNatClampNeg = f := nI_clamp (by omega)
  have hve : vp_in (nI e) 60 := vp_in_nI hel (by decide)
  have hce : (nI e).toNatClampNeg = e := nI_clamp (by omega)
  have hW := fun d e x Q => R_workS (d := d) (μ := (mo_wAL (mo_wAI μ (r + 25) f 2) (r + 31) f (A.2 36 0))) (r_sh_c hs (by simp only [mo_ME]) (by simp only [mo_ME]) (by simp only [mo_ME])) (by simp only [mo_ME, mo_u_a, Nat.reduceEqDiff, false_and, if_false]; exact (r_rdI h 40 rfl).trans hb) e x Q
  simp only [we99_0, we99_1, we103_0, we103_1, we103_2, we103_3, we103_4, we107_0, we107_1, we107_2, en99, en103, en107, true_and, and_true, if_false, if_true, not_true_eq_false, not_false_eq_true, false_implies, true_implies, implies_true, forall_const, true_or, or_true, false_or, or_false, false_and, and_false, eq_self_iff_true, Option.toList_some, Option.toList_none, List.cons_append, List.nil_append, mo_cat_0, mo_cat_c, mo_ct_i, mo_ct_l, mo_ct_r, mo_ct_n, mo_ct_f, Nat.zero_le, Nat.reduceAdd, Nat.reduceLeDiff, Nat.reduceLT, Nat.reduceEqDiff, Nat.reduceSub, mo_rf_s, mo_rf_n, reduceCtorEq, mo_st, mo_st2, mo_lg_0, mo_lg_s, List.set_cons_zero, List.set_cons_succ, List.length_cons, List.length_nil, List.getElem?_cons_zero, List.getElem?_cons_succ, Nat.reduceBEq, Bool.false_eq_true, beq_self_eq_true, mo_ME, mo_u_a, mo_z_a, mo_y_a, Nat.add_left_cancel_iff, mo_TSW, hs', H, hf, nI_1, nI_pred, mo_LC, Int32.reduceLT, Int32.reduceLE, i01, i12, i23, i34, hv, hc, h0, hk, he, hve, hce, hsrt, hst, hW]
  refine kQ _ ⟨r_sh_c hs (by simp only [m_push, mo_ME]) (by simp only [m_push, mo_ME]) (by simp only [m_push, mo_ME]), ?_⟩ ?_
  · simp only [r_vw_push, r_VW, hvw]
  · repeat (first | with_reducible exact r_fc_rf _ _ | with_reducible refine r_fc_push ?_ | with_reducible refine r_fc_I ?_ | with_reducible refine r_fc_L ?_ | with_reducible refine r_fc_AI (by decide) ?_ | with_reducible refine r_fc_AL (by decide) ?_)
set_option maxRecDepth 100000 in
set_option maxHeartbeats 1000000 in
theorem S_c4 {r f : Nat} {A : mo_A} {e : Nat} (hf : A.1 27 0 = nI (f + 1)) (hlt : f < 399) (h0 : A.1 37 0 = 0) (hk : A.1 28 f = 0) (he : A.1 29 f = nI e) (hel : e < 60) (hsrt : A.1 1 e = 4) (hst : A.1 30 f = 2) : r_S r A (a_I (a_L (a_I A 30 f 3) 36 0 (A.2 44 f + A.2 36 0)) 27 0 (nI f)) := by
  intro μ h d Q kQ
  have hs := h.1
  have hs' := h.1
  unfold r_sh at hs'
  have hvw := h.2
  have H := r_rd h
  have hv : vp_in (nI f) 400 := vp_in_nI (by omega) (by decide)
  have hc : (nI f).toNatClampNeg = f := nI_clamp (by omega)
  have hve : vp_in (nI e) 60 := vp_in_nI hel (by decide)
  have hce : (nI e).toNatClampNeg = e := nI_clamp (by omega)
  have hW := fun d v Q => R_tell (d := d) (μ := (mo_wAI μ (r + 25) f 3)) (t := f) (r_sh_c hs (by simp only [mo_ME]) (by simp only [mo_ME]) (by simp only [mo_ME])) (by simp only [mo_ME, mo_u_a, Nat.reduceEqDiff, false_and, if_false]; exact (r_rdI h 27 rfl).trans hf) v Q
  simp only [we99_0, we99_1, we103_0, we103_1, we103_2, we103_3, we103_4, we104_0, we104_1, we104_2, en99, en103, en104, true_and, and_true, if_false, if_true, not_true_eq_false, not_false_eq_true, false_implies, true_implies, implies_true, forall_const, true_or, or_true, false_or, or_false, false_and, and_false, eq_self_iff_true, Option.toList_some, Option.toList_none, List.cons_append, List.nil_append, mo_cat_0, mo_cat_c, mo_ct_i, mo_ct_l, mo_ct_r, mo_ct_n, mo_ct_f, Nat.zero_le, Nat.reduceAdd, Nat.reduceLeDiff, Nat.reduceLT, Nat.reduceEqDiff, Nat.reduceSub, mo_rf_s, mo_rf_n, reduceCtorEq, mo_st, mo_st2, mo_lg_0, mo_lg_s, List.set_cons_zero, List.set_cons_succ, List.length_cons, List.length_nil, List.getElem?_cons_zero, List.getElem?_cons_succ, Nat.reduceBEq, Bool.false_eq_true, beq_self_eq_true, mo_ME, mo_u_a, mo_z_a, mo_y_a, Nat.add_left_cancel_iff, mo_TSW, hs', H, hf, nI_1, nI_pred, mo_LC, Int32.reduceLT, Int32.reduceLE, i01, i12, i23, i34, hv, hc, h0, hk, he, hve, hce, hsrt, hst, hW]
  refine kQ _ ⟨r_sh_c hs (by simp only [m_push, mo_ME]) (by simp only [m_push, mo_ME]) (by simp only [m_push, mo_ME]), ?_⟩ ?_
  · simp only [r_vw_push, r_VW, hvw]
  · repeat (first | with_reducible exact r_fc_rf _ _ | with_reducible refine r_fc_push ?_ | with_reducible refine r_fc_I ?_ | with_reducible refine r_fc_L ?_ | with_reducible refine r_fc_AI (by decide) ?_ | with_reducible refine r_fc_AL (by decide) ?_)
set_option maxRecDepth 100000 in
set_option maxHeartbeats 1000000 in
theorem S_c5 {r f : Nat} {A : mo_A} {e : Nat} (hf : A.1 27 0 = nI (f + 1)) (hlt : f < 399) (h0 : A.1 37 0 = 0) (hk : A.1 28 f = 0) (he : A.1 29 f = nI e) (hel : e < 60) (hsrt : A.1 1 e = 5) (hst : A.1 30 f = 2) : r_S r A (a_I (a_L (a_I A 30 f 3) 36 0 (A.2 44 f - A.2 36 0)) 27 0 (nI f)) := by
  intro μ h d Q kQ
  have hs := h.1
  have hs' := h.1
  unfold r_sh at hs'
  have hvw := h.2
  have H := r_rd h
  have hv : vp_in (nI f) 400 := vp_in_nI (by omega) (by decide)
  have hc : (nI f).toNatClampNeg = f := nI_clamp (by omega)
  have hve : vp_in (nI e) 60 := vp_in_nI hel (by decide)
  have hce : (nI e).toNatClampNeg = e := nI_clamp (by omega)
  have hW := fun d v Q => R_tell (d := d) (μ := (mo_wAI μ (r + 25) f 3)) (t := f) (r_sh_c hs (by simp only [mo_ME]) (by simp only [mo_ME]) (by simp only [mo_ME])) (by simp only [mo_ME, mo_u_a, Nat.reduceEqDiff, false_and, if_false]; exact (r_rdI h 27 rfl).trans hf) v Q
  simp only [we99_0, we99_1, we103_0, we103_1, we103_2, we103_3, we103_4, we104_0, we104_1, we104_2, en99, en103, en104, true_and, and_true, if_false, if_true, not_true_eq_false, not_false_eq_true, false_implies, true_implies, implies_true, forall_const, true_or, or_true, false_or, or_false, false_and, and_false, eq_self_iff_true, Option.toList_some, Option.toList_none, List.cons_append, List.nil_append, mo_cat_0, mo_cat_c, mo_ct_i, mo_ct_l, mo_ct_r, mo_ct_n, mo_ct_f, Nat.zero_le, Nat.reduceAdd, Nat.reduceLeDiff, Nat.reduceLT, Nat.reduceEqDiff, Nat.reduceSub, mo_rf_s, mo_rf_n, reduceCtorEq, mo_st, mo_st2, mo_lg_0, mo_lg_s, List.set_cons_zero, List.set_cons_succ, List.length_cons, List.length_nil, List.getElem?_cons_zero, List.getElem?_cons_succ, Nat.reduceBEq, Bool.false_eq_true, beq_self_eq_true, mo_ME, mo_u_a, mo_z_a, mo_y_a, Nat.add_left_cancel_iff, mo_TSW, hs', H, hf, nI_1, nI_pred, mo_LC, Int32.reduceLT, Int32.reduceLE, i01, i12, i23, i34, hv, hc, h0, hk, he, hve, hce, hsrt, hst, hW]
  refine kQ _ ⟨r_sh_c hs (by simp only [m_push, mo_ME]) (by simp only [m_push, mo_ME]) (by simp only [m_push, mo_ME]), ?_⟩ ?_
  · simp only [r_vw_push, r_VW, hvw]
  · repeat (first | with_reducible exact r_fc_rf _ _ | with_reducible refine r_fc_push ?_ | with_reducible refine r_fc_I ?_ | with_reducible refine r_fc_L ?_ | with_reducible refine r_fc_AI (by decide) ?_ | with_reducible refine r_fc_AL (by decide) ?_)
set_option maxRecDepth 100000 in
set_option maxHeartbeats 1000000 in
theorem S_c6 {r f : Nat} {A : mo_A} {e : Nat} (hf : A.1 27 0 = nI (f + 1)) (hlt : f < 399) (h0 : A.1 37 0 = 0) (hk : A.1 28 f = 0) (he : A.1 29 f = nI e) (hel : e < 60) (hsrt : A.1 1 e = 6) (hst : A.1 30 f = 2) (hz : ¬ A.2 36 0 = 0) : r_S r A (a_I (a_L (a_I A 30 f 3) 36 0 (A.2 44 f / A.2 36 0)) 27 0 (nI f)) := by
  intro μ h d Q kQ
  have hs := h.1
  have hs' := h.1
  unfold r_sh at hs'
  have hvw := h.2
  have H := r_rd h
  have hv : vp_in (nI f) 400 := vp_in_nI (by omega) (by decide)
  have hc : (nI f).toNatClampNeg = f := nI_clamp (by omega)
  have hve : vp_in (nI e) 60 := vp_in_nI hel (by decide)
  have hce : (nI e).toNatClampNeg = e := nI_clamp (by omega)
  have hW := fun d v Q => R_tell (d := d) (μ := (mo_wAI μ (r + 25) f 3)) (t := f) (r_sh_c hs (by simp only [mo_ME]) (by simp only [mo_ME]) (by simp only [mo_ME])) (by simp only [mo_ME, mo_u_a, Nat.reduceEqDiff, false_and, if_false]; exact (r_rdI h 27 rfl).trans hf) v Q
  simp only [we99_0, we99_1, we103_0, we103_1, we103_2, we103_3, we103_4, we104_0, we104_1, we104_2, en99, en103, en104, true_and, and_true, if_false, if_true, not_true_eq_false, not_false_eq_true, false_implies, true_implies, implies_true, forall_const, true_or, or_true, false_or, or_false, false_and, and_false, eq_self_iff_true, Option.toList_some, Option.toList_none, List.cons_append, List.nil_append, mo_cat_0, mo_cat_c, mo_ct_i, mo_ct_l, mo_ct_r, mo_ct_n, mo_ct_f, Nat.zero_le, Nat.reduceAdd, Nat.reduceLeDiff, Nat.reduceLT, Nat.reduceEqDiff, Nat.reduceSub, mo_rf_s, mo_rf_n, reduceCtorEq, mo_st, mo_st2, mo_lg_0, mo_lg_s, List.set_cons_zero, List.set_cons_succ, List.length_cons, List.length_nil, List.getElem?_cons_zero, List.getElem?_cons_succ, Nat.reduceBEq, Bool.false_eq_true, beq_self_eq_true, mo_ME, mo_u_a, mo_z_a, mo_y_a, Nat.add_left_cancel_iff, mo_TSW, hs', H, hf, nI_1, nI_pred, mo_LC, Int32.reduceLT, Int32.reduceLE, i01, i12, i23, i34, hv, hc, h0, hk, he, hve, hce, hsrt, hst, hz, cmE, hW]
  refine kQ _ ⟨r_sh_c hs (by simp only [m_push, mo_ME]) (by simp only [m_push, mo_ME]) (by simp only [m_push, mo_ME]), ?_⟩ ?_
  · simp only [r_vw_push, r_VW, hvw]
  · repeat (first | with_reducible exact r_fc_rf _ _ | with_reducible refine r_fc_push ?_ | with_reducible refine r_fc_I ?_ | with_reducible refine r_fc_L ?_ | with_reducible refine r_fc_AI (by decide) ?_ | with_reducible refine r_fc_AL (by decide) ?_)
set_option maxRecDepth 100000 in
set_option maxHeartbeats 1000000 in
theorem S_c6Fa {r f : Nat} {A : mo_A} {e q : Nat} (hf : A.1 27 0 = nI (f + 1)) (hlt : f < 399) (h0 : A.1 37 0 = 0) (hk : A.1 28 f = 0) (he : A.1 29 f = nI e) (hel : e < 60) (hsrt : A.1 1 e = 6) (hst : A.1 30 f = 2) (hz : A.2 36 0 = 0) (hq : A.1 39 0 = nI q) (hq4 : q < 4) : r_S r A (a_I (a_I (a_I A 30 f 3) 39 0 (nI (q + 1))) 37 0 3) := by
  intro μ h d Q kQ
  have hs := h.1
  have hs' := h.1
  unfold r_sh at hs'
  have hvw := h.2
  have H := r_rd h
  have hv : vp_in (nI f) 400 := vp_in_nI (by omega) (by decide)
  have hc : (nI f).toNatClampNeg = f := nI_clamp (by omega)
  have hve : vp_in (nI e) 60 := vp_in_nI hel (by decide)
  have hce : (nI e).toNatClampNeg = e := nI_clamp (by omega)
  have hW := fun d w Q => R_fail (d := d) (μ := (mo_wAI μ (r + 25) f 3)) (k := q) (r_sh_c hs (by simp only [mo_ME]) (by simp only [mo_ME]) (by simp only [mo_ME])) (by simp only [mo_ME, mo_u_a, Nat.reduceEqDiff, false_and, if_false]; exact (r_rdI h 39 rfl).trans hq) hq4 w Q
  simp only [we99_0, we99_1, we103_0, we103_1, we103_2, we103_3, we103_4, we104_0, we104_1, we104_2, en99, en103, en104, true_and, and_true, if_false, if_true, not_true_eq_false, not_false_eq_true, false_implies, true_implies, implies_true, forall_const, true_or, or_true, false_or, or_false, false_and, and_false, eq_self_iff_true, Option.toList_some, Option.toList_none, List.cons_append, List.nil_append, mo_cat_0, mo_cat_c, mo_ct_i, mo_ct_l, mo_ct_r, mo_ct_n, mo_ct_f, Nat.zero_le, Nat.reduceAdd, Nat.reduceLeDiff, Nat.reduceLT, Nat.reduceEqDiff, Nat.reduceSub, mo_rf_s, mo_rf_n, reduceCtorEq, mo_st, mo_st2, mo_lg_0, mo_lg_s, List.set_cons_zero, List.set_cons_succ, List.length_cons, List.length_nil, List.getElem?_cons_zero, List.getElem?_cons_succ, Nat.reduceBEq, Bool.false_eq_true, beq_self_eq_true, mo_ME, mo_u_a, mo_z_a, mo_y_a, Nat.add_left_cancel_iff, mo_TSW, hs', H, hf, nI_1, nI_pred, mo_LC, Int32.reduceLT, Int32.reduceLE, i01, i12, i23, i34, hv, hc, h0, hk, he, hve, hce, hsrt, hst, hz, cmE, hW]
  refine kQ _ ⟨r_sh_c hs (by simp only [m_push, mo_ME]) (by simp only [m_push, mo_ME]) (by simp only [m_push, mo_ME]), ?_⟩ ?_
  · simp only [r_vw_push, r_VW, hvw]
  · repeat (first | with_reducible exact r_fc_rf _ _ | with_reducible refine r_fc_push ?_ | with_reducible refine r_fc_I ?_ | with_reducible refine r_fc_L ?_ | with_reducible refine r_fc_AI (by decide) ?_ | with_reducible refine r_fc_AL (by decide) ?_)
set_option maxRecDepth 100000 in
set_option maxHeartbeats 1000000 in
theorem S_c6Fb {r f : Nat} {A : mo_A} {e  : Nat} (hf : A.1 27 0 = nI (f + 1)) (hlt : f < 399) (h0 : A.1 37 0 = 0) (hk : A.1 28 f = 0) (he : A.1 29 f = nI e) (hel : e < 60) (hsrt : A.1 1 e = 6) (hst : A.1 30 f = 2) (hz : A.2 36 0 = 0) (hq : A.1 39 0 = nI 4) : r_S r A (a_I (a_I (a_I A 30 f 3) 39 0 (nI 5)) 37 0 8) := by
  intro μ h d Q kQ
  have hs := h.1
  have hs' := h.1
  unfold r_sh at hs'
  have hvw := h.2
  have H := r_rd h
  have hv : vp_in (nI f) 400 := vp_in_nI (by omega) (by decide)
  have hc : (nI f).toNatClampNeg = f := nI_clamp (by omega)
  have hve : vp_in (nI e) 60 := vp_in_nI hel (by decide)
  have hce : (nI e).toNatClampNeg = e := nI_clamp (by omega)
  have hW := fun d w Q => R_failS (d := d) (μ := (mo_wAI μ (r + 25) f 3)) (r_sh_c hs (by simp only [mo_ME]) (by simp only [mo_ME]) (by simp only [mo_ME])) (by simp only [mo_ME, mo_u_a, Nat.reduceEqDiff, false_and, if_false]; exact (r_rdI h 39 rfl).trans hq) w Q
  simp only [we99_0, we99_1, we103_0, we103_1, we103_2, we103_3, we103_4, we104_0, we104_1, we104_2, en99, en103, en104, true_and, and_true, if_false, if_true, not_true_eq_false, not_false_eq_true, false_implies, true_implies, implies_true, forall_const, true_or, or_true, false_or, or_false, false_and, and_false, eq_self_iff_true, Option.toList_some, Option.toList_none, List.cons_append, List.nil_append, mo_cat_0, mo_cat_c, mo_ct_i, mo_ct_l, mo_ct_r, mo_ct_n, mo_ct_f, Nat.zero_le, Nat.reduceAdd, Nat.reduceLeDiff, Nat.reduceLT, Nat.reduceEqDiff, Nat.reduceSub, mo_rf_s, mo_rf_n, reduceCtorEq, mo_st, mo_st2, mo_lg_0, mo_lg_s, List.set_cons_zero, List.set_cons_succ, List.length_cons, List.length_nil, List.getElem?_cons_zero, List.getElem?_cons_succ, Nat.reduceBEq, Bool.false_eq_true, beq_self_eq_true, mo_ME, mo_u_a, mo_z_a, mo_y_a, Nat.add_left_cancel_iff, mo_TSW, hs', H, hf, nI_1, nI_pred, mo_LC, Int32.reduceLT, Int32.reduceLE, i01, i12, i23, i34, hv, hc, h0, hk, he, hve, hce, hsrt, hst, hz, cmE, hW]
  refine kQ _ ⟨r_sh_c hs (by simp only [m_push, mo_ME]) (by simp only [m_push, mo_ME]) (by simp only [m_push, mo_ME]), ?_⟩ ?_
  · simp only [r_vw_push, r_VW, hvw]
  · repeat (first | with_reducible exact r_fc_rf _ _ | with_reducible refine r_fc_push ?_ | with_reducible refine r_fc_I ?_ | with_reducible refine r_fc_L ?_ | with_reducible refine r_fc_AI (by decide) ?_ | with_reducible refine r_fc_AL (by decide) ?_)
set_option maxRecDepth 100000 in
set_option maxHeartbeats 1000000 in
theorem S_d7 {r f : Nat} {A : mo_A} {e : Nat} (hf : A.1 27 0 = nI (f + 1)) (hlt : f < 399) (h0 : A.1 37 0 = 0) (hk : A.1 28 f = 0) (he : A.1 29 f = nI e) (hel : e < 60) (hsrt : A.1 1 e = 7) (hst : A.1 30 f = 2) : r_S r A (a_I (a_I A 30 f 3) 27 0 (nI f)) := by
  intro μ h d Q kQ
  have hs := h.1
  have hs' := h.1
  unfold r_sh at hs'
  have hvw := h.2
  have H := r_rd h
  have hv : vp_in (nI f) 400 := vp_in_nI (by omega) (by decide)
  have hc : (nI f).toNatClampNeg = f := nI_clamp (by omega)
  have hve : vp_in (nI e) 60 := vp_in_nI hel (by decide)
  have hce : (nI e).toNatClampNeg = e := nI_clamp (by omega)
  simp only [we99_0, we99_1, we103_0, we103_1, we103_2, we103_3, we103_4, we106_0, we106_1, we106_2, en99, en103, en106, true_and, and_true, if_false, if_true, not_true_eq_false, not_false_eq_true, false_implies, true_implies, implies_true, forall_const, true_or, or_true, false_or, or_false, false_and, and_false, eq_self_iff_true, Option.toList_some, Option.toList_none, List.cons_append, List.nil_append, mo_cat_0, mo_cat_c, mo_ct_i, mo_ct_l, mo_ct_r, mo_ct_n, mo_ct_f, Nat.zero_le, Nat.reduceAdd, Nat.reduceLeDiff, Nat.reduceLT, Nat.reduceEqDiff, Nat.reduceSub, mo_rf_s, mo_rf_n, reduceCtorEq, mo_st, mo_st2, mo_lg_0, mo_lg_s, List.set_cons_zero, List.set_cons_succ, List.length_cons, List.length_nil, List.getElem?_cons_zero, List.getElem?_cons_succ, Nat.reduceBEq, Bool.false_eq_true, beq_self_eq_true, mo_ME, mo_u_a, mo_z_a, mo_y_a, Nat.add_left_cancel_iff, mo_TSW, hs', H, hf, nI_1, nI_pred, mo_LC, Int32.reduceLT, Int32.reduceLE, i01, i12, i23, i34, hv, hc, h0, hk, he, hve, hce, hsrt, hst]
  refine kQ _ ⟨r_sh_c hs (by simp only [m_push, mo_ME]) (by simp only [m_push, mo_ME]) (by simp only [m_push, mo_ME]), ?_⟩ ?_
  · simp only [r_vw_push, r_VW, hvw]
  · repeat (first | with_reducible exact r_fc_rf _ _ | with_reducible refine r_fc_push ?_ | with_reducible refine r_fc_I ?_ | with_reducible refine r_fc_L ?_ | with_reducible refine r_fc_AI (by decide) ?_ | with_reducible refine r_fc_AL (by decide) ?_)
set_option maxRecDepth 100000 in
set_option maxHeartbeats 1000000 in
theorem S_d8 {r f : Nat} {A : mo_A} {e : Nat} (hf : A.1 27 0 = nI (f + 1)) (hlt : f < 399) (h0 : A.1 37 0 = 0) (hk : A.1 28 f = 0) (he : A.1 29 f = nI e) (hel : e < 60) (hsrt : A.1 1 e = 8) (hst : A.1 30 f = 2) : r_S r A (a_I (a_I A 30 f 3) 27 0 (nI f)) := by
  intro μ h d Q kQ
  have hs := h.1
  have hs' := h.1
  unfold r_sh at hs'
  have hvw := h.2
  have H := r_rd h
  have hv : vp_in (nI f) 400 := vp_in_nI (by omega) (by decide)
  have hc : (nI f).toNatClampNeg = f := nI_clamp (by omega)
  have hve : vp_in (nI e) 60 := vp_in_nI hel (by decide)
  have hce : (nI e).toNatClampNeg = e := nI_clamp (by omega)
  simp only [we99_0, we99_1, we103_0, we103_1, we103_2, we103_3, we103_4, we106_0, we106_1, we106_2, en99, en103, en106, true_and, and_true, if_false, if_true, not_true_eq_false, not_false_eq_true, false_implies, true_implies, implies_true, forall_const, true_or, or_true, false_or, or_false, false_and, and_false, eq_self_iff_true, Option.toList_some, Option.toList_none, List.cons_append, List.nil_append, mo_cat_0, mo_cat_c, mo_ct_i, mo_ct_l, mo_ct_r, mo_ct_n, mo_ct_f, Nat.zero_le, Nat.reduceAdd, Nat.reduceLeDiff, Nat.reduceLT, Nat.reduceEqDiff, Nat.reduceSub, mo_rf_s, mo_rf_n, reduceCtorEq, mo_st, mo_st2, mo_lg_0, mo_lg_s, List.set_cons_zero, List.set_cons_succ, List.length_cons, List.length_nil, List.getElem?_cons_zero, List.getElem?_cons_succ, Nat.reduceBEq, Bool.false_eq_true, beq_self_eq_true, mo_ME, mo_u_a, mo_z_a, mo_y_a, Nat.add_left_cancel_iff, mo_TSW, hs', H, hf, nI_1, nI_pred, mo_LC, Int32.reduceLT, Int32.reduceLE, i01, i12, i23, i34, hv, hc, h0, hk, he, hve, hce, hsrt, hst]
  refine kQ _ ⟨r_sh_c hs (by simp only [m_push, mo_ME]) (by simp only [m_push, mo_ME]) (by simp only [m_push, mo_ME]), ?_⟩ ?_
  · simp only [r_vw_push, r_VW, hvw]
  · repeat (first | with_reducible exact r_fc_rf _ _ | with_reducible refine r_fc_push ?_ | with_reducible refine r_fc_I ?_ | with_reducible refine r_fc_L ?_ | with_reducible refine r_fc_AI (by decide) ?_ | with_reducible refine r_fc_AL (by decide) ?_)
set_option maxRecDepth 100000 in
set_option maxHeartbeats 1000000 in
theorem S_t1 {r f : Nat} {A : mo_A} {e : Nat} (hf : A.1 27 0 = nI (f + 1)) (hlt : f < 399) (h0 : A.1 37 0 = 0) (hk : A.1 28 f = 0) (he : A.1 29 f = nI e) (hel : e < 60) (hsrt : A.1 1 e = 10) (hst : A.1 30 f = 1) : r_S r A (a_I (a_I A 30 f 2) 27 0 (nI f)) := by
  intro μ h d Q kQ
  have hs := h.1
  have hs' := h.1
  unfold r_sh at hs'
  have hvw := h.2
  have H := r_rd h
  have hv : vp_in (nI f) 400 := vp_in_nI (by omega) (by decide)
  have hc : (nI f).toNatClampNeg = f := nI_clamp (by omega)
  have hve : vp_in (nI e) 60 := vp_in_nI hel (by decide)
  have hce : (nI e).toNatClampNeg = e := nI_clamp (by omega)
  simp only [we99_0, we99_1, we103_0, we103_1, we103_2, we103_3, we103_4, en99, en103, true_and, and_true, if_false, if_true, not_true_eq_false, not_false_eq_true, false_implies, true_implies, implies_true, forall_const, true_or, or_true, false_or, or_false, false_and, and_false, eq_self_iff_true, Option.toList_some, Option.toList_none, List.cons_append, List.nil_append, mo_cat_0, mo_cat_c, mo_ct_i, mo_ct_l, mo_ct_r, mo_ct_n, mo_ct_f, Nat.zero_le, Nat.reduceAdd, Nat.reduceLeDiff, Nat.reduceLT, Nat.reduceEqDiff, Nat.reduceSub, mo_rf_s, mo_rf_n, reduceCtorEq, mo_st, mo_st2, mo_lg_0, mo_lg_s, List.set_cons_zero, List.set_cons_succ, List.length_cons, List.length_nil, List.getElem?_cons_zero, List.getElem?_cons_succ, Nat.reduceBEq, Bool.false_eq_true, beq_self_eq_true, mo_ME, mo_u_a, mo_z_a, mo_y_a, Nat.add_left_cancel_iff, mo_TSW, hs', H, hf, nI_1, nI_pred, mo_LC, Int32.reduceLT, Int32.reduceLE, i01, i12, i23, i34, hv, hc, h0, hk, he, hve, hce, hsrt, hst]
  refine kQ _ ⟨r_sh_c hs (by simp only [m_push, mo_ME]) (by simp only [m_push, mo_ME]) (by simp only [m_push, mo_ME]), ?_⟩ ?_
  · simp only [r_vw_push, r_VW, hvw]
  · repeat (first | with_reducible exact r_fc_rf _ _ | with_reducible refine r_fc_push ?_ | with_reducible refine r_fc_I ?_ | with_reducible refine r_fc_L ?_ | with_reducible refine r_fc_AI (by decide) ?_ | with_reducible refine r_fc_AL (by decide) ?_)
set_option maxRecDepth 100000 in
set_option maxHeartbeats 1000000 in
theorem S_t2 {r f : Nat} {A : mo_A} {e : Nat} (hf : A.1 27 0 = nI (f + 1)) (hlt : f < 399) (h0 : A.1 37 0 = 0) (hk : A.1 28 f = 0) (he : A.1 29 f = nI e) (hel : e < 60) (hsrt : A.1 1 e = 10) (hst : A.1 30 f = 2) : r_S r A (a_I (a_I A 30 f 3) 27 0 (nI f)) := by
  intro μ h d Q kQ
  have hs := h.1
  have hs' := h.1
  unfold r_sh at hs'
  have hvw := h.2
  have H := r_rd h
  have hv : vp_in (nI f) 400 := vp_in_nI (by omega) (by decide)
  have hc : (nI f).toNatClampNeg = f := nI_clamp (by omega)
  have hve : vp_in (nI e) 60 := vp_in_nI hel (by decide)
  have hce : (nI e).toNatClampNeg = e := nI_clamp (by omega)
  simp only [we99_0, we99_1, we103_0, we103_1, we103_2, we103_3, we103_4, en99, en103, true_and, and_true, if_false, if_true, not_true_eq_false, not_false_eq_true, false_implies, true_implies, implies_true, forall_const, true_or, or_true, false_or, or_false, false_and, and_false, eq_self_iff_true, Option.toList_some, Option.toList_none, List.cons_append, List.nil_append, mo_cat_0, mo_cat_c, mo_ct_i, mo_ct_l, mo_ct_r, mo_ct_n, mo_ct_f, Nat.zero_le, Nat.reduceAdd, Nat.reduceLeDiff, Nat.reduceLT, Nat.reduceEqDiff, Nat.reduceSub, mo_rf_s, mo_rf_n, reduceCtorEq, mo_st, mo_st2, mo_lg_0, mo_lg_s, List.set_cons_zero, List.set_cons_succ, List.length_cons, List.length_nil, List.getElem?_cons_zero, List.getElem?_cons_succ, Nat.reduceBEq, Bool.false_eq_true, beq_self_eq_true, mo_ME, mo_u_a, mo_z_a, mo_y_a, Nat.add_left_cancel_iff, mo_TSW, hs', H, hf, nI_1, nI_pred, mo_LC, Int32.reduceLT, Int32.reduceLE, i01, i12, i23, i34, hv, hc, h0, hk, he, hve, hce, hsrt, hst]
  refine kQ _ ⟨r_sh_c hs (by simp only [m_push, mo_ME]) (by simp only [m_push, mo_ME]) (by simp only [m_push, mo_ME]), ?_⟩ ?_
  · simp only [r_vw_push, r_VW, hvw]
  · repeat (first | with_reducible exact r_fc_rf _ _ | with_reducible refine r_fc_push ?_ | with_reducible refine r_fc_I ?_ | with_reducible refine r_fc_L ?_ | with_reducible refine r_fc_AI (by decide) ?_ | with_reducible refine r_fc_AL (by decide) ?_)
