/-- a new class, ahead of its row -/
def m_t1 (μ : mo_Mem) (nc : Nat) (par : Option Nat) (lv c f : Int32) : mo_Mem := mo_wI (mo_wI (mo_wI (mo_wR (mo_wI (mo_wI (mo_wR (mo_new (mo_wR (mo_wI (mo_wI (mo_wR (mo_new (mo_new (mo_wR (mo_new (mo_new μ 11 0 9) 20 4 4) 645 (mo_X μ) (some (mo_X μ + 1))) 2 0 4) 30 8 8) 66 (mo_X μ + 1 + 1) (some (mo_X μ + 1 + 1 + 1))) 64 (mo_X μ + 1 + 1) 0) 65 (mo_X μ + 1 + 1) (-1)) 646 (mo_X μ) (some (mo_X μ + 1 + 1))) 31 4 4) 647 (mo_X μ) (some (mo_X μ + 1 + 1 + 1 + 1))) 648 (mo_X μ) (-1)) 640 (mo_X μ) (nI nc)) 641 (mo_X μ) par) 642 (mo_X μ) lv) 643 (mo_X μ) c) 644 (mo_X μ) f
def m_ty (x : Nat) (μ : mo_Mem) (nc : Nat) (par : Option Nat) (lv c f : Int32) : mo_Mem := mo_wI (mo_wAR (mo_wAI (mo_wAI (mo_wAI (mo_wAI (m_t1 μ nc par lv c f) (mo_X μ + 1) 0 (-1)) (mo_X μ + 1) 1 (-1)) (mo_X μ + 1) 2 (-1)) (mo_X μ + 1) 3 (-1)) (x + 4) nc (some (mo_X μ))) 451 (x + 2) (nI (nc + 1))
theorem i4L : (Int32.ofNat 4 ≤ 0) = False ∧ (Int32.ofNat 4 ≤ 1) = False ∧ (Int32.ofNat 4 ≤ 2) = False ∧ (Int32.ofNat 4 ≤ 3) = False ∧ (Int32.ofNat 4 ≤ 4) = True ∧ vp_in 0 4 ∧ vp_in 1 4 ∧ vp_in 2 4 ∧ vp_in 3 4 ∧ Int32.toNatClampNeg 0 = 0 ∧ Int32.toNatClampNeg 1 = 1 ∧ Int32.toNatClampNeg 2 = 2 ∧ Int32.toNatClampNeg 3 = 3 ∧ Int32.toNatClampNeg 4 = 4 ∧ Int32.toNatClampNeg 8 = 8 ∧ ((4 : Int32) < 0) = False ∧ ((8 : Int32) < 0) = False :=
  ⟨eq_false (by decide), eq_false (by decide), eq_false (by decide), eq_false (by decide), eq_true (by decide), vp_in_nI (n := 0) (by decide) (by decide), vp_in_nI (n := 1) (by decide) (by decide), vp_in_nI (n := 2) (by decide) (by decide), vp_in_nI (n := 3) (by decide) (by decide), by decide, by decide, by decide, by decide, by decide, by decide, eq_false (by decide), eq_false (by decide)⟩
theorem L_tyN {d x nc : Nat} {μ : mo_Mem} (hs : cl_sf x μ) (hX : x + 60 ≤ mo_X μ) (hn : mo_I μ 451 (x + 2) = nI nc) (hn1 : nc < 8) (c f : Int32) (Q : mo_P) : mo_M (d + 3) 46 [.ref (x + 2), .null, .int c, .int f] μ Q = Q (some (.int (nI nc))) (m_ty x μ nc none 0 c f) := by
  have hs' := hs
  unfold cl_sf at hs'
  have g1 : (nI nc < Int32.ofNat 8) = True := i_lt (b := 8) hn1 (by decide)
  have g3 : vp_in (nI nc) 8 := vp_in_nI (by omega) (by decide)
  have g4 : (nI nc).toNatClampNeg = nc := nI_clamp (by omega)
  have p1 : (mo_X μ = mo_X μ + 1) = False := eq_false (by omega)
  have p2 : (mo_X μ = mo_X μ + 1 + 1) = False := eq_false (by omega)
  have p3 : (mo_X μ =  mo_X μ + 2) = False := eq_false (by omega)
  have p4 : (mo_X μ = mo_X μ + 1 + 1 + 1) = False := eq_false (by omega)
  have p5 : (mo_X μ =  mo_X μ + 3) = False := eq_false (by omega)
  have p6 : (mo_X μ = mo_X μ + 1 + 1 + 1 + 1) = False := eq_false (by omega)
  have p7 : (mo_X μ =  mo_X μ + 4) = False := eq_false (by omega)
  have p8 : (x = mo_X μ) = False := eq_false (by omega)
  have p9 : (x = mo_X μ + 1) = False := eq_false (by omega)
  have p10 : (x = mo_X μ + 1 + 1) = False := eq_false (by omega)
  have p11 : (x = mo_X μ + 1 + 1 + 1) = False := eq_false (by omega)
  have p12 : (x = mo_X μ + 1 + 1 + 1 + 1) = False := eq_false (by omega)
  have p13 : (x = mo_X μ + 2) = False := eq_false (by omega)
  have p14 : (x = mo_X μ + 3) = False := eq_false (by omega)
  have p15 : (x = mo_X μ + 4) = False := eq_false (by omega)
  have p16 : (x + 1 = mo_X μ) = False := eq_false (by omega)
  have p17 : (x + 1 = mo_X μ + 1) = False := eq_false (by omega)
  have p18 : (x + 1 = mo_X μ + 1 + 1) = False := eq_false (by omega)
  have p19 : (x + 1 = mo_X μ + 1 + 1 + 1) = False := eq_false (by omega)
  have p20 : (x + 1 = mo_X μ + 1 + 1 + 1 + 1) = False := eq_false (by omega)
  have p21 : (x + 1 = mo_X μ + 2) = False := eq_false (by omega)
  have p22 : (x + 1 = mo_X μ + 3) = False := eq_false (by omega)
  have p23 : (x + 1 = mo_X μ + 4) = False := eq_false (by omega)
  have p24 : (x + 2 = mo_X μ) = False := eq_false (by omega)
  have p25 : (x + 2 = mo_X μ + 1) = False := eq_false (by omega)
  have p26 : (x + 2 = mo_X μ + 1 + 1) = False := eq_false (by omega)
  have p27 : (x + 2 = mo_X μ + 1 + 1 + 1) = False := eq_false (by omega)
  have p28 : (x + 2 = mo_X μ + 1 + 1 + 1 + 1) = False := eq_false (by omega)
  have p29 : (x + 2 = mo_X μ + 2) = False := eq_false (by omega)
  have p30 : (x + 2 = mo_X μ + 3) = False := eq_false (by omega)
  have p31 : (x + 2 = mo_X μ + 4) = False := eq_false (by omega)
  have p32 : (x + 3 = mo_X μ) = False := eq_false (by omega)
  have p33 : (x + 3 = mo_X μ + 1) = False := eq_false (by omega)
  have p34 : (x + 3 = mo_X μ + 1 + 1) = False := eq_false (by omega)
  have p35 : (x + 3 = mo_X μ + 1 + 1 + 1) = False := eq_false (by omega)
  have p36 : (x + 3 = mo_X μ + 1 + 1 + 1 + 1) = False := eq_false (by omega)
  have p37 : (x + 3 = mo_X μ + 2) = False := eq_false (by omega)
  have p38 : (x + 3 = mo_X μ + 3) = False := eq_false (by omega)
  have p39 : (x + 3 = mo_X μ + 4) = False := eq_false (by omega)
  have p40 : (x + 4 = mo_X μ) = False := eq_false (by omega)
  have p41 : (x + 4 = mo_X μ + 1) = False := eq_false (by omega)
  have p42 : (x + 4 = mo_X μ + 1 + 1) = False := eq_false (by omega)
  have p43 : (x + 4 = mo_X μ + 1 + 1 + 1) = False := eq_false (by omega)
  have p44 : (x + 4 = mo_X μ + 1 + 1 + 1 + 1) = False := eq_false (by omega)
  have p45 : (x + 4 = mo_X μ + 2) = False := eq_false (by omega)
  have p46 : (x + 4 = mo_X μ + 3) = False := eq_false (by omega)
  have p47 : (x + 4 = mo_X μ + 4) = False := eq_false (by omega)
  have p56 : (mo_X μ + 1 = mo_X μ + 1 + 1) = False := eq_false (by omega)
  have p57 : (mo_X μ + 1 = mo_X μ + 1 + 1 + 1) = False := eq_false (by omega)
  have p58 : (mo_X μ + 1 = mo_X μ + 1 + 1 + 1 + 1) = False := eq_false (by omega)
  rw [← mo_rf_n, en46.2]
  simp only [we46, we59_0, we59_1, we3, en46, en59, en3, true_and, and_true, if_false, if_true, not_true_eq_false, not_false_eq_true, false_implies, true_implies, implies_true, forall_const, true_or, or_true, false_or, or_false, false_and, and_false, eq_self_iff_true, Option.toList_some, Option.toList_none, List.cons_append, List.nil_append, mo_cat_0, mo_cat_c, mo_ct_i, mo_ct_l, mo_ct_r, mo_ct_n, mo_ct_f, Nat.zero_le, Nat.reduceAdd, Nat.reduceLeDiff, Nat.reduceLT, Nat.reduceEqDiff, Nat.reduceSub, mo_rf_s, mo_rf_n, reduceCtorEq, mo_st, mo_st2, mo_lg_0, mo_lg_s, List.set_cons_zero, List.set_cons_succ, List.length_cons, List.length_nil, List.getElem?_cons_zero, List.getElem?_cons_succ, Nat.reduceBEq, Bool.false_eq_true, beq_self_eq_true, hs', hn, g1, g3, g4, nI_1, nI_pred, i01, i12, i23, i34, i4L, mo_LC, mo_v, p1, p2, p3, p4, p5, p6, p7, p8, p9, p10, p11, p12, p13, p14, p15, p16, p17, p18, p19, p20, p21, p22, p23, p24, p25, p26, p27, p28, p29, p30, p31, p32, p33, p34, p35, p36, p37, p38, p39, p40, p41, p42, p43, p44, p45, p46, p47, p56, p57, p58, mo_ME, mo_u_a, mo_z_a, mo_y_a, Nat.add_left_cancel_iff]
  rw [← mo_rf_n, en59.2]
  simp only [we46, we59_0, we59_1, we3, en46, en59, en3, true_and, and_true, if_false, if_true, not_true_eq_false, not_false_eq_true, false_implies, true_implies, implies_true, forall_const, true_or, or_true, false_or, or_false, false_and, and_false, eq_self_iff_true, Option.toList_some, Option.toList_none, List.cons_append, List.nil_append, mo_cat_0, mo_cat_c, mo_ct_i, mo_ct_l, mo_ct_r, mo_ct_n, mo_ct_f, Nat.zero_le, Nat.reduceAdd, Nat.reduceLeDiff, Nat.reduceLT, Nat.reduceEqDiff, Nat.reduceSub, mo_rf_s, mo_rf_n, reduceCtorEq, mo_st, mo_st2, mo_lg_0, mo_lg_s, List.set_cons_zero, List.set_cons_succ, List.length_cons, List.length_nil, List.getElem?_cons_zero, List.getElem?_cons_succ, Nat.reduceBEq, Bool.false_eq_true, beq_self_eq_true, hs', hn, g1, g3, g4, nI_1, nI_pred, i01, i12, i23, i34, i4L, mo_LC, mo_v, p1, p2, p3, p4, p5, p6, p7, p8, p9, p10, p11, p12, p13, p14, p15, p16, p17, p18, p19, p20, p21, p22, p23, p24, p25, p26, p27, p28, p29, p30, p31, p32, p33, p34, p35, p36, p37, p38, p39, p40, p41, p42, p43, p44, p45, p46, p47, p56, p57, p58, mo_ME, mo_u_a, mo_z_a, mo_y_a, Nat.add_left_cancel_iff]
  rw [wh59_79]
  simp only [we46, we59_0, we59_1, we3, en46, en59, en3, true_and, and_true, if_false, if_true, not_true_eq_false, not_false_eq_true, false_implies, true_implies, implies_true, forall_const, true_or, or_true, false_or, or_false, false_and, and_false, eq_self_iff_true, Option.toList_some, Option.toList_none, List.cons_append, List.nil_append, mo_cat_0, mo_cat_c, mo_ct_i, mo_ct_l, mo_ct_r, mo_ct_n, mo_ct_f, Nat.zero_le, Nat.reduceAdd, Nat.reduceLeDiff, Nat.reduceLT, Nat.reduceEqDiff, Nat.reduceSub, mo_rf_s, mo_rf_n, reduceCtorEq, mo_st, mo_st2, mo_lg_0, mo_lg_s, List.set_cons_zero, List.set_cons_succ, List.length_cons, List.length_nil, List.getElem?_cons_zero, List.getElem?_cons_succ, Nat.reduceBEq, Bool.false_eq_true, beq_self_eq_true, hs', hn, g1, g3, g4, nI_1, nI_pred, i01, i12, i23, i34, i4L, mo_LC, mo_v, p1, p2, p3, p4, p5, p6, p7, p8, p9, p10, p11, p12, p13, p14, p15, p16, p17, p18, p19, p20, p21, p22, p23, p24, p25, p26, p27, p28, p29, p30, p31, p32, p33, p34, p35, p36, p37, p38, p39, p40, p41, p42, p43, p44, p45, p46, p47, p56, p57, p58, mo_ME, mo_u_a, mo_z_a, mo_y_a, Nat.add_left_cancel_iff]
  rw [wh59_79]
  simp only [we46, we59_0, we59_1, we3, en46, en59, en3, true_and, and_true, if_false, if_true, not_true_eq_false, not_false_eq_true, false_implies, true_implies, implies_true, forall_const, true_or, or_true, false_or, or_false, false_and, and_false, eq_self_iff_true, Option.toList_some, Option.toList_none, List.cons_append, List.nil_append, mo_cat_0, mo_cat_c, mo_ct_i, mo_ct_l, mo_ct_r, mo_ct_n, mo_ct_f, Nat.zero_le, Nat.reduceAdd, Nat.reduceLeDiff, Nat.reduceLT, Nat.reduceEqDiff, Nat.reduceSub, mo_rf_s, mo_rf_n, reduceCtorEq, mo_st, mo_st2, mo_lg_0, mo_lg_s, List.set_cons_zero, List.set_cons_succ, List.length_cons, List.length_nil, List.getElem?_cons_zero, List.getElem?_cons_succ, Nat.reduceBEq, Bool.false_eq_true, beq_self_eq_true, hs', hn, g1, g3, g4, nI_1, nI_pred, i01, i12, i23, i34, i4L, mo_LC, mo_v, p1, p2, p3, p4, p5, p6, p7, p8, p9, p10, p11, p12, p13, p14, p15, p16, p17, p18, p19, p20, p21, p22, p23, p24, p25, p26, p27, p28, p29, p30, p31, p32, p33, p34, p35, p36, p37, p38, p39, p40, p41, p42, p43, p44, p45, p46, p47, p56, p57, p58, mo_ME, mo_u_a, mo_z_a, mo_y_a, Nat.add_left_cancel_iff]
  rw [wh59_79]
  simp only [we46, we59_0, we59_1, we3, en46, en59, en3, true_and, and_true, if_false, if_true, not_true_eq_false, not_false_eq_true, false_implies, true_implies, implies_true, forall_const, true_or, or_true, false_or, or_false, false_and, and_false, eq_self_iff_true, Option.toList_some, Option.toList_none, List.cons_append, List.nil_append, mo_cat_0, mo_cat_c, mo_ct_i, mo_ct_l, mo_ct_r, mo_ct_n, mo_ct_f, Nat.zero_le, Nat.reduceAdd, Nat.reduceLeDiff, Nat.reduceLT, Nat.reduceEqDiff, Nat.reduceSub, mo_rf_s, mo_rf_n, reduceCtorEq, mo_st, mo_st2, mo_lg_0, mo_lg_s, List.set_cons_zero, List.set_cons_succ, List.length_cons, List.length_nil, List.getElem?_cons_zero, List.getElem?_cons_succ, Nat.reduceBEq, Bool.false_eq_true, beq_self_eq_true, hs', hn, g1, g3, g4, nI_1, nI_pred, i01, i12, i23, i34, i4L, mo_LC, mo_v, p1, p2, p3, p4, p5, p6, p7, p8, p9, p10, p11, p12, p13, p14, p15, p16, p17, p18, p19, p20, p21, p22, p23, p24, p25, p26, p27, p28, p29, p30, p31, p32, p33, p34, p35, p36, p37, p38, p39, p40, p41, p42, p43, p44, p45, p46, p47, p56, p57, p58, mo_ME, mo_u_a, mo_z_a, mo_y_a, Nat.add_left_cancel_iff]
  rw [wh59_79]
  simp only [we46, we59_0, we59_1, we3, en46, en59, en3, true_and, and_true, if_false, if_true, not_true_eq_false, not_false_eq_true, false_implies, true_implies, implies_true, forall_const, true_or, or_true, false_or, or_false, false_and, and_false, eq_self_iff_true, Option.toList_some, Option.toList_none, List.cons_append, List.nil_append, mo_cat_0, mo_cat_c, mo_ct_i, mo_ct_l, mo_ct_r, mo_ct_n, mo_ct_f, Nat.zero_le, Nat.reduceAdd, Nat.reduceLeDiff, Nat.reduceLT, Nat.reduceEqDiff, Nat.reduceSub, mo_rf_s, mo_rf_n, reduceCtorEq, mo_st, mo_st2, mo_lg_0, mo_lg_s, List.set_cons_zero, List.set_cons_succ, List.length_cons, List.length_nil, List.getElem?_cons_zero, List.getElem?_cons_succ, Nat.reduceBEq, Bool.false_eq_true, beq_self_eq_true, hs', hn, g1, g3, g4, nI_1, nI_pred, i01, i12, i23, i34, i4L, mo_LC, mo_v, p1, p2, p3, p4, p5, p6, p7, p8, p9, p10, p11, p12, p13, p14, p15, p16, p17, p18, p19, p20, p21, p22, p23, p24, p25, p26, p27, p28, p29, p30, p31, p32, p33, p34, p35, p36, p37, p38, p39, p40, p41, p42, p43, p44, p45, p46, p47, p56, p57, p58, mo_ME, mo_u_a, mo_z_a, mo_y_a, Nat.add_left_cancel_iff]
  rw [wh59_79]
  simp only [we46, we59_0, we59_1, we3, en46, en59, en3, true_and, and_true, if_false, if_true, not_true_eq_false, not_false_eq_true, false_implies, true_implies, implies_true, forall_const, true_or, or_true, false_or, or_false, false_and, and_false, eq_self_iff_true, Option.toList_some, Option.toList_none, List.cons_append, List.nil_append, mo_cat_0, mo_cat_c, mo_ct_i, mo_ct_l, mo_ct_r, mo_ct_n, mo_ct_f, Nat.zero_le, Nat.reduceAdd, Nat.reduceLeDiff, Nat.reduceLT, Nat.reduceEqDiff, Nat.reduceSub, mo_rf_s, mo_rf_n, reduceCtorEq, mo_st, mo_st2, mo_lg_0, mo_lg_s, List.set_cons_zero, List.set_cons_succ, List.length_cons, List.length_nil, List.getElem?_cons_zero, List.getElem?_cons_succ, Nat.reduceBEq, Bool.false_eq_true, beq_self_eq_true, hs', hn, g1, g3, g4, nI_1, nI_pred, i01, i12, i23, i34, i4L, mo_LC, mo_v, p1, p2, p3, p4, p5, p6, p7, p8, p9, p10, p11, p12, p13, p14, p15, p16, p17, p18, p19, p20, p21, p22, p23, p24, p25, p26, p27, p28, p29, p30, p31, p32, p33, p34, p35, p36, p37, p38, p39, p40, p41, p42, p43, p44, p45, p46, p47, p56, p57, p58, mo_ME, mo_u_a, mo_z_a, mo_y_a, Nat.add_left_cancel_iff]
  rfl
theorem L_tyS {d x nc : Nat} {μ : mo_Mem} (hs : cl_sf x μ) (hX : x + 60 ≤ mo_X μ) (hn : mo_I μ 451 (x + 2) = nI nc) (hn1 : nc < 8) {a lv : Nat} (ha : a < mo_X μ) (hC : mo_C μ a = 11) (hlv : mo_I μ 642 a = nI lv) (c f : Int32) (Q : mo_P) : mo_M (d + 3) 46 [.ref (x + 2), .ref a, .int c, .int f] μ Q = Q (some (.int (nI nc))) (m_ty x μ nc (some a) (nI (lv + 1)) c f) := by
  have hs' := hs
  unfold cl_sf at hs'
  have g1 : (nI nc < Int32.ofNat 8) = True := i_lt (b := 8) hn1 (by decide)
  have g3 : vp_in (nI nc) 8 := vp_in_nI (by omega) (by decide)
  have g4 : (nI nc).toNatClampNeg = nc := nI_clamp (by omega)
  have p1 : (mo_X μ = mo_X μ + 1) = False := eq_false (by omega)
  have p2 : (mo_X μ = mo_X μ + 1 + 1) = False := eq_false (by omega)
  have p3 : (mo_X μ =  mo_X μ + 2) = False := eq_false (by omega)
  have p4 : (mo_X μ = mo_X μ + 1 + 1 + 1) = False := eq_false (by omega)
  have p5 : (mo_X μ =  mo_X μ + 3) = False := eq_false (by omega)
  have p6 : (mo_X μ = mo_X μ + 1 + 1 + 1 + 1) = False := eq_false (by omega)
  have p7 : (mo_X μ =  mo_X μ + 4) = False := eq_false (by omega)
  have p8 : (x = mo_X μ) = False := eq_false (by omega)
  have p9 : (x = mo_X μ + 1) = False := eq_false (by omega)
  have p10 : (x = mo_X μ + 1 + 1) = False := eq_false (by omega)
  have p11 : (x = mo_X μ + 1 + 1 + 1) = False := eq_false (by omega)
  have p12 : (x = mo_X μ + 1 + 1 + 1 + 1) = False := eq_false (by omega)
  have p13 : (x = mo_X μ + 2) = False := eq_false (by omega)
  have p14 : (x = mo_X μ + 3) = False := eq_false (by omega)
  have p15 : (x = mo_X μ + 4) = False := eq_false (by omega)
  have p16 : (x + 1 = mo_X μ) = False := eq_false (by omega)
  have p17 : (x + 1 = mo_X μ + 1) = False := eq_false (by omega)
  have p18 : (x + 1 = mo_X μ + 1 + 1) = False := eq_false (by omega)
  have p19 : (x + 1 = mo_X μ + 1 + 1 + 1) = False := eq_false (by omega)
  have p20 : (x + 1 = mo_X μ + 1 + 1 + 1 + 1) = False := eq_false (by omega)
  have p21 : (x + 1 = mo_X μ + 2) = False := eq_false (by omega)
  have p22 : (x + 1 = mo_X μ + 3) = False := eq_false (by omega)
  have p23 : (x + 1 = mo_X μ + 4) = False := eq_false (by omega)
  have p24 : (x + 2 = mo_X μ) = False := eq_false (by omega)
  have p25 : (x + 2 = mo_X μ + 1) = False := eq_false (by omega)
  have p26 : (x + 2 = mo_X μ + 1 + 1) = False := eq_false (by omega)
  have p27 : (x + 2 = mo_X μ + 1 + 1 + 1) = False := eq_false (by omega)
  have p28 : (x + 2 = mo_X μ + 1 + 1 + 1 + 1) = False := eq_false (by omega)
  have p29 : (x + 2 = mo_X μ + 2) = False := eq_false (by omega)
  have p30 : (x + 2 = mo_X μ + 3) = False := eq_false (by omega)
  have p31 : (x + 2 = mo_X μ + 4) = False := eq_false (by omega)
  have p32 : (x + 3 = mo_X μ) = False := eq_false (by omega)
  have p33 : (x + 3 = mo_X μ + 1) = False := eq_false (by omega)
  have p34 : (x + 3 = mo_X μ + 1 + 1) = False := eq_false (by omega)
  have p35 : (x + 3 = mo_X μ + 1 + 1 + 1) = False := eq_false (by omega)
  have p36 : (x + 3 = mo_X μ + 1 + 1 + 1 + 1) = False := eq_false (by omega)
  have p37 : (x + 3 = mo_X μ + 2) = False := eq_false (by omega)
  have p38 : (x + 3 = mo_X μ + 3) = False := eq_false (by omega)
  have p39 : (x + 3 = mo_X μ + 4) = False := eq_false (by omega)
  have p40 : (x + 4 = mo_X μ) = False := eq_false (by omega)
  have p41 : (x + 4 = mo_X μ + 1) = False := eq_false (by omega)
  have p42 : (x + 4 = mo_X μ + 1 + 1) = False := eq_false (by omega)
  have p43 : (x + 4 = mo_X μ + 1 + 1 + 1) = False := eq_false (by omega)
  have p44 : (x + 4 = mo_X μ + 1 + 1 + 1 + 1) = False := eq_false (by omega)
  have p45 : (x + 4 = mo_X μ + 2) = False := eq_false (by omega)
  have p46 : (x + 4 = mo_X μ + 3) = False := eq_false (by omega)
  have p47 : (x + 4 = mo_X μ + 4) = False := eq_false (by omega)
  have p48 : (a = mo_X μ) = False := eq_false (by omega)
  have p49 : (a = mo_X μ + 1) = False := eq_false (by omega)
  have p50 : (a = mo_X μ + 1 + 1) = False := eq_false (by omega)
  have p51 : (a = mo_X μ + 1 + 1 + 1) = False := eq_false (by omega)
  have p52 : (a = mo_X μ + 1 + 1 + 1 + 1) = False := eq_false (by omega)
  have p53 : (a = mo_X μ + 2) = False := eq_false (by omega)
  have p54 : (a = mo_X μ + 3) = False := eq_false (by omega)
  have p55 : (a = mo_X μ + 4) = False := eq_false (by omega)
  have p56 : (mo_X μ + 1 = mo_X μ + 1 + 1) = False := eq_false (by omega)
  have p57 : (mo_X μ + 1 = mo_X μ + 1 + 1 + 1) = False := eq_false (by omega)
  have p58 : (mo_X μ + 1 = mo_X μ + 1 + 1 + 1 + 1) = False := eq_false (by omega)
  simp only [we46, we59_0, we59_1, we3, en46, en59, en3, true_and, and_true, if_false, if_true, not_true_eq_false, not_false_eq_true, false_implies, true_implies, implies_true, forall_const, true_or, or_true, false_or, or_false, false_and, and_false, eq_self_iff_true, Option.toList_some, Option.toList_none, List.cons_append, List.nil_append, mo_cat_0, mo_cat_c, mo_ct_i, mo_ct_l, mo_ct_r, mo_ct_n, mo_ct_f, Nat.zero_le, Nat.reduceAdd, Nat.reduceLeDiff, Nat.reduceLT, Nat.reduceEqDiff, Nat.reduceSub, mo_rf_s, mo_rf_n, reduceCtorEq, mo_st, mo_st2, mo_lg_0, mo_lg_s, List.set_cons_zero, List.set_cons_succ, List.length_cons, List.length_nil, List.getElem?_cons_zero, List.getElem?_cons_succ, Nat.reduceBEq, Bool.false_eq_true, beq_self_eq_true, hs', hn, g1, g3, g4, nI_1, nI_pred, i01, i12, i23, i34, i4L, mo_LC, mo_v, p1, p2, p3, p4, p5, p6, p7, p8, p9, p10, p11, p12, p13, p14, p15, p16, p17, p18, p19, p20, p21, p22, p23, p24, p25, p26, p27, p28, p29, p30, p31, p32, p33, p34, p35, p36, p37, p38, p39, p40, p41, p42, p43, p44, p45, p46, p47, p48, p49, p50, p51, p52, p53, p54, p55, p56, p57, p58, hC, hlv, mo_ME, mo_u_a, mo_z_a, mo_y_a, Nat.add_left_cancel_iff]
  rw [wh59_79]
  simp only [we46, we59_0, we59_1, we3, en46, en59, en3, true_and, and_true, if_false, if_true, not_true_eq_false, not_false_eq_true, false_implies, true_implies, implies_true, forall_const, true_or, or_true, false_or, or_false, false_and, and_false, eq_self_iff_true, Option.toList_some, Option.toList_none, List.cons_append, List.nil_append, mo_cat_0, mo_cat_c, mo_ct_i, mo_ct_l, mo_ct_r, mo_ct_n, mo_ct_f, Nat.zero_le, Nat.reduceAdd, Nat.reduceLeDiff, Nat.reduceLT, Nat.reduceEqDiff, Nat.reduceSub, mo_rf_s, mo_rf_n, reduceCtorEq, mo_st, mo_st2, mo_lg_0, mo_lg_s, List.set_cons_zero, List.set_cons_succ, List.length_cons, List.length_nil, List.getElem?_cons_zero, List.getElem?_cons_succ, Nat.reduceBEq, Bool.false_eq_true, beq_self_eq_true, hs', hn, g1, g3, g4, nI_1, nI_pred, i01, i12, i23, i34, i4L, mo_LC, mo_v, p1, p2, p3, p4, p5, p6, p7, p8, p9, p10, p11, p12, p13, p14, p15, p16, p17, p18, p19, p20, p21, p22, p23, p24, p25, p26, p27, p28, p29, p30, p31, p32, p33, p34, p35, p36, p37, p38, p39, p40, p41, p42, p43, p44, p45, p46, p47, p48, p49, p50, p51, p52, p53, p54, p55, p56, p57, p58, hC, hlv, mo_ME, mo_u_a, mo_z_a, mo_y_a, Nat.add_left_cancel_iff]
  rw [wh59_79]
  simp only [we46, we59_0, we59_1, we3, en46, en59, en3, true_and, and_true, if_false, if_true, not_true_eq_false, not_false_eq_true, false_implies, true_implies, implies_true, forall_const, true_or, or_true, false_or, or_false, false_and, and_false, eq_self_iff_true, Option.toList_some, Option.toList_none, List.cons_append, List.nil_append, mo_cat_0, mo_cat_c, mo_ct_i, mo_ct_l, mo_ct_r, mo_ct_n, mo_ct_f, Nat.zero_le, Nat.reduceAdd, Nat.reduceLeDiff, Nat.reduceLT, Nat.reduceEqDiff, Nat.reduceSub, mo_rf_s, mo_rf_n, reduceCtorEq, mo_st, mo_st2, mo_lg_0, mo_lg_s, List.set_cons_zero, List.set_cons_succ, List.length_cons, List.length_nil, List.getElem?_cons_zero, List.getElem?_cons_succ, Nat.reduceBEq, Bool.false_eq_true, beq_self_eq_true, hs', hn, g1, g3, g4, nI_1, nI_pred, i01, i12, i23, i34, i4L, mo_LC, mo_v, p1, p2, p3, p4, p5, p6, p7, p8, p9, p10, p11, p12, p13, p14, p15, p16, p17, p18, p19, p20, p21, p22, p23, p24, p25, p26, p27, p28, p29, p30, p31, p32, p33, p34, p35, p36, p37, p38, p39, p40, p41, p42, p43, p44, p45, p46, p47, p48, p49, p50, p51, p52, p53, p54, p55, p56, p57, p58, hC, hlv, mo_ME, mo_u_a, mo_z_a, mo_y_a, Nat.add_left_cancel_iff]
  rw [wh59_79]
  simp only [we46, we59_0, we59_1, we3, en46, en59, en3, true_and, and_true, if_false, if_true, not_true_eq_false, not_false_eq_true, false_implies, true_implies, implies_true, forall_const, true_or, or_true, false_or, or_false, false_and, and_false, eq_self_iff_true, Option.toList_some, Option.toList_none, List.cons_append, List.nil_append, mo_cat_0, mo_cat_c, mo_ct_i, mo_ct_l, mo_ct_r, mo_ct_n, mo_ct_f, Nat.zero_le, Nat.reduceAdd, Nat.reduceLeDiff, Nat.reduceLT, Nat.reduceEqDiff, Nat.reduceSub, mo_rf_s, mo_rf_n, reduceCtorEq, mo_st, mo_st2, mo_lg_0, mo_lg_s, List.set_cons_zero, List.set_cons_succ, List.length_cons, List.length_nil, List.getElem?_cons_zero, List.getElem?_cons_succ, Nat.reduceBEq, Bool.false_eq_true, beq_self_eq_true, hs', hn, g1, g3, g4, nI_1, nI_pred, i01, i12, i23, i34, i4L, mo_LC, mo_v, p1, p2, p3, p4, p5, p6, p7, p8, p9, p10, p11, p12, p13, p14, p15, p16, p17, p18, p19, p20, p21, p22, p23, p24, p25, p26, p27, p28, p29, p30, p31, p32, p33, p34, p35, p36, p37, p38, p39, p40, p41, p42, p43, p44, p45, p46, p47, p48, p49, p50, p51, p52, p53, p54, p55, p56, p57, p58, hC, hlv, mo_ME, mo_u_a, mo_z_a, mo_y_a, Nat.add_left_cancel_iff]
  rw [wh59_79]
  simp only [we46, we59_0, we59_1, we3, en46, en59, en3, true_and, and_true, if_false, if_true, not_true_eq_false, not_false_eq_true, false_implies, true_implies, implies_true, forall_const, true_or, or_true, false_or, or_false, false_and, and_false, eq_self_iff_true, Option.toList_some, Option.toList_none, List.cons_append, List.nil_append, mo_cat_0, mo_cat_c, mo_ct_i, mo_ct_l, mo_ct_r, mo_ct_n, mo_ct_f, Nat.zero_le, Nat.reduceAdd, Nat.reduceLeDiff, Nat.reduceLT, Nat.reduceEqDiff, Nat.reduceSub, mo_rf_s, mo_rf_n, reduceCtorEq, mo_st, mo_st2, mo_lg_0, mo_lg_s, List.set_cons_zero, List.set_cons_succ, List.length_cons, List.length_nil, List.getElem?_cons_zero, List.getElem?_cons_succ, Nat.reduceBEq, Bool.false_eq_true, beq_self_eq_true, hs', hn, g1, g3, g4, nI_1, nI_pred, i01, i12, i23, i34, i4L, mo_LC, mo_v, p1, p2, p3, p4, p5, p6, p7, p8, p9, p10, p11, p12, p13, p14, p15, p16, p17, p18, p19, p20, p21, p22, p23, p24, p25, p26, p27, p28, p29, p30, p31, p32, p33, p34, p35, p36, p37, p38, p39, p40, p41, p42, p43, p44, p45, p46, p47, p48, p49, p50, p51, p52, p53, p54, p55, p56, p57, p58, hC, hlv, mo_ME, mo_u_a, mo_z_a, mo_y_a, Nat.add_left_cancel_iff]
  rw [wh59_79]
  simp only [we46, we59_0, we59_1, we3, en46, en59, en3, true_and, and_true, if_false, if_true, not_true_eq_false, not_false_eq_true, false_implies, true_implies, implies_true, forall_const, true_or, or_true, false_or, or_false, false_and, and_false, eq_self_iff_true, Option.toList_some, Option.toList_none, List.cons_append, List.nil_append, mo_cat_0, mo_cat_c, mo_ct_i, mo_ct_l, mo_ct_r, mo_ct_n, mo_ct_f, Nat.zero_le, Nat.reduceAdd, Nat.reduceLeDiff, Nat.reduceLT, Nat.reduceEqDiff, Nat.reduceSub, mo_rf_s, mo_rf_n, reduceCtorEq, mo_st, mo_st2, mo_lg_0, mo_lg_s, List.set_cons_zero, List.set_cons_succ, List.length_cons, List.length_nil, List.getElem?_cons_zero, List.getElem?_cons_succ, Nat.reduceBEq, Bool.false_eq_true, beq_self_eq_true, hs', hn, g1, g3, g4, nI_1, nI_pred, i01, i12, i23, i34, i4L, mo_LC, mo_v, p1, p2, p3, p4, p5, p6, p7, p8, p9, p10, p11, p12, p13, p14, p15, p16, p17, p18, p19, p20, p21, p22, p23, p24, p25, p26, p27, p28, p29, p30, p31, p32, p33, p34, p35, p36, p37, p38, p39, p40, p41, p42, p43, p44, p45, p46, p47, p48, p49, p50, p51, p52, p53, p54, p55, p56, p57, p58, hC, hlv, mo_ME, mo_u_a, mo_z_a, mo_y_a, Nat.add_left_cancel_iff]
  rfl
theorem L_tyF {d x : Nat} {μ : mo_Mem} (hs : cl_sf x μ) (hn : mo_I μ 451 (x + 2) = nI 8) (par : Option Nat) (c f : Int32) (Q : mo_P) : mo_M (d + 1) 46 [.ref (x + 2), va_rf par, .int c, .int f] μ Q = Q (some (.int (-5))) μ := by
  have hs' := hs
  unfold cl_sf at hs'
  have g1 : (nI 8 < Int32.ofNat 8) = False := i_nl (a := 8) (b := 8) (Nat.le_refl _) (by decide)
  rw [en46.2]
  simp only [we46, en46, true_and, and_true, if_false, if_true, not_true_eq_false, not_false_eq_true, false_implies, true_implies, implies_true, forall_const, true_or, or_true, false_or, or_false, false_and, and_false, eq_self_iff_true, Option.toList_some, Option.toList_none, List.cons_append, List.nil_append, mo_cat_0, mo_cat_c, mo_ct_i, mo_ct_l, mo_ct_r, mo_ct_n, mo_ct_f, Nat.zero_le, Nat.reduceAdd, Nat.reduceLeDiff, Nat.reduceLT, Nat.reduceEqDiff, Nat.reduceSub, mo_rf_s, mo_rf_n, reduceCtorEq, mo_st, mo_st2, mo_lg_0, mo_lg_s, List.set_cons_zero, List.set_cons_succ, List.length_cons, List.length_nil, List.getElem?_cons_zero, List.getElem?_cons_succ, Nat.reduceBEq, Bool.false_eq_true, beq_self_eq_true, hs', hn, g1, mo_ME, mo_u_a, mo_z_a, mo_y_a, Nat.add_left_cancel_iff]
