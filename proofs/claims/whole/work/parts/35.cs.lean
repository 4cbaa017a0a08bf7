theorem iM3 (a : Nat) : nI a * 3 = nI (3 * a) := by rw [← l3, Int32.mul_comm]
theorem iM4 (a : Nat) : nI a * 4 = nI (4 * a) := by rw [← l4, Int32.mul_comm]
theorem c_th_c {x : Nat} {B : mo_A} {G : c_G} {O : Nat → Nat} {μ : mo_Mem} {A : mo_A} {o c : Nat} (hn : gnc G ≤ 8) (h : c_th x B G O μ A o) (hc : A.1 18 o = nI c) (hcn : c < gnc G) : c_tc x B G O μ A o c := by
  obtain ⟨c', h'⟩ := h
  have e := h'.2.1
  rw [hc, nI_inj (by omega) (by have := h'.1; omega)] at e
  rw [e]; exact h'
theorem L_hasCT {d x o c h k nk : Nat} {B : mo_A} {G : c_G} {O : Nat → Nat} {μ : mo_Mem} {A : mo_A} (hs : c_st x B G μ) (ht : c_tc x B G O μ A o c) (hh : h < gnc G) (hb : a_bel B 8 c h = true) (hnk : B.1 7 h = nI nk) (hnl : nk < 2 ^ 31) (hk : k < nk) (Q : mo_P) : mo_M (d + 2) 53 [.ref (O o), .ref (gT G h), .int (nI k)] μ Q = Q (some (.int 1)) μ := by
  obtain ⟨t1, t2, t3, t4, t5, t6, t7, t8, t9, t10, t11, t12, t13, t14, t15, t16⟩ := ht
  obtain ⟨y1, y2, y3, y4, y5, y6, -⟩ := (hs.2.2.2.2.2.2.1 h hh).2
  have hn8 := hs.2.2.1.2.1
  have hV := hs.2.2.2.2.2.2.2.2.2.1
  have hV8 := hs.2.2.2.2.2.2.2.2.2.2 c t1
  obtain ⟨⟨k7, e7, f7⟩, ⟨k8, e8, f8⟩, -⟩ := hs.2.2.1.2.2.2.2.2.2.1 h hh
  have y0 := (hs.2.2.2.2.2.2.1 c t1).2.1
  have g1 : (nI k < 0) = False := i_ng (by omega)
  have g2 : (nI nk ≤ nI k) = False := i_ge hk hnl
  have k1 := fun Q => L_bel (d := d) hs hh t1 Q
  rw [hnk] at y5
  simp only [we53, en53, true_and, and_true, if_false, if_true, not_true_eq_false, not_false_eq_true, false_implies, true_implies, implies_true, forall_const, true_or, or_true, false_or, or_false, false_and, and_false, eq_self_iff_true, Option.toList_some, Option.toList_none, List.cons_append, List.nil_append, mo_cat_0, mo_cat_c, mo_ct_i, mo_ct_l, mo_ct_r, mo_ct_n, mo_ct_f, Nat.zero_le, Nat.reduceAdd, Nat.reduceLeDiff, Nat.reduceLT, Nat.reduceEqDiff, Nat.reduceSub, mo_rf_s, mo_rf_n, reduceCtorEq, mo_st, mo_st2, mo_lg_0, mo_lg_s, List.set_cons_zero, List.set_cons_succ, List.length_cons, List.length_nil, List.getElem?_cons_zero, List.getElem?_cons_succ, Nat.reduceBEq, Bool.false_eq_true, beq_self_eq_true, t6, t8, y0, y5, y1, k1, hb, g1, g2, a_bi, mo_LC, mo_ME, mo_u_a, mo_z_a, mo_y_a, Nat.add_left_cancel_iff]
theorem L_hasCF {d x o c h k nk : Nat} {B : mo_A} {G : c_G} {O : Nat → Nat} {μ : mo_Mem} {A : mo_A} (hs : c_st x B G μ) (ht : c_tc x B G O μ A o c) (hh : h < gnc G) (hnk : B.1 7 h = nI nk) (hnl : nk < 2 ^ 31) (hkl : k < 2 ^ 31) (hk : nk ≤ k) (Q : mo_P) : mo_M (d + 2) 53 [.ref (O o), .ref (gT G h), .int (nI k)] μ Q = Q (some (.int 0)) μ := by
  obtain ⟨t1, t2, t3, t4, t5, t6, t7, t8, t9, t10, t11, t12, t13, t14, t15, t16⟩ := ht
  obtain ⟨y1, y2, y3, y4, y5, y6, -⟩ := (hs.2.2.2.2.2.2.1 h hh).2
  have hn8 := hs.2.2.1.2.1
  have hV := hs.2.2.2.2.2.2.2.2.2.1
  have hV8 := hs.2.2.2.2.2.2.2.2.2.2 c t1
  obtain ⟨⟨k7, e7, f7⟩, ⟨k8, e8, f8⟩, -⟩ := hs.2.2.1.2.2.2.2.2.2.1 h hh
  have y0 := (hs.2.2.2.2.2.2.1 c t1).2.1
  have g1 : (nI k < 0) = False := i_ng (by omega)
  have g2 : (nI nk ≤ nI k) = True := i_le hk hkl
  rw [hnk] at y5
  simp only [we53, en53, true_and, and_true, if_false, if_true, not_true_eq_false, not_false_eq_true, false_implies, true_implies, implies_true, forall_const, true_or, or_true, false_or, or_false, false_and, and_false, eq_self_iff_true, Option.toList_some, Option.toList_none, List.cons_append, List.nil_append, mo_cat_0, mo_cat_c, mo_ct_i, mo_ct_l, mo_ct_r, mo_ct_n, mo_ct_f, Nat.zero_le, Nat.reduceAdd, Nat.reduceLeDiff, Nat.reduceLT, Nat.reduceEqDiff, Nat.reduceSub, mo_rf_s, mo_rf_n, reduceCtorEq, mo_st, mo_st2, mo_lg_0, mo_lg_s, List.set_cons_zero, List.set_cons_succ, List.length_cons, List.length_nil, List.getElem?_cons_zero, List.getElem?_cons_succ, Nat.reduceBEq, Bool.false_eq_true, beq_self_eq_true, t6, t8, y5, y1, g1, g2, mo_LC, mo_ME, mo_u_a, mo_z_a, mo_y_a, Nat.add_left_cancel_iff]
theorem L_cofT {d x o c h k nk : Nat} {B : mo_A} {G : c_G} {O : Nat → Nat} {μ : mo_Mem} {A : mo_A} (hs : c_st x B G μ) (ht : c_tc x B G O μ A o c) (hh : h < gnc G) (hb : a_bel B 8 c h = true) (hnk : B.1 7 h = nI nk) (hnl : nk < 2 ^ 31) (hk : k < nk) (Q : mo_P) : mo_M (d + 3) 55 [.ref (O o), .ref (gT G h), .int (nI k)] μ Q = Q (some (.long (mo_AL μ (O o + 1) (3 * gV G h + k)))) μ := by
  have k1 := fun Q => L_hasCT (d := d) hs ht hh hb hnk hnl hk Q
  obtain ⟨t1, t2, t3, t4, t5, t6, t7, t8, t9, t10, t11, t12, t13, t14, t15, t16⟩ := ht
  obtain ⟨y1, y2, y3, y4, y5, y6, -⟩ := (hs.2.2.2.2.2.2.1 h hh).2
  have hn8 := hs.2.2.1.2.1
  have hV := hs.2.2.2.2.2.2.2.2.2.1
  have hV8 := hs.2.2.2.2.2.2.2.2.2.2 c t1
  obtain ⟨⟨k7, e7, f7⟩, ⟨k8, e8, f8⟩, -⟩ := hs.2.2.1.2.2.2.2.2.2.1 h hh
  have y0 := (hs.2.2.2.2.2.2.1 c t1).2.1
  have g1 : (nI k < 0) = False := i_ng (by omega)
  have hnb : nk = k7 := by
    have := f7
    rw [hnk] at this
    exact (nI_inj hnl (by omega)).mp this
  have hb2 := (bel_V hn8 hs.2.2.1.2.2.2.2.1 hV 8 c (by omega) t1 hb).2.1
  have g3 : vp_in (nI (3 * gV G h + k)) (3 * (gV G c + 1)) := vp_in_nI (by omega) (by omega)
  have g4 : (nI (3 * gV G h + k)).toNatClampNeg = 3 * gV G h + k := nI_clamp (by omega)
  simp only [we55, en55, true_and, and_true, if_false, if_true, not_true_eq_false, not_false_eq_true, false_implies, true_implies, implies_true, forall_const, true_or, or_true, false_or, or_false, false_and, and_false, eq_self_iff_true, Option.toList_some, Option.toList_none, List.cons_append, List.nil_append, mo_cat_0, mo_cat_c, mo_ct_i, mo_ct_l, mo_ct_r, mo_ct_n, mo_ct_f, Nat.zero_le, Nat.reduceAdd, Nat.reduceLeDiff, Nat.reduceLT, Nat.reduceEqDiff, Nat.reduceSub, mo_rf_s, mo_rf_n, reduceCtorEq, mo_st, mo_st2, mo_lg_0, mo_lg_s, List.set_cons_zero, List.set_cons_succ, List.length_cons, List.length_nil, List.getElem?_cons_zero, List.getElem?_cons_succ, Nat.reduceBEq, Bool.false_eq_true, beq_self_eq_true, t6, t9, t11, t12, y1, y4, k1, iM3, nI_add, g3, g4, mo_LC, mo_ME, mo_u_a, mo_z_a, mo_y_a, Nat.add_left_cancel_iff]
theorem L_cofF {d x o c h k nk : Nat} {B : mo_A} {G : c_G} {O : Nat → Nat} {μ : mo_Mem} {A : mo_A} (hs : c_st x B G μ) (ht : c_tc x B G O μ A o c) (hh : h < gnc G) (hnk : B.1 7 h = nI nk) (hnl : nk < 2 ^ 31) (hkl : k < 2 ^ 31) (hk : nk ≤ k) (Q : mo_P) : mo_M (d + 3) 55 [.ref (O o), .ref (gT G h), .int (nI k)] μ Q = Q (some (.long 0)) μ := by
  have k1 := fun Q => L_hasCF (d := d) hs ht hh hnk hnl hkl hk Q
  have t6 := ht.2.2.2.2.2.1
  simp only [we55, en55, true_and, and_true, if_false, if_true, not_true_eq_false, not_false_eq_true, false_implies, true_implies, implies_true, forall_const, true_or, or_true, false_or, or_false, false_and, and_false, eq_self_iff_true, Option.toList_some, Option.toList_none, List.cons_append, List.nil_append, mo_cat_0, mo_cat_c, mo_ct_i, mo_ct_l, mo_ct_r, mo_ct_n, mo_ct_f, Nat.zero_le, Nat.reduceAdd, Nat.reduceLeDiff, Nat.reduceLT, Nat.reduceEqDiff, Nat.reduceSub, mo_rf_s, mo_rf_n, reduceCtorEq, mo_st, mo_st2, mo_lg_0, mo_lg_s, List.set_cons_zero, List.set_cons_succ, List.length_cons, List.length_nil, List.getElem?_cons_zero, List.getElem?_cons_succ, Nat.reduceBEq, Bool.false_eq_true, beq_self_eq_true, k1, t6, mo_LC, mo_ME, mo_u_a, mo_z_a, mo_y_a, Nat.add_left_cancel_iff]
theorem L_setCT {d x o c h k nk : Nat} {B : mo_A} {G : c_G} {O : Nat → Nat} {μ : mo_Mem} {A : mo_A} (hs : c_st x B G μ) (ht : c_tc x B G O μ A o c) (hh : h < gnc G) (hb : a_bel B 8 c h = true) (hnk : B.1 7 h = nI nk) (hnl : nk < 2 ^ 31) (hk : k < nk) (v : Int64) (Q : mo_P) : mo_M (d + 3) 57 [.ref (O o), .ref (gT G h), .int (nI k), .long v] μ Q = Q none (mo_wAL μ (O o + 1) (3 * gV G h + k) v) := by
  have k1 := fun Q => L_hasCT (d := d) hs ht hh hb hnk hnl hk Q
  obtain ⟨t1, t2, t3, t4, t5, t6, t7, t8, t9, t10, t11, t12, t13, t14, t15, t16⟩ := ht
  obtain ⟨y1, y2, y3, y4, y5, y6, -⟩ := (hs.2.2.2.2.2.2.1 h hh).2
  have hn8 := hs.2.2.1.2.1
  have hV := hs.2.2.2.2.2.2.2.2.2.1
  have hV8 := hs.2.2.2.2.2.2.2.2.2.2 c t1
  obtain ⟨⟨k7, e7, f7⟩, ⟨k8, e8, f8⟩, -⟩ := hs.2.2.1.2.2.2.2.2.2.1 h hh
  have y0 := (hs.2.2.2.2.2.2.1 c t1).2.1
  have g1 : (nI k < 0) = False := i_ng (by omega)
  have hnb : nk = k7 := by
    have := f7
    rw [hnk] at this
    exact (nI_inj hnl (by omega)).mp this
  have hb2 := (bel_V hn8 hs.2.2.1.2.2.2.2.1 hV 8 c (by omega) t1 hb).2.1
  have g3 : vp_in (nI (3 * gV G h + k)) (3 * (gV G c + 1)) := vp_in_nI (by omega) (by omega)
  have g4 : (nI (3 * gV G h + k)).toNatClampNeg = 3 * gV G h + k := nI_clamp (by omega)
  simp only [we57, en57, true_and, and_true, if_false, if_true, not_true_eq_false, not_false_eq_true, false_implies, true_implies, implies_true, forall_const, true_or, or_true, false_or, or_false, false_and, and_false, eq_self_iff_true, Option.toList_some, Option.toList_none, List.cons_append, List.nil_append, mo_cat_0, mo_cat_c, mo_ct_i, mo_ct_l, mo_ct_r, mo_ct_n, mo_ct_f, Nat.zero_le, Nat.reduceAdd, Nat.reduceLeDiff, Nat.reduceLT, Nat.reduceEqDiff, Nat.reduceSub, mo_rf_s, mo_rf_n, reduceCtorEq, mo_st, mo_st2, mo_lg_0, mo_lg_s, List.set_cons_zero, List.set_cons_succ, List.length_cons, List.length_nil, List.getElem?_cons_zero, List.getElem?_cons_succ, Nat.reduceBEq, Bool.false_eq_true, beq_self_eq_true, t6, t9, t11, t12, y1, y4, k1, iM3, nI_add, g3, g4, mo_LC, mo_ME, mo_u_a, mo_z_a, mo_y_a, Nat.add_left_cancel_iff]
theorem L_setCF {d x o c h k nk : Nat} {B : mo_A} {G : c_G} {O : Nat → Nat} {μ : mo_Mem} {A : mo_A} (hs : c_st x B G μ) (ht : c_tc x B G O μ A o c) (hh : h < gnc G) (hnk : B.1 7 h = nI nk) (hnl : nk < 2 ^ 31) (hkl : k < 2 ^ 31) (hk : nk ≤ k) (v : Int64) (Q : mo_P) : mo_M (d + 3) 57 [.ref (O o), .ref (gT G h), .int (nI k), .long v] μ Q = Q none μ := by
  have k1 := fun Q => L_hasCF (d := d) hs ht hh hnk hnl hkl hk Q
  have t6 := ht.2.2.2.2.2.1
  simp only [we57, en57, true_and, and_true, if_false, if_true, not_true_eq_false, not_false_eq_true, false_implies, true_implies, implies_true, forall_const, true_or, or_true, false_or, or_false, false_and, and_false, eq_self_iff_true, Option.toList_some, Option.toList_none, List.cons_append, List.nil_append, mo_cat_0, mo_cat_c, mo_ct_i, mo_ct_l, mo_ct_r, mo_ct_n, mo_ct_f, Nat.zero_le, Nat.reduceAdd, Nat.reduceLeDiff, Nat.reduceLT, Nat.reduceEqDiff, Nat.reduceSub, mo_rf_s, mo_rf_n, reduceCtorEq, mo_st, mo_st2, mo_lg_0, mo_lg_s, List.set_cons_zero, List.set_cons_succ, List.length_cons, List.length_nil, List.getElem?_cons_zero, List.getElem?_cons_succ, Nat.reduceBEq, Bool.false_eq_true, beq_self_eq_true, k1, t6, mo_LC, mo_ME, mo_u_a, mo_z_a, mo_y_a, Nat.add_left_cancel_iff]
theorem L_hasFT {d x o c h k nk : Nat} {B : mo_A} {G : c_G} {O : Nat → Nat} {μ : mo_Mem} {A : mo_A} (hs : c_st x B G μ) (ht : c_tc x B G O μ A o c) (hh : h < gnc G) (hb : a_bel B 8 c h = true) (hnk : B.1 8 h = nI nk) (hnl : nk < 2 ^ 31) (hk : k < nk) (Q : mo_P) : mo_M (d + 2) 54 [.ref (O o), .ref (gT G h), .int (nI k)] μ Q = Q (some (.int 1)) μ := by
  obtain ⟨t1, t2, t3, t4, t5, t6, t7, t8, t9, t10, t11, t12, t13, t14, t15, t16⟩ := ht
  obtain ⟨y1, y2, y3, y4, y5, y6, -⟩ := (hs.2.2.2.2.2.2.1 h hh).2
  have hn8 := hs.2.2.1.2.1
  have hV := hs.2.2.2.2.2.2.2.2.2.1
  have hV8 := hs.2.2.2.2.2.2.2.2.2.2 c t1
  obtain ⟨⟨k7, e7, f7⟩, ⟨k8, e8, f8⟩, -⟩ := hs.2.2.1.2.2.2.2.2.2.1 h hh
  have y0 := (hs.2.2.2.2.2.2.1 c t1).2.1
  have g1 : (nI k < 0) = False := i_ng (by omega)
  have g2 : (nI nk ≤ nI k) = False := i_ge hk hnl
  have k1 := fun Q => L_bel (d := d) hs hh t1 Q
  rw [hnk] at y6
  simp only [we54, en54, true_and, and_true, if_false, if_true, not_true_eq_false, not_false_eq_true, false_implies, true_implies, implies_true, forall_const, true_or, or_true, false_or, or_false, false_and, and_false, eq_self_iff_true, Option.toList_some, Option.toList_none, List.cons_append, List.nil_append, mo_cat_0, mo_cat_c, mo_ct_i, mo_ct_l, mo_ct_r, mo_ct_n, mo_ct_f, Nat.zero_le, Nat.reduceAdd, Nat.reduceLeDiff, Nat.reduceLT, Nat.reduceEqDiff, Nat.reduceSub, mo_rf_s, mo_rf_n, reduceCtorEq, mo_st, mo_st2, mo_lg_0, mo_lg_s, List.set_cons_zero, List.set_cons_succ, List.length_cons, List.length_nil, List.getElem?_cons_zero, List.getElem?_cons_succ, Nat.reduceBEq, Bool.false_eq_true, beq_self_eq_true, t6, t8, y0, y6, y1, k1, hb, g1, g2, a_bi, mo_LC, mo_ME, mo_u_a, mo_z_a, mo_y_a, Nat.add_left_cancel_iff]
theorem L_hasFF {d x o c h k nk : Nat} {B : mo_A} {G : c_G} {O : Nat → Nat} {μ : mo_Mem} {A : mo_A} (hs : c_st x B G μ) (ht : c_tc x B G O μ A o c) (hh : h < gnc G) (hnk : B.1 8 h = nI nk) (hnl : nk < 2 ^ 31) (hkl : k < 2 ^ 31) (hk : nk ≤ k) (Q : mo_P) : mo_M (d + 2) 54 [.ref (O o), .ref (gT G h), .int (nI k)] μ Q = Q (some (.int 0)) μ := by
  obtain ⟨t1, t2, t3, t4, t5, t6, t7, t8, t9, t10, t11, t12, t13, t14, t15, t16⟩ := ht
  obtain ⟨y1, y2, y3, y4, y5, y6, -⟩ := (hs.2.2.2.2.2.2.1 h hh).2
  have hn8 := hs.2.2.1.2.1
  have hV := hs.2.2.2.2.2.2.2.2.2.1
  have hV8 := hs.2.2.2.2.2.2.2.2.2.2 c t1
  obtain ⟨⟨k7, e7, f7⟩, ⟨k8, e8, f8⟩, -⟩ := hs.2.2.1.2.2.2.2.2.2.1 h hh
  have y0 := (hs.2.2.2.2.2.2.1 c t1).2.1
  have g1 : (nI k < 0) = False := i_ng (by omega)
  have g2 : (nI nk ≤ nI k) = True := i_le hk hkl
  rw [hnk] at y6
  simp only [we54, en54, true_and, and_true, if_false, if_true, not_true_eq_false, not_false_eq_true, false_implies, true_implies, implies_true, forall_const, true_or, or_true, false_or, or_false, false_and, and_false, eq_self_iff_true, Option.toList_some, Option.toList_none, List.cons_append, List.nil_append, mo_cat_0, mo_cat_c, mo_ct_i, mo_ct_l, mo_ct_r, mo_ct_n, mo_ct_f, Nat.zero_le, Nat.reduceAdd, Nat.reduceLeDiff, Nat.reduceLT, Nat.reduceEqDiff, Nat.reduceSub, mo_rf_s, mo_rf_n, reduceCtorEq, mo_st, mo_st2, mo_lg_0, mo_lg_s, List.set_cons_zero, List.set_cons_succ, List.length_cons, List.length_nil, List.getElem?_cons_zero, List.getElem?_cons_succ, Nat.reduceBEq, Bool.false_eq_true, beq_self_eq_true, t6, t8, y6, y1, g1, g2, mo_LC, mo_ME, mo_u_a, mo_z_a, mo_y_a, Nat.add_left_cancel_iff]
theorem L_fofT {d x o c h k nk : Nat} {B : mo_A} {G : c_G} {O : Nat → Nat} {μ : mo_Mem} {A : mo_A} (hs : c_st x B G μ) (ht : c_tc x B G O μ A o c) (hh : h < gnc G) (hb : a_bel B 8 c h = true) (hnk : B.1 8 h = nI nk) (hnl : nk < 2 ^ 31) (hk : k < nk) (Q : mo_P) : mo_M (d + 3) 56 [.ref (O o), .ref (gT G h), .int (nI k)] μ Q = Q (some (.long (mo_AL μ (O o + 2) (4 * gV G h + k)))) μ := by
  have k1 := fun Q => L_hasFT (d := d) hs ht hh hb hnk hnl hk Q
  obtain ⟨t1, t2, t3, t4, t5, t6, t7, t8, t9, t10, t11, t12, t13, t14, t15, t16⟩ := ht
  obtain ⟨y1, y2, y3, y4, y5, y6, -⟩ := (hs.2.2.2.2.2.2.1 h hh).2
  have hn8 := hs.2.2.1.2.1
  have hV := hs.2.2.2.2.2.2.2.2.2.1
  have hV8 := hs.2.2.2.2.2.2.2.2.2.2 c t1
  obtain ⟨⟨k7, e7, f7⟩, ⟨k8, e8, f8⟩, -⟩ := hs.2.2.1.2.2.2.2.2.2.1 h hh
  have y0 := (hs.2.2.2.2.2.2.1 c t1).2.1
  have g1 : (nI k < 0) = False := i_ng (by omega)
  have hnb : nk = k8 := by
    have := f8
    rw [hnk] at this
    exact (nI_inj hnl (by omega)).mp this
  have hb2 := (bel_V hn8 hs.2.2.1.2.2.2.2.1 hV 8 c (by omega) t1 hb).2.1
  have g3 : vp_in (nI (4 * gV G h + k)) (4 * (gV G c + 1)) := vp_in_nI (by omega) (by omega)
  have g4 : (nI (4 * gV G h + k)).toNatClampNeg = 4 * gV G h + k := nI_clamp (by omega)
  simp only [we56, en56, true_and, and_true, if_false, if_true, not_true_eq_false, not_false_eq_true, false_implies, true_implies, implies_true, forall_const, true_or, or_true, false_or, or_false, false_and, and_false, eq_self_iff_true, Option.toList_some, Option.toList_none, List.cons_append, List.nil_append, mo_cat_0, mo_cat_c, mo_ct_i, mo_ct_l, mo_ct_r, mo_ct_n, mo_ct_f, Nat.zero_le, Nat.reduceAdd, Nat.reduceLeDiff, Nat.reduceLT, Nat.reduceEqDiff, Nat.reduceSub, mo_rf_s, mo_rf_n, reduceCtorEq, mo_st, mo_st2, mo_lg_0, mo_lg_s, List.set_cons_zero, List.set_cons_succ, List.length_cons, List.length_nil, List.getElem?_cons_zero, List.getElem?_cons_succ, Nat.reduceBEq, Bool.false_eq_true, beq_self_eq_true, t6, t10, t13, t14, y1, y4, k1, iM4, nI_add, g3, g4, mo_LC, mo_ME, mo_u_a, mo_z_a, mo_y_a, Nat.add_left_cancel_iff]
theorem L_fofF {d x o c h k nk : Nat} {B : mo_A} {G : c_G} {O : Nat → Nat} {μ : mo_Mem} {A : mo_A} (hs : c_st x B G μ) (ht : c_tc x B G O μ A o c) (hh : h < gnc G) (hnk : B.1 8 h = nI nk) (hnl : nk < 2 ^ 31) (hkl : k < 2 ^ 31) (hk : nk ≤ k) (Q : mo_P) : mo_M (d + 3) 56 [.ref (O o), .ref (gT G h), .int (nI k)] μ Q = Q (some (.long 0)) μ := by
  have k1 := fun Q => L_hasFF (d := d) hs ht hh hnk hnl hkl hk Q
  have t6 := ht.2.2.2.2.2.1
  simp only [we56, en56, true_and, and_true, if_false, if_true, not_true_eq_false, not_false_eq_true, false_implies, true_implies, implies_true, forall_const, true_or, or_true, false_or, or_false, false_and, and_false, eq_self_iff_true, Option.toList_some, Option.toList_none, List.cons_append, List.nil_append, mo_cat_0, mo_cat_c, mo_ct_i, mo_ct_l, mo_ct_r, mo_ct_n, mo_ct_f, Nat.zero_le, Nat.reduceAdd, Nat.reduceLeDiff, Nat.reduceLT, Nat.reduceEqDiff, Nat.reduceSub, mo_rf_s, mo_rf_n, reduceCtorEq, mo_st, mo_st2, mo_lg_0, mo_lg_s, List.set_cons_zero, List.set_cons_succ, List.length_cons, List.length_nil, List.getElem?_cons_zero, List.getElem?_cons_succ, Nat.reduceBEq, Bool.false_eq_true, beq_self_eq_true, k1, t6, mo_LC, mo_ME, mo_u_a, mo_z_a, mo_y_a, Nat.add_left_cancel_iff]
theorem L_setFT {d x o c h k nk : Nat} {B : mo_A} {G : c_G} {O : Nat → Nat} {μ : mo_Mem} {A : mo_A} (hs : c_st x B G μ) (ht : c_tc x B G O μ A o c) (hh : h < gnc G) (hb : a_bel B 8 c h = true) (hnk : B.1 8 h = nI nk) (hnl : nk < 2 ^ 31) (hk : k < nk) (v : Int64) (Q : mo_P) : mo_M (d + 3) 58 [.ref (O o), .ref (gT G h), .int (nI k), .long v] μ Q = Q none (mo_wAL μ (O o + 2) (4 * gV G h + k) v) := by
  have k1 := fun Q => L_hasFT (d := d) hs ht hh hb hnk hnl hk Q
  obtain ⟨t1, t2, t3, t4, t5, t6, t7, t8, t9, t10, t11, t12, t13, t14, t15, t16⟩ := ht
  obtain ⟨y1, y2, y3, y4, y5, y6, -⟩ := (hs.2.2.2.2.2.2.1 h hh).2
  have hn8 := hs.2.2.1.2.1
  have hV := hs.2.2.2.2.2.2.2.2.2.1
  have hV8 := hs.2.2.2.2.2.2.2.2.2.2 c t1
  obtain ⟨⟨k7, e7, f7⟩, ⟨k8, e8, f8⟩, -⟩ := hs.2.2.1.2.2.2.2.2.2.1 h hh
  have y0 := (hs.2.2.2.2.2.2.1 c t1).2.1
  have g1 : (nI k < 0) = False := i_ng (by omega)
  have hnb : nk = k8 := by
    have := f8
    rw [hnk] at this
    exact (nI_inj hnl (by omega)).mp this
  have hb2 := (bel_V hn8 hs.2.2.1.2.2.2.2.1 hV 8 c (by omega) t1 hb).2.1
  have g3 : vp_in (nI (4 * gV G h + k)) (4 * (gV G c + 1)) := vp_in_nI (by omega) (by omega)
  have g4 : (nI (4 * gV G h + k)).toNatClampNeg = 4 * gV G h + k := nI_clamp (by omega)
  simp only [we58, en58, true_and, and_true, if_false, if_true, not_true_eq_false, not_false_eq_true, false_implies, true_implies, implies_true, forall_const, true_or, or_true, false_or, or_false, false_and, and_false, eq_self_iff_true, Option.toList_some, Option.toList_none, List.cons_append, List.nil_append, mo_cat_0, mo_cat_c, mo_ct_i, mo_ct_l, mo_ct_r, mo_ct_n, mo_ct_f, Nat.zero_le, Nat.reduceAdd, Nat.reduceLeDiff, Nat.reduceLT, Nat.reduceEqDiff, Nat.reduceSub, mo_rf_s, mo_rf_n, reduceCtorEq, mo_st, mo_st2, mo_lg_0, mo_lg_s, List.set_cons_zero, List.set_cons_succ, List.length_cons, List.length_nil, List.getElem?_cons_zero, List.getElem?_cons_succ, Nat.reduceBEq, Bool.false_eq_true, beq_self_eq_true, t6, t10, t13, t14, y1, y4, k1, iM4, nI_add, g3, g4, mo_LC, mo_ME, mo_u_a, mo_z_a, mo_y_a, Nat.add_left_cancel_iff]
theorem L_setFF {d x o c h k nk : Nat} {B : mo_A} {G : c_G} {O : Nat → Nat} {μ : mo_Mem} {A : mo_A} (hs : c_st x B G μ) (ht : c_tc x B G O μ A o c) (hh : h < gnc G) (hnk : B.1 8 h = nI nk) (hnl : nk < 2 ^ 31) (hkl : k < 2 ^ 31) (hk : nk ≤ k) (v : Int64) (Q : mo_P) : mo_M (d + 3) 58 [.ref (O o), .ref (gT G h), .int (nI k), .long v] μ Q = Q none μ := by
  have k1 := fun Q => L_hasFF (d := d) hs ht hh hnk hnl hkl hk Q
  have t6 := ht.2.2.2.2.2.1
  simp only [we58, en58, true_and, and_true, if_false, if_true, not_true_eq_false, not_false_eq_true, false_implies, true_implies, implies_true, forall_const, true_or, or_true, false_or, or_false, false_and, and_false, eq_self_iff_true, Option.toList_some, Option.toList_none, List.cons_append, List.nil_append, mo_cat_0, mo_cat_c, mo_ct_i, mo_ct_l, mo_ct_r, mo_ct_n, mo_ct_f, Nat.zero_le, Nat.reduceAdd, Nat.reduceLeDiff, Nat.reduceLT, Nat.reduceEqDiff, Nat.reduceSub, mo_rf_s, mo_rf_n, reduceCtorEq, mo_st, mo_st2, mo_lg_0, mo_lg_s, List.set_cons_zero, List.set_cons_succ, List.length_cons, List.length_nil, List.getElem?_cons_zero, List.getElem?_cons_succ, Nat.reduceBEq, Bool.false_eq_true, beq_self_eq_true, k1, t6, mo_LC, mo_ME, mo_u_a, mo_z_a, mo_y_a, Nat.add_left_cancel_iff]
theorem L_msetT {d x fr o c h k nk : Nat} {B : mo_A} {G : c_G} {O : Nat → Nat} {μ : mo_Mem} {A : mo_A} (hs : c_st x B G μ) (ht : c_tc x B G O μ A o c) (hh : h < gnc G) (f1 : mo_C μ fr = 4) (f2 : mo_R μ 192 fr = some (gT G h)) (f3 : mo_R μ 193 fr = some (O o)) (hb : a_bel B 8 c h = true) (hnk : B.1 8 h = nI nk) (hnl : nk < 2 ^ 31) (hk : k < nk) (h0 : mo_I μ 517 (x + 9) = 0) (v : Int64) (Q : mo_P) : mo_M (d + 4) 24 [.ref (x + 1), .ref fr, .int (nI k), .long v] μ Q = Q none (mo_wAL μ (O o + 2) (4 * gV G h + k) v) := by
  have hs' := hs.1.1
  unfold cl_sf at hs'
  have t6 := ht.2.2.2.2.2.1
  have y1 := (hs.2.2.2.2.2.2.1 h hh).2.1
  have k0 := fun Q => L_failed (d := d + 2) hs.1.1 h0 Q
  have k1 := fun Q => L_hasFT (d := d + 1) hs ht hh hb hnk hnl hk Q
  have k2 := fun v Q => L_setFT (d := d) hs ht hh hb hnk hnl hk v Q
  simp only [we24, en24, true_and, and_true, if_false, if_true, not_true_eq_false, not_false_eq_true, false_implies, true_implies, implies_true, forall_const, true_or, or_true, false_or, or_false, false_and, and_false, eq_self_iff_true, Option.toList_some, Option.toList_none, List.cons_append, List.nil_append, mo_cat_0, mo_cat_c, mo_ct_i, mo_ct_l, mo_ct_r, mo_ct_n, mo_ct_f, Nat.zero_le, Nat.reduceAdd, Nat.reduceLeDiff, Nat.reduceLT, Nat.reduceEqDiff, Nat.reduceSub, mo_rf_s, mo_rf_n, reduceCtorEq, mo_st, mo_st2, mo_lg_0, mo_lg_s, List.set_cons_zero, List.set_cons_succ, List.length_cons, List.length_nil, List.getElem?_cons_zero, List.getElem?_cons_succ, Nat.reduceBEq, Bool.false_eq_true, beq_self_eq_true, hs', f1, f2, f3, t6, y1, k0, k1, k2, mo_LC, mo_ME, mo_u_a, mo_z_a, mo_y_a, Nat.add_left_cancel_iff]
theorem L_msetF {d x fr o c h k nk q : Nat} {B : mo_A} {G : c_G} {O : Nat → Nat} {μ : mo_Mem} {A : mo_A} (hs : c_st x B G μ) (ht : c_tc x B G O μ A o c) (hh : h < gnc G) (f1 : mo_C μ fr = 4) (f2 : mo_R μ 192 fr = some (gT G h)) (f3 : mo_R μ 193 fr = some (O o)) (hnk : B.1 8 h = nI nk) (hnl : nk < 2 ^ 31) (hkl : k < 2 ^ 31) (hk : nk ≤ k) (h0 : mo_I μ 517 (x + 9) = 0) (hq : mo_I μ 516 (x + 9) = nI q) (hq4 : q ≤ 4) (v : Int64) (Q : mo_P) : mo_M (d + 4) 24 [.ref (x + 1), .ref fr, .int (nI k), .long v] μ Q = Q none (m_fl x μ q 2) := by
  have hs' := hs.1.1
  unfold cl_sf at hs'
  have t6 := ht.2.2.2.2.2.1
  have y1 := (hs.2.2.2.2.2.2.1 h hh).2.1
  have k0 := fun Q => L_failed (d := d + 2) hs.1.1 h0 Q
  have k1 := fun Q => L_hasFF (d := d + 1) hs ht hh hnk hnl hkl hk Q
  have k2 := fun Q => L_fail (d := d + 2) (w := 2) hs.1.1 hq hq4 (by decide) Q
  simp only [we24, en24, true_and, and_true, if_false, if_true, not_true_eq_false, not_false_eq_true, false_implies, true_implies, implies_true, forall_const, true_or, or_true, false_or, or_false, false_and, and_false, eq_self_iff_true, Option.toList_some, Option.toList_none, List.cons_append, List.nil_append, mo_cat_0, mo_cat_c, mo_ct_i, mo_ct_l, mo_ct_r, mo_ct_n, mo_ct_f, Nat.zero_le, Nat.reduceAdd, Nat.reduceLeDiff, Nat.reduceLT, Nat.reduceEqDiff, Nat.reduceSub, mo_rf_s, mo_rf_n, reduceCtorEq, mo_st, mo_st2, mo_lg_0, mo_lg_s, List.set_cons_zero, List.set_cons_succ, List.length_cons, List.length_nil, List.getElem?_cons_zero, List.getElem?_cons_succ, Nat.reduceBEq, Bool.false_eq_true, beq_self_eq_true, hs', f1, f2, f3, t6, y1, k0, k1, k2, mo_LC, mo_ME, mo_u_a, mo_z_a, mo_y_a, Nat.add_left_cancel_iff]
theorem L_msetX {d x fr : Nat} {B : mo_A} {G : c_G} {μ : mo_Mem} (hs : c_st x B G μ) (h0 : ¬ mo_I μ 517 (x + 9) = 0) (k : Int32) (v : Int64) (Q : mo_P) : mo_M (d + 2) 24 [.ref (x + 1), .ref fr, .int k, .long v] μ Q = Q none μ := by
  have hs' := hs.1.1
  unfold cl_sf at hs'
  have k0 := fun Q => L_failed (d := d) hs.1.1 (t := mo_I μ 517 (x + 9)) rfl Q
  simp only [we24, en24, true_and, and_true, if_false, if_true, not_true_eq_false, not_false_eq_true, false_implies, true_implies, implies_true, forall_const, true_or, or_true, false_or, or_false, false_and, and_false, eq_self_iff_true, Option.toList_some, Option.toList_none, List.cons_append, List.nil_append, mo_cat_0, mo_cat_c, mo_ct_i, mo_ct_l, mo_ct_r, mo_ct_n, mo_ct_f, Nat.zero_le, Nat.reduceAdd, Nat.reduceLeDiff, Nat.reduceLT, Nat.reduceEqDiff, Nat.reduceSub, mo_rf_s, mo_rf_n, reduceCtorEq, mo_st, mo_st2, mo_lg_0, mo_lg_s, List.set_cons_zero, List.set_cons_succ, List.length_cons, List.length_nil, List.getElem?_cons_zero, List.getElem?_cons_succ, Nat.reduceBEq, Bool.false_eq_true, beq_self_eq_true, hs', k0, h0, mo_LC, mo_ME, mo_u_a, mo_z_a, mo_y_a, Nat.add_left_cancel_iff]
theorem L_rdCT {d x fr o c h k nk : Nat} {B : mo_A} {G : c_G} {O : Nat → Nat} {μ : mo_Mem} {A : mo_A} (hs : c_st x B G μ) (ht : c_tc x B G O μ A o c) (hh : h < gnc G) (f1 : mo_C μ fr = 4) (f2 : mo_R μ 192 fr = some (gT G h)) (f3 : mo_R μ 193 fr = some (O o)) (hb : a_bel B 8 c h = true) (hnk : B.1 7 h = nI nk) (hnl : nk < 2 ^ 31) (hk : k < nk) (Q : mo_P) : mo_M (d + 4) 32 [.ref (x + 1), .ref fr, .int (nI k)] μ Q = Q (some (.long (mo_AL μ (O o + 1) (3 * gV G h + k)))) μ := by
  have hs' := hs.1.1
  unfold cl_sf at hs'
  have t6 := ht.2.2.2.2.2.1
  have y1 := (hs.2.2.2.2.2.2.1 h hh).2.1
  have k1 := fun Q => L_hasCT (d := d + 1) hs ht hh hb hnk hnl hk Q
  have k2 := fun Q => L_cofT (d := d) hs ht hh hb hnk hnl hk Q
  simp only [we32, en32, true_and, and_true, if_false, if_true, not_true_eq_false, not_false_eq_true, false_implies, true_implies, implies_true, forall_const, true_or, or_true, false_or, or_false, false_and, and_false, eq_self_iff_true, Option.toList_some, Option.toList_none, List.cons_append, List.nil_append, mo_cat_0, mo_cat_c, mo_ct_i, mo_ct_l, mo_ct_r, mo_ct_n, mo_ct_f, Nat.zero_le, Nat.reduceAdd, Nat.reduceLeDiff, Nat.reduceLT, Nat.reduceEqDiff, Nat.reduceSub, mo_rf_s, mo_rf_n, reduceCtorEq, mo_st, mo_st2, mo_lg_0, mo_lg_s, List.set_cons_zero, List.set_cons_succ, List.length_cons, List.length_nil, List.getElem?_cons_zero, List.getElem?_cons_succ, Nat.reduceBEq, Bool.false_eq_true, beq_self_eq_true, hs', f1, f2, f3, t6, y1, k1, k2, mo_LC, mo_ME, mo_u_a, mo_z_a, mo_y_a, Nat.add_left_cancel_iff]
theorem L_rdCF {d x fr o c h k nk q : Nat} {B : mo_A} {G : c_G} {O : Nat → Nat} {μ : mo_Mem} {A : mo_A} (hs : c_st x B G μ) (ht : c_tc x B G O μ A o c) (hh : h < gnc G) (f1 : mo_C μ fr = 4) (f2 : mo_R μ 192 fr = some (gT G h)) (f3 : mo_R μ 193 fr = some (O o)) (hnk : B.1 7 h = nI nk) (hnl : nk < 2 ^ 31) (hkl : k < 2 ^ 31) (hk : nk ≤ k) (hq : mo_I μ 516 (x + 9) = nI q) (hq4 : q ≤ 4) (hs2 : c_st x B G (m_fl x μ q 2)) (ht2 : c_tc x B G O (m_fl x μ q 2) A o c) (f12 : mo_C (m_fl x μ q 2) fr = 4) (f22 : mo_R (m_fl x μ q 2) 192 fr = some (gT G h)) (f32 : mo_R (m_fl x μ q 2) 193 fr = some (O o)) (Q : mo_P) : mo_M (d + 4) 32 [.ref (x + 1), .ref fr, .int (nI k)] μ Q = Q (some (.long 0)) (m_fl x μ q 2) := by
  have hs' := hs.1.1
  unfold cl_sf at hs'
  have t6 := ht.2.2.2.2.2.1
  have y1 := (hs.2.2.2.2.2.2.1 h hh).2.1
  have t62 := ht2.2.2.2.2.2.1
  have y12 := (hs2.2.2.2.2.2.2.1 h hh).2.1
  have k1 := fun Q => L_hasCF (d := d + 1) hs ht hh hnk hnl hkl hk Q
  have k2 := fun Q => L_cofF (d := d) hs2 ht2 hh hnk hnl hkl hk Q
  have k3 := fun Q => L_fail (d := d + 2) (w := 2) hs.1.1 hq hq4 (by decide) Q
  simp only [we32, en32, true_and, and_true, if_false, if_true, not_true_eq_false, not_false_eq_true, false_implies, true_implies, implies_true, forall_const, true_or, or_true, false_or, or_false, false_and, and_false, eq_self_iff_true, Option.toList_some, Option.toList_none, List.cons_append, List.nil_append, mo_cat_0, mo_cat_c, mo_ct_i, mo_ct_l, mo_ct_r, mo_ct_n, mo_ct_f, Nat.zero_le, Nat.reduceAdd, Nat.reduceLeDiff, Nat.reduceLT, Nat.reduceEqDiff, Nat.reduceSub, mo_rf_s, mo_rf_n, reduceCtorEq, mo_st, mo_st2, mo_lg_0, mo_lg_s, List.set_cons_zero, List.set_cons_succ, List.length_cons, List.length_nil, List.getElem?_cons_zero, List.getElem?_cons_succ, Nat.reduceBEq, Bool.false_eq_true, beq_self_eq_true, hs', f1, f2, f3, t6, y1, f12, f22, f32, t62, y12, k1, k2, k3, mo_LC, mo_ME, mo_u_a, mo_z_a, mo_y_a, Nat.add_left_cancel_iff]
theorem L_rdFT {d x fr o c h k nk : Nat} {B : mo_A} {G : c_G} {O : Nat → Nat} {μ : mo_Mem} {A : mo_A} (hs : c_st x B G μ) (ht : c_tc x B G O μ A o c) (hh : h < gnc G) (f1 : mo_C μ fr = 4) (f2 : mo_R μ 192 fr = some (gT G h)) (f3 : mo_R μ 193 fr = some (O o)) (hb : a_bel B 8 c h = true) (hnk : B.1 8 h = nI nk) (hnl : nk < 2 ^ 31) (hk : k < nk) (Q : mo_P) : mo_M (d + 4) 33 [.ref (x + 1), .ref fr, .int (nI k)] μ Q = Q (some (.long (mo_AL μ (O o + 2) (4 * gV G h + k)))) μ := by
  have hs' := hs.1.1
  unfold cl_sf at hs'
  have t6 := ht.2.2.2.2.2.1
  have y1 := (hs.2.2.2.2.2.2.1 h hh).2.1
  have k1 := fun Q => L_hasFT (d := d + 1) hs ht hh hb hnk hnl hk Q
  have k2 := fun Q => L_fofT (d := d) hs ht hh hb hnk hnl hk Q
  simp only [we33, en33, true_and, and_true, if_false, if_true, not_true_eq_false, not_false_eq_true, false_implies, true_implies, implies_true, forall_const, true_or, or_true, false_or, or_false, false_and, and_false, eq_self_iff_true, Option.toList_some, Option.toList_none, List.cons_append, List.nil_append, mo_cat_0, mo_cat_c, mo_ct_i, mo_ct_l, mo_ct_r, mo_ct_n, mo_ct_f, Nat.zero_le, Nat.reduceAdd, Nat.reduceLeDiff, Nat.reduceLT, Nat.reduceEqDiff, Nat.reduceSub, mo_rf_s, mo_rf_n, reduceCtorEq, mo_st, mo_st2, mo_lg_0, mo_lg_s, List.set_cons_zero, List.set_cons_succ, List.length_cons, List.length_nil, List.getElem?_cons_zero, List.getElem?_cons_succ, Nat.reduceBEq, Bool.false_eq_true, beq_self_eq_true, hs', f1, f2, f3, t6, y1, k1, k2, mo_LC, mo_ME, mo_u_a, mo_z_a, mo_y_a, Nat.add_left_cancel_iff]
theorem L_rdFF {d x fr o c h k nk q : Nat} {B : mo_A} {G : c_G} {O : Nat → Nat} {μ : mo_Mem} {A : mo_A} (hs : c_st x B G μ) (ht : c_tc x B G O μ A o c) (hh : h < gnc G) (f1 : mo_C μ fr = 4) (f2 : mo_R μ 192 fr = some (gT G h)) (f3 : mo_R μ 193 fr = some (O o)) (hnk : B.1 8 h = nI nk) (hnl : nk < 2 ^ 31) (hkl : k < 2 ^ 31) (hk : nk ≤ k) (hq : mo_I μ 516 (x + 9) = nI q) (hq4 : q ≤ 4) (hs2 : c_st x B G (m_fl x μ q 2)) (ht2 : c_tc x B G O (m_fl x μ q 2) A o c) (f12 : mo_C (m_fl x μ q 2) fr = 4) (f22 : mo_R (m_fl x μ q 2) 192 fr = some (gT G h)) (f32 : mo_R (m_fl x μ q 2) 193 fr = some (O o)) (Q : mo_P) : mo_M (d + 4) 33 [.ref (x + 1), .ref fr, .int (nI k)] μ Q = Q (some (.long 0)) (m_fl x μ q 2) := by
  have hs' := hs.1.1
  unfold cl_sf at hs'
  have t6 := ht.2.2.2.2.2.1
  have y1 := (hs.2.2.2.2.2.2.1 h hh).2.1
  have t62 := ht2.2.2.2.2.2.1
  have y12 := (hs2.2.2.2.2.2.2.1 h hh).2.1
  have k1 := fun Q => L_hasFF (d := d + 1) hs ht hh hnk hnl hkl hk Q
  have k2 := fun Q => L_fofF (d := d) hs2 ht2 hh hnk hnl hkl hk Q
  have k3 := fun Q => L_fail (d := d + 2) (w := 2) hs.1.1 hq hq4 (by decide) Q
  simp only [we33, en33, true_and, and_true, if_false, if_true, not_true_eq_false, not_false_eq_true, false_implies, true_implies, implies_true, forall_const, true_or, or_true, false_or, or_false, false_and, and_false, eq_self_iff_true, Option.toList_some, Option.toList_none, List.cons_append, List.nil_append, mo_cat_0, mo_cat_c, mo_ct_i, mo_ct_l, mo_ct_r, mo_ct_n, mo_ct_f, Nat.zero_le, Nat.reduceAdd, Nat.reduceLeDiff, Nat.reduceLT, Nat.reduceEqDiff, Nat.reduceSub, mo_rf_s, mo_rf_n, reduceCtorEq, mo_st, mo_st2, mo_lg_0, mo_lg_s, List.set_cons_zero, List.set_cons_succ, List.length_cons, List.length_nil, List.getElem?_cons_zero, List.getElem?_cons_succ, Nat.reduceBEq, Bool.false_eq_true, beq_self_eq_true, hs', f1, f2, f3, t6, y1, f12, f22, f32, t62, y12, k1, k2, k3, mo_LC, mo_ME, mo_u_a, mo_z_a, mo_y_a, Nat.add_left_cancel_iff]
theorem L_divT {d x : Nat} {μ : mo_Mem} {a b : Int64} (hb : ¬ b = 0) (Q : mo_P) : mo_M (d + 1) 34 [.ref (x + 1), .long a, .long b] μ Q = Q (some (.long (a / b))) μ := by
  simp only [we34, en34, true_and, and_true, if_false, if_true, not_true_eq_false, not_false_eq_true, false_implies, true_implies, implies_true, forall_const, true_or, or_true, false_or, or_false, false_and, and_false, eq_self_iff_true, Option.toList_some, Option.toList_none, List.cons_append, List.nil_append, mo_cat_0, mo_cat_c, mo_ct_i, mo_ct_l, mo_ct_r, mo_ct_n, mo_ct_f, Nat.zero_le, Nat.reduceAdd, Nat.reduceLeDiff, Nat.reduceLT, Nat.reduceEqDiff, Nat.reduceSub, mo_rf_s, mo_rf_n, reduceCtorEq, mo_st, mo_st2, mo_lg_0, mo_lg_s, List.set_cons_zero, List.set_cons_succ, List.length_cons, List.length_nil, List.getElem?_cons_zero, List.getElem?_cons_succ, Nat.reduceBEq, Bool.false_eq_true, beq_self_eq_true, hb, cmE, mo_ME, mo_u_a, mo_z_a, mo_y_a, Nat.add_left_cancel_iff]
theorem L_divF {d x q : Nat} {μ : mo_Mem} (hs : cl_sf x μ) {a b : Int64} (hb : b = 0) (hq : mo_I μ 516 (x + 9) = nI q) (hq4 : q ≤ 4) (Q : mo_P) : mo_M (d + 2) 34 [.ref (x + 1), .long a, .long b] μ Q = Q (some (.long 0)) (m_fl x μ q 3) := by
  have hs' := hs
  unfold cl_sf at hs'
  have k3 := fun Q => L_fail (d := d) (w := 3) hs hq hq4 (by decide) Q
  simp only [we34, en34, true_and, and_true, if_false, if_true, not_true_eq_false, not_false_eq_true, false_implies, true_implies, implies_true, forall_const, true_or, or_true, false_or, or_false, false_and, and_false, eq_self_iff_true, Option.toList_some, Option.toList_none, List.cons_append, List.nil_append, mo_cat_0, mo_cat_c, mo_ct_i, mo_ct_l, mo_ct_r, mo_ct_n, mo_ct_f, Nat.zero_le, Nat.reduceAdd, Nat.reduceLeDiff, Nat.reduceLT, Nat.reduceEqDiff, Nat.reduceSub, mo_rf_s, mo_rf_n, reduceCtorEq, mo_st, mo_st2, mo_lg_0, mo_lg_s, List.set_cons_zero, List.set_cons_succ, List.length_cons, List.length_nil, List.getElem?_cons_zero, List.getElem?_cons_succ, Nat.reduceBEq, Bool.false_eq_true, beq_self_eq_true, hs', hb, cmE, k3, mo_ME, mo_u_a, mo_z_a, mo_y_a, Nat.add_left_cancel_iff]
