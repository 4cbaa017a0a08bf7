theorem O_field {x s0 k d bs : Nat} {μ : mo_Mem} {Q : mo_Mem → Prop} (hiv : c_iv x s0 k μ) (hb : bs < x) (hQ : ∀ μ', c_iv x s0 (k + 1) μ' → c_sc bs μ μ' → Q μ') (i j m : Int32) : c_qL x (d + 200) 75 118 bs [.int i, .int j, .int m] μ Q := by
  have hiv0 := hiv; obtain ⟨A, G, O, no, b, q, hs, hd, hr, hst, hX, hS⟩ := hiv0; have fin : Q μ := hQ μ (iv_up hiv) (sc_rf _ _); have hno := hd.2.2.1; have hno1 := hd.2.2.2.1; obtain ⟨nl, l1, l2, l3, l4⟩ := hd.2.2.2.2.2.2.2.2.2.2.2.2.2.2.2.2.2.2.2.2.2.2.1; have hne := hs.2.2.1.2.2.1; have hnc := hs.2.2.1.2.2.2.1; have hnc8 := hs.2.2.1.2.1; have hpw := hs.2.2.1.2.2.2.2.1
  unfold c_qL
  have hs' := hs.1.1
  unfold cl_sf at hs'
  by_cases hi : vp_in i no
  · obtain ⟨k, hk, rfl⟩ := vp_ex (by omega) hi
    have k1 := fun Q => L_th (d := d + 198) hs hd hk Q
    obtain ⟨c0, t⟩ := hd.2.2.2.2.2.2.2.2.2.2.2.2.2.2.2.2.2.2.2.2.2.2.2.1 k hk
    have t6 := t.2.2.2.2.2.1
    by_cases hj : vp_in j (gnc G)
    · obtain ⟨y, hy, rfl⟩ := vp_ex (by omega) hj
      have k2 := fun Q => L_ty (d := d + 198) hs hy Q
      have y1 := (hs.2.2.2.2.2.2.1 y hy).2.1
      obtain ⟨nf, nf1, nf2⟩ := (hs.2.2.1.2.2.2.2.2.2.1 y hy).2.1
      obtain ⟨c1, c2, c3⟩ := L_bI (d := d + 196) (nf := nf) hs hd hk t.2.1 t.1 hy nf2 nf1 m (fun r μ1 => ∃ v, r = some (.long v) ∧ c_sc bs μ μ1 ∧ mo_M (d + 200) 118 (.ref (x + 28) :: [.int (nI k), .int (nI y), .int m]) μ1 (fun r2 μ2 => r2 = some (.long v) ∧ Q μ2))
      have go : mo_M (d + 199) 56 [.ref (O k), .ref (gT G y), .int m] μ (fun r μ1 => ∃ v, r = some (.long v) ∧ c_sc bs μ μ1 ∧ mo_M (d + 200) 118 (.ref (x + 28) :: [.int (nI k), .int (nI y), .int m]) μ1 (fun r2 μ2 => r2 = some (.long v) ∧ Q μ2)) → mo_M (d + 200) 75 [.ref x, .int (nI k), .int (nI y), .int m] μ (fun r1 μ1 => ∃ v, r1 = some (.long v) ∧ c_sc bs μ μ1 ∧ mo_M (d + 200) 118 (.ref (x + 28) :: [.int (nI k), .int (nI y), .int m]) μ1 (fun r2 μ2 => r2 = some (.long v) ∧ Q μ2)) := by
        intro hh
        simp only [we75, en75, true_and, and_true, if_false, if_true, not_true_eq_false, not_false_eq_true, false_implies, true_implies, implies_true, forall_const, true_or, or_true, false_or, or_false, false_and, and_false, eq_self_iff_true, Option.toList_some, Option.toList_none, List.cons_append, List.nil_append, mo_cat_0, mo_cat_c, mo_ct_i, mo_ct_l, mo_ct_r, mo_ct_n, mo_ct_f, Nat.zero_le, Nat.reduceAdd, Nat.reduceLeDiff, Nat.reduceLT, Nat.reduceEqDiff, Nat.reduceSub, mo_rf_s, mo_rf_n, reduceCtorEq, mo_st, mo_st2, mo_lg_0, mo_lg_s, List.set_cons_zero, List.set_cons_succ, List.length_cons, List.length_nil, List.getElem?_cons_zero, List.getElem?_cons_succ, Nat.reduceBEq, Bool.false_eq_true, beq_self_eq_true, hs', k1, k2, t6, y1, mo_ME, mo_u_a, mo_z_a, mo_y_a, Nat.add_left_cancel_iff]
        refine mo_M_post _ _ _ _ _ _ ?_ hh
        rintro r μ1 ⟨v, rfl, hv⟩
        simp only [we75, en75, true_and, and_true, if_false, if_true, not_true_eq_false, not_false_eq_true, false_implies, true_implies, implies_true, forall_const, true_or, or_true, false_or, or_false, false_and, and_false, eq_self_iff_true, Option.toList_some, Option.toList_none, List.cons_append, List.nil_append, mo_cat_0, mo_cat_c, mo_ct_i, mo_ct_l, mo_ct_r, mo_ct_n, mo_ct_f, Nat.zero_le, Nat.reduceAdd, Nat.reduceLeDiff, Nat.reduceLT, Nat.reduceEqDiff, Nat.reduceSub, mo_rf_s, mo_rf_n, reduceCtorEq, mo_st, mo_st2, mo_lg_0, mo_lg_s, List.set_cons_zero, List.set_cons_succ, List.length_cons, List.length_nil, List.getElem?_cons_zero, List.getElem?_cons_succ, Nat.reduceBEq, Bool.false_eq_true, beq_self_eq_true, mo_ME, mo_u_a, mo_z_a, mo_y_a, Nat.add_left_cancel_iff]
        exact ⟨v, rfl, hv⟩
      refine go ?_
      by_cases hbl : a_bel A 8 c0 y = true
      · by_cases hm : vp_in m nf
        · obtain ⟨jj, j1, j2⟩ := vp_ex (by omega) hm
          rw [c3 jj j1 j2 hbl]
          refine ⟨_, rfl, sc_rf _ _, ?_⟩
          rw [(R_field (d := d + 197) hr hno hno1 hnc hnc8 hpw hk t.2.1 t.1 hy hbl nf2 nf1 m _).1 jj j1 j2]
          exact ⟨rfl, fin⟩
        · rw [c2 hm]
          refine ⟨_, rfl, sc_rf _ _, ?_⟩
          rw [(R_field (d := d + 197) hr hno hno1 hnc hnc8 hpw hk t.2.1 t.1 hy hbl nf2 nf1 m _).2 hm]
          exact ⟨rfl, fin⟩
      · rw [c1 hbl]
        refine ⟨_, rfl, sc_rf _ _, ?_⟩
        rw [R_fieldB (d := d + 197) hr hno hno1 hnc hnc8 hpw hk t.2.1 t.1 hy hbl m]
        exact ⟨rfl, fin⟩
    · have k2 := fun Q => L_tyI (d := d + 198) hs hj Q
      have k3 := fun m Q => L_bI0 (d := d + 197) t6 m Q
      simp only [we75, en75, true_and, and_true, if_false, if_true, not_true_eq_false, not_false_eq_true, false_implies, true_implies, implies_true, forall_const, true_or, or_true, false_or, or_false, false_and, and_false, eq_self_iff_true, Option.toList_some, Option.toList_none, List.cons_append, List.nil_append, mo_cat_0, mo_cat_c, mo_ct_i, mo_ct_l, mo_ct_r, mo_ct_n, mo_ct_f, Nat.zero_le, Nat.reduceAdd, Nat.reduceLeDiff, Nat.reduceLT, Nat.reduceEqDiff, Nat.reduceSub, mo_rf_s, mo_rf_n, reduceCtorEq, mo_st, mo_st2, mo_lg_0, mo_lg_s, List.set_cons_zero, List.set_cons_succ, List.length_cons, List.length_nil, List.getElem?_cons_zero, List.getElem?_cons_succ, Nat.reduceBEq, Bool.false_eq_true, beq_self_eq_true, hs', k1, k2, k3, t6, mo_ME, mo_u_a, mo_z_a, mo_y_a, Nat.add_left_cancel_iff]
      refine ⟨_, rfl, sc_rf _ _, ?_⟩
      rw [R_fieldC (d := d + 197) hr hno hno1 hnc hnc8 hpw hk hj m]
      exact ⟨rfl, fin⟩
  · have k1 := fun Q => L_thX (d := d + 198) hs hd hi Q
    simp only [we75, en75, true_and, and_true, if_false, if_true, not_true_eq_false, not_false_eq_true, false_implies, true_implies, implies_true, forall_const, true_or, or_true, false_or, or_false, false_and, and_false, eq_self_iff_true, Option.toList_some, Option.toList_none, List.cons_append, List.nil_append, mo_cat_0, mo_cat_c, mo_ct_i, mo_ct_l, mo_ct_r, mo_ct_n, mo_ct_f, Nat.zero_le, Nat.reduceAdd, Nat.reduceLeDiff, Nat.reduceLT, Nat.reduceEqDiff, Nat.reduceSub, mo_rf_s, mo_rf_n, reduceCtorEq, mo_st, mo_st2, mo_lg_0, mo_lg_s, List.set_cons_zero, List.set_cons_succ, List.length_cons, List.length_nil, List.getElem?_cons_zero, List.getElem?_cons_succ, Nat.reduceBEq, Bool.false_eq_true, beq_self_eq_true, hs', k1, mo_ME, mo_u_a, mo_z_a, mo_y_a, Nat.add_left_cancel_iff]
    refine ⟨_, rfl, sc_rf _ _, ?_⟩
    rw [R_fieldO (d := d + 198) hr hno hno1 hnc hnc8 hpw hi j m]
    exact ⟨rfl, fin⟩
theorem O_capture {x s0 k d bs : Nat} {μ : mo_Mem} {Q : mo_Mem → Prop} (hiv : c_iv x s0 k μ) (hb : bs < x) (hQ : ∀ μ', c_iv x s0 (k + 1) μ' → c_sc bs μ μ' → Q μ') (i j m : Int32) : c_qL x (d + 200) 76 119 bs [.int i, .int j, .int m] μ Q := by
  have hiv0 := hiv; obtain ⟨A, G, O, no, b, q, hs, hd, hr, hst, hX, hS⟩ := hiv0; have fin : Q μ := hQ μ (iv_up hiv) (sc_rf _ _); have hno := hd.2.2.1; have hno1 := hd.2.2.2.1; obtain ⟨nl, l1, l2, l3, l4⟩ := hd.2.2.2.2.2.2.2.2.2.2.2.2.2.2.2.2.2.2.2.2.2.2.1; have hne := hs.2.2.1.2.2.1; have hnc := hs.2.2.1.2.2.2.1; have hnc8 := hs.2.2.1.2.1; have hpw := hs.2.2.1.2.2.2.2.1
  unfold c_qL
  have hs' := hs.1.1
  unfold cl_sf at hs'
  by_cases hi : vp_in i no
  · obtain ⟨k, hk, rfl⟩ := vp_ex (by omega) hi
    have k1 := fun Q => L_th (d := d + 198) hs hd hk Q
    obtain ⟨c0, t⟩ := hd.2.2.2.2.2.2.2.2.2.2.2.2.2.2.2.2.2.2.2.2.2.2.2.1 k hk
    have t6 := t.2.2.2.2.2.1
    by_cases hj : vp_in j (gnc G)
    · obtain ⟨y, hy, rfl⟩ := vp_ex (by omega) hj
      have k2 := fun Q => L_ty (d := d + 198) hs hy Q
      have y1 := (hs.2.2.2.2.2.2.1 y hy).2.1
      obtain ⟨nf, nf1, nf2⟩ := (hs.2.2.1.2.2.2.2.2.2.1 y hy).1
      obtain ⟨c1, c2, c3⟩ := L_bC (d := d + 196) (nf := nf) hs hd hk t.2.1 t.1 hy nf2 nf1 m (fun r μ1 => ∃ v, r = some (.long v) ∧ c_sc bs μ μ1 ∧ mo_M (d + 200) 119 (.ref (x + 28) :: [.int (nI k), .int (nI y), .int m]) μ1 (fun r2 μ2 => r2 = some (.long v) ∧ Q μ2))
      have go : mo_M (d + 199) 55 [.ref (O k), .ref (gT G y), .int m] μ (fun r μ1 => ∃ v, r = some (.long v) ∧ c_sc bs μ μ1 ∧ mo_M (d + 200) 119 (.ref (x + 28) :: [.int (nI k), .int (nI y), .int m]) μ1 (fun r2 μ2 => r2 = some (.long v) ∧ Q μ2)) → mo_M (d + 200) 76 [.ref x, .int (nI k), .int (nI y), .int m] μ (fun r1 μ1 => ∃ v, r1 = some (.long v) ∧ c_sc bs μ μ1 ∧ mo_M (d + 200) 119 (.ref (x + 28) :: [.int (nI k), .int (nI y), .int m]) μ1 (fun r2 μ2 => r2 = some (.long v) ∧ Q μ2)) := by
        intro hh
        simp only [we76, en76, true_and, and_true, if_false, if_true, not_true_eq_false, not_false_eq_true, false_implies, true_implies, implies_true, forall_const, true_or, or_true, false_or, or_false, false_and, and_false, eq_self_iff_true, Option.toList_some, Option.toList_none, List.cons_append, List.nil_append, mo_cat_0, mo_cat_c, mo_ct_i, mo_ct_l, mo_ct_r, mo_ct_n, mo_ct_f, Nat.zero_le, Nat.reduceAdd, Nat.reduceLeDiff, Nat.reduceLT, Nat.reduceEqDiff, Nat.reduceSub, mo_rf_s, mo_rf_n, reduceCtorEq, mo_st, mo_st2, mo_lg_0, mo_lg_s, List.set_cons_zero, List.set_cons_succ, List.length_cons, List.length_nil, List.getElem?_cons_zero, List.getElem?_cons_succ, Nat.reduceBEq, Bool.false_eq_true, beq_self_eq_true, hs', k1, k2, t6, y1, mo_ME, mo_u_a, mo_z_a, mo_y_a, Nat.add_left_cancel_iff]
        refine mo_M_post _ _ _ _ _ _ ?_ hh
        rintro r μ1 ⟨v, rfl, hv⟩
        simp only [we76, en76, true_and, and_true, if_false, if_true, not_true_eq_false, not_false_eq_true, false_implies, true_implies, implies_true, forall_const, true_or, or_true, false_or, or_false, false_and, and_false, eq_self_iff_true, Option.toList_some, Option.toList_none, List.cons_append, List.nil_append, mo_cat_0, mo_cat_c, mo_ct_i, mo_ct_l, mo_ct_r, mo_ct_n, mo_ct_f, Nat.zero_le, Nat.reduceAdd, Nat.reduceLeDiff, Nat.reduceLT, Nat.reduceEqDiff, Nat.reduceSub, mo_rf_s, mo_rf_n, reduceCtorEq, mo_st, mo_st2, mo_lg_0, mo_lg_s, List.set_cons_zero, List.set_cons_succ, List.length_cons, List.length_nil, List.getElem?_cons_zero, List.getElem?_cons_succ, Nat.reduceBEq, Bool.false_eq_true, beq_self_eq_true, mo_ME, mo_u_a, mo_z_a, mo_y_a, Nat.add_left_cancel_iff]
        exact ⟨v, rfl, hv⟩
      refine go ?_
      by_cases hbl : a_bel A 8 c0 y = true
      · by_cases hm : vp_in m nf
        · obtain ⟨jj, j1, j2⟩ := vp_ex (by omega) hm
          rw [c3 jj j1 j2 hbl]
          refine ⟨_, rfl, sc_rf _ _, ?_⟩
          rw [(R_capture (d := d + 197) hr hno hno1 hnc hnc8 hpw hk t.2.1 t.1 hy hbl nf2 nf1 m _).1 jj j1 j2]
          exact ⟨rfl, fin⟩
        · rw [c2 hm]
          refine ⟨_, rfl, sc_rf _ _, ?_⟩
          rw [(R_capture (d := d + 197) hr hno hno1 hnc hnc8 hpw hk t.2.1 t.1 hy hbl nf2 nf1 m _).2 hm]
          exact ⟨rfl, fin⟩
      · rw [c1 hbl]
        refine ⟨_, rfl, sc_rf _ _, ?_⟩
        rw [R_captureB (d := d + 197) hr hno hno1 hnc hnc8 hpw hk t.2.1 t.1 hy hbl m]
        exact ⟨rfl, fin⟩
    · have k2 := fun Q => L_tyI (d := d + 198) hs hj Q
      have k3 := fun m Q => L_bC0 (d := d + 197) t6 m Q
      simp only [we76, en76, true_and, and_true, if_false, if_true, not_true_eq_false, not_false_eq_true, false_implies, true_implies, implies_true, forall_const, true_or, or_true, false_or, or_false, false_and, and_false, eq_self_iff_true, Option.toList_some, Option.toList_none, List.cons_append, List.nil_append, mo_cat_0, mo_cat_c, mo_ct_i, mo_ct_l, mo_ct_r, mo_ct_n, mo_ct_f, Nat.zero_le, Nat.reduceAdd, Nat.reduceLeDiff, Nat.reduceLT, Nat.reduceEqDiff, Nat.reduceSub, mo_rf_s, mo_rf_n, reduceCtorEq, mo_st, mo_st2, mo_lg_0, mo_lg_s, List.set_cons_zero, List.set_cons_succ, List.length_cons, List.length_nil, List.getElem?_cons_zero, List.getElem?_cons_succ, Nat.reduceBEq, Bool.false_eq_true, beq_self_eq_true, hs', k1, k2, k3, t6, mo_ME, mo_u_a, mo_z_a, mo_y_a, Nat.add_left_cancel_iff]
      refine ⟨_, rfl, sc_rf _ _, ?_⟩
      rw [R_captureC (d := d + 197) hr hno hno1 hnc hnc8 hpw hk hj m]
      exact ⟨rfl, fin⟩
  · have k1 := fun Q => L_thX (d := d + 198) hs hd hi Q
    simp only [we76, en76, true_and, and_true, if_false, if_true, not_true_eq_false, not_false_eq_true, false_implies, true_implies, implies_true, forall_const, true_or, or_true, false_or, or_false, false_and, and_false, eq_self_iff_true, Option.toList_some, Option.toList_none, List.cons_append, List.nil_append, mo_cat_0, mo_cat_c, mo_ct_i, mo_ct_l, mo_ct_r, mo_ct_n, mo_ct_f, Nat.zero_le, Nat.reduceAdd, Nat.reduceLeDiff, Nat.reduceLT, Nat.reduceEqDiff, Nat.reduceSub, mo_rf_s, mo_rf_n, reduceCtorEq, mo_st, mo_st2, mo_lg_0, mo_lg_s, List.set_cons_zero, List.set_cons_succ, List.length_cons, List.length_nil, List.getElem?_cons_zero, List.getElem?_cons_succ, Nat.reduceBEq, Bool.false_eq_true, beq_self_eq_true, hs', k1, mo_ME, mo_u_a, mo_z_a, mo_y_a, Nat.add_left_cancel_iff]
    refine ⟨_, rfl, sc_rf _ _, ?_⟩
    rw [R_captureO (d := d + 198) hr hno hno1 hnc hnc8 hpw hi j m]
    exact ⟨rfl, fin⟩
theorem O_below {x s0 k d bs : Nat} {μ : mo_Mem} {Q : mo_Mem → Prop} (hiv : c_iv x s0 k μ) (hb : bs < x) (hQ : ∀ μ', c_iv x s0 (k + 1) μ' → c_sc bs μ μ' → Q μ') (i j : Int32) : c_qI x (d + 200) 77 120 bs [.int i, .int j] μ Q := by
  have hiv0 := hiv; obtain ⟨A, G, O, no, b, q, hs, hd, hr, hst, hX, hS⟩ := hiv0; have fin : Q μ := hQ μ (iv_up hiv) (sc_rf _ _); have hno := hd.2.2.1; have hno1 := hd.2.2.2.1; obtain ⟨nl, l1, l2, l3, l4⟩ := hd.2.2.2.2.2.2.2.2.2.2.2.2.2.2.2.2.2.2.2.2.2.2.1; have hne := hs.2.2.1.2.2.1; have hnc := hs.2.2.1.2.2.2.1; have hnc8 := hs.2.2.1.2.1; have hpw := hs.2.2.1.2.2.2.2.1
  unfold c_qI
  have hs' := hs.1.1
  unfold cl_sf at hs'
  by_cases hi : vp_in i (gnc G)
  · obtain ⟨k, hk, rfl⟩ := vp_ex (by omega) hi
    have k1 := fun Q => L_ty (d := d + 198) hs hk Q
    have y0 := (hs.2.2.2.2.2.2.1 k hk).2.1
    by_cases hj : vp_in j (gnc G)
    · obtain ⟨y, hy, rfl⟩ := vp_ex (by omega) hj
      have k2 := fun Q => L_ty (d := d + 198) hs hy Q
      have y1 := (hs.2.2.2.2.2.2.1 y hy).2.1
      have k3 := fun Q => L_bel (d := d + 198) hs hy hk Q
      have hR := fun Q => R_below (d := d + 198) hr hnc hnc8 hpw hk hy Q
      unfold a_bi at k3 hR
      by_cases hbl : a_bel A 8 k y = true
      · rw [if_pos hbl] at k3
        simp only [we77, en77, true_and, and_true, if_false, if_true, not_true_eq_false, not_false_eq_true, false_implies, true_implies, implies_true, forall_const, true_or, or_true, false_or, or_false, false_and, and_false, eq_self_iff_true, Option.toList_some, Option.toList_none, List.cons_append, List.nil_append, mo_cat_0, mo_cat_c, mo_ct_i, mo_ct_l, mo_ct_r, mo_ct_n, mo_ct_f, Nat.zero_le, Nat.reduceAdd, Nat.reduceLeDiff, Nat.reduceLT, Nat.reduceEqDiff, Nat.reduceSub, mo_rf_s, mo_rf_n, reduceCtorEq, mo_st, mo_st2, mo_lg_0, mo_lg_s, List.set_cons_zero, List.set_cons_succ, List.length_cons, List.length_nil, List.getElem?_cons_zero, List.getElem?_cons_succ, Nat.reduceBEq, Bool.false_eq_true, beq_self_eq_true, hs', k1, k2, k3, y0, y1, mo_LC, mo_ME, mo_u_a, mo_z_a, mo_y_a, Nat.add_left_cancel_iff]
        refine ⟨_, rfl, sc_rf _ _, ?_⟩
        rw [hR, if_pos hbl]
        exact ⟨rfl, fin⟩
      · rw [if_neg hbl] at k3
        simp only [we77, en77, true_and, and_true, if_false, if_true, not_true_eq_false, not_false_eq_true, false_implies, true_implies, implies_true, forall_const, true_or, or_true, false_or, or_false, false_and, and_false, eq_self_iff_true, Option.toList_some, Option.toList_none, List.cons_append, List.nil_append, mo_cat_0, mo_cat_c, mo_ct_i, mo_ct_l, mo_ct_r, mo_ct_n, mo_ct_f, Nat.zero_le, Nat.reduceAdd, Nat.reduceLeDiff, Nat.reduceLT, Nat.reduceEqDiff, Nat.reduceSub, mo_rf_s, mo_rf_n, reduceCtorEq, mo_st, mo_st2, mo_lg_0, mo_lg_s, List.set_cons_zero, List.set_cons_succ, List.length_cons, List.length_nil, List.getElem?_cons_zero, List.getElem?_cons_succ, Nat.reduceBEq, Bool.false_eq_true, beq_self_eq_true, hs', k1, k2, k3, y0, y1, mo_LC, mo_ME, mo_u_a, mo_z_a, mo_y_a, Nat.add_left_cancel_iff]
        refine ⟨_, rfl, sc_rf _ _, ?_⟩
        rw [hR, if_neg hbl]
        exact ⟨rfl, fin⟩
    · have k2 := fun Q => L_tyI (d := d + 198) hs hj Q
      simp only [we77, en77, true_and, and_true, if_false, if_true, not_true_eq_false, not_false_eq_true, false_implies, true_implies, implies_true, forall_const, true_or, or_true, false_or, or_false, false_and, and_false, eq_self_iff_true, Option.toList_some, Option.toList_none, List.cons_append, List.nil_append, mo_cat_0, mo_cat_c, mo_ct_i, mo_ct_l, mo_ct_r, mo_ct_n, mo_ct_f, Nat.zero_le, Nat.reduceAdd, Nat.reduceLeDiff, Nat.reduceLT, Nat.reduceEqDiff, Nat.reduceSub, mo_rf_s, mo_rf_n, reduceCtorEq, mo_st, mo_st2, mo_lg_0, mo_lg_s, List.set_cons_zero, List.set_cons_succ, List.length_cons, List.length_nil, List.getElem?_cons_zero, List.getElem?_cons_succ, Nat.reduceBEq, Bool.false_eq_true, beq_self_eq_true, hs', k1, k2, y0, mo_ME, mo_u_a, mo_z_a, mo_y_a, Nat.add_left_cancel_iff]
      refine ⟨_, rfl, sc_rf _ _, ?_⟩
      rw [R_belowX (d := d + 198) hr hnc hnc8 hpw (Or.inr hj)]
      exact ⟨rfl, fin⟩
  · have k1 := fun Q => L_tyI (d := d + 198) hs hi Q
    by_cases hj : vp_in j (gnc G)
    · obtain ⟨y, hy, rfl⟩ := vp_ex (by omega) hj
      have k2 := fun Q => L_ty (d := d + 198) hs hy Q
      simp only [we77, en77, true_and, and_true, if_false, if_true, not_true_eq_false, not_false_eq_true, false_implies, true_implies, implies_true, forall_const, true_or, or_true, false_or, or_false, false_and, and_false, eq_self_iff_true, Option.toList_some, Option.toList_none, List.cons_append, List.nil_append, mo_cat_0, mo_cat_c, mo_ct_i, mo_ct_l, mo_ct_r, mo_ct_n, mo_ct_f, Nat.zero_le, Nat.reduceAdd, Nat.reduceLeDiff, Nat.reduceLT, Nat.reduceEqDiff, Nat.reduceSub, mo_rf_s, mo_rf_n, reduceCtorEq, mo_st, mo_st2, mo_lg_0, mo_lg_s, List.set_cons_zero, List.set_cons_succ, List.length_cons, List.length_nil, List.getElem?_cons_zero, List.getElem?_cons_succ, Nat.reduceBEq, Bool.false_eq_true, beq_self_eq_true, hs', k1, k2, mo_ME, mo_u_a, mo_z_a, mo_y_a, Nat.add_left_cancel_iff]
      refine ⟨_, rfl, sc_rf _ _, ?_⟩
      rw [R_belowX (d := d + 198) hr hnc hnc8 hpw (Or.inl hi)]
      exact ⟨rfl, fin⟩
    · have k2 := fun Q => L_tyI (d := d + 198) hs hj Q
      simp only [we77, en77, true_and, and_true, if_false, if_true, not_true_eq_false, not_false_eq_true, false_implies, true_implies, implies_true, forall_const, true_or, or_true, false_or, or_false, false_and, and_false, eq_self_iff_true, Option.toList_some, Option.toList_none, List.cons_append, List.nil_append, mo_cat_0, mo_cat_c, mo_ct_i, mo_ct_l, mo_ct_r, mo_ct_n, mo_ct_f, Nat.zero_le, Nat.reduceAdd, Nat.reduceLeDiff, Nat.reduceLT, Nat.reduceEqDiff, Nat.reduceSub, mo_rf_s, mo_rf_n, reduceCtorEq, mo_st, mo_st2, mo_lg_0, mo_lg_s, List.set_cons_zero, List.set_cons_succ, List.length_cons, List.length_nil, List.getElem?_cons_zero, List.getElem?_cons_succ, Nat.reduceBEq, Bool.false_eq_true, beq_self_eq_true, hs', k1, k2, mo_ME, mo_u_a, mo_z_a, mo_y_a, Nat.add_left_cancel_iff]
      refine ⟨_, rfl, sc_rf _ _, ?_⟩
      rw [R_belowX (d := d + 198) hr hnc hnc8 hpw (Or.inl hi)]
      exact ⟨rfl, fin⟩
theorem L_nr1 {n : Nat} (h : n ≤ 8) : ¬ vp_in (-1) n := by rw [vp_in_iff]; have : (-1 : Int32).toInt = -1 := by decide
                                                           omega
theorem O_finds {x s0 k d bs : Nat} {μ : mo_Mem} {Q : mo_Mem → Prop} (hiv : c_iv x s0 k μ) (hb : bs < x) (hQ : ∀ μ', c_iv x s0 (k + 1) μ' → c_sc bs μ μ' → Q μ') (i j m : Int32) : c_qI x (d + 200) 78 121 bs [.int i, .int j, .int m] μ Q := by
  have hiv0 := hiv; obtain ⟨A, G, O, no, b, q, hs, hd, hr, hst, hX, hS⟩ := hiv0; have fin : Q μ := hQ μ (iv_up hiv) (sc_rf _ _); have hno := hd.2.2.1; have hno1 := hd.2.2.2.1; obtain ⟨nl, l1, l2, l3, l4⟩ := hd.2.2.2.2.2.2.2.2.2.2.2.2.2.2.2.2.2.2.2.2.2.2.1; have hne := hs.2.2.1.2.2.1; have hnc := hs.2.2.1.2.2.2.1; have hnc8 := hs.2.2.1.2.1; have hpw := hs.2.2.1.2.2.2.2.1
  unfold c_qI
  have hs' := hs.1.1
  unfold cl_sf at hs'
  by_cases hi : vp_in i (gnc G)
  · obtain ⟨k, hk, rfl⟩ := vp_ex (by omega) hi
    have k1 := fun Q => L_ty (d := d + 198) hs hk Q
    have y0 := (hs.2.2.2.2.2.2.1 k hk).2.1
    by_cases hj : vp_in j (gnc G)
    · obtain ⟨y, hy, rfl⟩ := vp_ex (by omega) hj
      have k2 := fun Q => L_ty (d := d + 198) hs hy Q
      have y1 := (hs.2.2.2.2.2.2.1 y hy).2.1
      have hne : (nI y = -1) = False := nI_nm1 (by omega)
      by_cases hm : vp_in m 4
      · obtain ⟨nm, hnm, rfl⟩ := vp_ex (by decide) hm
        have k3 := fun Q => L_bel (d := d + 198) hs hy hk Q
        have k4 := fun Q => L_isName (d := d + 198) (μ := μ) hnm Q
        unfold a_bi at k3
        by_cases hbl : a_bel A 8 k y = true
        · rw [if_pos hbl] at k3
          have k5 := fun Q => L_called (d := d + 195) hs hnm hk hy Q
          have hR := fun Q => R_finds (d := d + 198) hr hnc hnc8 hpw hk hy hnm hbl Q
          cases hcal : a_cal A k y nm with
          | none =>
            rw [hcal] at k5 hR
            simp only [we78_0, we78_1, en78, true_and, and_true, if_false, if_true, not_true_eq_false, not_false_eq_true, false_implies, true_implies, implies_true, forall_const, true_or, or_true, false_or, or_false, false_and, and_false, eq_self_iff_true, Option.toList_some, Option.toList_none, List.cons_append, List.nil_append, mo_cat_0, mo_cat_c, mo_ct_i, mo_ct_l, mo_ct_r, mo_ct_n, mo_ct_f, Nat.zero_le, Nat.reduceAdd, Nat.reduceLeDiff, Nat.reduceLT, Nat.reduceEqDiff, Nat.reduceSub, mo_rf_s, mo_rf_n, reduceCtorEq, mo_st, mo_st2, mo_lg_0, mo_lg_s, List.set_cons_zero, List.set_cons_succ, List.length_cons, List.length_nil, List.getElem?_cons_zero, List.getElem?_cons_succ, Nat.reduceBEq, Bool.false_eq_true, beq_self_eq_true, hs', k1, k2, k3, k4, k5, y0, y1, mo_LC, Option.map_none, mo_ME, mo_u_a, mo_z_a, mo_y_a, Nat.add_left_cancel_iff]
            refine ⟨_, rfl, sc_rf _ _, ?_⟩
            rw [hR]
            exact ⟨rfl, fin⟩
          | some z =>
            rw [hcal] at k5 hR
            have hz : z < gnc G := by
              unfold a_cal at hcal
              by_cases ho : A.1 11 (5 * y + 1 + nm) = 2
              · rw [if_pos ho] at hcal; have := Option.some.inj hcal; omega
              · rw [if_neg ho] at hcal; exact (near_b hnc8 hpw 8 k (by omega) (Nat.le_refl _) hk hcal).2.2
            obtain ⟨z1, z2, -⟩ := (hs.2.2.2.2.2.2.1 z hz).2
            simp only [we78_0, we78_1, en78, true_and, and_true, if_false, if_true, not_true_eq_false, not_false_eq_true, false_implies, true_implies, implies_true, forall_const, true_or, or_true, false_or, or_false, false_and, and_false, eq_self_iff_true, Option.toList_some, Option.toList_none, List.cons_append, List.nil_append, mo_cat_0, mo_cat_c, mo_ct_i, mo_ct_l, mo_ct_r, mo_ct_n, mo_ct_f, Nat.zero_le, Nat.reduceAdd, Nat.reduceLeDiff, Nat.reduceLT, Nat.reduceEqDiff, Nat.reduceSub, mo_rf_s, mo_rf_n, reduceCtorEq, mo_st, mo_st2, mo_lg_0, mo_lg_s, List.set_cons_zero, List.set_cons_succ, List.length_cons, List.length_nil, List.getElem?_cons_zero, List.getElem?_cons_succ, Nat.reduceBEq, Bool.false_eq_true, beq_self_eq_true, hs', k1, k2, k3, k4, k5, y0, y1, z1, z2, mo_LC, Option.map_some, mo_ME, mo_u_a, mo_z_a, mo_y_a, Nat.add_left_cancel_iff]
            refine ⟨_, rfl, sc_rf _ _, ?_⟩
            rw [hR]
            exact ⟨rfl, fin⟩
        · rw [if_neg hbl] at k3
          simp only [we78_0, we78_1, en78, true_and, and_true, if_false, if_true, not_true_eq_false, not_false_eq_true, false_implies, true_implies, implies_true, forall_const, true_or, or_true, false_or, or_false, false_and, and_false, eq_self_iff_true, Option.toList_some, Option.toList_none, List.cons_append, List.nil_append, mo_cat_0, mo_cat_c, mo_ct_i, mo_ct_l, mo_ct_r, mo_ct_n, mo_ct_f, Nat.zero_le, Nat.reduceAdd, Nat.reduceLeDiff, Nat.reduceLT, Nat.reduceEqDiff, Nat.reduceSub, mo_rf_s, mo_rf_n, reduceCtorEq, mo_st, mo_st2, mo_lg_0, mo_lg_s, List.set_cons_zero, List.set_cons_succ, List.length_cons, List.length_nil, List.getElem?_cons_zero, List.getElem?_cons_succ, Nat.reduceBEq, Bool.false_eq_true, beq_self_eq_true, hs', k1, k2, k3, k4, y0, y1, mo_LC, mo_ME, mo_u_a, mo_z_a, mo_y_a, Nat.add_left_cancel_iff]
          refine ⟨_, rfl, sc_rf _ _, ?_⟩
          rw [R_findsB (d := d + 198) hr hnc hnc8 hpw hk hy hnm hbl]
          exact ⟨rfl, fin⟩
      · have k4 := fun Q => L_isNameX (d := d + 198) (μ := μ) hm Q
        simp only [we78_0, we78_1, en78, true_and, and_true, if_false, if_true, not_true_eq_false, not_false_eq_true, false_implies, true_implies, implies_true, forall_const, true_or, or_true, false_or, or_false, false_and, and_false, eq_self_iff_true, Option.toList_some, Option.toList_none, List.cons_append, List.nil_append, mo_cat_0, mo_cat_c, mo_ct_i, mo_ct_l, mo_ct_r, mo_ct_n, mo_ct_f, Nat.zero_le, Nat.reduceAdd, Nat.reduceLeDiff, Nat.reduceLT, Nat.reduceEqDiff, Nat.reduceSub, mo_rf_s, mo_rf_n, reduceCtorEq, mo_st, mo_st2, mo_lg_0, mo_lg_s, List.set_cons_zero, List.set_cons_succ, List.length_cons, List.length_nil, List.getElem?_cons_zero, List.getElem?_cons_succ, Nat.reduceBEq, Bool.false_eq_true, beq_self_eq_true, hs', k1, k2, k4, y0, y1, mo_LC, mo_ME, mo_u_a, mo_z_a, mo_y_a, Nat.add_left_cancel_iff]
        refine ⟨_, rfl, sc_rf _ _, ?_⟩
        rw [R_findsN (d := d + 198) hr hnc hnc8 hpw hk (Or.inr (vp_in_nI hy (by omega))) hm]
        exact ⟨rfl, fin⟩
    · have k2 := fun Q => L_tyI (d := d + 198) hs hj Q
      by_cases hj1 : j = -1
      · subst hj1
        by_cases hm : vp_in m 4
        · obtain ⟨nm, hnm, rfl⟩ := vp_ex (by decide) hm
          have k4 := fun Q => L_isName (d := d + 198) (μ := μ) hnm Q
          have k5 := fun Q => L_called0 (d := d + 195) hs hnm hk Q
          have hR := fun Q => R_finds0 (d := d + 198) hr hnc hnc8 hpw hk hnm Q
          cases hcal : a_near A 8 k nm with
          | none =>
            rw [hcal] at k5 hR
            simp only [we78_0, we78_1, en78, true_and, and_true, if_false, if_true, not_true_eq_false, not_false_eq_true, false_implies, true_implies, implies_true, forall_const, true_or, or_true, false_or, or_false, false_and, and_false, eq_self_iff_true, Option.toList_some, Option.toList_none, List.cons_append, List.nil_append, mo_cat_0, mo_cat_c, mo_ct_i, mo_ct_l, mo_ct_r, mo_ct_n, mo_ct_f, Nat.zero_le, Nat.reduceAdd, Nat.reduceLeDiff, Nat.reduceLT, Nat.reduceEqDiff, Nat.reduceSub, mo_rf_s, mo_rf_n, reduceCtorEq, mo_st, mo_st2, mo_lg_0, mo_lg_s, List.set_cons_zero, List.set_cons_succ, List.length_cons, List.length_nil, List.getElem?_cons_zero, List.getElem?_cons_succ, Nat.reduceBEq, Bool.false_eq_true, beq_self_eq_true, hs', k1, k2, k4, k5, y0, mo_LC, Option.map_none, mo_ME, mo_u_a, mo_z_a, mo_y_a, Nat.add_left_cancel_iff]
            refine ⟨_, rfl, sc_rf _ _, ?_⟩
            rw [hR]
            exact ⟨rfl, fin⟩
          | some z =>
            rw [hcal] at k5 hR
            have hz : z < gnc G := (near_b hnc8 hpw 8 k (by omega) (Nat.le_refl _) hk hcal).2.2
            obtain ⟨z1, z2, -⟩ := (hs.2.2.2.2.2.2.1 z hz).2
            simp only [we78_0, we78_1, en78, true_and, and_true, if_false, if_true, not_true_eq_false, not_false_eq_true, false_implies, true_implies, implies_true, forall_const, true_or, or_true, false_or, or_false, false_and, and_false, eq_self_iff_true, Option.toList_some, Option.toList_none, List.cons_append, List.nil_append, mo_cat_0, mo_cat_c, mo_ct_i, mo_ct_l, mo_ct_r, mo_ct_n, mo_ct_f, Nat.zero_le, Nat.reduceAdd, Nat.reduceLeDiff, Nat.reduceLT, Nat.reduceEqDiff, Nat.reduceSub, mo_rf_s, mo_rf_n, reduceCtorEq, mo_st, mo_st2, mo_lg_0, mo_lg_s, List.set_cons_zero, List.set_cons_succ, List.length_cons, List.length_nil, List.getElem?_cons_zero, List.getElem?_cons_succ, Nat.reduceBEq, Bool.false_eq_true, beq_self_eq_true, hs', k1, k2, k4, k5, y0, z1, z2, mo_LC, Option.map_some, mo_ME, mo_u_a, mo_z_a, mo_y_a, Nat.add_left_cancel_iff]
            refine ⟨_, rfl, sc_rf _ _, ?_⟩
            rw [hR]
            exact ⟨rfl, fin⟩
        · have k4 := fun Q => L_isNameX (d := d + 198) (μ := μ) hm Q
          simp only [we78_0, we78_1, en78, true_and, and_true, if_false, if_true, not_true_eq_false, not_false_eq_true, false_implies, true_implies, implies_true, forall_const, true_or, or_true, false_or, or_false, false_and, and_false, eq_self_iff_true, Option.toList_some, Option.toList_none, List.cons_append, List.nil_append, mo_cat_0, mo_cat_c, mo_ct_i, mo_ct_l, mo_ct_r, mo_ct_n, mo_ct_f, Nat.zero_le, Nat.reduceAdd, Nat.reduceLeDiff, Nat.reduceLT, Nat.reduceEqDiff, Nat.reduceSub, mo_rf_s, mo_rf_n, reduceCtorEq, mo_st, mo_st2, mo_lg_0, mo_lg_s, List.set_cons_zero, List.set_cons_succ, List.length_cons, List.length_nil, List.getElem?_cons_zero, List.getElem?_cons_succ, Nat.reduceBEq, Bool.false_eq_true, beq_self_eq_true, hs', k1, k2, k4, y0, mo_LC, mo_ME, mo_u_a, mo_z_a, mo_y_a, Nat.add_left_cancel_iff]
          refine ⟨_, rfl, sc_rf _ _, ?_⟩
          rw [R_findsN (d := d + 198) hr hnc hnc8 hpw hk (Or.inl rfl) hm]
          exact ⟨rfl, fin⟩
      · simp only [we78_0, we78_1, en78, true_and, and_true, if_false, if_true, not_true_eq_false, not_false_eq_true, false_implies, true_implies, implies_true, forall_const, true_or, or_true, false_or, or_false, false_and, and_false, eq_self_iff_true, Option.toList_some, Option.toList_none, List.cons_append, List.nil_append, mo_cat_0, mo_cat_c, mo_ct_i, mo_ct_l, mo_ct_r, mo_ct_n, mo_ct_f, Nat.zero_le, Nat.reduceAdd, Nat.reduceLeDiff, Nat.reduceLT, Nat.reduceEqDiff, Nat.reduceSub, mo_rf_s, mo_rf_n, reduceCtorEq, mo_st, mo_st2, mo_lg_0, mo_lg_s, List.set_cons_zero, List.set_cons_succ, List.length_cons, List.length_nil, List.getElem?_cons_zero, List.getElem?_cons_succ, Nat.reduceBEq, Bool.false_eq_true, beq_self_eq_true, hs', k1, k2, hj1, y0, mo_LC, mo_ME, mo_u_a, mo_z_a, mo_y_a, Nat.add_left_cancel_iff]
        refine ⟨_, rfl, sc_rf _ _, ?_⟩
        rw [R_findsX (d := d + 198) hr hnc hnc8 hpw (Or.inr ⟨hj1, hj⟩) m]
        exact ⟨rfl, fin⟩
  · have k1 := fun Q => L_tyI (d := d + 198) hs hi Q
    by_cases hj : vp_in j (gnc G)
    · obtain ⟨y, hy, rfl⟩ := vp_ex (by omega) hj
      have k2 := fun Q => L_ty (d := d + 198) hs hy Q
      simp only [we78_0, we78_1, en78, true_and, and_true, if_false, if_true, not_true_eq_false, not_false_eq_true, false_implies, true_implies, implies_true, forall_const, true_or, or_true, false_or, or_false, false_and, and_false, eq_self_iff_true, Option.toList_some, Option.toList_none, List.cons_append, List.nil_append, mo_cat_0, mo_cat_c, mo_ct_i, mo_ct_l, mo_ct_r, mo_ct_n, mo_ct_f, Nat.zero_le, Nat.reduceAdd, Nat.reduceLeDiff, Nat.reduceLT, Nat.reduceEqDiff, Nat.reduceSub, mo_rf_s, mo_rf_n, reduceCtorEq, mo_st, mo_st2, mo_lg_0, mo_lg_s, List.set_cons_zero, List.set_cons_succ, List.length_cons, List.length_nil, List.getElem?_cons_zero, List.getElem?_cons_succ, Nat.reduceBEq, Bool.false_eq_true, beq_self_eq_true, hs', k1, k2, mo_ME, mo_u_a, mo_z_a, mo_y_a, Nat.add_left_cancel_iff]
      refine ⟨_, rfl, sc_rf _ _, ?_⟩
      rw [R_findsX (d := d + 198) hr hnc hnc8 hpw (Or.inl hi) m]
      exact ⟨rfl, fin⟩
    · have k2 := fun Q => L_tyI (d := d + 198) hs hj Q
      simp only [we78_0, we78_1, en78, true_and, and_true, if_false, if_true, not_true_eq_false, not_false_eq_true, false_implies, true_implies, implies_true, forall_const, true_or, or_true, false_or, or_false, false_and, and_false, eq_self_iff_true, Option.toList_some, Option.toList_none, List.cons_append, List.nil_append, mo_cat_0, mo_cat_c, mo_ct_i, mo_ct_l, mo_ct_r, mo_ct_n, mo_ct_f, Nat.zero_le, Nat.reduceAdd, Nat.reduceLeDiff, Nat.reduceLT, Nat.reduceEqDiff, Nat.reduceSub, mo_rf_s, mo_rf_n, reduceCtorEq, mo_st, mo_st2, mo_lg_0, mo_lg_s, List.set_cons_zero, List.set_cons_succ, List.length_cons, List.length_nil, List.getElem?_cons_zero, List.getElem?_cons_succ, Nat.reduceBEq, Bool.false_eq_true, beq_self_eq_true, hs', k1, k2, mo_ME, mo_u_a, mo_z_a, mo_y_a, Nat.add_left_cancel_iff]
      refine ⟨_, rfl, sc_rf _ _, ?_⟩
      rw [R_findsX (d := d + 198) hr hnc hnc8 hpw (Or.inl hi) m]
      exact ⟨rfl, fin⟩
theorem O_clear {x s0 k d bs : Nat} {μ : mo_Mem} {Q : mo_Mem → Prop} (hiv : c_iv x s0 k μ) (hb : bs < x) (hQ : ∀ μ', c_iv x s0 (k + 1) μ' → c_sc bs μ μ' → Q μ') : c_qI x (d + 200) 82 125 bs [] μ Q := by
  have hiv0 := hiv; obtain ⟨A, G, O, no, b, q, hs, hd, hr, hst, hX, hS⟩ := hiv0; have fin : Q μ := hQ μ (iv_up hiv) (sc_rf _ _); have hno := hd.2.2.1; have hno1 := hd.2.2.2.1; obtain ⟨nl, l1, l2, l3, l4⟩ := hd.2.2.2.2.2.2.2.2.2.2.2.2.2.2.2.2.2.2.2.2.2.2.1; have hne := hs.2.2.1.2.2.1; have hnc := hs.2.2.1.2.2.2.1; have hnc8 := hs.2.2.1.2.1; have hpw := hs.2.2.1.2.2.2.2.1
  unfold c_qI
  rw [C_clear (d := d + 199) hs hd]
  have km := km_I (u := 0) (P := 0) (v := 0) (km_rf x 0 0 μ) (k := 259) (a := x + 5) (by unfold cl_pk; omega) (by omega)
  refine ⟨_, rfl, sc_k km.1 hb hs.2.1, ?_⟩
  have hr1 := cl_r_k hr hs.2.1 km.1
  rw [R_clear (d := d + 199) hr1]
  refine ⟨rfl, ?_⟩
  have hfc : r_fc (x + 28) (mo_wI μ 259 (x + 5) 0) (mo_wI (mo_wI μ 259 (x + 5) 0) 790 (x + 28) 0) := r_fc_I (r_fc_rf _ _)
  have hr2 : r_at (x + 28) (mo_wI (mo_wI μ 259 (x + 5) 0) 790 (x + 28) 0) (a_I A 22 0 0) := ⟨r_sh_c hr1.1 rfl rfl rfl, by rw [show (790 : Nat) = 768 + 22 from rfl, r_vw_I _ _ 22 _ (by decide), hr1.2]⟩
  have lk : a_lk A (a_I A 22 0 0) := fun j hj => ⟨by funext i; rw [a_I_n (by omega)], rfl⟩
  have hs1 := st_lk lk (st_fc (c_st_k hs km.1) hfc)
  have hd1 : c_dy x A G 0 0 0 (mo_wI μ 259 (x + 5) 0) (a_I A 22 0 0) O no b q := by
    obtain ⟨d1, d2, d3, d4, d5, d6, d7, d8, d9, d10, d11, d12, d13, d14, d15, d16, d17, d18, d19, d20, d21, d22, d23, d24, d25⟩ := hd
    have mi : ∀ k a, k ≠ 259 → mo_I (mo_wI μ 259 (x + 5) 0) k a = mo_I μ k a := fun k a hk => by
      simp only [mo_ME, mo_u_a]
      rw [if_neg (fun q => hk q.1)]
    have e : ∀ j i, j ≠ 22 → (a_I A 22 0 0).1 j i = A.1 j i := fun j i hj => a_I_n hj
    refine ⟨lk, (mi _ _ (by decide)).trans d2, (e _ _ (by decide)).trans d3, d4, (mi _ _ (by decide)).trans d5, (e _ _ (by decide)).trans d6, d7, (mi _ _ (by decide)).trans d8, d9, (e _ _ (by decide)).trans d10, (mi _ _ (by decide)).trans d11, (e _ _ (by decide)).trans d12, d13, by rw [e _ _ (by decide), mi _ _ (by decide)]; exact d14, by rw [e _ _ (by decide), mi _ _ (by decide)]; exact d15, by rw [e _ _ (by decide), mi _ _ (by decide)]; exact d16, (mi _ _ (by decide)).trans d17, (e _ _ (by decide)).trans d18, d19, by rw [e _ _ (by decide), mi _ _ (by decide)]; exact d20, by rw [e _ _ (by decide)]; exact d21, d22, ⟨0, by decide, by simp only [mo_ME, mo_u_a, and_self, if_true]; rfl, by rw [a_I_1, if_pos ⟨rfl, rfl⟩]; rfl, fun i hi => ?_⟩, fun o ho => ?_, d25⟩
    · obtain ⟨p1, p2, p3⟩ := l4 i hi
      exact ⟨p1, by rw [e _ _ (by decide)]; exact p2, by rw [e _ _ (by decide)]; exact p3⟩
    · obtain ⟨c, t⟩ := d24 o ho
      exact ⟨c, tc_k t km.1 rfl (mi _ _ (by decide)) rfl rfl (e _ _ (by decide)) (e _ _ (by decide)) rfl rfl⟩
  refine hQ _ ⟨a_I A 22 0 0, G, O, no, b, q, hs1, dy_lk lk (dy_fc hd1 hfc), hr2, fun o ho => by rw [a_I_n (by decide)]; exact hst o ho, ?_, ?_⟩ (sc_tr (sc_k km.1 hb hs.2.1) (sc_fc hfc hb))
  · simp only [mo_ME]; omega
  · simp only [mo_ME]; omega
