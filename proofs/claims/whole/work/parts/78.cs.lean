def m_rm (r : Nat) (μ : mo_Mem) (m : Nat) (o e : Int32) : mo_Mem := mo_wAI (mo_wAI (mo_wAI μ (r + 10) m o) (r + 11) m e) (r + 12) m 0
theorem r_rm {r : Nat} {μ : mo_Mem} {A : mo_A} (h : r_at r μ A) (m : Nat) (o e : Int32) : r_at r (m_rm r μ m o e) (a_me A m o e) ∧ r_fc r μ (m_rm r μ m o e) := by
  unfold m_rm a_me
  refine ⟨⟨r_sh_c h.1 (by simp only [mo_ME]) (by simp only [mo_ME]) (by simp only [mo_ME]), ?_⟩, ?_⟩
  · simp only [r_VW, h.2]
  · exact r_fc_AI (by decide) (r_fc_AI (by decide) (r_fc_AI (by decide) (r_fc_rf _ _)))
theorem O_method {x s0 k d bs : Nat} {μ : mo_Mem} {Q : mo_Mem → Prop} (hiv : c_iv x s0 k μ) (hb : bs < x) (hQ : ∀ μ', c_iv x s0 (k + 1) μ' → c_sc bs μ μ' → Q μ') (i f pv e : Int32) (hpv : pv = 0 ∨ pv = 1) : c_qI x (d + 200) 69 92 bs [.int i, .int f, .int pv, .int e] μ Q := by
  have hiv0 := hiv; obtain ⟨A, G, O, no, b, q, hs, hd, hr, hst, hX, hS⟩ := hiv0; have fin : Q μ := hQ μ (iv_up hiv) (sc_rf _ _); have hno := hd.2.2.1; have hno1 := hd.2.2.2.1; have hne := hs.2.2.1.2.2.1; have hne60 := hs.2.2.1.1; have hnc := hs.2.2.1.2.2.2.1; have hnc8 := hs.2.2.1.2.1; have hpw := hs.2.2.1.2.2.2.2.1; have hs' := hs.1.1; unfold cl_sf at hs'; have hd2 := hd.2.1; have hrs := hr.1
  unfold c_qI
  have kh := fun Q => L_hasT (d := d + 198) hs.1.1 hd2 hno1 Q
  have k41 := fun Q => L_kn1 (d := d + 197) hs.1.1 hs.2.2.2.1 hne60 e Q
  by_cases hi : vp_in i (gnc G)
  · obtain ⟨c, hc, rfl⟩ := vp_ex (by omega) hi
    have k1 := fun Q => L_ty (d := d + 198) hs hc Q
    have ty := (hs.2.2.2.2.2.2.1 c hc).2
    have hT60 := ty.2.2.2.2.2.2.2.2.2.2.2.2.2.2.2.2.2.2
    have hTX := ty.2.2.2.2.2.2.2.2.2.2.2.2.2.2.2.2.2.1
    obtain ⟨y1, y2, y3, y4, y5, y6, y7, y8, y9, y10, y11, y12, y13, y14, y15, -⟩ := ty
    rcases en_c hne60 e with ⟨he, hee⟩ | ⟨he, he1, he2⟩
    · have k2 := fun Q => (k41 Q).1 he
      by_cases hf : vp_in f 4
      · obtain ⟨nm, hnm, rfl⟩ := vp_ex (by decide) hf
        have kn := fun Q => L_isName (d := d + 198) (μ := μ) hnm Q
        by_cases hz : no = 0
        · rw [if_pos hz] at kh
          have v3 : vp_in (nI nm) 4 := vp_in_nI (by omega) (by decide)
          have v4 : (nI nm).toNatClampNeg = nm := nI_clamp (by omega)
          have w3 : vp_in (nI (5 * c + 1 + nm)) 40 := vp_in_nI (by omega) (by decide)
          have w4 : (nI (5 * c + 1 + nm)).toNatClampNeg = 5 * c + 1 + nm := nI_clamp (by omega)
          have a1 : (gT G c + 4 = mo_X μ) = False := eq_false (by omega)
          have a2 : (gT G c + 4 = mo_X μ + 1) = False := eq_false (by omega)
          have a3 : (mo_X μ = mo_X μ + 1) = False := eq_false (by omega)
          have a4 : (gT G c + 3 = mo_X μ) = False := eq_false (by omega)
          have hX0 := hs.2.1
          have hcls : mo_M (d + 200) 69 (.ref x :: [.int (nI c), .int (nI nm), .int pv, .int e]) μ (fun r1 μ1 => ∃ v, r1 = some (.int v) ∧ c_sc bs μ μ1 ∧ mo_M (d + 200) 92 (.ref (x + 28) :: [.int (nI c), .int (nI nm), .int pv, .int e]) μ1 (fun r2 μ2 => r2 = some (.int v) ∧ Q μ2)) = (∃ v, some (Value.int 1) = some (.int v) ∧ c_sc bs μ (m_me μ (gT G c + 4) nm pv e) ∧ mo_M (d + 200) 92 (.ref (x + 28) :: [.int (nI c), .int (nI nm), .int pv, .int e]) (m_me μ (gT G c + 4) nm pv e) (fun r2 μ2 => r2 = some (.int v) ∧ Q μ2)) := by
            unfold m_me m_m0
            rcases hpv with z | z <;> subst z
            · simp only [we69_0, we69_1, we3, en69, en3, true_and, and_true, if_false, if_true, not_true_eq_false, not_false_eq_true, false_implies, true_implies, implies_true, forall_const, true_or, or_true, false_or, or_false, false_and, and_false, eq_self_iff_true, Option.toList_some, Option.toList_none, List.cons_append, List.nil_append, mo_cat_0, mo_cat_c, mo_ct_i, mo_ct_l, mo_ct_r, mo_ct_n, mo_ct_f, Nat.zero_le, Nat.reduceAdd, Nat.reduceLeDiff, Nat.reduceLT, Nat.reduceEqDiff, Nat.reduceSub, mo_rf_s, mo_rf_n, reduceCtorEq, mo_st, mo_st2, mo_lg_0, mo_lg_s, List.set_cons_zero, List.set_cons_succ, List.length_cons, List.length_nil, List.getElem?_cons_zero, List.getElem?_cons_succ, Nat.reduceBEq, Bool.false_eq_true, beq_self_eq_true, hs', k1, k2, kh, kn, y1, y13, y14, y15, v3, v4, i4L, a1, a2, a3, a4, mo_v, mo_LC, mo_ME, mo_u_a, mo_z_a, mo_y_a, Nat.add_left_cancel_iff]
            · simp only [we69_0, we69_1, we3, en69, en3, true_and, and_true, if_false, if_true, not_true_eq_false, not_false_eq_true, false_implies, true_implies, implies_true, forall_const, true_or, or_true, false_or, or_false, false_and, and_false, eq_self_iff_true, Option.toList_some, Option.toList_none, List.cons_append, List.nil_append, mo_cat_0, mo_cat_c, mo_ct_i, mo_ct_l, mo_ct_r, mo_ct_n, mo_ct_f, Nat.zero_le, Nat.reduceAdd, Nat.reduceLeDiff, Nat.reduceLT, Nat.reduceEqDiff, Nat.reduceSub, mo_rf_s, mo_rf_n, reduceCtorEq, mo_st, mo_st2, mo_lg_0, mo_lg_s, List.set_cons_zero, List.set_cons_succ, List.length_cons, List.length_nil, List.getElem?_cons_zero, List.getElem?_cons_succ, Nat.reduceBEq, Bool.false_eq_true, beq_self_eq_true, hs', k1, k2, kh, kn, y1, y13, y14, y15, v3, v4, i4L, a1, a2, a3, a4, mo_v, mo_LC, mo_ME, mo_u_a, mo_z_a, mo_y_a, Nat.add_left_cancel_iff]
          rw [hcls]
          obtain ⟨hdm, hot, mX, mS, mI, mAI⟩ := me_old (nm := nm) hX0 (show x + 60 ≤ gT G c + 4 by omega) (by omega) pv e
          refine ⟨_, rfl, sc_dm hdm hb hs.2.1, ?_⟩
          have hr1 := r_ot hr hot
          have hpo : ∃ o : Int32, ((pv = 0 ∧ o = 1) ∨ (pv = 1 ∧ o = 2)) := by
            rcases hpv with z | z
            · exact ⟨1, Or.inl ⟨z, rfl⟩⟩
            · exact ⟨2, Or.inr ⟨z, rfl⟩⟩
          obtain ⟨o, hpo⟩ := hpo
          have hst1 := st_me hs hc hnm hpo he
          obtain ⟨e1, e2, e3, e4, e5⟩ := meA A (5 * c + 1 + nm) o e
          obtain ⟨hr2, hfc⟩ := r_rm hr1 (5 * c + 1 + nm) o e
          have hdy := dy_pl (A' := a_me A (5 * c + 1 + nm) o e) (G' := g_me G (5 * c + 1 + nm) (mo_X μ)) hnc8 hpw hd hdm (fun j hj => ⟨e1 j (by omega) (by omega) (by omega), by rw [e2]⟩) (fun c' hc' => ⟨hc', rfl, rfl⟩) (fun c' hc' h => bel_ext hnc8 hpw (fun c'' hc'' => by rw [e1 6 (by decide) (by decide) (by decide)]) h 8 c' hc')
          have fin2 := hQ (m_rm (x + 28) (m_me μ (gT G c + 4) nm pv e) (5 * c + 1 + nm) o e) ⟨_, g_me G (5 * c + 1 + nm) (mo_X μ), O, no, b, q, st_fc hst1 hfc, dy_fc hdy hfc, hr2, fun o ho => by rw [e1 19 (by decide) (by decide) (by decide)]; exact hst o ho, by rw [hfc.2.2.2.2.1, mX]; omega, by rw [hfc.2.2.2.2.2.1, mS]; omega⟩ (sc_tr (sc_dm hdm hb hs.2.1) (sc_fc hfc hb))
          clear hr2 hfc hot hst1 hdy hdm hcls
          generalize m_me μ (gT G c + 4) nm pv e = ν at *
          unfold m_rm at fin2
          revert fin2 hr1
          generalize x + 28 = r
          intro hr1 fin2
          have hrs := hr1.1
          unfold r_sh at hrs
          have H := r_rd hr1
          have kcl := fun i Q => R_isC (d := d + 198) hr1 hnc hnc8 i Q
          have kex := fun i Q => R_isExp (d := d + 198) hr1.1 (H.1.trans hne) (by omega) i Q
          have knm := fun i Q => R_isN (d := d + 198) (μ := ν) i Q
          rcases hpo with ⟨z1, z2⟩ | ⟨z1, z2⟩ <;> subst z1 <;> subst z2
          · rcases hee with z | ⟨z3, z4⟩
            · simp only [we92_0, we92_1, en92, true_and, and_true, if_false, if_true, not_true_eq_false, not_false_eq_true, false_implies, true_implies, implies_true, forall_const, true_or, or_true, false_or, or_false, false_and, and_false, eq_self_iff_true, Option.toList_some, Option.toList_none, List.cons_append, List.nil_append, mo_cat_0, mo_cat_c, mo_ct_i, mo_ct_l, mo_ct_r, mo_ct_n, mo_ct_f, Nat.zero_le, Nat.reduceAdd, Nat.reduceLeDiff, Nat.reduceLT, Nat.reduceEqDiff, Nat.reduceSub, mo_rf_s, mo_rf_n, reduceCtorEq, mo_st, mo_st2, mo_lg_0, mo_lg_s, List.set_cons_zero, List.set_cons_succ, List.length_cons, List.length_nil, List.getElem?_cons_zero, List.getElem?_cons_succ, Nat.reduceBEq, Bool.false_eq_true, beq_self_eq_true, hrs, H, kcl, kex, knm, mo_b_t hi, mo_b_t hf, z, hno, i0no hno1, i00, hz, l5, nI_1, nI_add, w3, w4, mo_LC, mo_ME, mo_u_a, mo_z_a, mo_y_a, Nat.add_left_cancel_iff]
              subst z
              exact fin2
            · simp only [we92_0, we92_1, en92, true_and, and_true, if_false, if_true, not_true_eq_false, not_false_eq_true, false_implies, true_implies, implies_true, forall_const, true_or, or_true, false_or, or_false, false_and, and_false, eq_self_iff_true, Option.toList_some, Option.toList_none, List.cons_append, List.nil_append, mo_cat_0, mo_cat_c, mo_ct_i, mo_ct_l, mo_ct_r, mo_ct_n, mo_ct_f, Nat.zero_le, Nat.reduceAdd, Nat.reduceLeDiff, Nat.reduceLT, Nat.reduceEqDiff, Nat.reduceSub, mo_rf_s, mo_rf_n, reduceCtorEq, mo_st, mo_st2, mo_lg_0, mo_lg_s, List.set_cons_zero, List.set_cons_succ, List.length_cons, List.length_nil, List.getElem?_cons_zero, List.getElem?_cons_succ, Nat.reduceBEq, Bool.false_eq_true, beq_self_eq_true, hrs, H, kcl, kex, knm, mo_b_t hi, mo_b_t hf, z3, mo_b_t z4, hno, i0no hno1, i00, hz, l5, nI_1, nI_add, w3, w4, mo_LC, mo_ME, mo_u_a, mo_z_a, mo_y_a, Nat.add_left_cancel_iff]
              exact fin2
          · rcases hee with z | ⟨z3, z4⟩
            · simp only [we92_0, we92_1, en92, true_and, and_true, if_false, if_true, not_true_eq_false, not_false_eq_true, false_implies, true_implies, implies_true, forall_const, true_or, or_true, false_or, or_false, false_and, and_false, eq_self_iff_true, Option.toList_some, Option.toList_none, List.cons_append, List.nil_append, mo_cat_0, mo_cat_c, mo_ct_i, mo_ct_l, mo_ct_r, mo_ct_n, mo_ct_f, Nat.zero_le, Nat.reduceAdd, Nat.reduceLeDiff, Nat.reduceLT, Nat.reduceEqDiff, Nat.reduceSub, mo_rf_s, mo_rf_n, reduceCtorEq, mo_st, mo_st2, mo_lg_0, mo_lg_s, List.set_cons_zero, List.set_cons_succ, List.length_cons, List.length_nil, List.getElem?_cons_zero, List.getElem?_cons_succ, Nat.reduceBEq, Bool.false_eq_true, beq_self_eq_true, hrs, H, kcl, kex, knm, mo_b_t hi, mo_b_t hf, z, hno, i0no hno1, i00, hz, l5, nI_1, nI_add, w3, w4, mo_LC, mo_ME, mo_u_a, mo_z_a, mo_y_a, Nat.add_left_cancel_iff]
              subst z
              exact fin2
            · simp only [we92_0, we92_1, en92, true_and, and_true, if_false, if_true, not_true_eq_false, not_false_eq_true, false_implies, true_implies, implies_true, forall_const, true_or, or_true, false_or, or_false, false_and, and_false, eq_self_iff_true, Option.toList_some, Option.toList_none, List.cons_append, List.nil_append, mo_cat_0, mo_cat_c, mo_ct_i, mo_ct_l, mo_ct_r, mo_ct_n, mo_ct_f, Nat.zero_le, Nat.reduceAdd, Nat.reduceLeDiff, Nat.reduceLT, Nat.reduceEqDiff, Nat.reduceSub, mo_rf_s, mo_rf_n, reduceCtorEq, mo_st, mo_st2, mo_lg_0, mo_lg_s, List.set_cons_zero, List.set_cons_succ, List.length_cons, List.length_nil, List.getElem?_cons_zero, List.getElem?_cons_succ, Nat.reduceBEq, Bool.false_eq_true, beq_self_eq_true, hrs, H, kcl, kex, knm, mo_b_t hi, mo_b_t hf, z3, mo_b_t z4, hno, i0no hno1, i00, hz, l5, nI_1, nI_add, w3, w4, mo_LC, mo_ME, mo_u_a, mo_z_a, mo_y_a, Nat.add_left_cancel_iff]
              exact fin2
        · rw [if_neg hz] at kh
          simp only [we69_0, we69_1, en69, true_and, and_true, if_false, if_true, not_true_eq_false, not_false_eq_true, false_implies, true_implies, implies_true, forall_const, true_or, or_true, false_or, or_false, false_and, and_false, eq_self_iff_true, Option.toList_some, Option.toList_none, List.cons_append, List.nil_append, mo_cat_0, mo_cat_c, mo_ct_i, mo_ct_l, mo_ct_r, mo_ct_n, mo_ct_f, Nat.zero_le, Nat.reduceAdd, Nat.reduceLeDiff, Nat.reduceLT, Nat.reduceEqDiff, Nat.reduceSub, mo_rf_s, mo_rf_n, reduceCtorEq, mo_st, mo_st2, mo_lg_0, mo_lg_s, List.set_cons_zero, List.set_cons_succ, List.length_cons, List.length_nil, List.getElem?_cons_zero, List.getElem?_cons_succ, Nat.reduceBEq, Bool.false_eq_true, beq_self_eq_true, hs', k1, k2, kh, kn, y1, mo_LC, mo_ME, mo_u_a, mo_z_a, mo_y_a, Nat.add_left_cancel_iff]
          refine ⟨_, rfl, sc_rf _ _, ?_⟩
          generalize x + 28 = r at hr ⊢; have hrs := hr.1; unfold r_sh at hrs; have H := r_rd hr; have kcl := fun i Q => R_isC (d := d + 198) hr hnc hnc8 i Q; have kex := fun i Q => R_isExp (d := d + 198) hr.1 (H.1.trans hne) (by omega) i Q; have knm := fun i Q => R_isN (d := d + 198) (μ := μ) i Q
          rcases hee with z | ⟨z1, z2⟩
          · simp only [we92_0, we92_1, en92, true_and, and_true, if_false, if_true, not_true_eq_false, not_false_eq_true, false_implies, true_implies, implies_true, forall_const, true_or, or_true, false_or, or_false, false_and, and_false, eq_self_iff_true, Option.toList_some, Option.toList_none, List.cons_append, List.nil_append, mo_cat_0, mo_cat_c, mo_ct_i, mo_ct_l, mo_ct_r, mo_ct_n, mo_ct_f, Nat.zero_le, Nat.reduceAdd, Nat.reduceLeDiff, Nat.reduceLT, Nat.reduceEqDiff, Nat.reduceSub, mo_rf_s, mo_rf_n, reduceCtorEq, mo_st, mo_st2, mo_lg_0, mo_lg_s, List.set_cons_zero, List.set_cons_succ, List.length_cons, List.length_nil, List.getElem?_cons_zero, List.getElem?_cons_succ, Nat.reduceBEq, Bool.false_eq_true, beq_self_eq_true, hrs, H, kcl, kex, knm, mo_b_t hi, mo_b_t hf, z, hno, i0no hno1, i00, hz, mo_LC, mo_ME, mo_u_a, mo_z_a, mo_y_a, Nat.add_left_cancel_iff]
            exact fin
          · simp only [we92_0, we92_1, en92, true_and, and_true, if_false, if_true, not_true_eq_false, not_false_eq_true, false_implies, true_implies, implies_true, forall_const, true_or, or_true, false_or, or_false, false_and, and_false, eq_self_iff_true, Option.toList_some, Option.toList_none, List.cons_append, List.nil_append, mo_cat_0, mo_cat_c, mo_ct_i, mo_ct_l, mo_ct_r, mo_ct_n, mo_ct_f, Nat.zero_le, Nat.reduceAdd, Nat.reduceLeDiff, Nat.reduceLT, Nat.reduceEqDiff, Nat.reduceSub, mo_rf_s, mo_rf_n, reduceCtorEq, mo_st, mo_st2, mo_lg_0, mo_lg_s, List.set_cons_zero, List.set_cons_succ, List.length_cons, List.length_nil, List.getElem?_cons_zero, List.getElem?_cons_succ, Nat.reduceBEq, Bool.false_eq_true, beq_self_eq_true, hrs, H, kcl, kex, knm, mo_b_t hi, mo_b_t hf, z1, mo_b_t z2, hno, i0no hno1, i00, hz, mo_LC, mo_ME, mo_u_a, mo_z_a, mo_y_a, Nat.add_left_cancel_iff]
            exact fin
      · have kn := fun Q => L_isNameX (d := d + 198) (μ := μ) hf Q
        simp only [we69_0, we69_1, en69, true_and, and_true, if_false, if_true, not_true_eq_false, not_false_eq_true, false_implies, true_implies, implies_true, forall_const, true_or, or_true, false_or, or_false, false_and, and_false, eq_self_iff_true, Option.toList_some, Option.toList_none, List.cons_append, List.nil_append, mo_cat_0, mo_cat_c, mo_ct_i, mo_ct_l, mo_ct_r, mo_ct_n, mo_ct_f, Nat.zero_le, Nat.reduceAdd, Nat.reduceLeDiff, Nat.reduceLT, Nat.reduceEqDiff, Nat.reduceSub, mo_rf_s, mo_rf_n, reduceCtorEq, mo_st, mo_st2, mo_lg_0, mo_lg_s, List.set_cons_zero, List.set_cons_succ, List.length_cons, List.length_nil, List.getElem?_cons_zero, List.getElem?_cons_succ, Nat.reduceBEq, Bool.false_eq_true, beq_self_eq_true, hs', k1, k2, kn, y1, mo_LC, mo_ME, mo_u_a, mo_z_a, mo_y_a, Nat.add_left_cancel_iff]
        refine ⟨_, rfl, sc_rf _ _, ?_⟩
        generalize x + 28 = r at hr ⊢; have hrs := hr.1; unfold r_sh at hrs; have H := r_rd hr; have kcl := fun i Q => R_isC (d := d + 198) hr hnc hnc8 i Q; have kex := fun i Q => R_isExp (d := d + 198) hr.1 (H.1.trans hne) (by omega) i Q; have knm := fun i Q => R_isN (d := d + 198) (μ := μ) i Q
        rcases hee with z | ⟨z1, z2⟩
        · simp only [we92_0, we92_1, en92, true_and, and_true, if_false, if_true, not_true_eq_false, not_false_eq_true, false_implies, true_implies, implies_true, forall_const, true_or, or_true, false_or, or_false, false_and, and_false, eq_self_iff_true, Option.toList_some, Option.toList_none, List.cons_append, List.nil_append, mo_cat_0, mo_cat_c, mo_ct_i, mo_ct_l, mo_ct_r, mo_ct_n, mo_ct_f, Nat.zero_le, Nat.reduceAdd, Nat.reduceLeDiff, Nat.reduceLT, Nat.reduceEqDiff, Nat.reduceSub, mo_rf_s, mo_rf_n, reduceCtorEq, mo_st, mo_st2, mo_lg_0, mo_lg_s, List.set_cons_zero, List.set_cons_succ, List.length_cons, List.length_nil, List.getElem?_cons_zero, List.getElem?_cons_succ, Nat.reduceBEq, Bool.false_eq_true, beq_self_eq_true, hrs, H, kcl, kex, knm, mo_b_t hi, mo_b_f hf, z, mo_LC, mo_ME, mo_u_a, mo_z_a, mo_y_a, Nat.add_left_cancel_iff]
          exact fin
        · simp only [we92_0, we92_1, en92, true_and, and_true, if_false, if_true, not_true_eq_false, not_false_eq_true, false_implies, true_implies, implies_true, forall_const, true_or, or_true, false_or, or_false, false_and, and_false, eq_self_iff_true, Option.toList_some, Option.toList_none, List.cons_append, List.nil_append, mo_cat_0, mo_cat_c, mo_ct_i, mo_ct_l, mo_ct_r, mo_ct_n, mo_ct_f, Nat.zero_le, Nat.reduceAdd, Nat.reduceLeDiff, Nat.reduceLT, Nat.reduceEqDiff, Nat.reduceSub, mo_rf_s, mo_rf_n, reduceCtorEq, mo_st, mo_st2, mo_lg_0, mo_lg_s, List.set_cons_zero, List.set_cons_succ, List.length_cons, List.length_nil, List.getElem?_cons_zero, List.getElem?_cons_succ, Nat.reduceBEq, Bool.false_eq_true, beq_self_eq_true, hrs, H, kcl, kex, knm, mo_b_t hi, mo_b_f hf, z1, mo_b_t z2, mo_LC, mo_ME, mo_u_a, mo_z_a, mo_y_a, Nat.add_left_cancel_iff]
          exact fin
    · have k2 := fun Q => (k41 Q).2 he
      simp only [we69_0, we69_1, en69, true_and, and_true, if_false, if_true, not_true_eq_false, not_false_eq_true, false_implies, true_implies, implies_true, forall_const, true_or, or_true, false_or, or_false, false_and, and_false, eq_self_iff_true, Option.toList_some, Option.toList_none, List.cons_append, List.nil_append, mo_cat_0, mo_cat_c, mo_ct_i, mo_ct_l, mo_ct_r, mo_ct_n, mo_ct_f, Nat.zero_le, Nat.reduceAdd, Nat.reduceLeDiff, Nat.reduceLT, Nat.reduceEqDiff, Nat.reduceSub, mo_rf_s, mo_rf_n, reduceCtorEq, mo_st, mo_st2, mo_lg_0, mo_lg_s, List.set_cons_zero, List.set_cons_succ, List.length_cons, List.length_nil, List.getElem?_cons_zero, List.getElem?_cons_succ, Nat.reduceBEq, Bool.false_eq_true, beq_self_eq_true, hs', k1, k2, y1, mo_LC, mo_ME, mo_u_a, mo_z_a, mo_y_a, Nat.add_left_cancel_iff]
      refine ⟨_, rfl, sc_rf _ _, ?_⟩
      generalize x + 28 = r at hr ⊢; have hrs := hr.1; unfold r_sh at hrs; have H := r_rd hr; have kcl := fun i Q => R_isC (d := d + 198) hr hnc hnc8 i Q; have kex := fun i Q => R_isExp (d := d + 198) hr.1 (H.1.trans hne) (by omega) i Q; have knm := fun i Q => R_isN (d := d + 198) (μ := μ) i Q
      simp only [we92_0, we92_1, en92, true_and, and_true, if_false, if_true, not_true_eq_false, not_false_eq_true, false_implies, true_implies, implies_true, forall_const, true_or, or_true, false_or, or_false, false_and, and_false, eq_self_iff_true, Option.toList_some, Option.toList_none, List.cons_append, List.nil_append, mo_cat_0, mo_cat_c, mo_ct_i, mo_ct_l, mo_ct_r, mo_ct_n, mo_ct_f, Nat.zero_le, Nat.reduceAdd, Nat.reduceLeDiff, Nat.reduceLT, Nat.reduceEqDiff, Nat.reduceSub, mo_rf_s, mo_rf_n, reduceCtorEq, mo_st, mo_st2, mo_lg_0, mo_lg_s, List.set_cons_zero, List.set_cons_succ, List.length_cons, List.length_nil, List.getElem?_cons_zero, List.getElem?_cons_succ, Nat.reduceBEq, Bool.false_eq_true, beq_self_eq_true, hrs, kcl, kex, mo_b_t hi, he1, mo_b_f he2, mo_LC, mo_ME, mo_u_a, mo_z_a, mo_y_a, Nat.add_left_cancel_iff]
      exact fin
  · have k1 := fun Q => L_tyI (d := d + 198) hs hi Q
    simp only [we69_0, we69_1, en69, true_and, and_true, if_false, if_true, not_true_eq_false, not_false_eq_true, false_implies, true_implies, implies_true, forall_const, true_or, or_true, false_or, or_false, false_and, and_false, eq_self_iff_true, Option.toList_some, Option.toList_none, List.cons_append, List.nil_append, mo_cat_0, mo_cat_c, mo_ct_i, mo_ct_l, mo_ct_r, mo_ct_n, mo_ct_f, Nat.zero_le, Nat.reduceAdd, Nat.reduceLeDiff, Nat.reduceLT, Nat.reduceEqDiff, Nat.reduceSub, mo_rf_s, mo_rf_n, reduceCtorEq, mo_st, mo_st2, mo_lg_0, mo_lg_s, List.set_cons_zero, List.set_cons_succ, List.length_cons, List.length_nil, List.getElem?_cons_zero, List.getElem?_cons_succ, Nat.reduceBEq, Bool.false_eq_true, beq_self_eq_true, hs', k1, mo_ME, mo_u_a, mo_z_a, mo_y_a, Nat.add_left_cancel_iff]
    refine ⟨_, rfl, sc_rf _ _, ?_⟩
    generalize x + 28 = r at hr ⊢; have hrs := hr.1; unfold r_sh at hrs; have H := r_rd hr; have kcl := fun i Q => R_isC (d := d + 198) hr hnc hnc8 i Q; have kex := fun i Q => R_isExp (d := d + 198) hr.1 (H.1.trans hne) (by omega) i Q; have knm := fun i Q => R_isN (d := d + 198) (μ := μ) i Q
    simp only [we92_0, we92_1, en92, true_and, and_true, if_false, if_true, not_true_eq_false, not_false_eq_true, false_implies, true_implies, implies_true, forall_const, true_or, or_true, false_or, or_false, false_and, and_false, eq_self_iff_true, Option.toList_some, Option.toList_none, List.cons_append, List.nil_append, mo_cat_0, mo_cat_c, mo_ct_i, mo_ct_l, mo_ct_r, mo_ct_n, mo_ct_f, Nat.zero_le, Nat.reduceAdd, Nat.reduceLeDiff, Nat.reduceLT, Nat.reduceEqDiff, Nat.reduceSub, mo_rf_s, mo_rf_n, reduceCtorEq, mo_st, mo_st2, mo_lg_0, mo_lg_s, List.set_cons_zero, List.set_cons_succ, List.length_cons, List.length_nil, List.getElem?_cons_zero, List.getElem?_cons_succ, Nat.reduceBEq, Bool.false_eq_true, beq_self_eq_true, hrs, kcl, mo_b_f hi, mo_LC, mo_ME, mo_u_a, mo_z_a, mo_y_a, Nat.add_left_cancel_iff]
    exact fin
