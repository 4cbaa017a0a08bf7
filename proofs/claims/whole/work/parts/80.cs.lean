theorem L_aS {d : Nat} {μ : mo_Mem} (s : Int32) (Q : mo_P) : (vp_in s 3 → mo_M (d + 1) 1 [.int s] μ Q = Q (some (.int 1)) μ) ∧ (¬ vp_in s 3 → mo_M (d + 1) 1 [.int s] μ Q = Q (some (.int 0)) μ) := by
  refine ⟨fun h => ?_, fun h => ?_⟩
  · obtain ⟨k, hk, rfl⟩ := vp_ex (by decide) h
    have c1 : (nI k < 0) = False := i_ng (by omega)
    have c2 : (nI k ≤ 2) = True := i_le (a := k) (b := 2) (by omega) (by decide)
    have c3 : ((2 : Int32) < nI k) = False := i_nl (a := k) (b := 2) (by omega) (by decide)
    simp only [we1, en1, true_and, and_true, if_false, if_true, not_true_eq_false, not_false_eq_true, false_implies, true_implies, implies_true, forall_const, true_or, or_true, false_or, or_false, false_and, and_false, eq_self_iff_true, Option.toList_some, Option.toList_none, List.cons_append, List.nil_append, mo_cat_0, mo_cat_c, mo_ct_i, mo_ct_l, mo_ct_r, mo_ct_n, mo_ct_f, Nat.zero_le, Nat.reduceAdd, Nat.reduceLeDiff, Nat.reduceLT, Nat.reduceEqDiff, Nat.reduceSub, mo_rf_s, mo_rf_n, reduceCtorEq, mo_st, mo_st2, mo_lg_0, mo_lg_s, List.set_cons_zero, List.set_cons_succ, List.length_cons, List.length_nil, List.getElem?_cons_zero, List.getElem?_cons_succ, Nat.reduceBEq, Bool.false_eq_true, beq_self_eq_true, c1, c2, c3, mo_ME, mo_u_a, mo_z_a, mo_y_a, Nat.add_left_cancel_iff]
  · rcases vp_o2 (by decide) h with z | ⟨z1, z2, z3⟩
    · simp only [we1, en1, true_and, and_true, if_false, if_true, not_true_eq_false, not_false_eq_true, false_implies, true_implies, implies_true, forall_const, true_or, or_true, false_or, or_false, false_and, and_false, eq_self_iff_true, Option.toList_some, Option.toList_none, List.cons_append, List.nil_append, mo_cat_0, mo_cat_c, mo_ct_i, mo_ct_l, mo_ct_r, mo_ct_n, mo_ct_f, Nat.zero_le, Nat.reduceAdd, Nat.reduceLeDiff, Nat.reduceLT, Nat.reduceEqDiff, Nat.reduceSub, mo_rf_s, mo_rf_n, reduceCtorEq, mo_st, mo_st2, mo_lg_0, mo_lg_s, List.set_cons_zero, List.set_cons_succ, List.length_cons, List.length_nil, List.getElem?_cons_zero, List.getElem?_cons_succ, Nat.reduceBEq, Bool.false_eq_true, beq_self_eq_true, z, mo_ME, mo_u_a, mo_z_a, mo_y_a, Nat.add_left_cancel_iff]
    · obtain ⟨z4, z5⟩ := vp_gt (n := 2) (by decide) z2
      have z4' : ((2 : Int32) < s) = True := z4
      have z5' : (s ≤ 2) = False := z5
      simp only [we1, en1, true_and, and_true, if_false, if_true, not_true_eq_false, not_false_eq_true, false_implies, true_implies, implies_true, forall_const, true_or, or_true, false_or, or_false, false_and, and_false, eq_self_iff_true, Option.toList_some, Option.toList_none, List.cons_append, List.nil_append, mo_cat_0, mo_cat_c, mo_ct_i, mo_ct_l, mo_ct_r, mo_ct_n, mo_ct_f, Nat.zero_le, Nat.reduceAdd, Nat.reduceLeDiff, Nat.reduceLT, Nat.reduceEqDiff, Nat.reduceSub, mo_rf_s, mo_rf_n, reduceCtorEq, mo_st, mo_st2, mo_lg_0, mo_lg_s, List.set_cons_zero, List.set_cons_succ, List.length_cons, List.length_nil, List.getElem?_cons_zero, List.getElem?_cons_succ, Nat.reduceBEq, Bool.false_eq_true, beq_self_eq_true, z1, z4', z5', mo_ME, mo_u_a, mo_z_a, mo_y_a, Nat.add_left_cancel_iff]
theorem L_aN {d : Nat} {μ : mo_Mem} (s n : Int32) (Q : mo_P) : (s = 0 → ¬ vp_in n 4 → mo_M (d + 1) 2 [.int s, .int n] μ Q = Q (some (.int 0)) μ) ∧ ((¬ s = 0 ∨ vp_in n 4) → mo_M (d + 1) 2 [.int s, .int n] μ Q = Q (some (.int 1)) μ) := by
  refine ⟨fun h0 h => ?_, fun h => ?_⟩
  · rcases vp_o2 (by decide) h with z | ⟨z1, z2, z3⟩
    · simp only [we2, en2, true_and, and_true, if_false, if_true, not_true_eq_false, not_false_eq_true, false_implies, true_implies, implies_true, forall_const, true_or, or_true, false_or, or_false, false_and, and_false, eq_self_iff_true, Option.toList_some, Option.toList_none, List.cons_append, List.nil_append, mo_cat_0, mo_cat_c, mo_ct_i, mo_ct_l, mo_ct_r, mo_ct_n, mo_ct_f, Nat.zero_le, Nat.reduceAdd, Nat.reduceLeDiff, Nat.reduceLT, Nat.reduceEqDiff, Nat.reduceSub, mo_rf_s, mo_rf_n, reduceCtorEq, mo_st, mo_st2, mo_lg_0, mo_lg_s, List.set_cons_zero, List.set_cons_succ, List.length_cons, List.length_nil, List.getElem?_cons_zero, List.getElem?_cons_succ, Nat.reduceBEq, Bool.false_eq_true, beq_self_eq_true, h0, z, mo_ME, mo_u_a, mo_z_a, mo_y_a, Nat.add_left_cancel_iff]
    · have z2' : ((4 : Int32) ≤ n) = True := eq_true z2
      have z3' : ¬ n < 4 := z3
      simp only [we2, en2, true_and, and_true, if_false, if_true, not_true_eq_false, not_false_eq_true, false_implies, true_implies, implies_true, forall_const, true_or, or_true, false_or, or_false, false_and, and_false, eq_self_iff_true, Option.toList_some, Option.toList_none, List.cons_append, List.nil_append, mo_cat_0, mo_cat_c, mo_ct_i, mo_ct_l, mo_ct_r, mo_ct_n, mo_ct_f, Nat.zero_le, Nat.reduceAdd, Nat.reduceLeDiff, Nat.reduceLT, Nat.reduceEqDiff, Nat.reduceSub, mo_rf_s, mo_rf_n, reduceCtorEq, mo_st, mo_st2, mo_lg_0, mo_lg_s, List.set_cons_zero, List.set_cons_succ, List.length_cons, List.length_nil, List.getElem?_cons_zero, List.getElem?_cons_succ, Nat.reduceBEq, Bool.false_eq_true, beq_self_eq_true, h0, z1, z2', z3', mo_ME, mo_u_a, mo_z_a, mo_y_a, Nat.add_left_cancel_iff]
  · by_cases h0 : s = 0
    · have hn : vp_in n 4 := by rcases h with z | z; exact absurd h0 z; exact z
      obtain ⟨k, hk, rfl⟩ := vp_ex (by decide) hn
      have c1 : (nI k < 0) = False := i_ng (by omega)
      have c2 : ((4 : Int32) ≤ nI k) = False := i_ge (b := 4) hk (by decide)
      have c3 : (nI k < 4) = True := i_lt (b := 4) hk (by decide)
      simp only [we2, en2, true_and, and_true, if_false, if_true, not_true_eq_false, not_false_eq_true, false_implies, true_implies, implies_true, forall_const, true_or, or_true, false_or, or_false, false_and, and_false, eq_self_iff_true, Option.toList_some, Option.toList_none, List.cons_append, List.nil_append, mo_cat_0, mo_cat_c, mo_ct_i, mo_ct_l, mo_ct_r, mo_ct_n, mo_ct_f, Nat.zero_le, Nat.reduceAdd, Nat.reduceLeDiff, Nat.reduceLT, Nat.reduceEqDiff, Nat.reduceSub, mo_rf_s, mo_rf_n, reduceCtorEq, mo_st, mo_st2, mo_lg_0, mo_lg_s, List.set_cons_zero, List.set_cons_succ, List.length_cons, List.length_nil, List.getElem?_cons_zero, List.getElem?_cons_succ, Nat.reduceBEq, Bool.false_eq_true, beq_self_eq_true, h0, c1, c2, c3, mo_ME, mo_u_a, mo_z_a, mo_y_a, Nat.add_left_cancel_iff]
    · simp only [we2, en2, true_and, and_true, if_false, if_true, not_true_eq_false, not_false_eq_true, false_implies, true_implies, implies_true, forall_const, true_or, or_true, false_or, or_false, false_and, and_false, eq_self_iff_true, Option.toList_some, Option.toList_none, List.cons_append, List.nil_append, mo_cat_0, mo_cat_c, mo_ct_i, mo_ct_l, mo_ct_r, mo_ct_n, mo_ct_f, Nat.zero_le, Nat.reduceAdd, Nat.reduceLeDiff, Nat.reduceLT, Nat.reduceEqDiff, Nat.reduceSub, mo_rf_s, mo_rf_n, reduceCtorEq, mo_st, mo_st2, mo_lg_0, mo_lg_s, List.set_cons_zero, List.set_cons_succ, List.length_cons, List.length_nil, List.getElem?_cons_zero, List.getElem?_cons_succ, Nat.reduceBEq, Bool.false_eq_true, beq_self_eq_true, h0, mo_ME, mo_u_a, mo_z_a, mo_y_a, Nat.add_left_cancel_iff]
/-- sort and number of an act -/
theorem sn_c (s n : Int32) : (∃ k, k < 3 ∧ s = nI k ∧ ((s = 0 ∧ ∃ j, j < 4 ∧ n = nI j) ∨ s = 1 ∨ s = 2) ∧ (¬ s = 0 ∨ vp_in n 4) ∧ vp_in s 3) ∨ ¬ vp_in s 3 ∨ (s = 0 ∧ ¬ vp_in n 4) := by
  by_cases h : vp_in s 3
  · obtain ⟨k, hk, hks⟩ := vp_ex (by decide) h
    by_cases h0 : s = 0
    · by_cases hn : vp_in n 4
      · obtain ⟨j, hj, hjn⟩ := vp_ex (by decide) hn
        exact Or.inl ⟨k, hk, hks, Or.inl ⟨h0, j, hj, hjn⟩, Or.inr hn, h⟩
      · exact Or.inr (Or.inr ⟨h0, hn⟩)
    · have : k = 0 ∨ k = 1 ∨ k = 2 := by omega
      rcases this with rfl | rfl | rfl
      · exact absurd hks h0
      · exact Or.inl ⟨1, hk, hks, Or.inr (Or.inl hks), Or.inl h0, h⟩
      · exact Or.inl ⟨2, hk, hks, Or.inr (Or.inr hks), Or.inl h0, h⟩
  · exact Or.inr (Or.inl h)
theorem mo_ifT : ((1 : Int32) = 0) = False := eq_false (by decide)
theorem O_act {x s0 k d bs : Nat} {μ : mo_Mem} {Q : mo_Mem → Prop} (hiv : c_iv x s0 k μ) (hb : bs < x) (hQ : ∀ μ', c_iv x s0 (k + 1) μ' → c_sc bs μ μ' → Q μ') (i f s n e : Int32) : c_qI x (d + 200) 70 93 bs [.int i, .int f, .int s, .int n, .int e] μ Q := by
  have hiv0 := hiv; obtain ⟨A, G, O, no, b, q, hs, hd, hr, hst, hX, hS⟩ := hiv0; have fin : Q μ := hQ μ (iv_up hiv) (sc_rf _ _); have hno := hd.2.2.1; have hno1 := hd.2.2.2.1; have hne := hs.2.2.1.2.2.1; have hne60 := hs.2.2.1.1; have hnc := hs.2.2.1.2.2.2.1; have hnc8 := hs.2.2.1.2.1; have hpw := hs.2.2.1.2.2.2.2.1; have hs' := hs.1.1; unfold cl_sf at hs'; have hd2 := hd.2.1; have hrs := hr.1
  unfold c_qI
  have kh := fun Q => L_hasT (d := d + 198) hs.1.1 hd2 hno1 Q
  have ke := fun i Q => L_kn (d := d + 198) hs.1.1 hs.2.2.2.1 hne60 i Q
  by_cases hi : vp_in i (gnc G)
  · obtain ⟨c, hc, rfl⟩ := vp_ex (by omega) hi
    have k1 := fun Q => L_ty (d := d + 198) hs hc Q
    have ty := (hs.2.2.2.2.2.2.1 c hc).2
    obtain ⟨y1, y2, y3, y4, y5, y6, y7, y8, y9, y10, y11, y12, -⟩ := ty
    by_cases he : vp_in e (gne G)
    · by_cases hf1 : f = -1
      · subst hf1
        have hpm : a_pm A (5 * c) := Or.inl (by omega)
        have y11' := y11
        have am1 : 5 * nI c + 1 + -1 = nI (5 * c) := by
          have hq := nI_pred (5 * c)
          rw [Int32.sub_eq_add_neg] at hq
          rw [l5, nI_1]
          exact hq
        obtain ⟨na, na1, na2⟩ : ∃ na, na ≤ 8 ∧ A.1 13 (5 * c) = nI na := by
          obtain ⟨-, -, na, z1, z2, -⟩ := hs.2.2.1.2.2.2.2.2.2.2.1 (5 * c) (by omega)
          exact ⟨na, z1, z2⟩
        obtain ⟨b1, b2, b3, b4, b5, b6, b7, b8, b9, -⟩ := hs.2.2.2.2.2.2.2.1 (5 * c) (by omega) hpm
        rw [y12] at b1 b4 b5 b6 b7 b8 b9
        rw [na2] at b7
        rcases sn_c s n with ⟨sk, hsk, hss, hsn, hsn2, hs3⟩ | hbad
        · have kS := fun Q => (L_aS (d := d + 198) (μ := μ) s Q).1 hs3
          have kN := fun Q => (L_aN (d := d + 198) (μ := μ) s n Q).2 hsn2
          have c1 : (s < 0) = False := by rw [hss]; exact i_ng (by omega)
          have c2 : ((2 : Int32) < s) = False := by rw [hss]; exact i_nl (a := sk) (b := 2) (by omega) (by decide)
          have hRn : (s = 0) = False ∨ vp_in n 4 := by
            rcases hsn2 with z | z
            · exact Or.inl (eq_false z)
            · exact Or.inr z
          by_cases hz : no = 0
          · rw [if_pos hz] at kh
            by_cases h8 : na < 8
            · obtain ⟨en, hen, hee⟩ := vp_ex (by omega) he
              have kA := fun Q => (L_addAct (d := d + 197) b1 b4 b5 b6 b7 b9 s n e Q).1 h8
              simp only [we70_0, we70_1, en70, true_and, and_true, if_false, if_true, not_true_eq_false, not_false_eq_true, false_implies, true_implies, implies_true, forall_const, true_or, or_true, false_or, or_false, false_and, and_false, eq_self_iff_true, Option.toList_some, Option.toList_none, List.cons_append, List.nil_append, mo_cat_0, mo_cat_c, mo_ct_i, mo_ct_l, mo_ct_r, mo_ct_n, mo_ct_f, Nat.zero_le, Nat.reduceAdd, Nat.reduceLeDiff, Nat.reduceLT, Nat.reduceEqDiff, Nat.reduceSub, mo_rf_s, mo_rf_n, reduceCtorEq, mo_st, mo_st2, mo_lg_0, mo_lg_s, List.set_cons_zero, List.set_cons_succ, List.length_cons, List.length_nil, List.getElem?_cons_zero, List.getElem?_cons_succ, Nat.reduceBEq, Bool.false_eq_true, beq_self_eq_true, hs', k1, ke, mo_b_t he, y1, y11', mo_LC, kS, kN, kh, kA, b1, mo_ME, mo_u_a, mo_z_a, mo_y_a, Nat.add_left_cancel_iff]
              have hX0 := hs.2.1
              obtain ⟨hdm, hot, mX, mS, mAI⟩ := ac_old (na := na) hX0 b8 b9 s n e
              refine ⟨_, rfl, sc_dm hdm hb hs.2.1, ?_⟩
              have hr1 := r_ot hr hot
              have hst1 := st_ac hs (m := (5 * c)) (by omega) hpm na2 h8 hsn hen
              rw [← hee, y12] at hst1
              obtain ⟨e1, e2, e3, e4, e5, e6⟩ := acA A (5 * c) na s n e
              obtain ⟨hr2, hfc⟩ := r_ra hr1 (5 * c) na s n e
              have hdy := dy_pl (A' := a_ac A (5 * c) na s n e) (G' := G) hnc8 hpw hd hdm (fun j hj => ⟨e1 j (by omega) (by omega) (by omega) (by omega), by rw [e2]⟩) (fun c' hc' => ⟨hc', rfl, rfl⟩) (fun c' hc' h => bel_ext hnc8 hpw (fun c'' hc'' => by rw [e1 6 (by decide) (by decide) (by decide) (by decide)]) h 8 c' hc')
              have fin2 := hQ (m_ra (x + 28) (m_ac μ (gT G c + 2) na s n e) (5 * c) na s n e) ⟨_, G, O, no, b, q, st_fc hst1 hfc, dy_fc hdy hfc, hr2, fun o ho => by rw [e1 19 (by decide) (by decide) (by decide) (by decide)]; exact hst o ho, by rw [hfc.2.2.2.2.1, mX]; omega, by rw [hfc.2.2.2.2.2.1, mS]; omega⟩ (sc_tr (sc_dm hdm hb hs.2.1) (sc_fc hfc hb))
              clear hr2 hfc hot hst1 hdy hdm
              generalize m_ac μ (gT G c + 2) na s n e = ν at *
              unfold m_ra at fin2
              revert fin2 hr1
              generalize x + 28 = r
              intro hr1 fin2
              have hrs := hr1.1
              unfold r_sh at hrs
              have H := r_rd hr1
              have kcl := fun i Q => R_isC (d := d + 198) hr1 hnc hnc8 i Q
              have kex := fun i Q => R_isExp (d := d + 198) hr1.1 (H.1.trans hne) (by omega) i Q
              have knm := fun i Q => R_isN (d := d + 198) (μ := ν) i Q
              have g8 : (nI na = 8) = False := i_ne (b := 8) (by omega) (by decide) (by omega)
              have u1 : vp_in (nI (5 * c)) 40 := vp_in_nI (by omega) (by decide)
              have u2 : (nI (5 * c)).toNatClampNeg = (5 * c) := nI_clamp (by omega)
              have u3 : vp_in (nI (8 * (5 * c) + na)) 320 := vp_in_nI (by omega) (by decide)
              have u4 : (nI (8 * (5 * c) + na)).toNatClampNeg = 8 * (5 * c) + na := nI_clamp (by omega)
              rcases hRn with z | z
              · simp only [we70_0, we70_1, we93_0, we93_1, we93_2, en70, en93, true_and, and_true, if_false, if_true, not_true_eq_false, not_false_eq_true, false_implies, true_implies, implies_true, forall_const, true_or, or_true, false_or, or_false, false_and, and_false, eq_self_iff_true, Option.toList_some, Option.toList_none, List.cons_append, List.nil_append, mo_cat_0, mo_cat_c, mo_ct_i, mo_ct_l, mo_ct_r, mo_ct_n, mo_ct_f, Nat.zero_le, Nat.reduceAdd, Nat.reduceLeDiff, Nat.reduceLT, Nat.reduceEqDiff, Nat.reduceSub, mo_rf_s, mo_rf_n, reduceCtorEq, mo_st, mo_st2, mo_lg_0, mo_lg_s, List.set_cons_zero, List.set_cons_succ, List.length_cons, List.length_nil, List.getElem?_cons_zero, List.getElem?_cons_succ, Nat.reduceBEq, Bool.false_eq_true, beq_self_eq_true, hrs, H, kcl, kex, knm, mo_b_t hi, mo_b_t he, mo_b_f (L_nr1 (n := 4) (by decide)), mo_LC, am1, z, c1, c2, hno, i0no hno1, i00, hz, g8, u1, u2, u3, u4, na2, l8, nI_1, nI_add, mo_ME, mo_u_a, mo_z_a, mo_y_a, Nat.add_left_cancel_iff]
                exact fin2
              · simp only [we70_0, we70_1, we93_0, we93_1, we93_2, en70, en93, true_and, and_true, if_false, if_true, not_true_eq_false, not_false_eq_true, false_implies, true_implies, implies_true, forall_const, true_or, or_true, false_or, or_false, false_and, and_false, eq_self_iff_true, Option.toList_some, Option.toList_none, List.cons_append, List.nil_append, mo_cat_0, mo_cat_c, mo_ct_i, mo_ct_l, mo_ct_r, mo_ct_n, mo_ct_f, Nat.zero_le, Nat.reduceAdd, Nat.reduceLeDiff, Nat.reduceLT, Nat.reduceEqDiff, Nat.reduceSub, mo_rf_s, mo_rf_n, reduceCtorEq, mo_st, mo_st2, mo_lg_0, mo_lg_s, List.set_cons_zero, List.set_cons_succ, List.length_cons, List.length_nil, List.getElem?_cons_zero, List.getElem?_cons_succ, Nat.reduceBEq, Bool.false_eq_true, beq_self_eq_true, hrs, H, kcl, kex, knm, mo_b_t hi, mo_b_t he, mo_b_f (L_nr1 (n := 4) (by decide)), mo_LC, am1, mo_b_t z, c1, c2, hno, i0no hno1, i00, hz, g8, u1, u2, u3, u4, na2, l8, nI_1, nI_add, mo_ifT, mo_ME, mo_u_a, mo_z_a, mo_y_a, Nat.add_left_cancel_iff]
                exact ⟨fun _ => fin2, fun _ => fin2⟩
            · have h88 : na = 8 := by omega
              have kA := fun Q => (L_addAct (d := d + 197) b1 b4 b5 b6 b7 b9 s n e Q).2 h88
              simp only [we70_0, we70_1, en70, true_and, and_true, if_false, if_true, not_true_eq_false, not_false_eq_true, false_implies, true_implies, implies_true, forall_const, true_or, or_true, false_or, or_false, false_and, and_false, eq_self_iff_true, Option.toList_some, Option.toList_none, List.cons_append, List.nil_append, mo_cat_0, mo_cat_c, mo_ct_i, mo_ct_l, mo_ct_r, mo_ct_n, mo_ct_f, Nat.zero_le, Nat.reduceAdd, Nat.reduceLeDiff, Nat.reduceLT, Nat.reduceEqDiff, Nat.reduceSub, mo_rf_s, mo_rf_n, reduceCtorEq, mo_st, mo_st2, mo_lg_0, mo_lg_s, List.set_cons_zero, List.set_cons_succ, List.length_cons, List.length_nil, List.getElem?_cons_zero, List.getElem?_cons_succ, Nat.reduceBEq, Bool.false_eq_true, beq_self_eq_true, hs', k1, ke, mo_b_t he, y1, y11', mo_LC, kS, kN, kh, kA, b1, mo_ME, mo_u_a, mo_z_a, mo_y_a, Nat.add_left_cancel_iff]
              refine ⟨_, rfl, sc_rf _ _, ?_⟩
              generalize x + 28 = r at hr ⊢; have hrs := hr.1; unfold r_sh at hrs; have H := r_rd hr; have kcl := fun i Q => R_isC (d := d + 198) hr hnc hnc8 i Q; have kex := fun i Q => R_isExp (d := d + 198) hr.1 (H.1.trans hne) (by omega) i Q; have knm := fun i Q => R_isN (d := d + 198) (μ := μ) i Q
              have g8 : (nI na = 8) = True := by rw [h88]; exact eq_true rfl
              have u1 : vp_in (nI (5 * c)) 40 := vp_in_nI (by omega) (by decide)
              have u2 : (nI (5 * c)).toNatClampNeg = (5 * c) := nI_clamp (by omega)
              rcases hRn with z | z
              · simp only [we93_0, we93_1, we93_2, en93, true_and, and_true, if_false, if_true, not_true_eq_false, not_false_eq_true, false_implies, true_implies, implies_true, forall_const, true_or, or_true, false_or, or_false, false_and, and_false, eq_self_iff_true, Option.toList_some, Option.toList_none, List.cons_append, List.nil_append, mo_cat_0, mo_cat_c, mo_ct_i, mo_ct_l, mo_ct_r, mo_ct_n, mo_ct_f, Nat.zero_le, Nat.reduceAdd, Nat.reduceLeDiff, Nat.reduceLT, Nat.reduceEqDiff, Nat.reduceSub, mo_rf_s, mo_rf_n, reduceCtorEq, mo_st, mo_st2, mo_lg_0, mo_lg_s, List.set_cons_zero, List.set_cons_succ, List.length_cons, List.length_nil, List.getElem?_cons_zero, List.getElem?_cons_succ, Nat.reduceBEq, Bool.false_eq_true, beq_self_eq_true, hrs, H, kcl, kex, knm, mo_b_t hi, mo_b_t he, mo_b_f (L_nr1 (n := 4) (by decide)), mo_LC, am1, z, c1, c2, hno, i0no hno1, i00, hz, g8, u1, u2, na2, mo_ME, mo_u_a, mo_z_a, mo_y_a, Nat.add_left_cancel_iff]
                exact fin
              · simp only [we93_0, we93_1, we93_2, en93, true_and, and_true, if_false, if_true, not_true_eq_false, not_false_eq_true, false_implies, true_implies, implies_true, forall_const, true_or, or_true, false_or, or_false, false_and, and_false, eq_self_iff_true, Option.toList_some, Option.toList_none, List.cons_append, List.nil_append, mo_cat_0, mo_cat_c, mo_ct_i, mo_ct_l, mo_ct_r, mo_ct_n, mo_ct_f, Nat.zero_le, Nat.reduceAdd, Nat.reduceLeDiff, Nat.reduceLT, Nat.reduceEqDiff, Nat.reduceSub, mo_rf_s, mo_rf_n, reduceCtorEq, mo_st, mo_st2, mo_lg_0, mo_lg_s, List.set_cons_zero, List.set_cons_succ, List.length_cons, List.length_nil, List.getElem?_cons_zero, List.getElem?_cons_succ, Nat.reduceBEq, Bool.false_eq_true, beq_self_eq_true, hrs, H, kcl, kex, knm, mo_b_t hi, mo_b_t he, mo_b_f (L_nr1 (n := 4) (by decide)), mo_LC, am1, mo_b_t z, c1, c2, hno, i0no hno1, i00, hz, g8, u1, u2, na2, mo_ifT, mo_ME, mo_u_a, mo_z_a, mo_y_a, Nat.add_left_cancel_iff]
                exact ⟨fun _ => fin, fun _ => fin⟩
          · rw [if_neg hz] at kh
            simp only [we70_0, we70_1, en70, true_and, and_true, if_false, if_true, not_true_eq_false, not_false_eq_true, false_implies, true_implies, implies_true, forall_const, true_or, or_true, false_or, or_false, false_and, and_false, eq_self_iff_true, Option.toList_some, Option.toList_none, List.cons_append, List.nil_append, mo_cat_0, mo_cat_c, mo_ct_i, mo_ct_l, mo_ct_r, mo_ct_n, mo_ct_f, Nat.zero_le, Nat.reduceAdd, Nat.reduceLeDiff, Nat.reduceLT, Nat.reduceEqDiff, Nat.reduceSub, mo_rf_s, mo_rf_n, reduceCtorEq, mo_st, mo_st2, mo_lg_0, mo_lg_s, List.set_cons_zero, List.set_cons_succ, List.length_cons, List.length_nil, List.getElem?_cons_zero, List.getElem?_cons_succ, Nat.reduceBEq, Bool.false_eq_true, beq_self_eq_true, hs', k1, ke, mo_b_t he, y1, y11', mo_LC, kS, kN, kh, b1, mo_ME, mo_u_a, mo_z_a, mo_y_a, Nat.add_left_cancel_iff]
            refine ⟨_, rfl, sc_rf _ _, ?_⟩
            generalize x + 28 = r at hr ⊢; have hrs := hr.1; unfold r_sh at hrs; have H := r_rd hr; have kcl := fun i Q => R_isC (d := d + 198) hr hnc hnc8 i Q; have kex := fun i Q => R_isExp (d := d + 198) hr.1 (H.1.trans hne) (by omega) i Q; have knm := fun i Q => R_isN (d := d + 198) (μ := μ) i Q
            rcases hRn with z | z
            · simp only [we93_0, we93_1, we93_2, en93, true_and, and_true, if_false, if_true, not_true_eq_false, not_false_eq_true, false_implies, true_implies, implies_true, forall_const, true_or, or_true, false_or, or_false, false_and, and_false, eq_self_iff_true, Option.toList_some, Option.toList_none, List.cons_append, List.nil_append, mo_cat_0, mo_cat_c, mo_ct_i, mo_ct_l, mo_ct_r, mo_ct_n, mo_ct_f, Nat.zero_le, Nat.reduceAdd, Nat.reduceLeDiff, Nat.reduceLT, Nat.reduceEqDiff, Nat.reduceSub, mo_rf_s, mo_rf_n, reduceCtorEq, mo_st, mo_st2, mo_lg_0, mo_lg_s, List.set_cons_zero, List.set_cons_succ, List.length_cons, List.length_nil, List.getElem?_cons_zero, List.getElem?_cons_succ, Nat.reduceBEq, Bool.false_eq_true, beq_self_eq_true, hrs, H, kcl, kex, knm, mo_b_t hi, mo_b_t he, mo_b_f (L_nr1 (n := 4) (by decide)), mo_LC, z, c1, c2, hno, i0no hno1, i00, hz, mo_ME, mo_u_a, mo_z_a, mo_y_a, Nat.add_left_cancel_iff]
              exact fin
            · simp only [we93_0, we93_1, we93_2, en93, true_and, and_true, if_false, if_true, not_true_eq_false, not_false_eq_true, false_implies, true_implies, implies_true, forall_const, true_or, or_true, false_or, or_false, false_and, and_false, eq_self_iff_true, Option.toList_some, Option.toList_none, List.cons_append, List.nil_append, mo_cat_0, mo_cat_c, mo_ct_i, mo_ct_l, mo_ct_r, mo_ct_n, mo_ct_f, Nat.zero_le, Nat.reduceAdd, Nat.reduceLeDiff, Nat.reduceLT, Nat.reduceEqDiff, Nat.reduceSub, mo_rf_s, mo_rf_n, reduceCtorEq, mo_st, mo_st2, mo_lg_0, mo_lg_s, List.set_cons_zero, List.set_cons_succ, List.length_cons, List.length_nil, List.getElem?_cons_zero, List.getElem?_cons_succ, Nat.reduceBEq, Bool.false_eq_true, beq_self_eq_true, hrs, H, kcl, kex, knm, mo_b_t hi, mo_b_t he, mo_b_f (L_nr1 (n := 4) (by decide)), mo_LC, mo_b_t z, c1, c2, hno, i0no hno1, i00, hz, mo_ifT, mo_ME, mo_u_a, mo_z_a, mo_y_a, Nat.add_left_cancel_iff]
              exact ⟨fun _ => fin, fun _ => fin⟩
        · by_cases hs3 : vp_in s 3
          · obtain ⟨h0, hn4⟩ : s = 0 ∧ ¬ vp_in n 4 := by rcases hbad with z | z; exact absurd hs3 z; exact z
            have kS := fun Q => (L_aS (d := d + 198) (μ := μ) s Q).1 hs3
            have kN := fun Q => (L_aN (d := d + 198) (μ := μ) s n Q).1 h0 hn4
            subst h0
            simp only [we70_0, we70_1, en70, true_and, and_true, if_false, if_true, not_true_eq_false, not_false_eq_true, false_implies, true_implies, implies_true, forall_const, true_or, or_true, false_or, or_false, false_and, and_false, eq_self_iff_true, Option.toList_some, Option.toList_none, List.cons_append, List.nil_append, mo_cat_0, mo_cat_c, mo_ct_i, mo_ct_l, mo_ct_r, mo_ct_n, mo_ct_f, Nat.zero_le, Nat.reduceAdd, Nat.reduceLeDiff, Nat.reduceLT, Nat.reduceEqDiff, Nat.reduceSub, mo_rf_s, mo_rf_n, reduceCtorEq, mo_st, mo_st2, mo_lg_0, mo_lg_s, List.set_cons_zero, List.set_cons_succ, List.length_cons, List.length_nil, List.getElem?_cons_zero, List.getElem?_cons_succ, Nat.reduceBEq, Bool.false_eq_true, beq_self_eq_true, hs', k1, ke, mo_b_t he, y1, y11', mo_LC, kS, kN, b1, mo_ME, mo_u_a, mo_z_a, mo_y_a, Nat.add_left_cancel_iff]
            refine ⟨_, rfl, sc_rf _ _, ?_⟩
            generalize x + 28 = r at hr ⊢; have hrs := hr.1; unfold r_sh at hrs; have H := r_rd hr; have kcl := fun i Q => R_isC (d := d + 198) hr hnc hnc8 i Q; have kex := fun i Q => R_isExp (d := d + 198) hr.1 (H.1.trans hne) (by omega) i Q; have knm := fun i Q => R_isN (d := d + 198) (μ := μ) i Q
            simp only [we93_0, we93_1, we93_2, en93, true_and, and_true, if_false, if_true, not_true_eq_false, not_false_eq_true, false_implies, true_implies, implies_true, forall_const, true_or, or_true, false_or, or_false, false_and, and_false, eq_self_iff_true, Option.toList_some, Option.toList_none, List.cons_append, List.nil_append, mo_cat_0, mo_cat_c, mo_ct_i, mo_ct_l, mo_ct_r, mo_ct_n, mo_ct_f, Nat.zero_le, Nat.reduceAdd, Nat.reduceLeDiff, Nat.reduceLT, Nat.reduceEqDiff, Nat.reduceSub, mo_rf_s, mo_rf_n, reduceCtorEq, mo_st, mo_st2, mo_lg_0, mo_lg_s, List.set_cons_zero, List.set_cons_succ, List.length_cons, List.length_nil, List.getElem?_cons_zero, List.getElem?_cons_succ, Nat.reduceBEq, Bool.false_eq_true, beq_self_eq_true, hrs, H, kcl, kex, knm, mo_b_t hi, mo_b_t he, mo_b_f (L_nr1 (n := 4) (by decide)), mo_LC, mo_b_f hn4, mo_LE, mo_ME, mo_u_a, mo_z_a, mo_y_a, Nat.add_left_cancel_iff]
            exact fin
          · have kS := fun Q => (L_aS (d := d + 198) (μ := μ) s Q).2 hs3
            simp only [we70_0, we70_1, en70, true_and, and_true, if_false, if_true, not_true_eq_false, not_false_eq_true, false_implies, true_implies, implies_true, forall_const, true_or, or_true, false_or, or_false, false_and, and_false, eq_self_iff_true, Option.toList_some, Option.toList_none, List.cons_append, List.nil_append, mo_cat_0, mo_cat_c, mo_ct_i, mo_ct_l, mo_ct_r, mo_ct_n, mo_ct_f, Nat.zero_le, Nat.reduceAdd, Nat.reduceLeDiff, Nat.reduceLT, Nat.reduceEqDiff, Nat.reduceSub, mo_rf_s, mo_rf_n, reduceCtorEq, mo_st, mo_st2, mo_lg_0, mo_lg_s, List.set_cons_zero, List.set_cons_succ, List.length_cons, List.length_nil, List.getElem?_cons_zero, List.getElem?_cons_succ, Nat.reduceBEq, Bool.false_eq_true, beq_self_eq_true, hs', k1, ke, mo_b_t he, y1, y11', mo_LC, kS, b1, mo_ME, mo_u_a, mo_z_a, mo_y_a, Nat.add_left_cancel_iff]
            refine ⟨_, rfl, sc_rf _ _, ?_⟩
            generalize x + 28 = r at hr ⊢; have hrs := hr.1; unfold r_sh at hrs; have H := r_rd hr; have kcl := fun i Q => R_isC (d := d + 198) hr hnc hnc8 i Q; have kex := fun i Q => R_isExp (d := d + 198) hr.1 (H.1.trans hne) (by omega) i Q; have knm := fun i Q => R_isN (d := d + 198) (μ := μ) i Q
            rcases vp_o2 (by decide) hs3 with z | ⟨z1, z2, z3⟩
            · simp only [we93_0, we93_1, we93_2, en93, true_and, and_true, if_false, if_true, not_true_eq_false, not_false_eq_true, false_implies, true_implies, implies_true, forall_const, true_or, or_true, false_or, or_false, false_and, and_false, eq_self_iff_true, Option.toList_some, Option.toList_none, List.cons_append, List.nil_append, mo_cat_0, mo_cat_c, mo_ct_i, mo_ct_l, mo_ct_r, mo_ct_n, mo_ct_f, Nat.zero_le, Nat.reduceAdd, Nat.reduceLeDiff, Nat.reduceLT, Nat.reduceEqDiff, Nat.reduceSub, mo_rf_s, mo_rf_n, reduceCtorEq, mo_st, mo_st2, mo_lg_0, mo_lg_s, List.set_cons_zero, List.set_cons_succ, List.length_cons, List.length_nil, List.getElem?_cons_zero, List.getElem?_cons_succ, Nat.reduceBEq, Bool.false_eq_true, beq_self_eq_true, hrs, H, kcl, kex, knm, mo_b_t hi, mo_b_t he, mo_b_f (L_nr1 (n := 4) (by decide)), mo_LC, z, mo_ME, mo_u_a, mo_z_a, mo_y_a, Nat.add_left_cancel_iff]
              exact fin
            · obtain ⟨z4, z5⟩ := vp_gt (n := 2) (by decide) z2
              have z4' : ((2 : Int32) < s) = True := z4
              simp only [we93_0, we93_1, we93_2, en93, true_and, and_true, if_false, if_true, not_true_eq_false, not_false_eq_true, false_implies, true_implies, implies_true, forall_const, true_or, or_true, false_or, or_false, false_and, and_false, eq_self_iff_true, Option.toList_some, Option.toList_none, List.cons_append, List.nil_append, mo_cat_0, mo_cat_c, mo_ct_i, mo_ct_l, mo_ct_r, mo_ct_n, mo_ct_f, Nat.zero_le, Nat.reduceAdd, Nat.reduceLeDiff, Nat.reduceLT, Nat.reduceEqDiff, Nat.reduceSub, mo_rf_s, mo_rf_n, reduceCtorEq, mo_st, mo_st2, mo_lg_0, mo_lg_s, List.set_cons_zero, List.set_cons_succ, List.length_cons, List.length_nil, List.getElem?_cons_zero, List.getElem?_cons_succ, Nat.reduceBEq, Bool.false_eq_true, beq_self_eq_true, hrs, H, kcl, kex, knm, mo_b_t hi, mo_b_t he, mo_b_f (L_nr1 (n := 4) (by decide)), mo_LC, z1, z4', mo_ME, mo_u_a, mo_z_a, mo_y_a, Nat.add_left_cancel_iff]
              exact fin
      · have hfm : (f = -1) = False := eq_false hf1
        by_cases hf : vp_in f 4
        · obtain ⟨nm, hnm, hfn⟩ := vp_ex (by decide) hf
          have w3 : vp_in (nI (5 * c + 1 + nm)) 40 := vp_in_nI (by omega) (by decide)
          have w4 : (nI (5 * c + 1 + nm)).toNatClampNeg = 5 * c + 1 + nm := nI_clamp (by omega)
          have kM := fun Q => L_mAt (d := d + 197) hs hc hnm Q
          have kn := fun Q => L_isName (d := d + 198) (μ := μ) hnm Q
          subst hfn
          by_cases hop : A.1 11 (5 * c + 1 + nm) = 0
          · have hmk : a_mk A G c nm = none := by unfold a_mk; rw [if_pos hop]
            rw [hmk, mo_rf_n] at kM
            simp only [we70_0, we70_1, en70, true_and, and_true, if_false, if_true, not_true_eq_false, not_false_eq_true, false_implies, true_implies, implies_true, forall_const, true_or, or_true, false_or, or_false, false_and, and_false, eq_self_iff_true, Option.toList_some, Option.toList_none, List.cons_append, List.nil_append, mo_cat_0, mo_cat_c, mo_ct_i, mo_ct_l, mo_ct_r, mo_ct_n, mo_ct_f, Nat.zero_le, Nat.reduceAdd, Nat.reduceLeDiff, Nat.reduceLT, Nat.reduceEqDiff, Nat.reduceSub, mo_rf_s, mo_rf_n, reduceCtorEq, mo_st, mo_st2, mo_lg_0, mo_lg_s, List.set_cons_zero, List.set_cons_succ, List.length_cons, List.length_nil, List.getElem?_cons_zero, List.getElem?_cons_succ, Nat.reduceBEq, Bool.false_eq_true, beq_self_eq_true, hs', k1, ke, mo_b_t he, y1, hfm, kM, kn, mo_LC, mo_ME, mo_u_a, mo_z_a, mo_y_a, Nat.add_left_cancel_iff]
            refine ⟨_, rfl, sc_rf _ _, ?_⟩
            generalize x + 28 = r at hr ⊢; have hrs := hr.1; unfold r_sh at hrs; have H := r_rd hr; have kcl := fun i Q => R_isC (d := d + 198) hr hnc hnc8 i Q; have kex := fun i Q => R_isExp (d := d + 198) hr.1 (H.1.trans hne) (by omega) i Q; have knm := fun i Q => R_isN (d := d + 198) (μ := μ) i Q
            simp only [we93_0, we93_1, we93_2, en93, true_and, and_true, if_false, if_true, not_true_eq_false, not_false_eq_true, false_implies, true_implies, implies_true, forall_const, true_or, or_true, false_or, or_false, false_and, and_false, eq_self_iff_true, Option.toList_some, Option.toList_none, List.cons_append, List.nil_append, mo_cat_0, mo_cat_c, mo_ct_i, mo_ct_l, mo_ct_r, mo_ct_n, mo_ct_f, Nat.zero_le, Nat.reduceAdd, Nat.reduceLeDiff, Nat.reduceLT, Nat.reduceEqDiff, Nat.reduceSub, mo_rf_s, mo_rf_n, reduceCtorEq, mo_st, mo_st2, mo_lg_0, mo_lg_s, List.set_cons_zero, List.set_cons_succ, List.length_cons, List.length_nil, List.getElem?_cons_zero, List.getElem?_cons_succ, Nat.reduceBEq, Bool.false_eq_true, beq_self_eq_true, hrs, H, kcl, kex, knm, mo_b_t hi, mo_b_t he, mo_b_t hf, hfm, w3, w4, hop, l5, nI_1, nI_add, mo_LC, mo_ME, mo_u_a, mo_z_a, mo_y_a, Nat.add_left_cancel_iff]
            exact fin
          · have hmk : a_mk A G c nm = some (gK G (5 * c + 1 + nm)) := by unfold a_mk; rw [if_neg hop]
            rw [hmk, mo_rf_s] at kM
            have hpm : a_pm A (5 * c + 1 + nm) := Or.inr hop
            obtain ⟨na, na1, na2⟩ : ∃ na, na ≤ 8 ∧ A.1 13 (5 * c + 1 + nm) = nI na := by
              obtain ⟨-, -, na, z1, z2, -⟩ := hs.2.2.1.2.2.2.2.2.2.2.1 (5 * c + 1 + nm) (by omega)
              exact ⟨na, z1, z2⟩
            obtain ⟨b1, b2, b3, b4, b5, b6, b7, b8, b9, -⟩ := hs.2.2.2.2.2.2.2.1 (5 * c + 1 + nm) (by omega) hpm
            rw [na2] at b7
            rcases sn_c s n with ⟨sk, hsk, hss, hsn, hsn2, hs3⟩ | hbad
            · have kS := fun Q => (L_aS (d := d + 198) (μ := μ) s Q).1 hs3
              have kN := fun Q => (L_aN (d := d + 198) (μ := μ) s n Q).2 hsn2
              have c1 : (s < 0) = False := by rw [hss]; exact i_ng (by omega)
              have c2 : ((2 : Int32) < s) = False := by rw [hss]; exact i_nl (a := sk) (b := 2) (by omega) (by decide)
              have hRn : (s = 0) = False ∨ vp_in n 4 := by
                rcases hsn2 with z | z
                · exact Or.inl (eq_false z)
                · exact Or.inr z
              by_cases hz : no = 0
              · rw [if_pos hz] at kh
                by_cases h8 : na < 8
                · obtain ⟨en, hen, hee⟩ := vp_ex (by omega) he
                  have kA := fun Q => (L_addAct (d := d + 197) b1 b4 b5 b6 b7 b9 s n e Q).1 h8
                  simp only [we70_0, we70_1, en70, true_and, and_true, if_false, if_true, not_true_eq_false, not_false_eq_true, false_implies, true_implies, implies_true, forall_const, true_or, or_true, false_or, or_false, false_and, and_false, eq_self_iff_true, Option.toList_some, Option.toList_none, List.cons_append, List.nil_append, mo_cat_0, mo_cat_c, mo_ct_i, mo_ct_l, mo_ct_r, mo_ct_n, mo_ct_f, Nat.zero_le, Nat.reduceAdd, Nat.reduceLeDiff, Nat.reduceLT, Nat.reduceEqDiff, Nat.reduceSub, mo_rf_s, mo_rf_n, reduceCtorEq, mo_st, mo_st2, mo_lg_0, mo_lg_s, List.set_cons_zero, List.set_cons_succ, List.length_cons, List.length_nil, List.getElem?_cons_zero, List.getElem?_cons_succ, Nat.reduceBEq, Bool.false_eq_true, beq_self_eq_true, hs', k1, ke, mo_b_t he, y1, hfm, kM, mo_LC, kS, kN, kh, kA, b1, mo_ME, mo_u_a, mo_z_a, mo_y_a, Nat.add_left_cancel_iff]
                  have hX0 := hs.2.1
                  obtain ⟨hdm, hot, mX, mS, mAI⟩ := ac_old (na := na) hX0 b8 b9 s n e
                  refine ⟨_, rfl, sc_dm hdm hb hs.2.1, ?_⟩
                  have hr1 := r_ot hr hot
                  have hst1 := st_ac hs (m := (5 * c + 1 + nm)) (by omega) hpm na2 h8 hsn hen
                  rw [← hee] at hst1
                  obtain ⟨e1, e2, e3, e4, e5, e6⟩ := acA A (5 * c + 1 + nm) na s n e
                  obtain ⟨hr2, hfc⟩ := r_ra hr1 (5 * c + 1 + nm) na s n e
                  have hdy := dy_pl (A' := a_ac A (5 * c + 1 + nm) na s n e) (G' := G) hnc8 hpw hd hdm (fun j hj => ⟨e1 j (by omega) (by omega) (by omega) (by omega), by rw [e2]⟩) (fun c' hc' => ⟨hc', rfl, rfl⟩) (fun c' hc' h => bel_ext hnc8 hpw (fun c'' hc'' => by rw [e1 6 (by decide) (by decide) (by decide) (by decide)]) h 8 c' hc')
                  have fin2 := hQ (m_ra (x + 28) (m_ac μ (gK G (5 * c + 1 + nm)) na s n e) (5 * c + 1 + nm) na s n e) ⟨_, G, O, no, b, q, st_fc hst1 hfc, dy_fc hdy hfc, hr2, fun o ho => by rw [e1 19 (by decide) (by decide) (by decide) (by decide)]; exact hst o ho, by rw [hfc.2.2.2.2.1, mX]; omega, by rw [hfc.2.2.2.2.2.1, mS]; omega⟩ (sc_tr (sc_dm hdm hb hs.2.1) (sc_fc hfc hb))
                  clear hr2 hfc hot hst1 hdy hdm
                  generalize m_ac μ (gK G (5 * c + 1 + nm)) na s n e = ν at *
                  unfold m_ra at fin2
                  revert fin2 hr1
                  generalize x + 28 = r
                  intro hr1 fin2
                  have hrs := hr1.1
                  unfold r_sh at hrs
                  have H := r_rd hr1
                  have kcl := fun i Q => R_isC (d := d + 198) hr1 hnc hnc8 i Q
                  have kex := fun i Q => R_isExp (d := d + 198) hr1.1 (H.1.trans hne) (by omega) i Q
                  have knm := fun i Q => R_isN (d := d + 198) (μ := ν) i Q
                  have g8 : (nI na = 8) = False := i_ne (b := 8) (by omega) (by decide) (by omega)
                  have u1 : vp_in (nI (5 * c + 1 + nm)) 40 := vp_in_nI (by omega) (by decide)
                  have u2 : (nI (5 * c + 1 + nm)).toNatClampNeg = (5 * c + 1 + nm) := nI_clamp (by omega)
                  have u3 : vp_in (nI (8 * (5 * c + 1 + nm) + na)) 320 := vp_in_nI (by omega) (by decide)
                  have u4 : (nI (8 * (5 * c + 1 + nm) + na)).toNatClampNeg = 8 * (5 * c + 1 + nm) + na := nI_clamp (by omega)
                  rcases hRn with z | z
                  · simp only [we70_0, we70_1, we93_0, we93_1, we93_2, en70, en93, true_and, and_true, if_false, if_true, not_true_eq_false, not_false_eq_true, false_implies, true_implies, implies_true, forall_const, true_or, or_true, false_or, or_false, false_and, and_false, eq_self_iff_true, Option.toList_some, Option.toList_none, List.cons_append, List.nil_append, mo_cat_0, mo_cat_c, mo_ct_i, mo_ct_l, mo_ct_r, mo_ct_n, mo_ct_f, Nat.zero_le, Nat.reduceAdd, Nat.reduceLeDiff, Nat.reduceLT, Nat.reduceEqDiff, Nat.reduceSub, mo_rf_s, mo_rf_n, reduceCtorEq, mo_st, mo_st2, mo_lg_0, mo_lg_s, List.set_cons_zero, List.set_cons_succ, List.length_cons, List.length_nil, List.getElem?_cons_zero, List.getElem?_cons_succ, Nat.reduceBEq, Bool.false_eq_true, beq_self_eq_true, hrs, H, kcl, kex, knm, mo_b_t hi, mo_b_t he, mo_b_t hf, hfm, w3, w4, hop, l5, nI_1, nI_add, mo_LC, z, c1, c2, hno, i0no hno1, i00, hz, g8, u1, u2, u3, u4, na2, l8, nI_1, nI_add, mo_ME, mo_u_a, mo_z_a, mo_y_a, Nat.add_left_cancel_iff]
                    exact fin2
                  · simp only [we70_0, we70_1, we93_0, we93_1, we93_2, en70, en93, true_and, and_true, if_false, if_true, not_true_eq_false, not_false_eq_true, false_implies, true_implies, implies_true, forall_const, true_or, or_true, false_or, or_false, false_and, and_false, eq_self_iff_true, Option.toList_some, Option.toList_none, List.cons_append, List.nil_append, mo_cat_0, mo_cat_c, mo_ct_i, mo_ct_l, mo_ct_r, mo_ct_n, mo_ct_f, Nat.zero_le, Nat.reduceAdd, Nat.reduceLeDiff, Nat.reduceLT, Nat.reduceEqDiff, Nat.reduceSub, mo_rf_s, mo_rf_n, reduceCtorEq, mo_st, mo_st2, mo_lg_0, mo_lg_s, List.set_cons_zero, List.set_cons_succ, List.length_cons, List.length_nil, List.getElem?_cons_zero, List.getElem?_cons_succ, Nat.reduceBEq, Bool.false_eq_true, beq_self_eq_true, hrs, H, kcl, kex, knm, mo_b_t hi, mo_b_t he, mo_b_t hf, hfm, w3, w4, hop, l5, nI_1, nI_add, mo_LC, mo_b_t z, c1, c2, hno, i0no hno1, i00, hz, g8, u1, u2, u3, u4, na2, l8, nI_1, nI_add, mo_ifT, mo_ME, mo_u_a, mo_z_a, mo_y_a, Nat.add_left_cancel_iff]
                    exact ⟨fun _ => fin2, fun _ => fin2⟩
                · have h88 : na = 8 := by omega
                  have kA := fun Q => (L_addAct (d := d + 197) b1 b4 b5 b6 b7 b9 s n e Q).2 h88
                  simp only [we70_0, we70_1, en70, true_and, and_true, if_false, if_true, not_true_eq_false, not_false_eq_true, false_implies, true_implies, implies_true, forall_const, true_or, or_true, false_or, or_false, false_and, and_false, eq_self_iff_true, Option.toList_some, Option.toList_none, List.cons_append, List.nil_append, mo_cat_0, mo_cat_c, mo_ct_i, mo_ct_l, mo_ct_r, mo_ct_n, mo_ct_f, Nat.zero_le, Nat.reduceAdd, Nat.reduceLeDiff, Nat.reduceLT, Nat.reduceEqDiff, Nat.reduceSub, mo_rf_s, mo_rf_n, reduceCtorEq, mo_st, mo_st2, mo_lg_0, mo_lg_s, List.set_cons_zero, List.set_cons_succ, List.length_cons, List.length_nil, List.getElem?_cons_zero, List.getElem?_cons_succ, Nat.reduceBEq, Bool.false_eq_true, beq_self_eq_true, hs', k1, ke, mo_b_t he, y1, hfm, kM, mo_LC, kS, kN, kh, kA, b1, mo_ME, mo_u_a, mo_z_a, mo_y_a, Nat.add_left_cancel_iff]
                  refine ⟨_, rfl, sc_rf _ _, ?_⟩
                  generalize x + 28 = r at hr ⊢; have hrs := hr.1; unfold r_sh at hrs; have H := r_rd hr; have kcl := fun i Q => R_isC (d := d + 198) hr hnc hnc8 i Q; have kex := fun i Q => R_isExp (d := d + 198) hr.1 (H.1.trans hne) (by omega) i Q; have knm := fun i Q => R_isN (d := d + 198) (μ := μ) i Q
                  have g8 : (nI na = 8) = True := by rw [h88]; exact eq_true rfl
                  have u1 : vp_in (nI (5 * c + 1 + nm)) 40 := vp_in_nI (by omega) (by decide)
                  have u2 : (nI (5 * c + 1 + nm)).toNatClampNeg = (5 * c + 1 + nm) := nI_clamp (by omega)
                  rcases hRn with z | z
                  · simp only [we93_0, we93_1, we93_2, en93, true_and, and_true, if_false, if_true, not_true_eq_false, not_false_eq_true, false_implies, true_implies, implies_true, forall_const, true_or, or_true, false_or, or_false, false_and, and_false, eq_self_iff_true, Option.toList_some, Option.toList_none, List.cons_append, List.nil_append, mo_cat_0, mo_cat_c, mo_ct_i, mo_ct_l, mo_ct_r, mo_ct_n, mo_ct_f, Nat.zero_le, Nat.reduceAdd, Nat.reduceLeDiff, Nat.reduceLT, Nat.reduceEqDiff, Nat.reduceSub, mo_rf_s, mo_rf_n, reduceCtorEq, mo_st, mo_st2, mo_lg_0, mo_lg_s, List.set_cons_zero, List.set_cons_succ, List.length_cons, List.length_nil, List.getElem?_cons_zero, List.getElem?_cons_succ, Nat.reduceBEq, Bool.false_eq_true, beq_self_eq_true, hrs, H, kcl, kex, knm, mo_b_t hi, mo_b_t he, mo_b_t hf, hfm, w3, w4, hop, l5, nI_1, nI_add, mo_LC, z, c1, c2, hno, i0no hno1, i00, hz, g8, u1, u2, na2, mo_ME, mo_u_a, mo_z_a, mo_y_a, Nat.add_left_cancel_iff]
                    exact fin
                  · simp only [we93_0, we93_1, we93_2, en93, true_and, and_true, if_false, if_true, not_true_eq_false, not_false_eq_true, false_implies, true_implies, implies_true, forall_const, true_or, or_true, false_or, or_false, false_and, and_false, eq_self_iff_true, Option.toList_some, Option.toList_none, List.cons_append, List.nil_append, mo_cat_0, mo_cat_c, mo_ct_i, mo_ct_l, mo_ct_r, mo_ct_n, mo_ct_f, Nat.zero_le, Nat.reduceAdd, Nat.reduceLeDiff, Nat.reduceLT, Nat.reduceEqDiff, Nat.reduceSub, mo_rf_s, mo_rf_n, reduceCtorEq, mo_st, mo_st2, mo_lg_0, mo_lg_s, List.set_cons_zero, List.set_cons_succ, List.length_cons, List.length_nil, List.getElem?_cons_zero, List.getElem?_cons_succ, Nat.reduceBEq, Bool.false_eq_true, beq_self_eq_true, hrs, H, kcl, kex, knm, mo_b_t hi, mo_b_t he, mo_b_t hf, hfm, w3, w4, hop, l5, nI_1, nI_add, mo_LC, mo_b_t z, c1, c2, hno, i0no hno1, i00, hz, g8, u1, u2, na2, mo_ifT, mo_ME, mo_u_a, mo_z_a, mo_y_a, Nat.add_left_cancel_iff]
                    exact ⟨fun _ => fin, fun _ => fin⟩
              · rw [if_neg hz] at kh
                simp only [we70_0, we70_1, en70, true_and, and_true, if_false, if_true, not_true_eq_false, not_false_eq_true, false_implies, true_implies, implies_true, forall_const, true_or, or_true, false_or, or_false, false_and, and_false, eq_self_iff_true, Option.toList_some, Option.toList_none, List.cons_append, List.nil_append, mo_cat_0, mo_cat_c, mo_ct_i, mo_ct_l, mo_ct_r, mo_ct_n, mo_ct_f, Nat.zero_le, Nat.reduceAdd, Nat.reduceLeDiff, Nat.reduceLT, Nat.reduceEqDiff, Nat.reduceSub, mo_rf_s, mo_rf_n, reduceCtorEq, mo_st, mo_st2, mo_lg_0, mo_lg_s, List.set_cons_zero, List.set_cons_succ, List.length_cons, List.length_nil, List.getElem?_cons_zero, List.getElem?_cons_succ, Nat.reduceBEq, Bool.false_eq_true, beq_self_eq_true, hs', k1, ke, mo_b_t he, y1, hfm, kM, mo_LC, kS, kN, kh, b1, mo_ME, mo_u_a, mo_z_a, mo_y_a, Nat.add_left_cancel_iff]
                refine ⟨_, rfl, sc_rf _ _, ?_⟩
                generalize x + 28 = r at hr ⊢; have hrs := hr.1; unfold r_sh at hrs; have H := r_rd hr; have kcl := fun i Q => R_isC (d := d + 198) hr hnc hnc8 i Q; have kex := fun i Q => R_isExp (d := d + 198) hr.1 (H.1.trans hne) (by omega) i Q; have knm := fun i Q => R_isN (d := d + 198) (μ := μ) i Q
                rcases hRn with z | z
                · simp only [we93_0, we93_1, we93_2, en93, true_and, and_true, if_false, if_true, not_true_eq_false, not_false_eq_true, false_implies, true_implies, implies_true, forall_const, true_or, or_true, false_or, or_false, false_and, and_false, eq_self_iff_true, Option.toList_some, Option.toList_none, List.cons_append, List.nil_append, mo_cat_0, mo_cat_c, mo_ct_i, mo_ct_l, mo_ct_r, mo_ct_n, mo_ct_f, Nat.zero_le, Nat.reduceAdd, Nat.reduceLeDiff, Nat.reduceLT, Nat.reduceEqDiff, Nat.reduceSub, mo_rf_s, mo_rf_n, reduceCtorEq, mo_st, mo_st2, mo_lg_0, mo_lg_s, List.set_cons_zero, List.set_cons_succ, List.length_cons, List.length_nil, List.getElem?_cons_zero, List.getElem?_cons_succ, Nat.reduceBEq, Bool.false_eq_true, beq_self_eq_true, hrs, H, kcl, kex, knm, mo_b_t hi, mo_b_t he, mo_b_t hf, hfm, w3, w4, hop, l5, nI_1, nI_add, mo_LC, z, c1, c2, hno, i0no hno1, i00, hz, mo_ME, mo_u_a, mo_z_a, mo_y_a, Nat.add_left_cancel_iff]
                  exact fin
                · simp only [we93_0, we93_1, we93_2, en93, true_and, and_true, if_false, if_true, not_true_eq_false, not_false_eq_true, false_implies, true_implies, implies_true, forall_const, true_or, or_true, false_or, or_false, false_and, and_false, eq_self_iff_true, Option.toList_some, Option.toList_none, List.cons_append, List.nil_append, mo_cat_0, mo_cat_c, mo_ct_i, mo_ct_l, mo_ct_r, mo_ct_n, mo_ct_f, Nat.zero_le, Nat.reduceAdd, Nat.reduceLeDiff, Nat.reduceLT, Nat.reduceEqDiff, Nat.reduceSub, mo_rf_s, mo_rf_n, reduceCtorEq, mo_st, mo_st2, mo_lg_0, mo_lg_s, List.set_cons_zero, List.set_cons_succ, List.length_cons, List.length_nil, List.getElem?_cons_zero, List.getElem?_cons_succ, Nat.reduceBEq, Bool.false_eq_true, beq_self_eq_true, hrs, H, kcl, kex, knm, mo_b_t hi, mo_b_t he, mo_b_t hf, hfm, w3, w4, hop, l5, nI_1, nI_add, mo_LC, mo_b_t z, c1, c2, hno, i0no hno1, i00, hz, mo_ifT, mo_ME, mo_u_a, mo_z_a, mo_y_a, Nat.add_left_cancel_iff]
                  exact ⟨fun _ => fin, fun _ => fin⟩
            · by_cases hs3 : vp_in s 3
              · obtain ⟨h0, hn4⟩ : s = 0 ∧ ¬ vp_in n 4 := by rcases hbad with z | z; exact absurd hs3 z; exact z
                have kS := fun Q => (L_aS (d := d + 198) (μ := μ) s Q).1 hs3
                have kN := fun Q => (L_aN (d := d + 198) (μ := μ) s n Q).1 h0 hn4
                subst h0
                simp only [we70_0, we70_1, en70, true_and, and_true, if_false, if_true, not_true_eq_false, not_false_eq_true, false_implies, true_implies, implies_true, forall_const, true_or, or_true, false_or, or_false, false_and, and_false, eq_self_iff_true, Option.toList_some, Option.toList_none, List.cons_append, List.nil_append, mo_cat_0, mo_cat_c, mo_ct_i, mo_ct_l, mo_ct_r, mo_ct_n, mo_ct_f, Nat.zero_le, Nat.reduceAdd, Nat.reduceLeDiff, Nat.reduceLT, Nat.reduceEqDiff, Nat.reduceSub, mo_rf_s, mo_rf_n, reduceCtorEq, mo_st, mo_st2, mo_lg_0, mo_lg_s, List.set_cons_zero, List.set_cons_succ, List.length_cons, List.length_nil, List.getElem?_cons_zero, List.getElem?_cons_succ, Nat.reduceBEq, Bool.false_eq_true, beq_self_eq_true, hs', k1, ke, mo_b_t he, y1, hfm, kM, mo_LC, kS, kN, b1, mo_ME, mo_u_a, mo_z_a, mo_y_a, Nat.add_left_cancel_iff]
                refine ⟨_, rfl, sc_rf _ _, ?_⟩
                generalize x + 28 = r at hr ⊢; have hrs := hr.1; unfold r_sh at hrs; have H := r_rd hr; have kcl := fun i Q => R_isC (d := d + 198) hr hnc hnc8 i Q; have kex := fun i Q => R_isExp (d := d + 198) hr.1 (H.1.trans hne) (by omega) i Q; have knm := fun i Q => R_isN (d := d + 198) (μ := μ) i Q
                simp only [we93_0, we93_1, we93_2, en93, true_and, and_true, if_false, if_true, not_true_eq_false, not_false_eq_true, false_implies, true_implies, implies_true, forall_const, true_or, or_true, false_or, or_false, false_and, and_false, eq_self_iff_true, Option.toList_some, Option.toList_none, List.cons_append, List.nil_append, mo_cat_0, mo_cat_c, mo_ct_i, mo_ct_l, mo_ct_r, mo_ct_n, mo_ct_f, Nat.zero_le, Nat.reduceAdd, Nat.reduceLeDiff, Nat.reduceLT, Nat.reduceEqDiff, Nat.reduceSub, mo_rf_s, mo_rf_n, reduceCtorEq, mo_st, mo_st2, mo_lg_0, mo_lg_s, List.set_cons_zero, List.set_cons_succ, List.length_cons, List.length_nil, List.getElem?_cons_zero, List.getElem?_cons_succ, Nat.reduceBEq, Bool.false_eq_true, beq_self_eq_true, hrs, H, kcl, kex, knm, mo_b_t hi, mo_b_t he, mo_b_t hf, hfm, w3, w4, hop, l5, nI_1, nI_add, mo_LC, mo_b_f hn4, mo_LE, mo_ME, mo_u_a, mo_z_a, mo_y_a, Nat.add_left_cancel_iff]
                exact fin
              · have kS := fun Q => (L_aS (d := d + 198) (μ := μ) s Q).2 hs3
                simp only [we70_0, we70_1, en70, true_and, and_true, if_false, if_true, not_true_eq_false, not_false_eq_true, false_implies, true_implies, implies_true, forall_const, true_or, or_true, false_or, or_false, false_and, and_false, eq_self_iff_true, Option.toList_some, Option.toList_none, List.cons_append, List.nil_append, mo_cat_0, mo_cat_c, mo_ct_i, mo_ct_l, mo_ct_r, mo_ct_n, mo_ct_f, Nat.zero_le, Nat.reduceAdd, Nat.reduceLeDiff, Nat.reduceLT, Nat.reduceEqDiff, Nat.reduceSub, mo_rf_s, mo_rf_n, reduceCtorEq, mo_st, mo_st2, mo_lg_0, mo_lg_s, List.set_cons_zero, List.set_cons_succ, List.length_cons, List.length_nil, List.getElem?_cons_zero, List.getElem?_cons_succ, Nat.reduceBEq, Bool.false_eq_true, beq_self_eq_true, hs', k1, ke, mo_b_t he, y1, hfm, kM, mo_LC, kS, b1, mo_ME, mo_u_a, mo_z_a, mo_y_a, Nat.add_left_cancel_iff]
                refine ⟨_, rfl, sc_rf _ _, ?_⟩
                generalize x + 28 = r at hr ⊢; have hrs := hr.1; unfold r_sh at hrs; have H := r_rd hr; have kcl := fun i Q => R_isC (d := d + 198) hr hnc hnc8 i Q; have kex := fun i Q => R_isExp (d := d + 198) hr.1 (H.1.trans hne) (by omega) i Q; have knm := fun i Q => R_isN (d := d + 198) (μ := μ) i Q
                rcases vp_o2 (by decide) hs3 with z | ⟨z1, z2, z3⟩
                · simp only [we93_0, we93_1, we93_2, en93, true_and, and_true, if_false, if_true, not_true_eq_false, not_false_eq_true, false_implies, true_implies, implies_true, forall_const, true_or, or_true, false_or, or_false, false_and, and_false, eq_self_iff_true, Option.toList_some, Option.toList_none, List.cons_append, List.nil_append, mo_cat_0, mo_cat_c, mo_ct_i, mo_ct_l, mo_ct_r, mo_ct_n, mo_ct_f, Nat.zero_le, Nat.reduceAdd, Nat.reduceLeDiff, Nat.reduceLT, Nat.reduceEqDiff, Nat.reduceSub, mo_rf_s, mo_rf_n, reduceCtorEq, mo_st, mo_st2, mo_lg_0, mo_lg_s, List.set_cons_zero, List.set_cons_succ, List.length_cons, List.length_nil, List.getElem?_cons_zero, List.getElem?_cons_succ, Nat.reduceBEq, Bool.false_eq_true, beq_self_eq_true, hrs, H, kcl, kex, knm, mo_b_t hi, mo_b_t he, mo_b_t hf, hfm, w3, w4, hop, l5, nI_1, nI_add, mo_LC, z, mo_ME, mo_u_a, mo_z_a, mo_y_a, Nat.add_left_cancel_iff]
                  exact fin
                · obtain ⟨z4, z5⟩ := vp_gt (n := 2) (by decide) z2
                  have z4' : ((2 : Int32) < s) = True := z4
                  simp only [we93_0, we93_1, we93_2, en93, true_and, and_true, if_false, if_true, not_true_eq_false, not_false_eq_true, false_implies, true_implies, implies_true, forall_const, true_or, or_true, false_or, or_false, false_and, and_false, eq_self_iff_true, Option.toList_some, Option.toList_none, List.cons_append, List.nil_append, mo_cat_0, mo_cat_c, mo_ct_i, mo_ct_l, mo_ct_r, mo_ct_n, mo_ct_f, Nat.zero_le, Nat.reduceAdd, Nat.reduceLeDiff, Nat.reduceLT, Nat.reduceEqDiff, Nat.reduceSub, mo_rf_s, mo_rf_n, reduceCtorEq, mo_st, mo_st2, mo_lg_0, mo_lg_s, List.set_cons_zero, List.set_cons_succ, List.length_cons, List.length_nil, List.getElem?_cons_zero, List.getElem?_cons_succ, Nat.reduceBEq, Bool.false_eq_true, beq_self_eq_true, hrs, H, kcl, kex, knm, mo_b_t hi, mo_b_t he, mo_b_t hf, hfm, w3, w4, hop, l5, nI_1, nI_add, mo_LC, z1, z4', mo_ME, mo_u_a, mo_z_a, mo_y_a, Nat.add_left_cancel_iff]
                  exact fin
        · have kM := fun Q => L_mAtX (d := d + 197) hs hc hf Q
          have kn := fun Q => L_isNameX (d := d + 198) (μ := μ) hf Q
          simp only [we70_0, we70_1, en70, true_and, and_true, if_false, if_true, not_true_eq_false, not_false_eq_true, false_implies, true_implies, implies_true, forall_const, true_or, or_true, false_or, or_false, false_and, and_false, eq_self_iff_true, Option.toList_some, Option.toList_none, List.cons_append, List.nil_append, mo_cat_0, mo_cat_c, mo_ct_i, mo_ct_l, mo_ct_r, mo_ct_n, mo_ct_f, Nat.zero_le, Nat.reduceAdd, Nat.reduceLeDiff, Nat.reduceLT, Nat.reduceEqDiff, Nat.reduceSub, mo_rf_s, mo_rf_n, reduceCtorEq, mo_st, mo_st2, mo_lg_0, mo_lg_s, List.set_cons_zero, List.set_cons_succ, List.length_cons, List.length_nil, List.getElem?_cons_zero, List.getElem?_cons_succ, Nat.reduceBEq, Bool.false_eq_true, beq_self_eq_true, hs', k1, ke, mo_b_t he, y1, hfm, kM, kn, mo_LC, mo_ME, mo_u_a, mo_z_a, mo_y_a, Nat.add_left_cancel_iff]
          refine ⟨_, rfl, sc_rf _ _, ?_⟩
          generalize x + 28 = r at hr ⊢; have hrs := hr.1; unfold r_sh at hrs; have H := r_rd hr; have kcl := fun i Q => R_isC (d := d + 198) hr hnc hnc8 i Q; have kex := fun i Q => R_isExp (d := d + 198) hr.1 (H.1.trans hne) (by omega) i Q; have knm := fun i Q => R_isN (d := d + 198) (μ := μ) i Q
          simp only [we93_0, we93_1, we93_2, en93, true_and, and_true, if_false, if_true, not_true_eq_false, not_false_eq_true, false_implies, true_implies, implies_true, forall_const, true_or, or_true, false_or, or_false, false_and, and_false, eq_self_iff_true, Option.toList_some, Option.toList_none, List.cons_append, List.nil_append, mo_cat_0, mo_cat_c, mo_ct_i, mo_ct_l, mo_ct_r, mo_ct_n, mo_ct_f, Nat.zero_le, Nat.reduceAdd, Nat.reduceLeDiff, Nat.reduceLT, Nat.reduceEqDiff, Nat.reduceSub, mo_rf_s, mo_rf_n, reduceCtorEq, mo_st, mo_st2, mo_lg_0, mo_lg_s, List.set_cons_zero, List.set_cons_succ, List.length_cons, List.length_nil, List.getElem?_cons_zero, List.getElem?_cons_succ, Nat.reduceBEq, Bool.false_eq_true, beq_self_eq_true, hrs, H, kcl, kex, knm, mo_b_t hi, mo_b_t he, mo_b_f hf, hfm, mo_LC, mo_ME, mo_u_a, mo_z_a, mo_y_a, Nat.add_left_cancel_iff]
          exact fin
    · simp only [we70_0, we70_1, en70, true_and, and_true, if_false, if_true, not_true_eq_false, not_false_eq_true, false_implies, true_implies, implies_true, forall_const, true_or, or_true, false_or, or_false, false_and, and_false, eq_self_iff_true, Option.toList_some, Option.toList_none, List.cons_append, List.nil_append, mo_cat_0, mo_cat_c, mo_ct_i, mo_ct_l, mo_ct_r, mo_ct_n, mo_ct_f, Nat.zero_le, Nat.reduceAdd, Nat.reduceLeDiff, Nat.reduceLT, Nat.reduceEqDiff, Nat.reduceSub, mo_rf_s, mo_rf_n, reduceCtorEq, mo_st, mo_st2, mo_lg_0, mo_lg_s, List.set_cons_zero, List.set_cons_succ, List.length_cons, List.length_nil, List.getElem?_cons_zero, List.getElem?_cons_succ, Nat.reduceBEq, Bool.false_eq_true, beq_self_eq_true, hs', k1, ke, mo_b_f he, y1, mo_LC, mo_ME, mo_u_a, mo_z_a, mo_y_a, Nat.add_left_cancel_iff]
      refine ⟨_, rfl, sc_rf _ _, ?_⟩
      generalize x + 28 = r at hr ⊢; have hrs := hr.1; unfold r_sh at hrs; have H := r_rd hr; have kcl := fun i Q => R_isC (d := d + 198) hr hnc hnc8 i Q; have kex := fun i Q => R_isExp (d := d + 198) hr.1 (H.1.trans hne) (by omega) i Q; have knm := fun i Q => R_isN (d := d + 198) (μ := μ) i Q
      by_cases hf1 : f = -1
      · simp only [we93_0, we93_1, we93_2, en93, true_and, and_true, if_false, if_true, not_true_eq_false, not_false_eq_true, false_implies, true_implies, implies_true, forall_const, true_or, or_true, false_or, or_false, false_and, and_false, eq_self_iff_true, Option.toList_some, Option.toList_none, List.cons_append, List.nil_append, mo_cat_0, mo_cat_c, mo_ct_i, mo_ct_l, mo_ct_r, mo_ct_n, mo_ct_f, Nat.zero_le, Nat.reduceAdd, Nat.reduceLeDiff, Nat.reduceLT, Nat.reduceEqDiff, Nat.reduceSub, mo_rf_s, mo_rf_n, reduceCtorEq, mo_st, mo_st2, mo_lg_0, mo_lg_s, List.set_cons_zero, List.set_cons_succ, List.length_cons, List.length_nil, List.getElem?_cons_zero, List.getElem?_cons_succ, Nat.reduceBEq, Bool.false_eq_true, beq_self_eq_true, hrs, kcl, kex, knm, mo_b_t hi, mo_b_f he, hf1, mo_LC, mo_ME, mo_u_a, mo_z_a, mo_y_a, Nat.add_left_cancel_iff]
        exact fin
      · by_cases hf : vp_in f 4
        · simp only [we93_0, we93_1, we93_2, en93, true_and, and_true, if_false, if_true, not_true_eq_false, not_false_eq_true, false_implies, true_implies, implies_true, forall_const, true_or, or_true, false_or, or_false, false_and, and_false, eq_self_iff_true, Option.toList_some, Option.toList_none, List.cons_append, List.nil_append, mo_cat_0, mo_cat_c, mo_ct_i, mo_ct_l, mo_ct_r, mo_ct_n, mo_ct_f, Nat.zero_le, Nat.reduceAdd, Nat.reduceLeDiff, Nat.reduceLT, Nat.reduceEqDiff, Nat.reduceSub, mo_rf_s, mo_rf_n, reduceCtorEq, mo_st, mo_st2, mo_lg_0, mo_lg_s, List.set_cons_zero, List.set_cons_succ, List.length_cons, List.length_nil, List.getElem?_cons_zero, List.getElem?_cons_succ, Nat.reduceBEq, Bool.false_eq_true, beq_self_eq_true, hrs, kcl, kex, knm, mo_b_t hi, mo_b_f he, mo_b_t hf, hf1, mo_LC, mo_ME, mo_u_a, mo_z_a, mo_y_a, Nat.add_left_cancel_iff]
          exact fin
        · simp only [we93_0, we93_1, we93_2, en93, true_and, and_true, if_false, if_true, not_true_eq_false, not_false_eq_true, false_implies, true_implies, implies_true, forall_const, true_or, or_true, false_or, or_false, false_and, and_false, eq_self_iff_true, Option.toList_some, Option.toList_none, List.cons_append, List.nil_append, mo_cat_0, mo_cat_c, mo_ct_i, mo_ct_l, mo_ct_r, mo_ct_n, mo_ct_f, Nat.zero_le, Nat.reduceAdd, Nat.reduceLeDiff, Nat.reduceLT, Nat.reduceEqDiff, Nat.reduceSub, mo_rf_s, mo_rf_n, reduceCtorEq, mo_st, mo_st2, mo_lg_0, mo_lg_s, List.set_cons_zero, List.set_cons_succ, List.length_cons, List.length_nil, List.getElem?_cons_zero, List.getElem?_cons_succ, Nat.reduceBEq, Bool.false_eq_true, beq_self_eq_true, hrs, kcl, kex, knm, mo_b_t hi, mo_b_f he, mo_b_f hf, hf1, mo_LC, mo_ME, mo_u_a, mo_z_a, mo_y_a, Nat.add_left_cancel_iff]
          exact fin
  · have k1 := fun Q => L_tyI (d := d + 198) hs hi Q
    simp only [we70_0, we70_1, en70, true_and, and_true, if_false, if_true, not_true_eq_false, not_false_eq_true, false_implies, true_implies, implies_true, forall_const, true_or, or_true, false_or, or_false, false_and, and_false, eq_self_iff_true, Option.toList_some, Option.toList_none, List.cons_append, List.nil_append, mo_cat_0, mo_cat_c, mo_ct_i, mo_ct_l, mo_ct_r, mo_ct_n, mo_ct_f, Nat.zero_le, Nat.reduceAdd, Nat.reduceLeDiff, Nat.reduceLT, Nat.reduceEqDiff, Nat.reduceSub, mo_rf_s, mo_rf_n, reduceCtorEq, mo_st, mo_st2, mo_lg_0, mo_lg_s, List.set_cons_zero, List.set_cons_succ, List.length_cons, List.length_nil, List.getElem?_cons_zero, List.getElem?_cons_succ, Nat.reduceBEq, Bool.false_eq_true, beq_self_eq_true, hs', k1, mo_ME, mo_u_a, mo_z_a, mo_y_a, Nat.add_left_cancel_iff]
    refine ⟨_, rfl, sc_rf _ _, ?_⟩
    generalize x + 28 = r at hr ⊢; have hrs := hr.1; unfold r_sh at hrs; have H := r_rd hr; have kcl := fun i Q => R_isC (d := d + 198) hr hnc hnc8 i Q; have kex := fun i Q => R_isExp (d := d + 198) hr.1 (H.1.trans hne) (by omega) i Q; have knm := fun i Q => R_isN (d := d + 198) (μ := μ) i Q
    by_cases hf1 : f = -1
    · simp only [we93_0, we93_1, we93_2, en93, true_and, and_true, if_false, if_true, not_true_eq_false, not_false_eq_true, false_implies, true_implies, implies_true, forall_const, true_or, or_true, false_or, or_false, false_and, and_false, eq_self_iff_true, Option.toList_some, Option.toList_none, List.cons_append, List.nil_append, mo_cat_0, mo_cat_c, mo_ct_i, mo_ct_l, mo_ct_r, mo_ct_n, mo_ct_f, Nat.zero_le, Nat.reduceAdd, Nat.reduceLeDiff, Nat.reduceLT, Nat.reduceEqDiff, Nat.reduceSub, mo_rf_s, mo_rf_n, reduceCtorEq, mo_st, mo_st2, mo_lg_0, mo_lg_s, List.set_cons_zero, List.set_cons_succ, List.length_cons, List.length_nil, List.getElem?_cons_zero, List.getElem?_cons_succ, Nat.reduceBEq, Bool.false_eq_true, beq_self_eq_true, hrs, kcl, knm, mo_b_f hi, hf1, mo_LC, mo_ME, mo_u_a, mo_z_a, mo_y_a, Nat.add_left_cancel_iff]
      exact fin
    · by_cases hf : vp_in f 4
      · simp only [we93_0, we93_1, we93_2, en93, true_and, and_true, if_false, if_true, not_true_eq_false, not_false_eq_true, false_implies, true_implies, implies_true, forall_const, true_or, or_true, false_or, or_false, false_and, and_false, eq_self_iff_true, Option.toList_some, Option.toList_none, List.cons_append, List.nil_append, mo_cat_0, mo_cat_c, mo_ct_i, mo_ct_l, mo_ct_r, mo_ct_n, mo_ct_f, Nat.zero_le, Nat.reduceAdd, Nat.reduceLeDiff, Nat.reduceLT, Nat.reduceEqDiff, Nat.reduceSub, mo_rf_s, mo_rf_n, reduceCtorEq, mo_st, mo_st2, mo_lg_0, mo_lg_s, List.set_cons_zero, List.set_cons_succ, List.length_cons, List.length_nil, List.getElem?_cons_zero, List.getElem?_cons_succ, Nat.reduceBEq, Bool.false_eq_true, beq_self_eq_true, hrs, kcl, knm, mo_b_f hi, mo_b_t hf, hf1, mo_LC, mo_ME, mo_u_a, mo_z_a, mo_y_a, Nat.add_left_cancel_iff]
        exact fin
      · simp only [we93_0, we93_1, we93_2, en93, true_and, and_true, if_false, if_true, not_true_eq_false, not_false_eq_true, false_implies, true_implies, implies_true, forall_const, true_or, or_true, false_or, or_false, false_and, and_false, eq_self_iff_true, Option.toList_some, Option.toList_none, List.cons_append, List.nil_append, mo_cat_0, mo_cat_c, mo_ct_i, mo_ct_l, mo_ct_r, mo_ct_n, mo_ct_f, Nat.zero_le, Nat.reduceAdd, Nat.reduceLeDiff, Nat.reduceLT, Nat.reduceEqDiff, Nat.reduceSub, mo_rf_s, mo_rf_n, reduceCtorEq, mo_st, mo_st2, mo_lg_0, mo_lg_s, List.set_cons_zero, List.set_cons_succ, List.length_cons, List.length_nil, List.getElem?_cons_zero, List.getElem?_cons_succ, Nat.reduceBEq, Bool.false_eq_true, beq_self_eq_true, hrs, kcl, knm, mo_b_f hi, mo_b_f hf, hf1, mo_LC, mo_ME, mo_u_a, mo_z_a, mo_y_a, Nat.add_left_cancel_iff]
        exact fin
