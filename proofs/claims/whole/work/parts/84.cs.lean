theorem dy_la {x no b q : Nat} {B A : mo_A} {G : c_G} {O : Nat → Nat} {μ : mo_Mem} (h : c_dy x B G 0 0 0 μ A O no b q) (v : Int64) : c_dy x B G 0 0 0 (mo_wL μ 706 x v) (a_L A 26 0 v) O no b q := by
  obtain ⟨d1, d2, d3, d4, d5, d6, d7, d8, d9, d10, d11, d12, d13, d14, d15, d16, d17, d18, d19, d20, d21, d22, d23, d24, d25⟩ := h
  have el : ∀ j i, j ≠ 26 → (a_L A 26 0 v).2 j i = A.2 j i := fun j i hj => by rw [a_L_2, if_neg (fun z => hj z.1)]
  have ef : ∀ j, j ≠ 26 → (a_L A 26 0 v).2 j = A.2 j := fun j hj => funext fun i => el j i hj
  refine ⟨fun j hj => ⟨(d1 j hj).1, (ef j (by omega)).trans (d1 j hj).2⟩, d2, d3, d4, d5, d6, d7, d8, d9, d10, d11, d12, d13, d14, d15, d16, d17, d18, d19, d20, d21, ?_, ?_, fun o ho => ?_, ?_⟩
  · simp only [mo_ME, mo_u_a, a_L_2, and_self, if_true]
  · exact lg_k d23 rfl rfl rfl rfl rfl (ef 23 (by decide)) rfl rfl
  · obtain ⟨c, t1, t2, t3, t4, t5, t6, t7, t8, t9, t10, t11, t12, t13, t14, t15, t16⟩ := d24 o ho
    exact ⟨c, t1, t2, t3, t4, t5, t6, t7, t8, t9, t10, t11, t12, t13, t14, t15, by rw [ef 20 (by decide), ef 21 (by decide)]; exact t16⟩
  · unfold c_fz
    rw [ef 20 (by decide), ef 21 (by decide)]
    exact d25
theorem st_la {x : Nat} {B : mo_A} {G : c_G} {μ : mo_Mem} (h : c_st x B G μ) (v : Int64) : c_st x B G (mo_wL μ 706 x v) := by
  obtain ⟨h1, h2, h3, p1, p2, p3, p4, p5, p6, p7, p8⟩ := h
  refine ⟨h1, h2, h3, p1, p2, fun e he => ?_, p4, p5, p6, p7, p8⟩
  obtain ⟨z1, z2, z3, z4⟩ := p3 e he
  refine ⟨z1, z2, z3, ex_sm z4 rfl (fun k => ⟨rfl, ?_⟩) rfl rfl rfl rfl⟩
  simp only [mo_ME, mo_u_a]
  rw [if_neg (by omega)]
theorem O_call {x s0 k d bs : Nat} {μ : mo_Mem} {Q : mo_Mem → Prop} (hiv : c_iv x s0 k μ) (hb : bs < x) (hQ : ∀ μ', c_iv x s0 (k + 1) μ' → c_sc bs μ μ' → Q μ') (i f : Int32) (g : Int64) : c_qI x (d + 200) 72 113 bs [.int i, .int f, .long g] μ Q := by
  have hiv0 := hiv; obtain ⟨A, G, O, no, b, q, hs, hd, hr, hst, hX, hS⟩ := hiv0; have fin : Q μ := hQ μ (iv_up hiv) (sc_rf _ _); have hno := hd.2.2.1; have hno1 := hd.2.2.2.1; have hne := hs.2.2.1.2.2.1; have hne60 := hs.2.2.1.1; have hnc := hs.2.2.1.2.2.2.1; have hnc8 := hs.2.2.1.2.1; have hpw := hs.2.2.1.2.2.2.2.1; have hs' := hs.1.1; unfold cl_sf at hs'; have hd2 := hd.2.1; have hrs := hr.1
  unfold c_qI
  by_cases hi : vp_in i no
  · obtain ⟨o, ho, rfl⟩ := vp_ex (by omega) hi
    have k1 := fun Q => L_th (d := d + 198) hs hd ho Q
    obtain ⟨c0, t⟩ := hd.2.2.2.2.2.2.2.2.2.2.2.2.2.2.2.2.2.2.2.2.2.2.2.1 o ho
    have tt := t
    obtain ⟨t1, t2, t3, t4, t5, t6, t7, t8, t9, t10, t11, t12, t13, t14, t15, t16⟩ := tt
    have w1 : (nI o < 0) = False := i_ng (by omega)
    have w2 : (nI o < nI no) = True := i_lt ho (by omega)
    have w3 : vp_in (nI o) 100 := vp_in_nI (by omega) (by decide)
    have w4 : (nI o).toNatClampNeg = o := nI_clamp (by omega)
    by_cases hf : vp_in f 4
    · obtain ⟨nm, hnm, rfl⟩ := vp_ex (by decide) hf
      have kn := fun Q => L_isName (d := d + 198) (μ := μ) hnm Q
      by_cases hmd : A.1 19 o = 1
      · rw [if_pos hmd] at t15
        have k48 := fun Q => L_restart (d := d + 198) hs.1.1 Q
        have kmr := km_rs x 0 0 μ
        have hs1 := c_st_k hs kmr.1
        have hd1 := dy_rs hd
        have hs1' := hs1.1.1
        unfold cl_sf at hs1'
        obtain ⟨e1, e2, e27, e37, e38, e39, e40, e41, e42, e43, e36⟩ := b0A A
        have t1' := c_th_c hnc8 (hd1.2.2.2.2.2.2.2.2.2.2.2.2.2.2.2.2.2.2.2.2.2.2.2.1 o ho) (by rw [e1 18 (by decide)]; exact t2) t1
        have t6' := t1'.2.2.2.2.2.1
        have t8' := t1'.2.2.2.2.2.2.2.1
        have y0' := (hs1.2.2.2.2.2.2.1 c0 t1).2.1
        have k62 := fun Q => L_near (d := d + 196) hs1 hnm t1 Q
        have hXe : mo_X (m_rs x μ) = mo_X μ := by simp only [m_rs, mo_ME]
        have hSe : mo_S (m_rs x μ) = mo_S μ := by simp only [m_rs, mo_ME]
        have hlk0 : a_lk A (a_b0 A) := hd1.1
        cases hnr : a_near A 8 c0 nm with
        | none =>
          rw [hnr, Option.map_none, mo_rf_n] at k62
          have k0 := fun g Q => L_rm0 (d := d + 197) (t := O o) (q := 0) hs1.1.1 hd1.2.2.2.2.2.2.2.2.2.2.2.2.2.2.2.2.1 (by decide) (nI nm) g Q
          have hkf := km_fl x 0 0 (m_rs x μ) 0 1
          have hs2 := c_st_k hs1 hkf.1
          have hs2' := hs2.1.1
          obtain ⟨-, hd2'⟩ := dy_fl (w := 1) hd1 e37 (F' := 0) e27
          have e517 : mo_I (m_fl x (m_rs x μ) 0 1) 517 (x + 9) = 1 := by rw [hd2'.2.2.2.2.2.2.2.2.2.2.2.2.2.2.2.2.2.2.2.1]; rfl
          have kf := fun Q => L_failed (d := d + 198) hs2.1.1 (t := 1) e517 Q
          unfold cl_sf at hs2'
          have hr2 := cl_r_k hr hs.2.1 (cl_k_tr kmr.1 hkf.1)
          have hXf : mo_X (m_fl x (m_rs x μ) 0 1) = mo_X μ := by rw [hkf.2.1]; exact hXe
          have hSf : mo_S (m_fl x (m_rs x μ) 0 1) = mo_S μ := by rw [hkf.2.2.1]; exact hSe
          have hsc := sc_k (cl_k_tr kmr.1 hkf.1) hb hs.2.1
          have eA : a_fl (a_b0 A) 0 1 = a_I (a_I (a_b0 A) 39 0 (nI 1)) 37 0 1 := rfl
          rw [eA] at hd2'
          simp only [we72_0, we72_1, en72, true_and, and_true, if_false, if_true, not_true_eq_false, not_false_eq_true, false_implies, true_implies, implies_true, forall_const, true_or, or_true, false_or, or_false, false_and, and_false, eq_self_iff_true, Option.toList_some, Option.toList_none, List.cons_append, List.nil_append, mo_cat_0, mo_cat_c, mo_ct_i, mo_ct_l, mo_ct_r, mo_ct_n, mo_ct_f, Nat.zero_le, Nat.reduceAdd, Nat.reduceLeDiff, Nat.reduceLT, Nat.reduceEqDiff, Nat.reduceSub, mo_rf_s, mo_rf_n, reduceCtorEq, mo_st, mo_st2, mo_lg_0, mo_lg_s, List.set_cons_zero, List.set_cons_succ, List.length_cons, List.length_nil, List.getElem?_cons_zero, List.getElem?_cons_succ, Nat.reduceBEq, Bool.false_eq_true, beq_self_eq_true, hs', k1, t6, t15, kn, k48, hs1', t6', t8', y0', k62, k0, mo_LC, mo_ME, mo_u_a, mo_z_a, mo_y_a, Nat.add_left_cancel_iff]
          generalize m_fl x (m_rs x μ) 0 1 = ν at *
          simp only [we72_0, we72_1, en72, true_and, and_true, if_false, if_true, not_true_eq_false, not_false_eq_true, false_implies, true_implies, implies_true, forall_const, true_or, or_true, false_or, or_false, false_and, and_false, eq_self_iff_true, Option.toList_some, Option.toList_none, List.cons_append, List.nil_append, mo_cat_0, mo_cat_c, mo_ct_i, mo_ct_l, mo_ct_r, mo_ct_n, mo_ct_f, Nat.zero_le, Nat.reduceAdd, Nat.reduceLeDiff, Nat.reduceLT, Nat.reduceEqDiff, Nat.reduceSub, mo_rf_s, mo_rf_n, reduceCtorEq, mo_st, mo_st2, mo_lg_0, mo_lg_s, List.set_cons_zero, List.set_cons_succ, List.length_cons, List.length_nil, List.getElem?_cons_zero, List.getElem?_cons_succ, Nat.reduceBEq, Bool.false_eq_true, beq_self_eq_true, hs2', kf, e517, mo_LC, mo_ME, mo_u_a, mo_z_a, mo_y_a, Nat.add_left_cancel_iff]
          refine ⟨_, rfl, hsc, ?_⟩
          refine R_call0 (d := d + 189) hr2 hnc8 hpw hno hno1 ho hnm hmd t2 t1 hnr g _ (fun ν' z1 z2 => ⟨rfl, ?_⟩)
          have lk : a_lk A (a_I (a_I (a_b0 A) 39 0 (nI 1)) 37 0 1) := hd2'.1
          refine hQ ν' ⟨_, G, O, no, 0, 0 + 1, st_lk lk (st_fc hs2 z2), dy_lk lk (dy_fc hd2' z2), z1, fun o' ho' => ?_, ?_, ?_⟩ (sc_tr hsc (sc_fc z2 hb))
          · rw [a_I_n (by decide), a_I_n (by decide), e1 19 (by decide)]; exact hst o' ho'
          · rw [z2.2.2.2.2.1, hXf]; omega
          · rw [z2.2.2.2.2.2.1, hSf]; omega
        | some k' =>
          rw [hnr, Option.map_some, mo_rf_s] at k62
          obtain ⟨n1, n2, n3⟩ := near_b hnc8 hpw 8 c0 (by omega) (Nat.le_refl _) t1 hnr
          have y1' := (hs1.2.2.2.2.2.2.1 k' n3).2.1
          simp only [we72_0, we72_1, en72, true_and, and_true, if_false, if_true, not_true_eq_false, not_false_eq_true, false_implies, true_implies, implies_true, forall_const, true_or, or_true, false_or, or_false, false_and, and_false, eq_self_iff_true, Option.toList_some, Option.toList_none, List.cons_append, List.nil_append, mo_cat_0, mo_cat_c, mo_ct_i, mo_ct_l, mo_ct_r, mo_ct_n, mo_ct_f, Nat.zero_le, Nat.reduceAdd, Nat.reduceLeDiff, Nat.reduceLT, Nat.reduceEqDiff, Nat.reduceSub, mo_rf_s, mo_rf_n, reduceCtorEq, mo_st, mo_st2, mo_lg_0, mo_lg_s, List.set_cons_zero, List.set_cons_succ, List.length_cons, List.length_nil, List.getElem?_cons_zero, List.getElem?_cons_succ, Nat.reduceBEq, Bool.false_eq_true, beq_self_eq_true, hs', k1, t6, t15, kn, k48, hs1', t6', t8', y0', y1', k62, mo_LC, mo_ME, mo_u_a, mo_z_a, mo_y_a, Nat.add_left_cancel_iff]
          refine c_rm0 (x := x) (d := d + 105) (B := A) (G := G) (m_rs x μ) (a_b0 A) O no 0 0 0 0 k' nm o g _ _ hs1 hd1 e37 n3 hnm (by rw [n2]; decide) ho ⟨c0, by rw [e1 18 (by decide)]; exact t2, t1, n1⟩ (by decide) (Or.inl ⟨by decide, 0, e41, rfl⟩) ?_
          intro v μ2 A2 O2 no2 b2 q2 k1 k2 k3 k4
          have hs2 := c_st_k hs1 k3.1
          have hs2' := hs2.1.1
          have hd2' := k1
          obtain ⟨j1, j2, j3, j4, j5, j6, j7, j8, j9, j10, j11, j12, j13, j14, j15, j16, j17, j18, j19, j20, j21, j22, j23, j24, j25⟩ := hd2'
          have hck : cl_k x μ μ2 := cl_k_tr kmr.1 k3.1
          have hr2 := cl_r_k hr hs.2.1 hck
          have hXX := k3.2.2.2.2.2.2.2.2.1
          have hSS := k3.2.2.2.2.2.2.2.2.2.1
          rw [hXe] at hXX
          rw [hSe] at hSS
          have hst2 : ∀ o', o' < no2 → A2.1 19 o' = 1 ∨ A2.1 19 o' = 2 := by
            intro o' ho'
            by_cases hlt : o' < no
            · rw [(k3.2.2.2.1 o' hlt).2.2, e1 19 (by decide)]; exact hst o' hlt
            · exact k3.2.2.2.2.1 o' (by omega) ho'
          have kf := fun Q => L_failed (d := d + 198) hs2.1.1 j20 Q
          unfold cl_sf at hs2'
          by_cases hfy : A2.1 37 0 = 0
          · rw [if_pos hfy] at kf
            have hv := k4 hfy
            subst hv
            have hs3 := st_la hs2 (A2.2 36 0)
            have hd3 := dy_la k1 (A2.2 36 0)
            have lk : a_lk A (a_L A2 26 0 (A2.2 36 0)) := hd3.1
            have hr3 : r_at (x + 28) (mo_wL μ2 706 x (A2.2 36 0)) A := r_ot hr2 (fun a h1 h2 => by
              refine ⟨by simp only [mo_ME], by simp only [mo_ME], fun k => ⟨by simp only [mo_ME], by simp only [mo_ME], ?_⟩, by simp only [mo_ME], by simp only [mo_ME]⟩
              simp only [mo_ME, mo_u_a]
              rw [if_neg (by omega)])
            have hm := R_call (d := d + 189) (A2 := A2) hr3 hnc8 hpw hno hno1 ho hnm hmd t2 t1 hnr g k2 j10 (fun r2 μ2 => r2 = some (.int 0) ∧ Q μ2) (fun z => absurd hfy z) (fun _ ν' z1 z2 => ⟨rfl, hQ ν' ⟨_, G, O2, no2, b2, q2, st_lk lk (st_fc hs3 z2), dy_lk lk (dy_fc hd3 z2), z1, fun o' ho' => hst2 o' ho', by rw [z2.2.2.2.2.1]; simp only [mo_ME]; omega, by rw [z2.2.2.2.2.2.1]; simp only [mo_ME]; omega⟩ (sc_tr (sc_k hck hb hs.2.1) (sc_tr (show c_sc bs μ2 (mo_wL μ2 706 x (A2.2 36 0)) from ⟨by simp only [mo_ME], by simp only [mo_ME], by simp only [mo_ME], fun a _ => by simp only [mo_ME], by simp only [mo_ME]; exact Nat.le_refl _⟩) (sc_fc z2 hb)))⟩)
            simp only [we72_0, we72_1, en72, true_and, and_true, if_false, if_true, not_true_eq_false, not_false_eq_true, false_implies, true_implies, implies_true, forall_const, true_or, or_true, false_or, or_false, false_and, and_false, eq_self_iff_true, Option.toList_some, Option.toList_none, List.cons_append, List.nil_append, mo_cat_0, mo_cat_c, mo_ct_i, mo_ct_l, mo_ct_r, mo_ct_n, mo_ct_f, Nat.zero_le, Nat.reduceAdd, Nat.reduceLeDiff, Nat.reduceLT, Nat.reduceEqDiff, Nat.reduceSub, mo_rf_s, mo_rf_n, reduceCtorEq, mo_st, mo_st2, mo_lg_0, mo_lg_s, List.set_cons_zero, List.set_cons_succ, List.length_cons, List.length_nil, List.getElem?_cons_zero, List.getElem?_cons_succ, Nat.reduceBEq, Bool.false_eq_true, beq_self_eq_true, hs2', kf, mo_LC, mo_ME, mo_u_a, mo_z_a, mo_y_a, Nat.add_left_cancel_iff]
            exact ⟨_, rfl, (sc_tr (sc_k hck hb hs.2.1) (show c_sc bs μ2 (mo_wL μ2 706 x (A2.2 36 0)) from ⟨by simp only [mo_ME], by simp only [mo_ME], by simp only [mo_ME], fun a _ => by simp only [mo_ME], by simp only [mo_ME]; exact Nat.le_refl _⟩)), hm⟩
          · rw [if_neg hfy] at kf
            have lk : a_lk A A2 := j1
            have hm := R_call (d := d + 189) (A2 := A2) hr2 hnc8 hpw hno hno1 ho hnm hmd t2 t1 hnr g k2 j10 (fun r2 μ2 => r2 = some (.int (-10 - A2.1 37 0)) ∧ Q μ2) (fun _ ν' z1 z2 => ⟨rfl, hQ ν' ⟨_, G, O2, no2, b2, q2, st_lk lk (st_fc hs2 z2), dy_lk lk (dy_fc k1 z2), z1, hst2, by rw [z2.2.2.2.2.1]; omega, by rw [z2.2.2.2.2.2.1]; omega⟩ (sc_tr (sc_k hck hb hs.2.1) (sc_fc z2 hb))⟩) (fun z => absurd z hfy)
            simp only [we72_0, we72_1, en72, true_and, and_true, if_false, if_true, not_true_eq_false, not_false_eq_true, false_implies, true_implies, implies_true, forall_const, true_or, or_true, false_or, or_false, false_and, and_false, eq_self_iff_true, Option.toList_some, Option.toList_none, List.cons_append, List.nil_append, mo_cat_0, mo_cat_c, mo_ct_i, mo_ct_l, mo_ct_r, mo_ct_n, mo_ct_f, Nat.zero_le, Nat.reduceAdd, Nat.reduceLeDiff, Nat.reduceLT, Nat.reduceEqDiff, Nat.reduceSub, mo_rf_s, mo_rf_n, reduceCtorEq, mo_st, mo_st2, mo_lg_0, mo_lg_s, List.set_cons_zero, List.set_cons_succ, List.length_cons, List.length_nil, List.getElem?_cons_zero, List.getElem?_cons_succ, Nat.reduceBEq, Bool.false_eq_true, beq_self_eq_true, hs2', kf, j20, mo_LC, mo_ME, mo_u_a, mo_z_a, mo_y_a, Nat.add_left_cancel_iff]
            exact ⟨_, rfl, sc_k hck hb hs.2.1, hm⟩
      · rw [if_neg hmd] at t15
        simp only [we72_0, we72_1, en72, true_and, and_true, if_false, if_true, not_true_eq_false, not_false_eq_true, false_implies, true_implies, implies_true, forall_const, true_or, or_true, false_or, or_false, false_and, and_false, eq_self_iff_true, Option.toList_some, Option.toList_none, List.cons_append, List.nil_append, mo_cat_0, mo_cat_c, mo_ct_i, mo_ct_l, mo_ct_r, mo_ct_n, mo_ct_f, Nat.zero_le, Nat.reduceAdd, Nat.reduceLeDiff, Nat.reduceLT, Nat.reduceEqDiff, Nat.reduceSub, mo_rf_s, mo_rf_n, reduceCtorEq, mo_st, mo_st2, mo_lg_0, mo_lg_s, List.set_cons_zero, List.set_cons_succ, List.length_cons, List.length_nil, List.getElem?_cons_zero, List.getElem?_cons_succ, Nat.reduceBEq, Bool.false_eq_true, beq_self_eq_true, hs', k1, t6, t15, kn, mo_LC, mo_ME, mo_u_a, mo_z_a, mo_y_a, Nat.add_left_cancel_iff]
        refine ⟨_, rfl, sc_rf _ _, ?_⟩
        generalize x + 28 = r at hr ⊢; have hrs := hr.1; unfold r_sh at hrs; have H := r_rd hr; have kcl := fun i Q => R_isC (d := d + 198) hr hnc hnc8 i Q
        have kn' := fun Q => R_isN (d := d + 198) (μ := μ) (nI nm) Q
        rw [mo_b_t hf] at kn'
        simp only [we113_0, we113_1, en113, true_and, and_true, if_false, if_true, not_true_eq_false, not_false_eq_true, false_implies, true_implies, implies_true, forall_const, true_or, or_true, false_or, or_false, false_and, and_false, eq_self_iff_true, Option.toList_some, Option.toList_none, List.cons_append, List.nil_append, mo_cat_0, mo_cat_c, mo_ct_i, mo_ct_l, mo_ct_r, mo_ct_n, mo_ct_f, Nat.zero_le, Nat.reduceAdd, Nat.reduceLeDiff, Nat.reduceLT, Nat.reduceEqDiff, Nat.reduceSub, mo_rf_s, mo_rf_n, reduceCtorEq, mo_st, mo_st2, mo_lg_0, mo_lg_s, List.set_cons_zero, List.set_cons_succ, List.length_cons, List.length_nil, List.getElem?_cons_zero, List.getElem?_cons_succ, Nat.reduceBEq, Bool.false_eq_true, beq_self_eq_true, hrs, H, hno, w1, w2, w3, w4, kn', hmd, mo_LC, mo_ME, mo_u_a, mo_z_a, mo_y_a, Nat.add_left_cancel_iff]
        exact fin
    · have kn := fun Q => L_isNameX (d := d + 198) (μ := μ) hf Q
      simp only [we72_0, we72_1, en72, true_and, and_true, if_false, if_true, not_true_eq_false, not_false_eq_true, false_implies, true_implies, implies_true, forall_const, true_or, or_true, false_or, or_false, false_and, and_false, eq_self_iff_true, Option.toList_some, Option.toList_none, List.cons_append, List.nil_append, mo_cat_0, mo_cat_c, mo_ct_i, mo_ct_l, mo_ct_r, mo_ct_n, mo_ct_f, Nat.zero_le, Nat.reduceAdd, Nat.reduceLeDiff, Nat.reduceLT, Nat.reduceEqDiff, Nat.reduceSub, mo_rf_s, mo_rf_n, reduceCtorEq, mo_st, mo_st2, mo_lg_0, mo_lg_s, List.set_cons_zero, List.set_cons_succ, List.length_cons, List.length_nil, List.getElem?_cons_zero, List.getElem?_cons_succ, Nat.reduceBEq, Bool.false_eq_true, beq_self_eq_true, hs', k1, kn, mo_LC, mo_ME, mo_u_a, mo_z_a, mo_y_a, Nat.add_left_cancel_iff]
      refine ⟨_, rfl, sc_rf _ _, ?_⟩
      generalize x + 28 = r at hr ⊢; have hrs := hr.1; unfold r_sh at hrs; have H := r_rd hr; have kcl := fun i Q => R_isC (d := d + 198) hr hnc hnc8 i Q
      have kn' := fun Q => R_isN (d := d + 198) (μ := μ) f Q
      rw [mo_b_f hf] at kn'
      simp only [we113_0, we113_1, en113, true_and, and_true, if_false, if_true, not_true_eq_false, not_false_eq_true, false_implies, true_implies, implies_true, forall_const, true_or, or_true, false_or, or_false, false_and, and_false, eq_self_iff_true, Option.toList_some, Option.toList_none, List.cons_append, List.nil_append, mo_cat_0, mo_cat_c, mo_ct_i, mo_ct_l, mo_ct_r, mo_ct_n, mo_ct_f, Nat.zero_le, Nat.reduceAdd, Nat.reduceLeDiff, Nat.reduceLT, Nat.reduceEqDiff, Nat.reduceSub, mo_rf_s, mo_rf_n, reduceCtorEq, mo_st, mo_st2, mo_lg_0, mo_lg_s, List.set_cons_zero, List.set_cons_succ, List.length_cons, List.length_nil, List.getElem?_cons_zero, List.getElem?_cons_succ, Nat.reduceBEq, Bool.false_eq_true, beq_self_eq_true, hrs, H, hno, w1, w2, kn', mo_LC, mo_ME, mo_u_a, mo_z_a, mo_y_a, Nat.add_left_cancel_iff]
      exact fin
  · have k1 := fun Q => L_thX (d := d + 198) hs hd hi Q
    simp only [we72_0, we72_1, en72, true_and, and_true, if_false, if_true, not_true_eq_false, not_false_eq_true, false_implies, true_implies, implies_true, forall_const, true_or, or_true, false_or, or_false, false_and, and_false, eq_self_iff_true, Option.toList_some, Option.toList_none, List.cons_append, List.nil_append, mo_cat_0, mo_cat_c, mo_ct_i, mo_ct_l, mo_ct_r, mo_ct_n, mo_ct_f, Nat.zero_le, Nat.reduceAdd, Nat.reduceLeDiff, Nat.reduceLT, Nat.reduceEqDiff, Nat.reduceSub, mo_rf_s, mo_rf_n, reduceCtorEq, mo_st, mo_st2, mo_lg_0, mo_lg_s, List.set_cons_zero, List.set_cons_succ, List.length_cons, List.length_nil, List.getElem?_cons_zero, List.getElem?_cons_succ, Nat.reduceBEq, Bool.false_eq_true, beq_self_eq_true, hs', k1, mo_ME, mo_u_a, mo_z_a, mo_y_a, Nat.add_left_cancel_iff]
    refine ⟨_, rfl, sc_rf _ _, ?_⟩
    generalize x + 28 = r at hr ⊢; have hrs := hr.1; unfold r_sh at hrs; have H := r_rd hr; have kcl := fun i Q => R_isC (d := d + 198) hr hnc hnc8 i Q
    rcases vp_o2 (by omega) hi with z | ⟨z1, z2, z3⟩
    · simp only [we113_0, we113_1, en113, true_and, and_true, if_false, if_true, not_true_eq_false, not_false_eq_true, false_implies, true_implies, implies_true, forall_const, true_or, or_true, false_or, or_false, false_and, and_false, eq_self_iff_true, Option.toList_some, Option.toList_none, List.cons_append, List.nil_append, mo_cat_0, mo_cat_c, mo_ct_i, mo_ct_l, mo_ct_r, mo_ct_n, mo_ct_f, Nat.zero_le, Nat.reduceAdd, Nat.reduceLeDiff, Nat.reduceLT, Nat.reduceEqDiff, Nat.reduceSub, mo_rf_s, mo_rf_n, reduceCtorEq, mo_st, mo_st2, mo_lg_0, mo_lg_s, List.set_cons_zero, List.set_cons_succ, List.length_cons, List.length_nil, List.getElem?_cons_zero, List.getElem?_cons_succ, Nat.reduceBEq, Bool.false_eq_true, beq_self_eq_true, hrs, H, hno, z, mo_ME, mo_u_a, mo_z_a, mo_y_a, Nat.add_left_cancel_iff]
      exact fin
    · simp only [we113_0, we113_1, en113, true_and, and_true, if_false, if_true, not_true_eq_false, not_false_eq_true, false_implies, true_implies, implies_true, forall_const, true_or, or_true, false_or, or_false, false_and, and_false, eq_self_iff_true, Option.toList_some, Option.toList_none, List.cons_append, List.nil_append, mo_cat_0, mo_cat_c, mo_ct_i, mo_ct_l, mo_ct_r, mo_ct_n, mo_ct_f, Nat.zero_le, Nat.reduceAdd, Nat.reduceLeDiff, Nat.reduceLT, Nat.reduceEqDiff, Nat.reduceSub, mo_rf_s, mo_rf_n, reduceCtorEq, mo_st, mo_st2, mo_lg_0, mo_lg_s, List.set_cons_zero, List.set_cons_succ, List.length_cons, List.length_nil, List.getElem?_cons_zero, List.getElem?_cons_succ, Nat.reduceBEq, Bool.false_eq_true, beq_self_eq_true, hrs, H, hno, z1, z2, z3, mo_ME, mo_u_a, mo_z_a, mo_y_a, Nat.add_left_cancel_iff]
      exact fin
