theorem O_make {x s0 k d bs : Nat} {μ : mo_Mem} {Q : mo_Mem → Prop} (hiv : c_iv x s0 k μ) (hb : bs < x) (hQ : ∀ μ', c_iv x s0 (k + 1) μ' → c_sc bs μ μ' → Q μ') (i : Int32) (g c0 c1 c2 : Int64) : c_qI x (d + 200) 71 112 bs [.int i, .long g, .long c0, .long c1, .long c2] μ Q := by
  have hiv0 := hiv; obtain ⟨A, G, O, no, b, q, hs, hd, hr, hst, hX, hS⟩ := hiv0; have fin : Q μ := hQ μ (iv_up hiv) (sc_rf _ _); have hno := hd.2.2.1; have hno1 := hd.2.2.2.1; have hne := hs.2.2.1.2.2.1; have hne60 := hs.2.2.1.1; have hnc := hs.2.2.1.2.2.2.1; have hnc8 := hs.2.2.1.2.1; have hpw := hs.2.2.1.2.2.2.2.1; have hs' := hs.1.1; unfold cl_sf at hs'; have hd2 := hd.2.1; have hrs := hr.1
  unfold c_qI
  by_cases hi : vp_in i (gnc G)
  · obtain ⟨c, hc, rfl⟩ := vp_ex (by omega) hi
    have k1 := fun Q => L_ty (d := d + 198) hs hc Q
    have y1 := (hs.2.2.2.2.2.2.1 c hc).2.1
    by_cases hfull : no < 100
    · have g100 : (nI no < Int32.ofNat 100) = True := i_lt (b := 100) hfull (by decide)
      have k48 := fun Q => L_restart (d := d + 198) hs.1.1 Q
      have kmr := km_rs x 0 0 μ
      have hs1 := c_st_k hs kmr.1
      have hd1 := dy_rs hd
      have hs1' := hs1.1.1
      unfold cl_sf at hs1'
      have y1' := (hs1.2.2.2.2.2.2.1 c hc).2.1
      simp only [we71_0, we71_1, we16, en71, en16, true_and, and_true, if_false, if_true, not_true_eq_false, not_false_eq_true, false_implies, true_implies, implies_true, forall_const, true_or, or_true, false_or, or_false, false_and, and_false, eq_self_iff_true, Option.toList_some, Option.toList_none, List.cons_append, List.nil_append, mo_cat_0, mo_cat_c, mo_ct_i, mo_ct_l, mo_ct_r, mo_ct_n, mo_ct_f, Nat.zero_le, Nat.reduceAdd, Nat.reduceLeDiff, Nat.reduceLT, Nat.reduceEqDiff, Nat.reduceSub, mo_rf_s, mo_rf_n, reduceCtorEq, mo_st, mo_st2, mo_lg_0, mo_lg_s, List.set_cons_zero, List.set_cons_succ, List.length_cons, List.length_nil, List.getElem?_cons_zero, List.getElem?_cons_succ, Nat.reduceBEq, Bool.false_eq_true, beq_self_eq_true, hs', k1, y1, hd2, g100, k48, hs1', y1', mo_LC, mo_ME, mo_u_a, mo_z_a, mo_y_a, Nat.add_left_cancel_iff]
      have hXe : mo_X (m_rs x μ) = mo_X μ := by simp only [m_rs, mo_ME]
      have hSe : mo_S (m_rs x μ) = mo_S μ := by simp only [m_rs, mo_ME]
      refine L_build (d := d + 190) g c0 c1 c2 hs1 hc hd1.2.1 hfull ?_
      obtain ⟨⟨np, np1, np2⟩, -⟩ := hs.2.2.1.2.2.2.2.2.2.1 c hc
      obtain ⟨e1, e2, e27, e37, e38, e39, e40, e41, e42, e43, e36⟩ := b0A A
      have hx0 : a_x (17 :: 18 :: 19 :: a_sk) (a_b0 A) (a_n0 (a_b0 A) no c) := ax_I (by decide) (ax_I (by decide) (ax_I (by decide) (ax_rf _ _)))
      have f17 : (a_n0 (a_b0 A) no c).1 17 0 = nI (no + 1) := by simp only [a_n0, a_I_1, Nat.reduceEqDiff, false_and, and_self, if_true, if_false]
      have f18 : ∀ i, (a_n0 (a_b0 A) no c).1 18 i = if i = no then nI c else (a_b0 A).1 18 i := fun i => by simp only [a_n0, a_I_1, Nat.reduceEqDiff, false_and, true_and, if_false]
      have f19 : ∀ i, (a_n0 (a_b0 A) no c).1 19 i = if i = no then 0 else (a_b0 A).1 19 i := fun i => by simp only [a_n0, a_I_1, Nat.reduceEqDiff, false_and, true_and, if_false]
      have f27 : (a_n0 (a_b0 A) no c).1 27 0 = nI 0 := by simp only [a_n0, a_I_1, Nat.reduceEqDiff, false_and, if_false]; exact e27
      have f37 : (a_n0 (a_b0 A) no c).1 37 0 = 0 := by simp only [a_n0, a_I_1, Nat.reduceEqDiff, false_and, if_false]; exact e37
      have f41 : (a_n0 (a_b0 A) no c).1 41 0 = nI 0 := by simp only [a_n0, a_I_1, Nat.reduceEqDiff, false_and, if_false]; exact e41
      have hdn := dy_nt (A' := a_n0 (a_b0 A) no c) hs1 hd1 hc hfull hx0 f17 f18 f19 (F' := 0) f27
      have hkk := nt_k hs1 no c
      have hsn := c_st_k hs1 hkk
      have hnk := nk_b (X := a_n0 (a_b0 A) no c) (u := 0) (F := 0) (p := c) (o := no) (g := g) (c0 := c0) (c1 := c1) (c2 := c2) np1 f41
      have hrk := c_rk0 (x := x) (d := d + 104) (B := A) (G := G) (m_nt x G (m_rs x μ) no c) (a_n0 (a_b0 A) no c) (fun i => if i = no then mo_X (m_rs x μ) else O i) (no + 1) 0 0 0 0 c no g c0 c1 c2 1 np (a_cs (a_I (a_push (a_I (a_I (a_n0 (a_b0 A) no c) 38 0 (nI (0 + 1))) 41 0 (nI (0 + 1))) 0 1 (nI (5 * c)) (nI no) (nI c) g) 35 0 1) no c np c0 c1 c2)
      rw [show (if no = no then mo_X (m_rs x μ) else O no) = mo_X (m_rs x μ) from if_pos rfl] at hrk
      refine hrk _ hsn hdn f37 (by decide) hc (Nat.lt_succ_self _) ⟨c, by rw [f18, if_pos rfl], hc, bel_r c⟩ np2 np1 (by decide) (Or.inr ⟨rfl, by rw [f19, if_pos rfl]; decide⟩) hnk ?_
      intro μ2 A2 O2 no2 b2 q2 k1 k2 k3 k4
      clear hrk hnk
      have hs2 := c_st_k hsn k3.1
      have hno2 : no < no2 := Nat.lt_of_lt_of_le (Nat.lt_succ_self _) k3.2.1
      have hd2' := k1
      obtain ⟨j1, j2, j3, j4, j5, j6, j7, j8, j9, j10, j11, j12, j13, j14, j15, j16, j17, j18, j19, j20, j21, j22, j23, j24, j25⟩ := hd2'
      have hO2 : O2 no = mo_X (m_rs x μ) := by rw [(k3.2.2.2.1 no (Nat.lt_succ_self _)).1]; show (if no = no then mo_X (m_rs x μ) else O no) = _; rw [if_pos rfl]
      have h182 : A2.1 18 no = nI c := by rw [(k3.2.2.2.1 no (Nat.lt_succ_self _)).2.1, a_I_n (by decide), f18, if_pos rfl]
      have ht2 := c_th_c hnc8 (j24 no hno2) h182 hc
      have hXC : mo_C μ2 (mo_X (m_rs x μ)) = 10 := by rw [← hO2]; exact ht2.2.2.2.2.2.1
      have hXI : mo_I μ2 576 (mo_X (m_rs x μ)) = nI no := by rw [← hO2]; exact ht2.2.2.2.2.2.2.1
      have hX60 : x + 60 ≤ mo_X (m_rs x μ) := by rw [hXe]; exact hs.2.1
      have h195 := k3.2.2.2.2.1
      have hXX := k3.2.2.2.2.2.2.2.2.1
      have hSS := k3.2.2.2.2.2.2.2.2.2.1
      have hXn : mo_X (m_nt x G (m_rs x μ) no c) = mo_X μ + 3 := by rw [← hXe]; simp only [m_nt, mo_ME]
      have hSn : mo_S (m_nt x G (m_rs x μ) no c) = mo_S μ + 5 + 3 * (gV G c + 1) + 4 * (gV G c + 1) := by rw [← hSe]; simp only [m_nt, mo_ME]
      have hV8 := hs.2.2.2.2.2.2.2.2.2.2 c hc
      rw [hXn] at hXX
      rw [hSn] at hSS
      have hck : cl_k x μ μ2 := cl_k_tr (cl_k_tr kmr.1 hkk) k3.1
      generalize mo_X (m_rs x μ) = X at *
      refine ⟨rfl, hs2.1.1, hXC, ?_⟩
      have fin2 : ∀ s v : Int32, (s = 1 ∨ s = 2) → v = (if s = 1 then 1 else 0) → ∀ ν', r_at (x + 28) ν' (a_I A2 19 no s) → r_fc (x + 28) (mo_wI μ2 580 X v) ν' → Q ν' := by
        intro s v hs12 hvs ν' hr2 hfc
        have hd3 := dy_md (o := no) (s := s) (v := v) (A' := a_I A2 19 no s) k1 hno2 hvs (ax_I (by decide) (ax_rf _ _)) (fun i _ => by rw [a_I_1]; simp only [true_and]) (F' := 0) (by rw [a_I_n (by decide)]; exact j10)
        rw [hO2] at hd3
        have hkm := (km_md x 0 0 μ2 hX60 v).1
        have hs3 := c_st_k hs2 hkm
        have lk : a_lk A (a_I A2 19 no s) := hd3.1
        refine hQ ν' ⟨_, G, O2, no2, b2, q2, st_lk lk (st_fc hs3 hfc), dy_lk lk (dy_fc hd3 hfc), hr2, fun o ho => ?_, ?_, ?_⟩ (sc_tr (sc_k (cl_k_tr hck hkm) hb hs.2.1) (sc_fc hfc hb))
        · rw [a_I_1]
          by_cases hoo : o = no
          · rw [if_pos ⟨rfl, hoo⟩]; exact hs12
          · rw [if_neg (fun z => hoo z.2)]
            by_cases hlt : o < no
            · rw [(k3.2.2.2.1 o (by omega)).2.2, a_I_1, if_neg (fun z => hoo z.2), f19, if_neg hoo, e1 19 (by decide)]
              exact hst o hlt
            · exact h195 o (by omega) ho
        · rw [hfc.2.2.2.2.1]; simp only [mo_ME]; omega
        · rw [hfc.2.2.2.2.2.1]; simp only [mo_ME]; omega
      have hrr : ∀ v : Int32, r_at (x + 28) (mo_wI μ2 580 X v) A := fun v => cl_r_k hr hs.2.1 (cl_k_tr hck (km_md x 0 0 μ2 hX60 v).1)
      by_cases hf : A2.1 37 0 = 0
      · rw [if_pos (j20.trans hf)]
        have hs3 := c_st_k hs2 (km_md x 0 0 μ2 hX60 1).1
        have hs3' := hs3.1.1
        have kf := fun Q => L_failed (d := d + 198) hs3.1.1 (t := 0) (by simp only [mo_ME, mo_u_a, Nat.reduceEqDiff, false_and, if_false]; exact j20.trans hf) Q
        unfold cl_sf at hs3'
        have c1' : mo_C (mo_wI μ2 580 X 1) X = 10 := by simp only [mo_ME]; exact hXC
        have c2' : mo_I (mo_wI μ2 580 X 1) 576 X = nI no := by simp only [mo_ME, mo_u_a, Nat.reduceEqDiff, false_and, if_false]; exact hXI
        have hm := R_make (d := d + 189) (A2 := A2) (hrr 1) hnc hnc8 hc hno hfull np2 np1 g c0 c1 c2 k2 j10 (fun r2 μ2 => r2 = some (.int (nI no)) ∧ Q μ2) (fun ν' w1 w2 => ⟨by rw [if_pos hf], fin2 1 1 (Or.inl rfl) rfl ν' (by rw [if_pos hf] at w1; exact w1) w2⟩)
        have hscc := sc_k (cl_k_tr hck (km_md x 0 0 μ2 hX60 1).1) hb hs.2.1
        generalize mo_wI μ2 580 X 1 = ν at *
        simp only [we71_0, we71_1, en71, true_and, and_true, if_false, if_true, not_true_eq_false, not_false_eq_true, false_implies, true_implies, implies_true, forall_const, true_or, or_true, false_or, or_false, false_and, and_false, eq_self_iff_true, Option.toList_some, Option.toList_none, List.cons_append, List.nil_append, mo_cat_0, mo_cat_c, mo_ct_i, mo_ct_l, mo_ct_r, mo_ct_n, mo_ct_f, Nat.zero_le, Nat.reduceAdd, Nat.reduceLeDiff, Nat.reduceLT, Nat.reduceEqDiff, Nat.reduceSub, mo_rf_s, mo_rf_n, reduceCtorEq, mo_st, mo_st2, mo_lg_0, mo_lg_s, List.set_cons_zero, List.set_cons_succ, List.length_cons, List.length_nil, List.getElem?_cons_zero, List.getElem?_cons_succ, Nat.reduceBEq, Bool.false_eq_true, beq_self_eq_true, hs3', kf, c1', c2', mo_LC, mo_ME, mo_u_a, mo_z_a, mo_y_a, Nat.add_left_cancel_iff]
        exact ⟨_, rfl, hscc, hm⟩
      · rw [if_neg (by rw [j20]; exact hf)]
        have hs3 := c_st_k hs2 (km_md x 0 0 μ2 hX60 0).1
        have hs3' := hs3.1.1
        have kf := fun Q => L_failed (d := d + 198) hs3.1.1 (t := A2.1 37 0) (by simp only [mo_ME, mo_u_a, Nat.reduceEqDiff, false_and, if_false]; exact j20) Q
        rw [if_neg hf] at kf
        unfold cl_sf at hs3'
        have c3' : mo_I (mo_wI μ2 580 X 0) 517 (x + 9) = A2.1 37 0 := by simp only [mo_ME, mo_u_a, Nat.reduceEqDiff, false_and, if_false]; exact j20
        have hm := R_make (d := d + 189) (A2 := A2) (hrr 0) hnc hnc8 hc hno hfull np2 np1 g c0 c1 c2 k2 j10 (fun r2 μ2 => r2 = some (.int (-10 - A2.1 37 0)) ∧ Q μ2) (fun ν' w1 w2 => ⟨by rw [if_neg hf], fin2 2 0 (Or.inr rfl) (by decide) ν' (by rw [if_neg hf] at w1; exact w1) w2⟩)
        have hscc := sc_k (cl_k_tr hck (km_md x 0 0 μ2 hX60 0).1) hb hs.2.1
        generalize mo_wI μ2 580 X 0 = ν at *
        simp only [we71_0, we71_1, en71, true_and, and_true, if_false, if_true, not_true_eq_false, not_false_eq_true, false_implies, true_implies, implies_true, forall_const, true_or, or_true, false_or, or_false, false_and, and_false, eq_self_iff_true, Option.toList_some, Option.toList_none, List.cons_append, List.nil_append, mo_cat_0, mo_cat_c, mo_ct_i, mo_ct_l, mo_ct_r, mo_ct_n, mo_ct_f, Nat.zero_le, Nat.reduceAdd, Nat.reduceLeDiff, Nat.reduceLT, Nat.reduceEqDiff, Nat.reduceSub, mo_rf_s, mo_rf_n, reduceCtorEq, mo_st, mo_st2, mo_lg_0, mo_lg_s, List.set_cons_zero, List.set_cons_succ, List.length_cons, List.length_nil, List.getElem?_cons_zero, List.getElem?_cons_succ, Nat.reduceBEq, Bool.false_eq_true, beq_self_eq_true, hs3', kf, c3', mo_LC, mo_ME, mo_u_a, mo_z_a, mo_y_a, Nat.add_left_cancel_iff]
        exact ⟨_, rfl, hscc, hm⟩
    · have h100 : no = 100 := by omega
      subst h100
      have g100 : (nI 100 < Int32.ofNat 100) = False := i_nl (a := 100) (b := 100) (Nat.le_refl _) (by decide)
      simp only [we71_0, we71_1, we16, en71, en16, true_and, and_true, if_false, if_true, not_true_eq_false, not_false_eq_true, false_implies, true_implies, implies_true, forall_const, true_or, or_true, false_or, or_false, false_and, and_false, eq_self_iff_true, Option.toList_some, Option.toList_none, List.cons_append, List.nil_append, mo_cat_0, mo_cat_c, mo_ct_i, mo_ct_l, mo_ct_r, mo_ct_n, mo_ct_f, Nat.zero_le, Nat.reduceAdd, Nat.reduceLeDiff, Nat.reduceLT, Nat.reduceEqDiff, Nat.reduceSub, mo_rf_s, mo_rf_n, reduceCtorEq, mo_st, mo_st2, mo_lg_0, mo_lg_s, List.set_cons_zero, List.set_cons_succ, List.length_cons, List.length_nil, List.getElem?_cons_zero, List.getElem?_cons_succ, Nat.reduceBEq, Bool.false_eq_true, beq_self_eq_true, hs', k1, y1, hd2, g100, mo_LC, mo_ME, mo_u_a, mo_z_a, mo_y_a, Nat.add_left_cancel_iff]
      refine ⟨_, rfl, sc_rf _ _, ?_⟩
      generalize x + 28 = r at hr ⊢; have hrs := hr.1; unfold r_sh at hrs; have H := r_rd hr; have kcl := fun i Q => R_isC (d := d + 198) hr hnc hnc8 i Q
      have g101 : (nI 100 = 100) = True := eq_true rfl
      simp only [we112_0, we112_1, en112, true_and, and_true, if_false, if_true, not_true_eq_false, not_false_eq_true, false_implies, true_implies, implies_true, forall_const, true_or, or_true, false_or, or_false, false_and, and_false, eq_self_iff_true, Option.toList_some, Option.toList_none, List.cons_append, List.nil_append, mo_cat_0, mo_cat_c, mo_ct_i, mo_ct_l, mo_ct_r, mo_ct_n, mo_ct_f, Nat.zero_le, Nat.reduceAdd, Nat.reduceLeDiff, Nat.reduceLT, Nat.reduceEqDiff, Nat.reduceSub, mo_rf_s, mo_rf_n, reduceCtorEq, mo_st, mo_st2, mo_lg_0, mo_lg_s, List.set_cons_zero, List.set_cons_succ, List.length_cons, List.length_nil, List.getElem?_cons_zero, List.getElem?_cons_succ, Nat.reduceBEq, Bool.false_eq_true, beq_self_eq_true, hrs, H, kcl, mo_b_t hi, hno, g101, mo_LC, mo_ME, mo_u_a, mo_z_a, mo_y_a, Nat.add_left_cancel_iff]
      exact fin
  · have k1 := fun Q => L_tyI (d := d + 198) hs hi Q
    simp only [we71_0, we71_1, en71, true_and, and_true, if_false, if_true, not_true_eq_false, not_false_eq_true, false_implies, true_implies, implies_true, forall_const, true_or, or_true, false_or, or_false, false_and, and_false, eq_self_iff_true, Option.toList_some, Option.toList_none, List.cons_append, List.nil_append, mo_cat_0, mo_cat_c, mo_ct_i, mo_ct_l, mo_ct_r, mo_ct_n, mo_ct_f, Nat.zero_le, Nat.reduceAdd, Nat.reduceLeDiff, Nat.reduceLT, Nat.reduceEqDiff, Nat.reduceSub, mo_rf_s, mo_rf_n, reduceCtorEq, mo_st, mo_st2, mo_lg_0, mo_lg_s, List.set_cons_zero, List.set_cons_succ, List.length_cons, List.length_nil, List.getElem?_cons_zero, List.getElem?_cons_succ, Nat.reduceBEq, Bool.false_eq_true, beq_self_eq_true, hs', k1, mo_ME, mo_u_a, mo_z_a, mo_y_a, Nat.add_left_cancel_iff]
    refine ⟨_, rfl, sc_rf _ _, ?_⟩
    generalize x + 28 = r at hr ⊢; have hrs := hr.1; unfold r_sh at hrs; have H := r_rd hr; have kcl := fun i Q => R_isC (d := d + 198) hr hnc hnc8 i Q
    simp only [we112_0, we112_1, en112, true_and, and_true, if_false, if_true, not_true_eq_false, not_false_eq_true, false_implies, true_implies, implies_true, forall_const, true_or, or_true, false_or, or_false, false_and, and_false, eq_self_iff_true, Option.toList_some, Option.toList_none, List.cons_append, List.nil_append, mo_cat_0, mo_cat_c, mo_ct_i, mo_ct_l, mo_ct_r, mo_ct_n, mo_ct_f, Nat.zero_le, Nat.reduceAdd, Nat.reduceLeDiff, Nat.reduceLT, Nat.reduceEqDiff, Nat.reduceSub, mo_rf_s, mo_rf_n, reduceCtorEq, mo_st, mo_st2, mo_lg_0, mo_lg_s, List.set_cons_zero, List.set_cons_succ, List.length_cons, List.length_nil, List.getElem?_cons_zero, List.getElem?_cons_succ, Nat.reduceBEq, Bool.false_eq_true, beq_self_eq_true, hrs, kcl, mo_b_f hi, mo_LC, mo_ME, mo_u_a, mo_z_a, mo_y_a, Nat.add_left_cancel_iff]
    exact fin
