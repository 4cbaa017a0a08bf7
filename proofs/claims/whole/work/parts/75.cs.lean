theorem L_hasT {d x no : Nat} {μ : mo_Mem} (hs : cl_sf x μ) (hn : mo_I μ 324 (x + 1) = nI no) (hno : no ≤ 100) (Q : mo_P) : mo_M (d + 1) 15 [.ref (x + 1)] μ Q = Q (some (.int (if no = 0 then 0 else 1))) μ := by
  have hs' := hs
  unfold cl_sf at hs'
  by_cases h : no = 0
  · subst h
    have g : (nI 0 ≤ 0) = True := eq_true (by decide)
    simp only [we15, en15, true_and, and_true, if_false, if_true, not_true_eq_false, not_false_eq_true, false_implies, true_implies, implies_true, forall_const, true_or, or_true, false_or, or_false, false_and, and_false, eq_self_iff_true, Option.toList_some, Option.toList_none, List.cons_append, List.nil_append, mo_cat_0, mo_cat_c, mo_ct_i, mo_ct_l, mo_ct_r, mo_ct_n, mo_ct_f, Nat.zero_le, Nat.reduceAdd, Nat.reduceLeDiff, Nat.reduceLT, Nat.reduceEqDiff, Nat.reduceSub, mo_rf_s, mo_rf_n, reduceCtorEq, mo_st, mo_st2, mo_lg_0, mo_lg_s, List.set_cons_zero, List.set_cons_succ, List.length_cons, List.length_nil, List.getElem?_cons_zero, List.getElem?_cons_succ, Nat.reduceBEq, Bool.false_eq_true, beq_self_eq_true, hs', hn, g, mo_ME, mo_u_a, mo_z_a, mo_y_a, Nat.add_left_cancel_iff]
  · have g : (nI no ≤ 0) = False := i_ge (a := 0) (by omega) (by omega)
    simp only [we15, en15, true_and, and_true, if_false, if_true, not_true_eq_false, not_false_eq_true, false_implies, true_implies, implies_true, forall_const, true_or, or_true, false_or, or_false, false_and, and_false, eq_self_iff_true, Option.toList_some, Option.toList_none, List.cons_append, List.nil_append, mo_cat_0, mo_cat_c, mo_ct_i, mo_ct_l, mo_ct_r, mo_ct_n, mo_ct_f, Nat.zero_le, Nat.reduceAdd, Nat.reduceLeDiff, Nat.reduceLT, Nat.reduceEqDiff, Nat.reduceSub, mo_rf_s, mo_rf_n, reduceCtorEq, mo_st, mo_st2, mo_lg_0, mo_lg_s, List.set_cons_zero, List.set_cons_succ, List.length_cons, List.length_nil, List.getElem?_cons_zero, List.getElem?_cons_succ, Nat.reduceBEq, Bool.false_eq_true, beq_self_eq_true, hs', hn, g, h, mo_ME, mo_u_a, mo_z_a, mo_y_a, Nat.add_left_cancel_iff]
theorem i00 : (nI 0 ≤ 0) = True := eq_true (by decide)
theorem i0no {no : Nat} (h : no ≤ 100) : (nI no ≤ 0) = (no = 0) := by
  by_cases z : no = 0
  · subst z; exact propext ⟨fun _ => rfl, fun _ => by decide⟩
  · have e : (nI no ≤ 0) = False := i_ge (a := 0) (b := no) (by omega) (by omega)
    rw [e]; exact (eq_false z).symm
theorem st_ps {x c : Nat} {A : mo_A} {G : c_G} {μ : mo_Mem} (hs : c_st x A G μ) (hc : c < gnc G) {e : Nat} (he : e < gne G) : c_st x (a_I A 9 c (nI e)) G (mo_wI μ 648 (gT G c) (nI e)) := by
  have hX := hs.2.1
  have hin := @gT_inj x A G μ hs
  obtain ⟨h1, -, ⟨o1, o2, o3, o4, o5, o6, o7, o8, o9⟩, p1, p2, p3, p4, p5, p6, p7, p8⟩ := hs
  have hTc := (p4 c hc).2
  have hTX := hTc.2.2.2.2.2.2.2.2.2.2.2.2.2.2.2.2.2.1
  have hT60 := hTc.2.2.2.2.2.2.2.2.2.2.2.2.2.2.2.2.2.2
  have mi : ∀ k a, k ≠ 648 ∨ a ≠ gT G c → mo_I (mo_wI μ 648 (gT G c) (nI e)) k a = mo_I μ k a := fun k a h => by
    simp only [mo_ME, mo_u_a]
    rw [if_neg (by omega)]
  have en : ∀ j i, j ≠ 9 → (a_I A 9 c (nI e)).1 j i = A.1 j i := fun j i hj => a_I_n hj
  have ef : ∀ j, j ≠ 9 → (a_I A 9 c (nI e)).1 j = A.1 j := fun j hj => funext fun i => a_I_n hj
  have ep : ∀ c', a_par (a_I A 9 c (nI e)) c' = a_par A c' := fun c' => by unfold a_par; rw [ef 6 (by decide)]
  refine ⟨h1, hX, ⟨o1, o2, by rw [ef 0 (by decide)]; exact o3, by rw [ef 5 (by decide)]; exact o4, fun c' hc' => by rw [ef 6 (by decide)]; exact o5 c' hc', fun e' he' => ?_, fun c' hc' => ?_, fun m hm => ?_, fun m z1 z2 => by rw [ef 11 (by decide), ef 13 (by decide)]; exact o9 m z1 z2⟩, ?_, ?_, fun e' he' => ?_, fun c' hc' => ?_, fun m hm hp => ?_, fun m m' z1 z2 z3 z4 z5 => ?_, fun c' y hc' hy => p7 c' y hc' (by rw [← ep]; exact hy), p8⟩
  · have := o6 e' he'
    unfold a_xp at this ⊢
    rw [ef 1 (by decide), ef 3 (by decide), ef 4 (by decide)]
    exact this
  · obtain ⟨z1, z2, z3, z4⟩ := o7 c' hc'
    refine ⟨by rw [ef 7 (by decide)]; exact z1, by rw [ef 8 (by decide)]; exact z2, ?_, by rw [ef 10 (by decide)]; exact z4⟩
    rw [a_I_1]
    by_cases hcc : c' = c
    · rw [if_pos ⟨rfl, hcc⟩]; exact Or.inr ⟨e, he, rfl⟩
    · rw [if_neg (fun z => hcc z.2)]; exact z3
  · have := o8 m hm
    unfold a_mp at this ⊢
    rw [ef 11 (by decide), ef 12 (by decide), ef 13 (by decide), ef 14 (by decide), ef 15 (by decide), ef 16 (by decide)]
    exact this
  · rw [mi _ _ (Or.inl (by decide))]; exact p1
  · rw [mi _ _ (Or.inl (by decide))]; exact p2
  · obtain ⟨z1, z2, z3, z4⟩ := p3 e' he'
    have hne : gE G e' ≠ gT G c := fun z => by have h1 := z4.1; have h2 := hTc.1; rw [z, h2] at h1; exact absurd h1 (by decide)
    exact ⟨z1, z2, z3, ex_sm z4 rfl (fun k => ⟨mi k _ (Or.inr hne), rfl⟩) (en _ _ (by decide)) rfl (en _ _ (by decide)) (en _ _ (by decide))⟩
  · obtain ⟨z1, z2⟩ := p4 c' hc'
    refine ⟨z1, ?_⟩
    by_cases hcc : c' = c
    · subst hcc
      obtain ⟨b1, b2, b3, b4, b5, b6, b7, b8, b9, b10, b11, b12, b13, b14, b15, b16, b17, b18, b19⟩ := z2
      refine ⟨b1, by rw [mi _ _ (Or.inl (by decide))]; exact b2, by rw [ep]; exact b3, by rw [mi _ _ (Or.inl (by decide))]; exact b4, by rw [mi _ _ (Or.inl (by decide)), en _ _ (by decide)]; exact b5, by rw [mi _ _ (Or.inl (by decide)), en _ _ (by decide)]; exact b6, b7, b8, b9, fun k hk => by rw [en _ _ (by decide)]; exact b10 k hk, b11, b12, b13, b14, b15, fun k hk => by rw [en _ _ (by decide)]; exact b16 k hk, ?_, b18, b19⟩
      simp only [mo_ME, mo_u_a, a_I_1, and_self, if_true]
    · have hne : gT G c' ≠ gT G c := fun z => hcc (by rw [hin hc' hc] at z; exact z)
      exact ty_sm z2 rfl (fun _ _ => rfl) rfl rfl (fun _ _ _ => rfl) (Nat.le_refl _) (fun j hj => ⟨rfl, rfl⟩) (fun k => ⟨mi k _ (Or.inr hne), rfl⟩) rfl rfl (en _ _ (by decide)) (en _ _ (by decide)) (en _ _ (by decide)) (by rw [a_I_1, if_neg (fun z => hcc z.2)]) (fun k hk => en _ _ (by decide)) (fun k hk => en _ _ (by decide))
  · have hp' : a_pm A m := by unfold a_pm at hp ⊢; rw [en _ _ (by decide)] at hp; exact hp
    exact cd_sm (p5 m hm hp') rfl (Nat.le_refl _) (fun a ha => ⟨rfl, rfl⟩) (fun k hk a z1 z2 => mi k a (Or.inl hk)) (fun k => rfl) rfl (en _ _ (by decide)) (en _ _ (by decide)) (en _ _ (by decide)) (fun i hi => ⟨en _ _ (by decide), en _ _ (by decide), en _ _ (by decide)⟩)
  · unfold a_pm at z3 z4
    rw [en _ _ (by decide)] at z3 z4
    exact p6 m m' z1 z2 z3 z4 z5
theorem lk_wI {x : Nat} {μ : mo_Mem} (k a : Nat) (v : Int32) (ha : x + 60 ≤ a) (hk : k ≠ 576) (hk2 : k ≠ 580) : c_dm x μ (mo_wI μ k a v) ∧ c_ot x μ (mo_wI μ k a v) := by
  refine ⟨⟨Nat.le_refl _, fun k' a' h1 h2 h3 => ?_, fun a' h1 => ⟨rfl, rfl⟩, rfl, fun a' h1 => ⟨rfl, rfl⟩, fun a' h1 h2 => ?_⟩, fun a' h1 h2 => ?_⟩
  · simp only [mo_ME, mo_u_a]
    rw [if_neg (by omega)]
    exact ⟨rfl, trivial⟩
  · simp only [mo_ME, mo_u_a]
    rw [if_neg (by omega), if_neg (by omega)]
    exact ⟨rfl, rfl, trivial, trivial, trivial, trivial⟩
  · refine ⟨rfl, rfl, fun k' => ⟨rfl, ?_, rfl⟩, rfl, rfl⟩
    simp only [mo_ME, mo_u_a]
    rw [if_neg (by omega)]
theorem O_passed {x s0 k d bs : Nat} {μ : mo_Mem} {Q : mo_Mem → Prop} (hiv : c_iv x s0 k μ) (hb : bs < x) (hQ : ∀ μ', c_iv x s0 (k + 1) μ' → c_sc bs μ μ' → Q μ') (i e : Int32) : c_qI x (d + 200) 67 90 bs [.int i, .int e] μ Q := by
  have hiv0 := hiv; obtain ⟨A, G, O, no, b, q, hs, hd, hr, hst, hX, hS⟩ := hiv0; have fin : Q μ := hQ μ (iv_up hiv) (sc_rf _ _); have hno := hd.2.2.1; have hno1 := hd.2.2.2.1; have hne := hs.2.2.1.2.2.1; have hne60 := hs.2.2.1.1; have hnc := hs.2.2.1.2.2.2.1; have hnc8 := hs.2.2.1.2.1; have hpw := hs.2.2.1.2.2.2.2.1; have hs' := hs.1.1; unfold cl_sf at hs'; have hd2 := hd.2.1; have hrs := hr.1
  unfold c_qI
  have ke := fun i Q => L_kn (d := d + 198) hs.1.1 hs.2.2.2.1 hne60 i Q
  have kh := fun Q => L_hasT (d := d + 198) hs.1.1 hd2 hno1 Q
  by_cases hi : vp_in i (gnc G)
  · obtain ⟨c, hc, rfl⟩ := vp_ex (by omega) hi
    have k1 := fun Q => L_ty (d := d + 198) hs hc Q
    have ty := (hs.2.2.2.2.2.2.1 c hc).2
    have hT60 := ty.2.2.2.2.2.2.2.2.2.2.2.2.2.2.2.2.2.2
    have hTX := ty.2.2.2.2.2.2.2.2.2.2.2.2.2.2.2.2.2.1
    obtain ⟨y1, y2, y3, -⟩ := ty
    have g3 : vp_in (nI c) 8 := vp_in_nI (by omega) (by decide)
    have g4 : (nI c).toNatClampNeg = c := nI_clamp (by omega)
    by_cases he : vp_in e (gne G)
    · rcases a_par_c hnc8 hpw hc with ⟨q1, q2⟩ | ⟨p, q1, q2, q3⟩
      · rw [q2, Option.map_none] at y3
        simp only [we67, en67, true_and, and_true, if_false, if_true, not_true_eq_false, not_false_eq_true, false_implies, true_implies, implies_true, forall_const, true_or, or_true, false_or, or_false, false_and, and_false, eq_self_iff_true, Option.toList_some, Option.toList_none, List.cons_append, List.nil_append, mo_cat_0, mo_cat_c, mo_ct_i, mo_ct_l, mo_ct_r, mo_ct_n, mo_ct_f, Nat.zero_le, Nat.reduceAdd, Nat.reduceLeDiff, Nat.reduceLT, Nat.reduceEqDiff, Nat.reduceSub, mo_rf_s, mo_rf_n, reduceCtorEq, mo_st, mo_st2, mo_lg_0, mo_lg_s, List.set_cons_zero, List.set_cons_succ, List.length_cons, List.length_nil, List.getElem?_cons_zero, List.getElem?_cons_succ, Nat.reduceBEq, Bool.false_eq_true, beq_self_eq_true, hs', k1, ke, mo_b_t he, y1, y3, mo_LC, mo_ME, mo_u_a, mo_z_a, mo_y_a, Nat.add_left_cancel_iff]
        refine ⟨_, rfl, sc_rf _ _, ?_⟩
        generalize x + 28 = r at hr ⊢; have hrs := hr.1; unfold r_sh at hrs; have H := r_rd hr; have kcl := fun i Q => R_isC (d := d + 198) hr hnc hnc8 i Q; have kex := fun i Q => R_isExp (d := d + 198) hr.1 (H.1.trans hne) (by omega) i Q
        simp only [we90, en90, true_and, and_true, if_false, if_true, not_true_eq_false, not_false_eq_true, false_implies, true_implies, implies_true, forall_const, true_or, or_true, false_or, or_false, false_and, and_false, eq_self_iff_true, Option.toList_some, Option.toList_none, List.cons_append, List.nil_append, mo_cat_0, mo_cat_c, mo_ct_i, mo_ct_l, mo_ct_r, mo_ct_n, mo_ct_f, Nat.zero_le, Nat.reduceAdd, Nat.reduceLeDiff, Nat.reduceLT, Nat.reduceEqDiff, Nat.reduceSub, mo_rf_s, mo_rf_n, reduceCtorEq, mo_st, mo_st2, mo_lg_0, mo_lg_s, List.set_cons_zero, List.set_cons_succ, List.length_cons, List.length_nil, List.getElem?_cons_zero, List.getElem?_cons_succ, Nat.reduceBEq, Bool.false_eq_true, beq_self_eq_true, hrs, H, kcl, kex, mo_b_t hi, mo_b_t he, g3, g4, q1, mo_LC, mo_ME, mo_u_a, mo_z_a, mo_y_a, Nat.add_left_cancel_iff]
        exact fin
      · rw [q3, Option.map_some] at y3
        have hne1 : (nI p = -1) = False := nI_nm1 (by omega)
        by_cases hz : no = 0
        · rw [if_pos hz] at kh
          obtain ⟨en, hen, hee⟩ := vp_ex (by omega) he
          subst hee
          simp only [we67, en67, true_and, and_true, if_false, if_true, not_true_eq_false, not_false_eq_true, false_implies, true_implies, implies_true, forall_const, true_or, or_true, false_or, or_false, false_and, and_false, eq_self_iff_true, Option.toList_some, Option.toList_none, List.cons_append, List.nil_append, mo_cat_0, mo_cat_c, mo_ct_i, mo_ct_l, mo_ct_r, mo_ct_n, mo_ct_f, Nat.zero_le, Nat.reduceAdd, Nat.reduceLeDiff, Nat.reduceLT, Nat.reduceEqDiff, Nat.reduceSub, mo_rf_s, mo_rf_n, reduceCtorEq, mo_st, mo_st2, mo_lg_0, mo_lg_s, List.set_cons_zero, List.set_cons_succ, List.length_cons, List.length_nil, List.getElem?_cons_zero, List.getElem?_cons_succ, Nat.reduceBEq, Bool.false_eq_true, beq_self_eq_true, hs', k1, ke, kh, mo_b_t he, y1, y3, mo_LC, mo_ME, mo_u_a, mo_z_a, mo_y_a, Nat.add_left_cancel_iff]
          refine ⟨_, rfl, sc_dm (lk_wI (x := x) (μ := μ) 648 (gT G c) (nI en) hT60 (by decide) (by decide)).1 hb hs.2.1, ?_⟩
          obtain ⟨hdm, hot⟩ := lk_wI (μ := μ) 648 (gT G c) (nI en) hT60 (by decide) (by decide)
          have hr1 := r_ot hr hot
          have hst1 := st_ps hs hc hen
          have hr2 : r_at (x + 28) (mo_wAI (mo_wI μ 648 (gT G c) (nI en)) (x + 28 + 8) c (nI en)) (a_I A 9 c (nI en)) := ⟨r_sh_c hr1.1 rfl rfl rfl, by simp only [r_VW, hr1.2]⟩
          have hfc : r_fc (x + 28) (mo_wI μ 648 (gT G c) (nI en)) (mo_wAI (mo_wI μ 648 (gT G c) (nI en)) (x + 28 + 8) c (nI en)) := r_fc_AI (by decide) (r_fc_rf _ _)
          have hdy := dy_pl (A' := a_I A 9 c (nI en)) (G' := G) hnc8 hpw hd hdm (fun j hj => ⟨funext fun i => a_I_n (by omega), rfl⟩) (fun c' hc' => ⟨hc', rfl, rfl⟩) (fun c' hc' h => bel_ext hnc8 hpw (fun c'' hc'' => a_I_n (by decide)) h 8 c' hc')
          have fin2 := hQ (mo_wAI (mo_wI μ 648 (gT G c) (nI en)) (x + 28 + 8) c (nI en)) ⟨_, G, O, no, b, q, st_fc hst1 hfc, dy_fc hdy hfc, hr2, fun o ho => by rw [a_I_n (by decide)]; exact hst o ho, by simp only [mo_ME]; omega, by simp only [mo_ME]; omega⟩ (sc_tr (sc_dm hdm hb hs.2.1) (sc_fc hfc hb))
          clear hr2 hfc hot hst1 hdy
          revert fin2 hr1
          generalize x + 28 = r
          intro hr1 fin2
          have hrs := hr1.1
          unfold r_sh at hrs
          have H := r_rd hr1
          have kcl := fun i Q => R_isC (d := d + 198) hr1 hnc hnc8 i Q
          have kex := fun i Q => R_isExp (d := d + 198) hr1.1 (H.1.trans hne) (by omega) i Q
          simp only [we90, en90, true_and, and_true, if_false, if_true, not_true_eq_false, not_false_eq_true, false_implies, true_implies, implies_true, forall_const, true_or, or_true, false_or, or_false, false_and, and_false, eq_self_iff_true, Option.toList_some, Option.toList_none, List.cons_append, List.nil_append, mo_cat_0, mo_cat_c, mo_ct_i, mo_ct_l, mo_ct_r, mo_ct_n, mo_ct_f, Nat.zero_le, Nat.reduceAdd, Nat.reduceLeDiff, Nat.reduceLT, Nat.reduceEqDiff, Nat.reduceSub, mo_rf_s, mo_rf_n, reduceCtorEq, mo_st, mo_st2, mo_lg_0, mo_lg_s, List.set_cons_zero, List.set_cons_succ, List.length_cons, List.length_nil, List.getElem?_cons_zero, List.getElem?_cons_succ, Nat.reduceBEq, Bool.false_eq_true, beq_self_eq_true, hrs, H, kcl, kex, mo_b_t hi, mo_b_t he, g3, g4, q2, hne1, hno, i0no hno1, i00, hz, mo_LC, mo_ME, mo_u_a, mo_z_a, mo_y_a, Nat.add_left_cancel_iff]
          exact fin2
        · rw [if_neg hz] at kh
          simp only [we67, en67, true_and, and_true, if_false, if_true, not_true_eq_false, not_false_eq_true, false_implies, true_implies, implies_true, forall_const, true_or, or_true, false_or, or_false, false_and, and_false, eq_self_iff_true, Option.toList_some, Option.toList_none, List.cons_append, List.nil_append, mo_cat_0, mo_cat_c, mo_ct_i, mo_ct_l, mo_ct_r, mo_ct_n, mo_ct_f, Nat.zero_le, Nat.reduceAdd, Nat.reduceLeDiff, Nat.reduceLT, Nat.reduceEqDiff, Nat.reduceSub, mo_rf_s, mo_rf_n, reduceCtorEq, mo_st, mo_st2, mo_lg_0, mo_lg_s, List.set_cons_zero, List.set_cons_succ, List.length_cons, List.length_nil, List.getElem?_cons_zero, List.getElem?_cons_succ, Nat.reduceBEq, Bool.false_eq_true, beq_self_eq_true, hs', k1, ke, kh, mo_b_t he, y1, y3, mo_LC, mo_ME, mo_u_a, mo_z_a, mo_y_a, Nat.add_left_cancel_iff]
          refine ⟨_, rfl, sc_rf _ _, ?_⟩
          generalize x + 28 = r at hr ⊢; have hrs := hr.1; unfold r_sh at hrs; have H := r_rd hr; have kcl := fun i Q => R_isC (d := d + 198) hr hnc hnc8 i Q; have kex := fun i Q => R_isExp (d := d + 198) hr.1 (H.1.trans hne) (by omega) i Q
          simp only [we90, en90, true_and, and_true, if_false, if_true, not_true_eq_false, not_false_eq_true, false_implies, true_implies, implies_true, forall_const, true_or, or_true, false_or, or_false, false_and, and_false, eq_self_iff_true, Option.toList_some, Option.toList_none, List.cons_append, List.nil_append, mo_cat_0, mo_cat_c, mo_ct_i, mo_ct_l, mo_ct_r, mo_ct_n, mo_ct_f, Nat.zero_le, Nat.reduceAdd, Nat.reduceLeDiff, Nat.reduceLT, Nat.reduceEqDiff, Nat.reduceSub, mo_rf_s, mo_rf_n, reduceCtorEq, mo_st, mo_st2, mo_lg_0, mo_lg_s, List.set_cons_zero, List.set_cons_succ, List.length_cons, List.length_nil, List.getElem?_cons_zero, List.getElem?_cons_succ, Nat.reduceBEq, Bool.false_eq_true, beq_self_eq_true, hrs, H, kcl, kex, mo_b_t hi, mo_b_t he, g3, g4, q2, hne1, hno, i0no hno1, i00, hz, mo_LC, mo_ME, mo_u_a, mo_z_a, mo_y_a, Nat.add_left_cancel_iff]
          exact fin
    · simp only [we67, en67, true_and, and_true, if_false, if_true, not_true_eq_false, not_false_eq_true, false_implies, true_implies, implies_true, forall_const, true_or, or_true, false_or, or_false, false_and, and_false, eq_self_iff_true, Option.toList_some, Option.toList_none, List.cons_append, List.nil_append, mo_cat_0, mo_cat_c, mo_ct_i, mo_ct_l, mo_ct_r, mo_ct_n, mo_ct_f, Nat.zero_le, Nat.reduceAdd, Nat.reduceLeDiff, Nat.reduceLT, Nat.reduceEqDiff, Nat.reduceSub, mo_rf_s, mo_rf_n, reduceCtorEq, mo_st, mo_st2, mo_lg_0, mo_lg_s, List.set_cons_zero, List.set_cons_succ, List.length_cons, List.length_nil, List.getElem?_cons_zero, List.getElem?_cons_succ, Nat.reduceBEq, Bool.false_eq_true, beq_self_eq_true, hs', k1, ke, mo_b_f he, y1, mo_LC, mo_ME, mo_u_a, mo_z_a, mo_y_a, Nat.add_left_cancel_iff]
      refine ⟨_, rfl, sc_rf _ _, ?_⟩
      generalize x + 28 = r at hr ⊢; have hrs := hr.1; unfold r_sh at hrs; have H := r_rd hr; have kcl := fun i Q => R_isC (d := d + 198) hr hnc hnc8 i Q; have kex := fun i Q => R_isExp (d := d + 198) hr.1 (H.1.trans hne) (by omega) i Q
      simp only [we90, en90, true_and, and_true, if_false, if_true, not_true_eq_false, not_false_eq_true, false_implies, true_implies, implies_true, forall_const, true_or, or_true, false_or, or_false, false_and, and_false, eq_self_iff_true, Option.toList_some, Option.toList_none, List.cons_append, List.nil_append, mo_cat_0, mo_cat_c, mo_ct_i, mo_ct_l, mo_ct_r, mo_ct_n, mo_ct_f, Nat.zero_le, Nat.reduceAdd, Nat.reduceLeDiff, Nat.reduceLT, Nat.reduceEqDiff, Nat.reduceSub, mo_rf_s, mo_rf_n, reduceCtorEq, mo_st, mo_st2, mo_lg_0, mo_lg_s, List.set_cons_zero, List.set_cons_succ, List.length_cons, List.length_nil, List.getElem?_cons_zero, List.getElem?_cons_succ, Nat.reduceBEq, Bool.false_eq_true, beq_self_eq_true, hrs, kcl, kex, mo_b_t hi, mo_b_f he, mo_LC, mo_ME, mo_u_a, mo_z_a, mo_y_a, Nat.add_left_cancel_iff]
      exact fin
  · have k1 := fun Q => L_tyI (d := d + 198) hs hi Q
    simp only [we67, en67, true_and, and_true, if_false, if_true, not_true_eq_false, not_false_eq_true, false_implies, true_implies, implies_true, forall_const, true_or, or_true, false_or, or_false, false_and, and_false, eq_self_iff_true, Option.toList_some, Option.toList_none, List.cons_append, List.nil_append, mo_cat_0, mo_cat_c, mo_ct_i, mo_ct_l, mo_ct_r, mo_ct_n, mo_ct_f, Nat.zero_le, Nat.reduceAdd, Nat.reduceLeDiff, Nat.reduceLT, Nat.reduceEqDiff, Nat.reduceSub, mo_rf_s, mo_rf_n, reduceCtorEq, mo_st, mo_st2, mo_lg_0, mo_lg_s, List.set_cons_zero, List.set_cons_succ, List.length_cons, List.length_nil, List.getElem?_cons_zero, List.getElem?_cons_succ, Nat.reduceBEq, Bool.false_eq_true, beq_self_eq_true, hs', k1, mo_ME, mo_u_a, mo_z_a, mo_y_a, Nat.add_left_cancel_iff]
    refine ⟨_, rfl, sc_rf _ _, ?_⟩
    generalize x + 28 = r at hr ⊢; have hrs := hr.1; unfold r_sh at hrs; have H := r_rd hr; have kcl := fun i Q => R_isC (d := d + 198) hr hnc hnc8 i Q; have kex := fun i Q => R_isExp (d := d + 198) hr.1 (H.1.trans hne) (by omega) i Q
    simp only [we90, en90, true_and, and_true, if_false, if_true, not_true_eq_false, not_false_eq_true, false_implies, true_implies, implies_true, forall_const, true_or, or_true, false_or, or_false, false_and, and_false, eq_self_iff_true, Option.toList_some, Option.toList_none, List.cons_append, List.nil_append, mo_cat_0, mo_cat_c, mo_ct_i, mo_ct_l, mo_ct_r, mo_ct_n, mo_ct_f, Nat.zero_le, Nat.reduceAdd, Nat.reduceLeDiff, Nat.reduceLT, Nat.reduceEqDiff, Nat.reduceSub, mo_rf_s, mo_rf_n, reduceCtorEq, mo_st, mo_st2, mo_lg_0, mo_lg_s, List.set_cons_zero, List.set_cons_succ, List.length_cons, List.length_nil, List.getElem?_cons_zero, List.getElem?_cons_succ, Nat.reduceBEq, Bool.false_eq_true, beq_self_eq_true, hrs, kcl, mo_b_f hi, mo_LC, mo_ME, mo_u_a, mo_z_a, mo_y_a, Nat.add_left_cancel_iff]
    exact fin
