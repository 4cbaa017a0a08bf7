theorem st_bg {x c : Nat} {A : mo_A} {G : c_G} {μ : mo_Mem} (hs : c_st x A G μ) (hc : c < gnc G) {f : Nat} (hf : f < 4) {e : Int32} (he : a_en (gne G) e) : c_st x (a_I A 10 (4 * c + f) e) G (mo_wAI μ (gT G c + 1) f e) := by
  have hX := hs.2.1
  have hin := @gT_inj x A G μ hs
  obtain ⟨h1, -, ⟨o1, o2, o3, o4, o5, o6, o7, o8, o9⟩, p1, p2, p3, p4, p5, p6, p7, p8⟩ := hs
  have hTc := (p4 c hc).2
  have hTX := hTc.2.2.2.2.2.2.2.2.2.2.2.2.2.2.2.2.2.1
  have hT60 := hTc.2.2.2.2.2.2.2.2.2.2.2.2.2.2.2.2.2.2
  have mai : ∀ a, a ≠ gT G c + 1 → mo_AI (mo_wAI μ (gT G c + 1) f e) a = mo_AI μ a := fun a h => by
    rw [mo_AI_wAI, u_ne h]
  have en : ∀ j i, j ≠ 10 → (a_I A 10 (4 * c + f) e).1 j i = A.1 j i := fun j i hj => a_I_n hj
  have ef : ∀ j, j ≠ 10 → (a_I A 10 (4 * c + f) e).1 j = A.1 j := fun j hj => funext fun i => a_I_n hj
  have ep : ∀ c', a_par (a_I A 10 (4 * c + f) e) c' = a_par A c' := fun c' => by unfold a_par; rw [ef 6 (by decide)]
  refine ⟨h1, hX, ⟨o1, o2, by rw [ef 0 (by decide)]; exact o3, by rw [ef 5 (by decide)]; exact o4, fun c' hc' => by rw [ef 6 (by decide)]; exact o5 c' hc', fun e' he' => ?_, fun c' hc' => ?_, fun m hm => ?_, fun m z1 z2 => by rw [ef 11 (by decide), ef 13 (by decide)]; exact o9 m z1 z2⟩, ?_, ?_, fun e' he' => ?_, fun c' hc' => ?_, fun m hm hp => ?_, fun m m' z1 z2 z3 z4 z5 => ?_, fun c' y hc' hy => p7 c' y hc' (by rw [← ep]; exact hy), p8⟩
  · have := o6 e' he'
    unfold a_xp at this ⊢
    rw [ef 1 (by decide), ef 3 (by decide), ef 4 (by decide)]
    exact this
  · obtain ⟨z1, z2, z3, z4⟩ := o7 c' hc'
    refine ⟨by rw [ef 7 (by decide)]; exact z1, by rw [ef 8 (by decide)]; exact z2, by rw [ef 9 (by decide)]; exact z3, fun k hk => ?_⟩
    rw [a_I_1]
    by_cases hcc : 4 * c' + k = 4 * c + f
    · rw [if_pos ⟨rfl, hcc⟩]; exact he
    · rw [if_neg (fun z => hcc z.2)]; exact z4 k hk
  · have := o8 m hm
    unfold a_mp at this ⊢
    rw [ef 11 (by decide), ef 12 (by decide), ef 13 (by decide), ef 14 (by decide), ef 15 (by decide), ef 16 (by decide)]
    exact this
  · exact p1
  · exact p2
  · obtain ⟨z1, z2, z3, z4⟩ := p3 e' he'
    exact ⟨z1, z2, z3, ex_sm z4 rfl (fun k => ⟨rfl, rfl⟩) (en _ _ (by decide)) rfl (en _ _ (by decide)) (en _ _ (by decide))⟩
  · obtain ⟨z1, z2⟩ := p4 c' hc'
    refine ⟨z1, ?_⟩
    by_cases hcc : c' = c
    · subst hcc
      obtain ⟨b1, b2, b3, b4, b5, b6, b7, b8, b9, b10, b11, b12, b13, b14, b15, b16, b17, b18, b19⟩ := z2
      refine ⟨b1, b2, by rw [ep]; exact b3, b4, by rw [en _ _ (by decide)]; exact b5, by rw [en _ _ (by decide)]; exact b6, b7, b8, b9, fun k hk => ?_, b11, b12, b13, b14, b15, fun k hk => by rw [en _ _ (by decide)]; exact b16 k hk, by rw [en _ _ (by decide)]; exact b17, b18, b19⟩
      rw [mo_AI_wAI, mo_u_a, a_I_1]
      by_cases hkf : k = f
      · rw [if_pos ⟨rfl, hkf⟩, if_pos ⟨rfl, by omega⟩]
      · rw [if_neg (fun z => hkf z.2), if_neg (fun z => by have := z.2; omega)]; exact b10 k hk
    · have hne : gT G c' ≠ gT G c := fun z => hcc (by rw [hin hc' hc] at z; exact z)
      exact ty_sm z2 rfl (fun _ _ => rfl) rfl rfl (fun _ _ _ => rfl) (Nat.le_refl _) (fun j hj => ⟨rfl, rfl⟩) (fun k => ⟨rfl, rfl⟩) (mai _ (by omega)) rfl (en _ _ (by decide)) (en _ _ (by decide)) (en _ _ (by decide)) (en _ _ (by decide)) (fun k hk => by rw [a_I_1, if_neg (fun z => by have := z.2; omega)]) (fun k hk => en _ _ (by decide))
  · have hp' : a_pm A m := by unfold a_pm at hp ⊢; rw [en _ _ (by decide)] at hp; exact hp
    exact cd_sm (p5 m hm hp') rfl (Nat.le_refl _) (fun a ha => ⟨rfl, rfl⟩) (fun k hk a z1 z2 => rfl) (fun k => rfl) rfl (en _ _ (by decide)) (en _ _ (by decide)) (en _ _ (by decide)) (fun i hi => ⟨en _ _ (by decide), en _ _ (by decide), en _ _ (by decide)⟩)
  · unfold a_pm at z3 z4
    rw [en _ _ (by decide)] at z3 z4
    exact p6 m m' z1 z2 z3 z4 z5
theorem lk_wAI {x : Nat} {μ : mo_Mem} (a i : Nat) (v : Int32) (ha : x + 60 ≤ a) : c_dm x μ (mo_wAI μ a i v) ∧ c_ot x μ (mo_wAI μ a i v) := by
  refine ⟨⟨Nat.le_refl _, fun k' a' h1 h2 h3 => ⟨rfl, rfl⟩, fun a' h1 => ⟨rfl, by rw [mo_AI_wAI, u_ne (by omega)]⟩, rfl, fun a' h1 => ⟨rfl, rfl⟩, fun a' h1 h2 => ⟨rfl, rfl, rfl, rfl, rfl, rfl⟩⟩, fun a' h1 h2 => ⟨rfl, rfl, fun k' => ⟨rfl, rfl, rfl⟩, by rw [mo_AI_wAI, u_ne (by omega)], rfl⟩⟩
theorem L_kn1 {d x ne : Nat} {μ : mo_Mem} (hs : cl_sf x μ) (hn : mo_I μ 450 (x + 2) = nI ne) (hne : ne ≤ 60) (i : Int32) (Q : mo_P) : (a_en ne i → mo_M (d + 2) 41 [.ref (x + 2), .int i] μ Q = Q (some (.int 1)) μ) ∧ (¬ a_en ne i → mo_M (d + 2) 41 [.ref (x + 2), .int i] μ Q = Q (some (.int 0)) μ) := by
  have ke := fun i Q => L_kn (d := d) hs hn hne i Q
  have hs' := hs
  unfold cl_sf at hs'
  by_cases h1 : i = -1
  · refine ⟨fun _ => ?_, fun h => absurd (Or.inl h1) h⟩
    simp only [we41, en41, true_and, and_true, if_false, if_true, not_true_eq_false, not_false_eq_true, false_implies, true_implies, implies_true, forall_const, true_or, or_true, false_or, or_false, false_and, and_false, eq_self_iff_true, Option.toList_some, Option.toList_none, List.cons_append, List.nil_append, mo_cat_0, mo_cat_c, mo_ct_i, mo_ct_l, mo_ct_r, mo_ct_n, mo_ct_f, Nat.zero_le, Nat.reduceAdd, Nat.reduceLeDiff, Nat.reduceLT, Nat.reduceEqDiff, Nat.reduceSub, mo_rf_s, mo_rf_n, reduceCtorEq, mo_st, mo_st2, mo_lg_0, mo_lg_s, List.set_cons_zero, List.set_cons_succ, List.length_cons, List.length_nil, List.getElem?_cons_zero, List.getElem?_cons_succ, Nat.reduceBEq, Bool.false_eq_true, beq_self_eq_true, h1, mo_ME, mo_u_a, mo_z_a, mo_y_a, Nat.add_left_cancel_iff]
  · by_cases h2 : vp_in i ne
    · refine ⟨fun _ => ?_, fun h => ?_⟩
      · simp only [we41, en41, true_and, and_true, if_false, if_true, not_true_eq_false, not_false_eq_true, false_implies, true_implies, implies_true, forall_const, true_or, or_true, false_or, or_false, false_and, and_false, eq_self_iff_true, Option.toList_some, Option.toList_none, List.cons_append, List.nil_append, mo_cat_0, mo_cat_c, mo_ct_i, mo_ct_l, mo_ct_r, mo_ct_n, mo_ct_f, Nat.zero_le, Nat.reduceAdd, Nat.reduceLeDiff, Nat.reduceLT, Nat.reduceEqDiff, Nat.reduceSub, mo_rf_s, mo_rf_n, reduceCtorEq, mo_st, mo_st2, mo_lg_0, mo_lg_s, List.set_cons_zero, List.set_cons_succ, List.length_cons, List.length_nil, List.getElem?_cons_zero, List.getElem?_cons_succ, Nat.reduceBEq, Bool.false_eq_true, beq_self_eq_true, hs', h1, ke, mo_b_t h2, mo_LC, mo_ME, mo_u_a, mo_z_a, mo_y_a, Nat.add_left_cancel_iff]
      · obtain ⟨e, z1, z2⟩ := vp_ex (by omega) h2
        exact absurd (Or.inr ⟨e, z1, z2⟩) h
    · refine ⟨fun h => ?_, fun _ => ?_⟩
      · rcases h with z | ⟨e, z1, z2⟩
        · exact absurd z h1
        · exact absurd (by rw [z2]; exact vp_in_nI z1 (by omega)) h2
      · simp only [we41, en41, true_and, and_true, if_false, if_true, not_true_eq_false, not_false_eq_true, false_implies, true_implies, implies_true, forall_const, true_or, or_true, false_or, or_false, false_and, and_false, eq_self_iff_true, Option.toList_some, Option.toList_none, List.cons_append, List.nil_append, mo_cat_0, mo_cat_c, mo_ct_i, mo_ct_l, mo_ct_r, mo_ct_n, mo_ct_f, Nat.zero_le, Nat.reduceAdd, Nat.reduceLeDiff, Nat.reduceLT, Nat.reduceEqDiff, Nat.reduceSub, mo_rf_s, mo_rf_n, reduceCtorEq, mo_st, mo_st2, mo_lg_0, mo_lg_s, List.set_cons_zero, List.set_cons_succ, List.length_cons, List.length_nil, List.getElem?_cons_zero, List.getElem?_cons_succ, Nat.reduceBEq, Bool.false_eq_true, beq_self_eq_true, hs', h1, ke, mo_b_f h2, mo_LC, mo_ME, mo_u_a, mo_z_a, mo_y_a, Nat.add_left_cancel_iff]
theorem en_c {ne : Nat} (hne : ne ≤ 60) (e : Int32) : (a_en ne e ∧ (e = -1 ∨ (¬ e = -1 ∧ vp_in e ne))) ∨ (¬ a_en ne e ∧ ¬ e = -1 ∧ ¬ vp_in e ne) := by
  by_cases h1 : e = -1
  · exact Or.inl ⟨Or.inl h1, Or.inl h1⟩
  · by_cases h2 : vp_in e ne
    · obtain ⟨k, z1, z2⟩ := vp_ex (by omega) h2
      exact Or.inl ⟨Or.inr ⟨k, z1, z2⟩, Or.inr ⟨h1, h2⟩⟩
    · refine Or.inr ⟨fun h => ?_, h1, h2⟩
      rcases h with z | ⟨k, z1, z2⟩
      · exact h1 z
      · exact h2 (by rw [z2]; exact vp_in_nI z1 (by omega))
theorem O_begins {x s0 k d bs : Nat} {μ : mo_Mem} {Q : mo_Mem → Prop} (hiv : c_iv x s0 k μ) (hb : bs < x) (hQ : ∀ μ', c_iv x s0 (k + 1) μ' → c_sc bs μ μ' → Q μ') (i f e : Int32) : c_qI x (d + 200) 68 91 bs [.int i, .int f, .int e] μ Q := by
  have hiv0 := hiv; obtain ⟨A, G, O, no, b, q, hs, hd, hr, hst, hX, hS⟩ := hiv0; have fin : Q μ := hQ μ (iv_up hiv) (sc_rf _ _); have hno := hd.2.2.1; have hno1 := hd.2.2.2.1; have hne := hs.2.2.1.2.2.1; have hne60 := hs.2.2.1.1; have hnc := hs.2.2.1.2.2.2.1; have hnc8 := hs.2.2.1.2.1; have hpw := hs.2.2.1.2.2.2.2.1; have hs' := hs.1.1; unfold cl_sf at hs'; have hd2 := hd.2.1; have hrs := hr.1
  unfold c_qI
  have kh := fun Q => L_hasT (d := d + 198) hs.1.1 hd2 hno1 Q
  have k41 := fun Q => L_kn1 (d := d + 197) hs.1.1 hs.2.2.2.1 hne60 e Q
  by_cases hi : vp_in i (gnc G)
  · obtain ⟨c, hc, rfl⟩ := vp_ex (by omega) hi
    have k1 := fun Q => L_ty (d := d + 198) hs hc Q
    have ty := (hs.2.2.2.2.2.2.1 c hc).2
    have hT60 := ty.2.2.2.2.2.2.2.2.2.2.2.2.2.2.2.2.2.2
    have hTX := ty.2.2.2.2.2.2.2.2.2.2.2.2.2.2.2.2.2.1
    obtain ⟨y1, y2, y3, y4, y5, y6, y7, y8, y9, -⟩ := ty
    have g3 : vp_in (nI c) 8 := vp_in_nI (by omega) (by decide)
    have g4 : (nI c).toNatClampNeg = c := nI_clamp (by omega)
    obtain ⟨-, ⟨nf, nf1, nf2⟩, -⟩ := hs.2.2.1.2.2.2.2.2.2.1 c hc
    rw [nf2] at y6
    rcases en_c hne60 e with ⟨he, hee⟩ | ⟨he, he1, he2⟩
    · have k2 := fun Q => (k41 Q).1 he
      by_cases hf : vp_in f nf
      · obtain ⟨fn, hfn, rfl⟩ := vp_ex (by omega) hf
        have c1 : (nI fn < 0) = False := i_ng (by omega)
        have c2 : (nI fn < nI nf) = True := i_lt hfn (by omega)
        by_cases hz : no = 0
        · rw [if_pos hz] at kh
          have v3 : vp_in (nI fn) 4 := vp_in_nI (by omega) (by decide)
          have v4 : (nI fn).toNatClampNeg = fn := nI_clamp (by omega)
          have w3 : vp_in (nI (4 * c + fn)) 32 := vp_in_nI (by omega) (by decide)
          have w4 : (nI (4 * c + fn)).toNatClampNeg = 4 * c + fn := nI_clamp (by omega)
          simp only [we68_0, we68_1, en68, true_and, and_true, if_false, if_true, not_true_eq_false, not_false_eq_true, false_implies, true_implies, implies_true, forall_const, true_or, or_true, false_or, or_false, false_and, and_false, eq_self_iff_true, Option.toList_some, Option.toList_none, List.cons_append, List.nil_append, mo_cat_0, mo_cat_c, mo_ct_i, mo_ct_l, mo_ct_r, mo_ct_n, mo_ct_f, Nat.zero_le, Nat.reduceAdd, Nat.reduceLeDiff, Nat.reduceLT, Nat.reduceEqDiff, Nat.reduceSub, mo_rf_s, mo_rf_n, reduceCtorEq, mo_st, mo_st2, mo_lg_0, mo_lg_s, List.set_cons_zero, List.set_cons_succ, List.length_cons, List.length_nil, List.getElem?_cons_zero, List.getElem?_cons_succ, Nat.reduceBEq, Bool.false_eq_true, beq_self_eq_true, hs', k1, k2, kh, y1, y6, y7, y8, y9, c1, c2, v3, v4, mo_LC, mo_ME, mo_u_a, mo_z_a, mo_y_a, Nat.add_left_cancel_iff]
          refine ⟨_, rfl, sc_dm (lk_wAI (x := x) (μ := μ) (gT G c + 1) fn e (by omega)).1 hb hs.2.1, ?_⟩
          obtain ⟨hdm, hot⟩ := lk_wAI (x := x) (μ := μ) (gT G c + 1) fn e (by omega)
          have hr1 := r_ot hr hot
          have hst1 := st_bg hs hc (f := fn) (by omega) he
          have hr2 : r_at (x + 28) (mo_wAI (mo_wAI μ (gT G c + 1) fn e) (x + 28 + 9) (4 * c + fn) e) (a_I A 10 (4 * c + fn) e) := ⟨r_sh_c hr1.1 rfl rfl rfl, by simp only [r_VW, hr1.2]⟩
          have hfc : r_fc (x + 28) (mo_wAI μ (gT G c + 1) fn e) (mo_wAI (mo_wAI μ (gT G c + 1) fn e) (x + 28 + 9) (4 * c + fn) e) := r_fc_AI (by decide) (r_fc_rf _ _)
          have hdy := dy_pl (A' := a_I A 10 (4 * c + fn) e) (G' := G) hnc8 hpw hd hdm (fun j hj => ⟨funext fun i => a_I_n (by omega), rfl⟩) (fun c' hc' => ⟨hc', rfl, rfl⟩) (fun c' hc' h => bel_ext hnc8 hpw (fun c'' hc'' => a_I_n (by decide)) h 8 c' hc')
          have fin2 := hQ (mo_wAI (mo_wAI μ (gT G c + 1) fn e) (x + 28 + 9) (4 * c + fn) e) ⟨_, G, O, no, b, q, st_fc hst1 hfc, dy_fc hdy hfc, hr2, fun o ho => by rw [a_I_n (by decide)]; exact hst o ho, by simp only [mo_ME]; omega, by simp only [mo_ME]; omega⟩ (sc_tr (sc_dm hdm hb hs.2.1) (sc_fc hfc hb))
          clear hr2 hfc hot hst1 hdy
          revert fin2 hr1
          generalize x + 28 = r
          intro hr1 fin2
          have hrs := hr1.1
          unfold r_sh at hrs
          have H := r_rd hr1
          have kcl := fun i Q => R_isC (d := d + 198) hr1 hnc hnc8 i Q
          have kex := fun i Q => R_isExp (d := d + 198) hr1.1 (H.1.trans hne) (by omega) i Q
          rcases hee with z | ⟨z1, z2⟩
          · subst z
            simp only [we91, en91, true_and, and_true, if_false, if_true, not_true_eq_false, not_false_eq_true, false_implies, true_implies, implies_true, forall_const, true_or, or_true, false_or, or_false, false_and, and_false, eq_self_iff_true, Option.toList_some, Option.toList_none, List.cons_append, List.nil_append, mo_cat_0, mo_cat_c, mo_ct_i, mo_ct_l, mo_ct_r, mo_ct_n, mo_ct_f, Nat.zero_le, Nat.reduceAdd, Nat.reduceLeDiff, Nat.reduceLT, Nat.reduceEqDiff, Nat.reduceSub, mo_rf_s, mo_rf_n, reduceCtorEq, mo_st, mo_st2, mo_lg_0, mo_lg_s, List.set_cons_zero, List.set_cons_succ, List.length_cons, List.length_nil, List.getElem?_cons_zero, List.getElem?_cons_succ, Nat.reduceBEq, Bool.false_eq_true, beq_self_eq_true, hrs, H, kcl, kex, mo_b_t hi, g3, g4, nf2, c1, c2, hno, i0no hno1, i00, hz, l4, nI_add, w3, w4, mo_LC, mo_ME, mo_u_a, mo_z_a, mo_y_a, Nat.add_left_cancel_iff]
            exact fin2
          · simp only [we91, en91, true_and, and_true, if_false, if_true, not_true_eq_false, not_false_eq_true, false_implies, true_implies, implies_true, forall_const, true_or, or_true, false_or, or_false, false_and, and_false, eq_self_iff_true, Option.toList_some, Option.toList_none, List.cons_append, List.nil_append, mo_cat_0, mo_cat_c, mo_ct_i, mo_ct_l, mo_ct_r, mo_ct_n, mo_ct_f, Nat.zero_le, Nat.reduceAdd, Nat.reduceLeDiff, Nat.reduceLT, Nat.reduceEqDiff, Nat.reduceSub, mo_rf_s, mo_rf_n, reduceCtorEq, mo_st, mo_st2, mo_lg_0, mo_lg_s, List.set_cons_zero, List.set_cons_succ, List.length_cons, List.length_nil, List.getElem?_cons_zero, List.getElem?_cons_succ, Nat.reduceBEq, Bool.false_eq_true, beq_self_eq_true, hrs, H, kcl, kex, mo_b_t hi, z1, mo_b_t z2, g3, g4, nf2, c1, c2, hno, i0no hno1, i00, hz, l4, nI_add, w3, w4, mo_LC, mo_ME, mo_u_a, mo_z_a, mo_y_a, Nat.add_left_cancel_iff]
            exact fin2
        · rw [if_neg hz] at kh
          simp only [we68_0, we68_1, en68, true_and, and_true, if_false, if_true, not_true_eq_false, not_false_eq_true, false_implies, true_implies, implies_true, forall_const, true_or, or_true, false_or, or_false, false_and, and_false, eq_self_iff_true, Option.toList_some, Option.toList_none, List.cons_append, List.nil_append, mo_cat_0, mo_cat_c, mo_ct_i, mo_ct_l, mo_ct_r, mo_ct_n, mo_ct_f, Nat.zero_le, Nat.reduceAdd, Nat.reduceLeDiff, Nat.reduceLT, Nat.reduceEqDiff, Nat.reduceSub, mo_rf_s, mo_rf_n, reduceCtorEq, mo_st, mo_st2, mo_lg_0, mo_lg_s, List.set_cons_zero, List.set_cons_succ, List.length_cons, List.length_nil, List.getElem?_cons_zero, List.getElem?_cons_succ, Nat.reduceBEq, Bool.false_eq_true, beq_self_eq_true, hs', k1, k2, kh, y1, y6, c1, c2, mo_LC, mo_ME, mo_u_a, mo_z_a, mo_y_a, Nat.add_left_cancel_iff]
          refine ⟨_, rfl, sc_rf _ _, ?_⟩
          generalize x + 28 = r at hr ⊢; have hrs := hr.1; unfold r_sh at hrs; have H := r_rd hr; have kcl := fun i Q => R_isC (d := d + 198) hr hnc hnc8 i Q; have kex := fun i Q => R_isExp (d := d + 198) hr.1 (H.1.trans hne) (by omega) i Q
          rcases hee with z | ⟨z1, z2⟩
          · simp only [we91, en91, true_and, and_true, if_false, if_true, not_true_eq_false, not_false_eq_true, false_implies, true_implies, implies_true, forall_const, true_or, or_true, false_or, or_false, false_and, and_false, eq_self_iff_true, Option.toList_some, Option.toList_none, List.cons_append, List.nil_append, mo_cat_0, mo_cat_c, mo_ct_i, mo_ct_l, mo_ct_r, mo_ct_n, mo_ct_f, Nat.zero_le, Nat.reduceAdd, Nat.reduceLeDiff, Nat.reduceLT, Nat.reduceEqDiff, Nat.reduceSub, mo_rf_s, mo_rf_n, reduceCtorEq, mo_st, mo_st2, mo_lg_0, mo_lg_s, List.set_cons_zero, List.set_cons_succ, List.length_cons, List.length_nil, List.getElem?_cons_zero, List.getElem?_cons_succ, Nat.reduceBEq, Bool.false_eq_true, beq_self_eq_true, hrs, H, kcl, kex, mo_b_t hi, z, g3, g4, nf2, c1, c2, hno, i0no hno1, i00, hz, mo_LC, mo_ME, mo_u_a, mo_z_a, mo_y_a, Nat.add_left_cancel_iff]
            exact fin
          · simp only [we91, en91, true_and, and_true, if_false, if_true, not_true_eq_false, not_false_eq_true, false_implies, true_implies, implies_true, forall_const, true_or, or_true, false_or, or_false, false_and, and_false, eq_self_iff_true, Option.toList_some, Option.toList_none, List.cons_append, List.nil_append, mo_cat_0, mo_cat_c, mo_ct_i, mo_ct_l, mo_ct_r, mo_ct_n, mo_ct_f, Nat.zero_le, Nat.reduceAdd, Nat.reduceLeDiff, Nat.reduceLT, Nat.reduceEqDiff, Nat.reduceSub, mo_rf_s, mo_rf_n, reduceCtorEq, mo_st, mo_st2, mo_lg_0, mo_lg_s, List.set_cons_zero, List.set_cons_succ, List.length_cons, List.length_nil, List.getElem?_cons_zero, List.getElem?_cons_succ, Nat.reduceBEq, Bool.false_eq_true, beq_self_eq_true, hrs, H, kcl, kex, mo_b_t hi, z1, mo_b_t z2, g3, g4, nf2, c1, c2, hno, i0no hno1, i00, hz, mo_LC, mo_ME, mo_u_a, mo_z_a, mo_y_a, Nat.add_left_cancel_iff]
            exact fin
      · rcases vp_o2 (by omega) hf with w | ⟨w1, w2, w3⟩
        · simp only [we68_0, we68_1, en68, true_and, and_true, if_false, if_true, not_true_eq_false, not_false_eq_true, false_implies, true_implies, implies_true, forall_const, true_or, or_true, false_or, or_false, false_and, and_false, eq_self_iff_true, Option.toList_some, Option.toList_none, List.cons_append, List.nil_append, mo_cat_0, mo_cat_c, mo_ct_i, mo_ct_l, mo_ct_r, mo_ct_n, mo_ct_f, Nat.zero_le, Nat.reduceAdd, Nat.reduceLeDiff, Nat.reduceLT, Nat.reduceEqDiff, Nat.reduceSub, mo_rf_s, mo_rf_n, reduceCtorEq, mo_st, mo_st2, mo_lg_0, mo_lg_s, List.set_cons_zero, List.set_cons_succ, List.length_cons, List.length_nil, List.getElem?_cons_zero, List.getElem?_cons_succ, Nat.reduceBEq, Bool.false_eq_true, beq_self_eq_true, hs', k1, k2, y1, w, mo_LC, mo_ME, mo_u_a, mo_z_a, mo_y_a, Nat.add_left_cancel_iff]
          refine ⟨_, rfl, sc_rf _ _, ?_⟩
          generalize x + 28 = r at hr ⊢; have hrs := hr.1; unfold r_sh at hrs; have H := r_rd hr; have kcl := fun i Q => R_isC (d := d + 198) hr hnc hnc8 i Q; have kex := fun i Q => R_isExp (d := d + 198) hr.1 (H.1.trans hne) (by omega) i Q
          rcases hee with z | ⟨z1, z2⟩
          · simp only [we91, en91, true_and, and_true, if_false, if_true, not_true_eq_false, not_false_eq_true, false_implies, true_implies, implies_true, forall_const, true_or, or_true, false_or, or_false, false_and, and_false, eq_self_iff_true, Option.toList_some, Option.toList_none, List.cons_append, List.nil_append, mo_cat_0, mo_cat_c, mo_ct_i, mo_ct_l, mo_ct_r, mo_ct_n, mo_ct_f, Nat.zero_le, Nat.reduceAdd, Nat.reduceLeDiff, Nat.reduceLT, Nat.reduceEqDiff, Nat.reduceSub, mo_rf_s, mo_rf_n, reduceCtorEq, mo_st, mo_st2, mo_lg_0, mo_lg_s, List.set_cons_zero, List.set_cons_succ, List.length_cons, List.length_nil, List.getElem?_cons_zero, List.getElem?_cons_succ, Nat.reduceBEq, Bool.false_eq_true, beq_self_eq_true, hrs, H, kcl, kex, mo_b_t hi, z, g3, g4, w, mo_LC, mo_ME, mo_u_a, mo_z_a, mo_y_a, Nat.add_left_cancel_iff]
            exact fin
          · simp only [we91, en91, true_and, and_true, if_false, if_true, not_true_eq_false, not_false_eq_true, false_implies, true_implies, implies_true, forall_const, true_or, or_true, false_or, or_false, false_and, and_false, eq_self_iff_true, Option.toList_some, Option.toList_none, List.cons_append, List.nil_append, mo_cat_0, mo_cat_c, mo_ct_i, mo_ct_l, mo_ct_r, mo_ct_n, mo_ct_f, Nat.zero_le, Nat.reduceAdd, Nat.reduceLeDiff, Nat.reduceLT, Nat.reduceEqDiff, Nat.reduceSub, mo_rf_s, mo_rf_n, reduceCtorEq, mo_st, mo_st2, mo_lg_0, mo_lg_s, List.set_cons_zero, List.set_cons_succ, List.length_cons, List.length_nil, List.getElem?_cons_zero, List.getElem?_cons_succ, Nat.reduceBEq, Bool.false_eq_true, beq_self_eq_true, hrs, H, kcl, kex, mo_b_t hi, z1, mo_b_t z2, g3, g4, w, mo_LC, mo_ME, mo_u_a, mo_z_a, mo_y_a, Nat.add_left_cancel_iff]
            exact fin
        · simp only [we68_0, we68_1, en68, true_and, and_true, if_false, if_true, not_true_eq_false, not_false_eq_true, false_implies, true_implies, implies_true, forall_const, true_or, or_true, false_or, or_false, false_and, and_false, eq_self_iff_true, Option.toList_some, Option.toList_none, List.cons_append, List.nil_append, mo_cat_0, mo_cat_c, mo_ct_i, mo_ct_l, mo_ct_r, mo_ct_n, mo_ct_f, Nat.zero_le, Nat.reduceAdd, Nat.reduceLeDiff, Nat.reduceLT, Nat.reduceEqDiff, Nat.reduceSub, mo_rf_s, mo_rf_n, reduceCtorEq, mo_st, mo_st2, mo_lg_0, mo_lg_s, List.set_cons_zero, List.set_cons_succ, List.length_cons, List.length_nil, List.getElem?_cons_zero, List.getElem?_cons_succ, Nat.reduceBEq, Bool.false_eq_true, beq_self_eq_true, hs', k1, k2, y1, y6, w1, w2, w3, mo_LC, mo_ME, mo_u_a, mo_z_a, mo_y_a, Nat.add_left_cancel_iff]
          refine ⟨_, rfl, sc_rf _ _, ?_⟩
          generalize x + 28 = r at hr ⊢; have hrs := hr.1; unfold r_sh at hrs; have H := r_rd hr; have kcl := fun i Q => R_isC (d := d + 198) hr hnc hnc8 i Q; have kex := fun i Q => R_isExp (d := d + 198) hr.1 (H.1.trans hne) (by omega) i Q
          rcases hee with z | ⟨z1, z2⟩
          · simp only [we91, en91, true_and, and_true, if_false, if_true, not_true_eq_false, not_false_eq_true, false_implies, true_implies, implies_true, forall_const, true_or, or_true, false_or, or_false, false_and, and_false, eq_self_iff_true, Option.toList_some, Option.toList_none, List.cons_append, List.nil_append, mo_cat_0, mo_cat_c, mo_ct_i, mo_ct_l, mo_ct_r, mo_ct_n, mo_ct_f, Nat.zero_le, Nat.reduceAdd, Nat.reduceLeDiff, Nat.reduceLT, Nat.reduceEqDiff, Nat.reduceSub, mo_rf_s, mo_rf_n, reduceCtorEq, mo_st, mo_st2, mo_lg_0, mo_lg_s, List.set_cons_zero, List.set_cons_succ, List.length_cons, List.length_nil, List.getElem?_cons_zero, List.getElem?_cons_succ, Nat.reduceBEq, Bool.false_eq_true, beq_self_eq_true, hrs, H, kcl, kex, mo_b_t hi, z, g3, g4, nf2, w1, w2, w3, mo_LC, mo_ME, mo_u_a, mo_z_a, mo_y_a, Nat.add_left_cancel_iff]
            exact fin
          · simp only [we91, en91, true_and, and_true, if_false, if_true, not_true_eq_false, not_false_eq_true, false_implies, true_implies, implies_true, forall_const, true_or, or_true, false_or, or_false, false_and, and_false, eq_self_iff_true, Option.toList_some, Option.toList_none, List.cons_append, List.nil_append, mo_cat_0, mo_cat_c, mo_ct_i, mo_ct_l, mo_ct_r, mo_ct_n, mo_ct_f, Nat.zero_le, Nat.reduceAdd, Nat.reduceLeDiff, Nat.reduceLT, Nat.reduceEqDiff, Nat.reduceSub, mo_rf_s, mo_rf_n, reduceCtorEq, mo_st, mo_st2, mo_lg_0, mo_lg_s, List.set_cons_zero, List.set_cons_succ, List.length_cons, List.length_nil, List.getElem?_cons_zero, List.getElem?_cons_succ, Nat.reduceBEq, Bool.false_eq_true, beq_self_eq_true, hrs, H, kcl, kex, mo_b_t hi, z1, mo_b_t z2, g3, g4, nf2, w1, w2, w3, mo_LC, mo_ME, mo_u_a, mo_z_a, mo_y_a, Nat.add_left_cancel_iff]
            exact fin
    · have k2 := fun Q => (k41 Q).2 he
      simp only [we68_0, we68_1, en68, true_and, and_true, if_false, if_true, not_true_eq_false, not_false_eq_true, false_implies, true_implies, implies_true, forall_const, true_or, or_true, false_or, or_false, false_and, and_false, eq_self_iff_true, Option.toList_some, Option.toList_none, List.cons_append, List.nil_append, mo_cat_0, mo_cat_c, mo_ct_i, mo_ct_l, mo_ct_r, mo_ct_n, mo_ct_f, Nat.zero_le, Nat.reduceAdd, Nat.reduceLeDiff, Nat.reduceLT, Nat.reduceEqDiff, Nat.reduceSub, mo_rf_s, mo_rf_n, reduceCtorEq, mo_st, mo_st2, mo_lg_0, mo_lg_s, List.set_cons_zero, List.set_cons_succ, List.length_cons, List.length_nil, List.getElem?_cons_zero, List.getElem?_cons_succ, Nat.reduceBEq, Bool.false_eq_true, beq_self_eq_true, hs', k1, k2, y1, mo_LC, mo_ME, mo_u_a, mo_z_a, mo_y_a, Nat.add_left_cancel_iff]
      refine ⟨_, rfl, sc_rf _ _, ?_⟩
      generalize x + 28 = r at hr ⊢; have hrs := hr.1; unfold r_sh at hrs; have H := r_rd hr; have kcl := fun i Q => R_isC (d := d + 198) hr hnc hnc8 i Q; have kex := fun i Q => R_isExp (d := d + 198) hr.1 (H.1.trans hne) (by omega) i Q
      simp only [we91, en91, true_and, and_true, if_false, if_true, not_true_eq_false, not_false_eq_true, false_implies, true_implies, implies_true, forall_const, true_or, or_true, false_or, or_false, false_and, and_false, eq_self_iff_true, Option.toList_some, Option.toList_none, List.cons_append, List.nil_append, mo_cat_0, mo_cat_c, mo_ct_i, mo_ct_l, mo_ct_r, mo_ct_n, mo_ct_f, Nat.zero_le, Nat.reduceAdd, Nat.reduceLeDiff, Nat.reduceLT, Nat.reduceEqDiff, Nat.reduceSub, mo_rf_s, mo_rf_n, reduceCtorEq, mo_st, mo_st2, mo_lg_0, mo_lg_s, List.set_cons_zero, List.set_cons_succ, List.length_cons, List.length_nil, List.getElem?_cons_zero, List.getElem?_cons_succ, Nat.reduceBEq, Bool.false_eq_true, beq_self_eq_true, hrs, kcl, kex, mo_b_t hi, he1, mo_b_f he2, mo_LC, mo_ME, mo_u_a, mo_z_a, mo_y_a, Nat.add_left_cancel_iff]
      exact fin
  · have k1 := fun Q => L_tyI (d := d + 198) hs hi Q
    simp only [we68_0, we68_1, en68, true_and, and_true, if_false, if_true, not_true_eq_false, not_false_eq_true, false_implies, true_implies, implies_true, forall_const, true_or, or_true, false_or, or_false, false_and, and_false, eq_self_iff_true, Option.toList_some, Option.toList_none, List.cons_append, List.nil_append, mo_cat_0, mo_cat_c, mo_ct_i, mo_ct_l, mo_ct_r, mo_ct_n, mo_ct_f, Nat.zero_le, Nat.reduceAdd, Nat.reduceLeDiff, Nat.reduceLT, Nat.reduceEqDiff, Nat.reduceSub, mo_rf_s, mo_rf_n, reduceCtorEq, mo_st, mo_st2, mo_lg_0, mo_lg_s, List.set_cons_zero, List.set_cons_succ, List.length_cons, List.length_nil, List.getElem?_cons_zero, List.getElem?_cons_succ, Nat.reduceBEq, Bool.false_eq_true, beq_self_eq_true, hs', k1, mo_ME, mo_u_a, mo_z_a, mo_y_a, Nat.add_left_cancel_iff]
    refine ⟨_, rfl, sc_rf _ _, ?_⟩
    generalize x + 28 = r at hr ⊢; have hrs := hr.1; unfold r_sh at hrs; have H := r_rd hr; have kcl := fun i Q => R_isC (d := d + 198) hr hnc hnc8 i Q; have kex := fun i Q => R_isExp (d := d + 198) hr.1 (H.1.trans hne) (by omega) i Q
    simp only [we91, en91, true_and, and_true, if_false, if_true, not_true_eq_false, not_false_eq_true, false_implies, true_implies, implies_true, forall_const, true_or, or_true, false_or, or_false, false_and, and_false, eq_self_iff_true, Option.toList_some, Option.toList_none, List.cons_append, List.nil_append, mo_cat_0, mo_cat_c, mo_ct_i, mo_ct_l, mo_ct_r, mo_ct_n, mo_ct_f, Nat.zero_le, Nat.reduceAdd, Nat.reduceLeDiff, Nat.reduceLT, Nat.reduceEqDiff, Nat.reduceSub, mo_rf_s, mo_rf_n, reduceCtorEq, mo_st, mo_st2, mo_lg_0, mo_lg_s, List.set_cons_zero, List.set_cons_succ, List.length_cons, List.length_nil, List.getElem?_cons_zero, List.getElem?_cons_succ, Nat.reduceBEq, Bool.false_eq_true, beq_self_eq_true, hrs, kcl, mo_b_f hi, mo_LC, mo_ME, mo_u_a, mo_z_a, mo_y_a, Nat.add_left_cancel_iff]
    exact fin
