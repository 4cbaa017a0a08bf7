/-- a code's end, in both -/
theorem lv_end {x u P F b q no : Nat} {B : mo_A} {G : c_G} {O : Nat → Nat} {μ : mo_Mem} {A X : mo_A} {n : Nat} (hd : c_dy x B G (u + 1) P (F + 1) μ A O no b q) (hn : A.1 42 0 = nI n) (hX : a_x a_sk A X) (hXu : a_u F A X) : c_dy x B G u P F (mo_wI (mo_wI μ 327 (x + 1) (nI u)) 514 (x + 9) (nI (n + 1))) (a_I (a_I (a_I X 38 0 (nI u)) 42 0 (nI (n + 1))) 27 0 (nI F)) O no b q ∧ c_kp x u P F μ A O no b (mo_wI (mo_wI μ 327 (x + 1) (nI u)) 514 (x + 9) (nI (n + 1))) (a_I (a_I (a_I X 38 0 (nI u)) 42 0 (nI (n + 1))) 27 0 (nI F)) O no b := by
  have hx : a_x (38 :: 42 :: a_sk) A (a_I (a_I (a_I X 38 0 (nI u)) 42 0 (nI (n + 1))) 27 0 (nI F)) := by
    refine ax_I (by decide) (ax_I (by decide) (ax_I (by decide) ?_))
    intro j hj
    exact hX j (fun h => hj (List.mem_cons_of_mem _ (List.mem_cons_of_mem _ h)))
  exact ⟨dy_lv rfl hn hd hx (by rw [a_I_1, if_pos ⟨rfl, rfl⟩]) (by rw [a_I_n (by decide), a_I_n (by decide), a_I_1, if_pos ⟨rfl, rfl⟩]) (by rw [a_I_n (by decide), a_I_1, if_pos ⟨rfl, rfl⟩]), kp_x (km_lv x u P μ _ _) (au_I (by omega) (au_I (by omega) (au_I (by omega) hXu))) hx (by decide) (by decide) (by decide) (Nat.le_refl _)⟩
theorem rm_all {x u d : Nat} {B : mo_A} {G : c_G} (hW : u < 12 → c_W x B G u (d + 7)) (hW' : u < 12 → c_W x B G u (d + 8)) : c_RM x B G u (d + 9) := by
  intro μ A O no P F b q k nm o g A1 Q hs hd h0 hk hnm hop ho hbel hF hA1 hpost
  have hs' := hs.1.1
  unfold cl_sf at hs'
  have hd0 := hd
  obtain ⟨d1, d2, d3, d4, d5, d6, d7, d8, d9, d10, d11, d12, d13, d14, d15, d16, d17, d18, d19, d20, d21, d22, d23, d24, d25⟩ := hd0
  have hn8 := hs.2.2.1.2.1
  have hm : 5 * k + 1 + nm < 5 * gnc G := by omega
  have hpm : a_pm B (5 * k + 1 + nm) := Or.inr hop
  have hmk : a_mk B G k nm = some (gK G (5 * k + 1 + nm)) := by unfold a_mk; rw [if_neg hop]
  have k1 := fun Q => L_mAt (d := d + 6) hs hk hnm Q
  rw [hmk] at k1
  obtain ⟨c1, c2, c3, c4, c5, c6, c7, c8, c9, c10⟩ := hs.2.2.2.2.2.2.2.1 _ hm hpm
  have y1 := (hs.2.2.2.2.2.2.1 k hk).2.1
  obtain ⟨co, t⟩ := d24 o ho
  have t6 := t.2.2.2.2.2.1
  rcases hA1 with ⟨hu, g0, hg0, rfl⟩ | ⟨hu, rfl⟩
  · have k2 := fun Q => L_enter (d := d + 7) hs.1 d5 hu (d14.trans hg0) y1 t6 g Q
    simp only [we22_0, we22_1, en22, true_and, and_true, if_false, if_true, not_true_eq_false, not_false_eq_true, false_implies, true_implies, implies_true, forall_const, true_or, or_true, false_or, or_false, false_and, and_false, eq_self_iff_true, Option.toList_some, Option.toList_none, List.cons_append, List.nil_append, mo_cat_0, mo_cat_c, mo_ct_i, mo_ct_l, mo_ct_r, mo_ct_n, mo_ct_f, Nat.zero_le, Nat.reduceAdd, Nat.reduceLeDiff, Nat.reduceLT, Nat.reduceEqDiff, Nat.reduceSub, mo_rf_s, mo_rf_n, reduceCtorEq, mo_st, mo_st2, mo_lg_0, mo_lg_s, List.set_cons_zero, List.set_cons_succ, List.length_cons, List.length_nil, List.getElem?_cons_zero, List.getElem?_cons_succ, Nat.reduceBEq, Bool.false_eq_true, beq_self_eq_true, hs', y1, t6, c1, k1, k2, mo_ME, mo_u_a, mo_z_a, mo_y_a, Nat.add_left_cancel_iff]
    obtain ⟨p1, p2, p3, p4, p5, p6, p7, p8⟩ := push_rd (a_I (a_I A 38 0 (nI (u + 1))) 41 0 (nI (g0 + 1))) F 2 (nI (5 * k + 1 + nm)) (nI o) (nI k) g
    have hx1 : a_x (38 :: 41 :: a_sk) A (a_push (a_I (a_I A 38 0 (nI (u + 1))) 41 0 (nI (g0 + 1))) F 2 (nI (5 * k + 1 + nm)) (nI o) (nI k) g) := ax_push (by decide) (ax_I (by decide) (ax_I (by decide) (ax_rf _ _)))
    have hu1 : a_u F A (a_push (a_I (a_I A 38 0 (nI (u + 1))) 41 0 (nI (g0 + 1))) F 2 (nI (5 * k + 1 + nm)) (nI o) (nI k) g) := au_push (Nat.le_refl _) (au_I (by omega) (au_I (by omega) (au_rf _ _)))
    have e38 : (a_push (a_I (a_I A 38 0 (nI (u + 1))) 41 0 (nI (g0 + 1))) F 2 (nI (5 * k + 1 + nm)) (nI o) (nI k) g).1 38 0 = nI (u + 1) := by simp only [a_push, a_I_1, a_I_2, a_L_1, a_L_2, Nat.reduceEqDiff, false_and, and_self, if_true, if_false]
    have e41 : (a_push (a_I (a_I A 38 0 (nI (u + 1))) 41 0 (nI (g0 + 1))) F 2 (nI (5 * k + 1 + nm)) (nI o) (nI k) g).1 41 0 = nI (g0 + 1) := by simp only [a_push, a_I_1, a_I_2, a_L_1, a_L_2, Nat.reduceEqDiff, false_and, and_self, if_true, if_false]
    generalize a_push (a_I (a_I A 38 0 (nI (u + 1))) 41 0 (nI (g0 + 1))) F 2 (nI (5 * k + 1 + nm)) (nI o) (nI k) g = A1 at *
    have km1 := km_en x P hu μ (gT G k) (O o) g (nI g0)
    have hs1 := c_st_k hs km1.1
    have hd1 := dy_en (hm := gT G k) (t := O o) (g := g) hu hg0 hd hx1 (F' := F + 1) p8 e38 e41
    have kp1 : c_kp x u P F μ A O no b _ A1 O no b := kp_x km1 hu1 hx1 (by decide) (by decide) (by decide) (Nat.le_refl _)
    obtain ⟨c0, b1, b2, b3⟩ := hbel
    have hfr1 : c_fr x B G u F (m_en x μ u (gT G k) (O o) g (nI g0)) A1 O no k o := ⟨by simp only [m_en, mo_ME, mo_u_a, Nat.reduceEqDiff, false_and, and_self, if_true, if_false], by simp only [m_en, mo_ME, mo_u_a, Nat.reduceEqDiff, false_and, and_self, if_true, if_false], by rw [p6]; simp only [m_en, mo_ME, mo_u_a, Nat.reduceEqDiff, false_and, and_self, if_true, if_false], p4, p5, hk, ho, hu, c0, by rw [(hx1 18 (by decide)).1]; exact b1, b2, b3⟩
    have h01 : A1.1 37 0 = 0 := by rw [(hx1 37 (by decide)).1]; exact h0
    obtain ⟨m1, m2, na, n1, n2, n3⟩ := hs.2.2.1.2.2.2.2.2.2.2.1 _ hm
    have hres := m2 hop
    refine ⟨hs1.1.1.2.2.2.1, ra_all (hW hu) (Or.inl ⟨rfl, rfl⟩) hu hm hpm n2 n1 hs1 hd1 hfr1 p1 p2 p3 h01 (by omega) ?_⟩
    intro μ2 A2 O2 no2 b2' q2 r1 r2 r3 r4 r5
    have hs2 := c_st_k hs1 r3.1
    have hd2 := r1
    obtain ⟨e1, e2, e3, e4, e5, e6, e7, e8, e9, e10, e11, e12, e13, e14, e15, e16, e17, e18, e19, e20, e21, e22, e23, e24, e25⟩ := hd2
    have hs2' := hs2.1.1
    unfold cl_sf at hs2'
    obtain ⟨z1, z2, z3, -⟩ := hs2.2.2.2.2.2.2.2.1 _ hm hpm
    have z3 := z3 hop
    obtain ⟨n, hn⟩ := i_ex (A2.1 42 0)
    have k5 := fun Q => L_leave (d := d + 7) hs2.1.1 e5 (e15.trans hn) Q
    have kp2 := c_kp_tr kp1 r3 (Nat.le_succ _) (Nat.le_refl _) (Nat.le_refl _)
    have h282 : A2.1 28 F = 2 := r4.1.trans p1
    have h292 : A2.1 29 F = nI (5 * k + 1 + nm) := r4.2.1.trans p2
    have h312 : A2.1 31 F = nI k := r4.2.2.1.trans p4
    have h352 : A2.1 35 F = 0 := r4.2.2.2.2.2.1.trans p7
    have hF3 : F < 399 := by omega
    by_cases hfy : A2.1 37 0 = 0
    · have k3 := fun Q => L_failed (d := d + 7) hs2.1.1 (e20.trans hfy) Q
      rcases hres with hr | ⟨e, he, hr⟩
      · rw [hr] at z3
        simp only [we22_0, we22_1, en22, true_and, and_true, if_false, if_true, not_true_eq_false, not_false_eq_true, false_implies, true_implies, implies_true, forall_const, true_or, or_true, false_or, or_false, false_and, and_false, eq_self_iff_true, Option.toList_some, Option.toList_none, List.cons_append, List.nil_append, mo_cat_0, mo_cat_c, mo_ct_i, mo_ct_l, mo_ct_r, mo_ct_n, mo_ct_f, Nat.zero_le, Nat.reduceAdd, Nat.reduceLeDiff, Nat.reduceLT, Nat.reduceEqDiff, Nat.reduceSub, mo_rf_s, mo_rf_n, reduceCtorEq, mo_st, mo_st2, mo_lg_0, mo_lg_s, List.set_cons_zero, List.set_cons_succ, List.length_cons, List.length_nil, List.getElem?_cons_zero, List.getElem?_cons_succ, Nat.reduceBEq, Bool.false_eq_true, beq_self_eq_true, hs2', z1, z3, k3, k5, nI_1, mo_LC, mo_ME, mo_u_a, mo_z_a, mo_y_a, Nat.add_left_cancel_iff]
        have hS := S_NendN (r := x + 28) (k := na) e10 hF3 hfy h282 h312 (by omega) h292 (by omega) (by omega) (r5 hfy) (by rw [(e1 13 (by decide)).1, n2]; exact Int32.le_refl _) (by rw [(e1 12 (by decide)).1]; exact hr) e6 hn
        obtain ⟨f1, f2⟩ := lv_end (X := a_L A2 36 0 0) r1 hn (ax_L (by decide) (ax_rf _ _)) (au_L (by omega) (au_rf _ _))
        exact hpost 0 _ _ O2 no2 b2' q2 f1 (a_rc_tr r2 (a_rc_st e10 hF3 hS)) (c_kp_tr kp2 f2 (Nat.le_refl _) (Nat.le_refl _) (Nat.le_refl _)) (fun _ => by simp only [a_I_2, a_L_2, and_self, if_true])
      · rw [hr] at z3
        have hne : (nI e = -1) = False := nI_nm1 (by have := hs.2.2.1.1; omega)
        simp only [we22_0, we22_1, en22, true_and, and_true, if_false, if_true, not_true_eq_false, not_false_eq_true, false_implies, true_implies, implies_true, forall_const, true_or, or_true, false_or, or_false, false_and, and_false, eq_self_iff_true, Option.toList_some, Option.toList_none, List.cons_append, List.nil_append, mo_cat_0, mo_cat_c, mo_ct_i, mo_ct_l, mo_ct_r, mo_ct_n, mo_ct_f, Nat.zero_le, Nat.reduceAdd, Nat.reduceLeDiff, Nat.reduceLT, Nat.reduceEqDiff, Nat.reduceSub, mo_rf_s, mo_rf_n, reduceCtorEq, mo_st, mo_st2, mo_lg_0, mo_lg_s, List.set_cons_zero, List.set_cons_succ, List.length_cons, List.length_nil, List.getElem?_cons_zero, List.getElem?_cons_succ, Nat.reduceBEq, Bool.false_eq_true, beq_self_eq_true, hs2', z1, z3, k3, hne, mo_LC, hs2.1.2 u hu, mo_ME, mo_u_a, mo_z_a, mo_y_a, Nat.add_left_cancel_iff]
        have hfr2 := fr_s hfr1 r3 (Nat.lt_succ_self _) r4
        have hWs : ∃ A3, a_wk (a_I A2 30 F (nI (2 * na + 1))) b2' e F A3 ∧ r_S (x + 28) A2 A3 := by
          have hA12 : A2.1 12 (5 * k + 1 + nm) = nI e := by rw [(e1 12 (by decide)).1]; exact hr
          have hA13 : A2.1 13 (5 * k + 1 + nm) ≤ nI na := by rw [(e1 13 (by decide)).1, n2]; exact Int32.le_refl _
          by_cases hb2 : b2' < 300
          · refine ⟨_, wk_1 hb2, ?_⟩
            have := S_Nres (r := x + 28) (k := na) e10 hF3 hfy h282 h312 (by omega) h292 (by omega) (by omega) (r5 hfy) hA13 (by rw [hA12, hne]; exact id) e12 hb2
            rw [hA12, ← h312] at this
            exact this
          · have hb4 : b2' = 300 := by omega
            subst hb4
            exact ⟨_, wk_2 rfl, S_NresS (k := na) e10 hF3 hfy h282 h312 (by omega) h292 (by omega) (by omega) (r5 hfy) hA13 (by rw [hA12, hne]; exact id) e12⟩
        obtain ⟨A3, hA3w, hS3⟩ := hWs
        have hx3 : a_x a_sk A2 (a_I A2 30 F (nI (2 * na + 1))) := ax_I (by decide) (ax_rf _ _)
        have kp3 : c_kp x (u + 1) P F μ2 A2 O2 no2 b2' μ2 (a_I A2 30 F (nI (2 * na + 1))) O2 no2 b2' := kp_x (km_rf x (u + 1) P μ2) (au_I (by omega) (au_rf _ _)) hx3 (by decide) (by decide) (by decide) (Nat.le_refl _)
        refine hW' hu μ2 (a_I A2 30 F (nI (2 * na + 1))) O2 no2 P F b2' q2 k o e A3 _ hs2 (dy_stk r1 hx3 (by rw [a_I_n (by decide)]; exact e10)) (by rw [a_I_n (by decide)]; exact hfy) (fr_s hfr2 kp3 (Nat.lt_succ_self _) (fs_I (Or.inl rfl) (fs_rf _ _))) he (by omega) hA3w ?_
        intro v μ4 A4 O4 no4 b4 q4 s1 s2 s3 s4
        have hs4 := c_st_k hs2 s3.1
        have hfu := (s3.2.2.2.2.2.2.2.1 F (Nat.lt_succ_self _)).1
        obtain ⟨j1, j2, j3, j4, j5, j6, j7, j8, j9, j10, j11, j12, j13, j14, j15, j16, j17, j18, j19, j20, j21, j22, j23, j24, j25⟩ := s1
        have s1 : c_dy x B G (u + 1) P (F + 1) μ4 A4 O4 no4 b4 q4 := ⟨j1, j2, j3, j4, j5, j6, j7, j8, j9, j10, j11, j12, j13, j14, j15, j16, j17, j18, j19, j20, j21, j22, j23, j24, j25⟩
        obtain ⟨n', hn'⟩ := i_ex (A4.1 42 0)
        have k6 := fun Q => L_leave (d := d + 7) hs4.1.1 j5 (j15.trans hn') Q
        have hs4' := hs4.1.1
        unfold cl_sf at hs4'
        simp only [we22_0, we22_1, en22, true_and, and_true, if_false, if_true, not_true_eq_false, not_false_eq_true, false_implies, true_implies, implies_true, forall_const, true_or, or_true, false_or, or_false, false_and, and_false, eq_self_iff_true, Option.toList_some, Option.toList_none, List.cons_append, List.nil_append, mo_cat_0, mo_cat_c, mo_ct_i, mo_ct_l, mo_ct_r, mo_ct_n, mo_ct_f, Nat.zero_le, Nat.reduceAdd, Nat.reduceLeDiff, Nat.reduceLT, Nat.reduceEqDiff, Nat.reduceSub, mo_rf_s, mo_rf_n, reduceCtorEq, mo_st, mo_st2, mo_lg_0, mo_lg_s, List.set_cons_zero, List.set_cons_succ, List.length_cons, List.length_nil, List.getElem?_cons_zero, List.getElem?_cons_succ, Nat.reduceBEq, Bool.false_eq_true, beq_self_eq_true, hs4', k6, nI_1, mo_ME, mo_u_a, mo_z_a, mo_y_a, Nat.add_left_cancel_iff]
        have kp4 := c_kp_tr kp2 (c_kp_tr kp3 s3 (Nat.le_refl _) (Nat.le_refl _) (Nat.le_succ _)) (Nat.le_succ _) (Nat.le_refl _) (Nat.le_refl _)
        have rc4 := a_rc_tr r2 (a_rc_tr (a_rc_st e10 hF3 hS3) s2)
        have h284 : A4.1 28 F = 2 := by rw [(hfu 28 (by decide) (by decide)).1, a_I_n (by decide)]; exact h282
        have h354 : A4.1 35 F = 0 := by rw [(hfu 35 (by decide) (by decide)).1, a_I_n (by decide)]; exact h352
        by_cases hfy4 : A4.1 37 0 = 0
        · have hS := S_NendR (r := x + 28) (k := na) (m := 5 * k + 1 + nm) (c := k) j10 hF3 hfy4 h284 (by rw [(hfu 31 (by decide) (by decide)).1, a_I_n (by decide)]; exact h312) (by omega) (by rw [(hfu 29 (by decide) (by decide)).1, a_I_n (by decide)]; exact h292) (by omega) (by omega) (by rw [(hfu 30 (by decide) (by decide)).1, a_I_1, if_pos ⟨rfl, rfl⟩]) (by rw [(j1 13 (by decide)).1, n2]; exact Int32.le_refl _) (by rw [(j1 12 (by decide)).1, hr, hne]; exact id) j6 hn'
          obtain ⟨f1, f2⟩ := lv_end (X := a_L A4 36 0 (A4.2 36 0)) s1 hn' (ax_L (by decide) (ax_rf _ _)) (au_L (by omega) (au_rf _ _))
          exact hpost v _ _ O4 no4 b4 q4 f1 (a_rc_tr rc4 (a_rc_st j10 hF3 hS)) (c_kp_tr kp4 f2 (Nat.le_refl _) (Nat.le_refl _) (Nat.le_refl _)) (fun _ => by simp only [a_I_2, a_L_2, and_self, if_true]; exact s4 hfy4)
        · have hS := S_L_end (r := x + 28) j10 hF3 hfy4 (by rw [h284]; decide) h354 j6 hn'
          obtain ⟨f1, f2⟩ := lv_end (X := A4) s1 hn' (ax_rf _ _) (au_rf _ _)
          exact hpost v _ _ O4 no4 b4 q4 f1 (a_rc_tr rc4 (a_rc_st j10 hF3 hS)) (c_kp_tr kp4 f2 (Nat.le_refl _) (Nat.le_refl _) (Nat.le_refl _)) (fun hh => absurd (by rw [a_I_n (by decide), a_I_n (by decide), a_I_n (by decide)] at hh; exact hh) hfy4)
    · have k3 := fun Q => L_failed (d := d + 7) hs2.1.1 (t := mo_I μ2 517 (x + 9)) rfl Q
      have hne2 : ¬ mo_I μ2 517 (x + 9) = 0 := by rw [e20]; exact hfy
      have hS := S_L_end (r := x + 28) e10 hF3 hfy (by rw [h282]; decide) h352 e6 hn
      obtain ⟨f1, f2⟩ := lv_end (X := A2) r1 hn (ax_rf _ _) (au_rf _ _)
      have fin : Q (some (.long 0)) (mo_wI (mo_wI μ2 327 (x + 1) (nI u)) 514 (x + 9) (nI (n + 1))) := hpost 0 _ _ O2 no2 b2' q2 f1 (a_rc_tr r2 (a_rc_st e10 hF3 hS)) (c_kp_tr kp2 f2 (Nat.le_refl _) (Nat.le_refl _) (Nat.le_refl _)) (fun hh => absurd (by rw [a_I_n (by decide), a_I_n (by decide), a_I_n (by decide)] at hh; exact hh) hfy)
      by_cases hr : B.1 12 (5 * k + 1 + nm) = -1
      · rw [hr] at z3
        simp only [we22_0, we22_1, en22, true_and, and_true, if_false, if_true, not_true_eq_false, not_false_eq_true, false_implies, true_implies, implies_true, forall_const, true_or, or_true, false_or, or_false, false_and, and_false, eq_self_iff_true, Option.toList_some, Option.toList_none, List.cons_append, List.nil_append, mo_cat_0, mo_cat_c, mo_ct_i, mo_ct_l, mo_ct_r, mo_ct_n, mo_ct_f, Nat.zero_le, Nat.reduceAdd, Nat.reduceLeDiff, Nat.reduceLT, Nat.reduceEqDiff, Nat.reduceSub, mo_rf_s, mo_rf_n, reduceCtorEq, mo_st, mo_st2, mo_lg_0, mo_lg_s, List.set_cons_zero, List.set_cons_succ, List.length_cons, List.length_nil, List.getElem?_cons_zero, List.getElem?_cons_succ, Nat.reduceBEq, Bool.false_eq_true, beq_self_eq_true, hs2', z1, z3, k3, k5, nI_1, mo_LC, mo_ME, mo_u_a, mo_z_a, mo_y_a, Nat.add_left_cancel_iff]
        exact fin
      · simp only [we22_0, we22_1, en22, true_and, and_true, if_false, if_true, not_true_eq_false, not_false_eq_true, false_implies, true_implies, implies_true, forall_const, true_or, or_true, false_or, or_false, false_and, and_false, eq_self_iff_true, Option.toList_some, Option.toList_none, List.cons_append, List.nil_append, mo_cat_0, mo_cat_c, mo_ct_i, mo_ct_l, mo_ct_r, mo_ct_n, mo_ct_f, Nat.zero_le, Nat.reduceAdd, Nat.reduceLeDiff, Nat.reduceLT, Nat.reduceEqDiff, Nat.reduceSub, mo_rf_s, mo_rf_n, reduceCtorEq, mo_st, mo_st2, mo_lg_0, mo_lg_s, List.set_cons_zero, List.set_cons_succ, List.length_cons, List.length_nil, List.getElem?_cons_zero, List.getElem?_cons_succ, Nat.reduceBEq, Bool.false_eq_true, beq_self_eq_true, hs2', z1, z3, hr, k3, hne2, k5, nI_1, mo_LC, mo_ME, mo_u_a, mo_z_a, mo_y_a, Nat.add_left_cancel_iff]
        exact fin
  · subst hu
    have k2 := fun Q => L_enterS (d := d + 6) (h := gT G k) (t := O o) hs.1.1 d5 g Q
    simp only [we22_0, we22_1, en22, true_and, and_true, if_false, if_true, not_true_eq_false, not_false_eq_true, false_implies, true_implies, implies_true, forall_const, true_or, or_true, false_or, or_false, false_and, and_false, eq_self_iff_true, Option.toList_some, Option.toList_none, List.cons_append, List.nil_append, mo_cat_0, mo_cat_c, mo_ct_i, mo_ct_l, mo_ct_r, mo_ct_n, mo_ct_f, Nat.zero_le, Nat.reduceAdd, Nat.reduceLeDiff, Nat.reduceLT, Nat.reduceEqDiff, Nat.reduceSub, mo_rf_s, mo_rf_n, reduceCtorEq, mo_st, mo_st2, mo_lg_0, mo_lg_s, List.set_cons_zero, List.set_cons_succ, List.length_cons, List.length_nil, List.getElem?_cons_zero, List.getElem?_cons_succ, Nat.reduceBEq, Bool.false_eq_true, beq_self_eq_true, hs', y1, t6, c1, k1, k2, mo_ME, mo_u_a, mo_z_a, mo_y_a, Nat.add_left_cancel_iff]
    have hx : a_x (37 :: a_sk) A (a_I A 37 0 8) := ax_I (by decide) (ax_rf _ _)
    refine hpost 0 _ _ O no b q (dy_sp hd hx (by rw [a_I_n (by decide)]; exact d10) (by rw [a_I_1, if_pos ⟨rfl, rfl⟩])) (a_rc_rf _ _) (kp_x (km_sp x 12 P μ 8) (au_I (by omega) (au_rf _ _)) hx (by decide) (by decide) (by decide) (Nat.le_refl _)) (fun h => ?_)
    rw [a_I_1, if_pos ⟨rfl, rfl⟩] at h
    exact absurd h (by decide)
