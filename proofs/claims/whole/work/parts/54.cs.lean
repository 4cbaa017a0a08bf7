theorem cs_step {d x u P F b q no o p cc k np : Nat} {B : mo_A} {G : c_G} {O : Nat → Nat} {μ : mo_Mem} {A : mo_A} (hs : c_st x B G μ) (hd : c_dy x B G u P F μ A O no b q) (ho : o < no) (hcc : A.1 18 o = nI cc) (hcn : cc < gnc G) (hb : a_bel B 8 cc p = true) (hp : p < gnc G) (hnp : B.1 7 p = nI np) (hnp3 : np ≤ 3) (hk : k < 3) (v : Int64) : ∃ μ' A', c_st x B G μ' ∧ c_dy x B G u P F μ' A' O no b q ∧ c_km x u P μ μ' ∧ mo_C μ' = mo_C μ ∧ mo_R μ' = mo_R μ ∧ mo_L μ' = mo_L μ ∧ A'.1 = A.1 ∧ (∀ j, j ≠ 20 → A'.2 j = A.2 j) ∧ (∀ i, A'.2 20 i = if i = 24 * o + 3 * p + k ∧ k < np then v else A.2 20 i) ∧ (∀ Q, mo_M (d + 3) 57 [.ref (O o), .ref (gT G p), .int (nI k), .long v] μ Q = Q none μ') := by
  have hn8 := hs.2.2.1.2.1
  have ht := c_th_c hn8 (hd.2.2.2.2.2.2.2.2.2.2.2.2.2.2.2.2.2.2.2.2.2.2.2.1 o ho) hcc hcn
  by_cases h : k < np
  · have km := km_th x u P μ (a := O o + 1) (by have := ht.2.2.2.1; omega) (3 * gV G p + k) v
    have hx : a_x (20 :: a_sk) A (a_L A 20 (24 * o + 3 * p + k) v) := ax_L (by decide) (ax_rf _ _)
    refine ⟨_, a_L A 20 (24 * o + 3 * p + k) v, c_st_k hs km.1, dy_cs hs hd ho ht hb hk hx (fun i => by simp only [a_L_2, true_and]) (by rw [a_L_1]; exact hd.2.2.2.2.2.2.2.2.2.1), km, rfl, rfl, rfl, rfl, fun j hj => ?_, fun i => ?_, fun Q => L_setCT hs ht hp hb hnp (by omega) h v Q⟩
    · funext i; rw [a_L_2, if_neg (fun z => hj z.1)]
    · simp only [a_L_2, true_and, h, and_true]
  · refine ⟨μ, A, hs, hd, km_rf x u P μ, rfl, rfl, rfl, rfl, fun j hj => rfl, fun i => by rw [if_neg (fun z => h z.2)], fun Q => L_setCF hs ht hp hnp (by omega) (by omega) (by omega) v Q⟩
theorem rk_all {x u d : Nat} {B : mo_A} {G : c_G} (hW : u < 12 → c_W x B G u (d + 8)) (hRK : u + 1 < 12 → c_RK x B G (u + 1) (d + 8)) : c_RK x B G u (d + 10) := by
  intro μ A O no P F b q p o g c0 c1 c2 w np A1 Q hs hd h0 hu hp ho hbel hnp hnp3 hF hw hnk hpost
  obtain ⟨cc, b1, b2, b3⟩ := hbel
  obtain ⟨⟨g0, hg0, hg1⟩, nx, nu, n27, n38, n28, n29, n30, n31, n32, n34, n35, n20, n201⟩ := hnk
  have hs' := hs.1.1
  unfold cl_sf at hs'
  have hd0 := hd
  obtain ⟨d1, d2, d3, d4, d5, d6, d7, d8, d9, d10, d11, d12, d13, d14, d15, d16, d17, d18, d19, d20, d21, d22, d23, d24, d25⟩ := hd0
  have hn8 := hs.2.2.1.2.1
  have y1 := (hs.2.2.2.2.2.2.1 p hp).2.1
  have ht := c_th_c hn8 (d24 o ho) b1 b2
  have t6 := ht.2.2.2.2.2.1
  have k2 := fun Q => L_enter (d := d + 8) hs.1 d5 hu (d14.trans hg0) y1 t6 g Q
  have km1 := km_en x P hu μ (gT G p) (O o) g (nI g0)
  have hs1 := c_st_k hs km1.1
  have hX : ∃ X : mo_A, X.1 = A1.1 ∧ (∀ j, j ≠ 20 → X.2 j = A1.2 j) ∧ X.2 20 = A.2 20 := ⟨(A1.1, fun j => if j = 20 then A.2 20 else A1.2 j), rfl, fun j hj => by show (if j = 20 then A.2 20 else A1.2 j) = _; rw [if_neg hj], by show (if 20 = 20 then A.2 20 else A1.2 20) = _; rw [if_pos rfl]⟩
  obtain ⟨X, X1, X2, X3⟩ := hX
  have hxX : a_x (38 :: 41 :: a_sk) A X := by
    intro j hj
    by_cases h20 : j = 20
    · subst h20
      exact ⟨by rw [X1]; exact n201, X3⟩
    · rw [X1, X2 j h20]
      refine nx j (fun hh => ?_)
      rcases List.mem_cons.1 hh with q | q
      · exact h20 q
      · exact hj q
  have hdX := dy_en (hm := gT G p) (t := O o) (g := g) hu hg0 hd hxX (F' := F + 1) (by rw [X1]; exact n27) (by rw [X1]; exact n38) (by rw [X1]; exact hg1)
  have hX18 : X.1 18 o = nI cc := by rw [(hxX 18 (by decide)).1]; exact b1
  obtain ⟨μa, Aa, sa, da, ka, Ca, Ra, La, a1, a2, a3, ma⟩ := cs_step (d := d + 6) (k := 0) hs1 hdX ho hX18 b2 b3 hp hnp hnp3 (by decide) c0
  obtain ⟨μb, Ab, sb, db, kb, Cb, Rb, Lb, e1, e2, e3, mb⟩ := cs_step (d := d + 6) (k := 1) sa da ho (by rw [a1]; exact hX18) b2 b3 hp hnp hnp3 (by decide) c1
  obtain ⟨μc, Ac, sc, dc, kc, Cc, Rc, Lc, f1, f2, f3, mc⟩ := cs_step (d := d + 6) (k := 2) sb db ho (by rw [e1, a1]; exact hX18) b2 b3 hp hnp hnp3 (by decide) c2
  have hAc : Ac = A1 := by
    refine Prod.ext (by rw [f1, e1, a1, X1]) (funext fun j => ?_)
    by_cases h20 : j = 20
    · subst h20
      funext i
      rw [f3, n20]
      unfold a_c3
      by_cases q2 : i = 24 * o + 3 * p + 2 ∧ 2 < np
      · rw [if_pos q2, if_pos q2]
      · rw [if_neg q2, if_neg q2, e3]
        by_cases q1 : i = 24 * o + 3 * p + 1 ∧ 1 < np
        · rw [if_pos q1, if_pos q1]
        · rw [if_neg q1, if_neg q1, a3, X3]
          rfl
    · rw [f2 j h20, e2 j h20, a2 j h20, X2 j h20]
  subst hAc
  have ma : ∀ Q, mo_M (d + 9) 57 [.ref (O o), .ref (gT G p), .int 0, .long c0] (m_en x μ u (gT G p) (O o) g (nI g0)) Q = Q none μa := ma
  have mb : ∀ Q, mo_M (d + 9) 57 [.ref (O o), .ref (gT G p), .int 1, .long c1] μa Q = Q none μb := mb
  have mc : ∀ Q, mo_M (d + 9) 57 [.ref (O o), .ref (gT G p), .int 2, .long c2] μb Q = Q none μc := mc
  have Y1 : mo_C (m_en x μ u (gT G p) (O o) g (nI g0)) = mo_C μ := rfl
  have ta : mo_C (m_en x μ u (gT G p) (O o) g (nI g0)) (O o) = 10 := t6
  have tb : mo_C μa (O o) = 10 := by rw [Ca]; exact t6
  have tc : mo_C μb (O o) = 10 := by rw [Cb, Ca]; exact t6
  have ya : mo_C (m_en x μ u (gT G p) (O o) g (nI g0)) (gT G p) = 11 := y1
  have yb : mo_C μa (gT G p) = 11 := by rw [Ca]; exact y1
  have yc : mo_C μb (gT G p) = 11 := by rw [Cb, Ca]; exact y1
  have hsc := sc.1.1
  unfold cl_sf at hsc
  have yd : mo_C μc (gT G p) = 11 := by rw [Cc, Cb, Ca]; exact y1
  have hC4 := (sc.1.2 u hu).2
  simp only [we19_0, we19_1, en19, true_and, and_true, if_false, if_true, not_true_eq_false, not_false_eq_true, false_implies, true_implies, implies_true, forall_const, true_or, or_true, false_or, or_false, false_and, and_false, eq_self_iff_true, Option.toList_some, Option.toList_none, List.cons_append, List.nil_append, mo_cat_0, mo_cat_c, mo_ct_i, mo_ct_l, mo_ct_r, mo_ct_n, mo_ct_f, Nat.zero_le, Nat.reduceAdd, Nat.reduceLeDiff, Nat.reduceLT, Nat.reduceEqDiff, Nat.reduceSub, mo_rf_s, mo_rf_n, reduceCtorEq, mo_st, mo_st2, mo_lg_0, mo_lg_s, List.set_cons_zero, List.set_cons_succ, List.length_cons, List.length_nil, List.getElem?_cons_zero, List.getElem?_cons_succ, Nat.reduceBEq, Bool.false_eq_true, beq_self_eq_true, hs', y1, t6, k2, ma, mb, mc, ta, tb, tc, ya, yb, yc, yd, hsc, hC4, mo_ME, mo_u_a, mo_z_a, mo_y_a, Nat.add_left_cancel_iff]
  have kmc := km_tr (km_tr ka kb) kc
  have kpc : c_kp x u P F μ A O no b μc Ac O no b := kp_x (km_tr km1 ⟨kmc.1, kmc.2.1, kmc.2.2.1, fun i hi => kmc.2.2.2.1 i (by omega), kmc.2.2.2.2⟩) nu nx (by decide) (by decide) (by decide) (Nat.le_refl _)
  have hfr : c_fr x B G u F μc Ac O no p o := ⟨by rw [Rc, Rb, Ra]; simp only [m_en, mo_ME, mo_u_a, Nat.reduceEqDiff, false_and, and_self, if_true, if_false], by rw [Rc, Rb, Ra]; simp only [m_en, mo_ME, mo_u_a, Nat.reduceEqDiff, false_and, and_self, if_true, if_false], by rw [n34, Lc, Lb, La]; simp only [m_en, mo_ME, mo_u_a, Nat.reduceEqDiff, false_and, and_self, if_true, if_false], n31, n32, hp, ho, hu, cc, by rw [(nx 18 (by decide)).1]; exact b1, b2, b3⟩
  have h01 : Ac.1 37 0 = 0 := by rw [(nx 37 (by decide)).1]; exact h0
  obtain ⟨-, -, na, na1, na2, -⟩ := hs.2.2.1.2.2.2.2.2.2.2.1 (5 * p) (by omega)
  have hcat : ∀ l : List Value, l = [] → mo_cat l ≤ 8 := fun l hl => by rw [hl, mo_cat_0]; decide
  refine rp_all (hW hu) hRK hu hp sc dc hfr n28 n30 h01 (by omega) ?_
  intro μ2 A2 O2 no2 bb2 q2 r1 r2 r3 r4 r5
  have hs2 := c_st_k sc r3.1
  have hfr2 := fr_s hfr r3 (Nat.lt_succ_self _) r4
  refine ⟨⟨hs2.1.1.2.2.2.1, hcat _ rfl⟩, bf_all (d := d + 1) (hW hu) hu hp hs2 r1 hfr2 (r4.1.trans n28) r5 (by omega) ?_⟩
  intro μ3 A3 O3 no3 bb3 q3 s1 s2 s3 s4 s5
  have hs3 := c_st_k hs2 s3.1
  have hfr3 := fr_s hfr2 s3 (Nat.lt_succ_self _) s4
  have hty3 := (hs3.2.2.2.2.2.2.1 p hp).2
  refine ⟨hty3.1, ⟨hs3.1.1.2.2.2.1, hcat _ rfl⟩, ?_⟩
  rw [hty3.2.2.2.2.2.2.2.2.2.2.1, mo_rf_s]
  have hfs3 := fs_tr r4 s4
  refine ra_mk (d := d + 1) (hW hu) hu hp na2 na1 hs3 s1 hfr3 (hfs3.1.trans n28) (hfs3.2.1.trans n29) s5 (by omega) ?_
  intro μ4 A4 O4 no4 bb4 q4 v1 v2 v3 v4 v5
  have hs4 := c_st_k hs3 v3.1
  have hfs4 := fs_tr hfs3 v4
  obtain ⟨j1, j2, j3, j4, j5, j6, j7, j8, j9, j10, j11, j12, j13, j14, j15, j16, j17, j18, j19, j20, j21, j22, j23, j24, j25⟩ := v1
  have v1 : c_dy x B G (u + 1) P (F + 1) μ4 A4 O4 no4 bb4 q4 := ⟨j1, j2, j3, j4, j5, j6, j7, j8, j9, j10, j11, j12, j13, j14, j15, j16, j17, j18, j19, j20, j21, j22, j23, j24, j25⟩
  obtain ⟨n, hn⟩ := i_ex (A4.1 42 0)
  refine ⟨⟨hs4.1.1.2.2.2.1, hcat _ rfl⟩, ?_⟩
  rw [L_leave (d := d + 8) hs4.1.1 j5 (j15.trans hn), nI_1]
  simp only [we19_0, we19_1, en19, true_and, and_true, if_false, if_true, not_true_eq_false, not_false_eq_true, false_implies, true_implies, implies_true, forall_const, true_or, or_true, false_or, or_false, false_and, and_false, eq_self_iff_true, Option.toList_some, Option.toList_none, List.cons_append, List.nil_append, mo_cat_0, mo_cat_c, mo_ct_i, mo_ct_l, mo_ct_r, mo_ct_n, mo_ct_f, Nat.zero_le, Nat.reduceAdd, Nat.reduceLeDiff, Nat.reduceLT, Nat.reduceEqDiff, Nat.reduceSub, mo_rf_s, mo_rf_n, reduceCtorEq, mo_st, mo_st2, mo_lg_0, mo_lg_s, List.set_cons_zero, List.set_cons_succ, List.length_cons, List.length_nil, List.getElem?_cons_zero, List.getElem?_cons_succ, Nat.reduceBEq, Bool.false_eq_true, beq_self_eq_true, mo_ME, mo_u_a, mo_z_a, mo_y_a, Nat.add_left_cancel_iff]
  have kp4 := c_kp_tr (c_kp_tr (c_kp_tr kpc r3 (Nat.le_succ _) (Nat.le_refl _) (Nat.le_refl _)) s3 (Nat.le_succ _) (Nat.le_refl _) (Nat.le_refl _)) v3 (Nat.le_succ _) (Nat.le_refl _) (Nat.le_refl _)
  have rc4 := a_rc_tr r2 (a_rc_tr s2 v2)
  have h194 : A4.1 19 o = A.1 19 o := (kp4.2.2.2.1 o ho).2.2
  have h284 : A4.1 28 F = 1 := hfs4.1.trans n28
  have hF3 : F < 399 := by omega
  by_cases hfy : A4.1 37 0 = 0
  · have hS := S_Kend (r := x + 28) (k := na) (m := 5 * p) (c := p) j10 hF3 hfy h284 (hfs4.2.2.1.trans n31) (by omega) (hfs4.2.1.trans n29) (by omega) (by omega) (v5 hfy) (by rw [(j1 13 (by decide)).1, na2]; exact Int32.le_refl _) j6 hn
    obtain ⟨f1, f2⟩ := lv_end (X := a_L A4 36 0 0) v1 hn (ax_L (by decide) (ax_rf _ _)) (au_L (by omega) (au_rf _ _))
    have e19 : (a_I (a_I (a_I (a_L A4 36 0 0) 38 0 (nI u)) 42 0 (nI (n + 1))) 27 0 (nI F)).1 19 o = A.1 19 o := by rw [a_I_n (by decide), a_I_n (by decide), a_I_n (by decide), a_L_1]; exact h194
    have e37 : (a_I (a_I (a_I (a_L A4 36 0 0) 38 0 (nI u)) 42 0 (nI (n + 1))) 27 0 (nI F)).1 37 0 = 0 := by rw [a_I_n (by decide), a_I_n (by decide), a_I_n (by decide), a_L_1]; exact hfy
    refine hpost _ _ O4 no4 bb4 q4 f1 (a_rc_tr rc4 (a_rc_st j10 hF3 hS)) ?_ ?_
    · rw [e19, a_I_id rfl]
      exact c_kp_tr kp4 f2 (Nat.le_refl _) (Nat.le_refl _) (Nat.le_refl _)
    · rw [e19, if_neg (fun z => z.2 e37)]
  · obtain ⟨f1, f2⟩ := lv_end (X := A4) v1 hn (ax_rf _ _) (au_rf _ _)
    have kp5 := c_kp_tr kp4 f2 (Nat.le_refl _) (Nat.le_refl _) (Nat.le_refl _)
    have e19 : (a_I (a_I (a_I A4 38 0 (nI u)) 42 0 (nI (n + 1))) 27 0 (nI F)).1 19 o = A.1 19 o := by rw [a_I_n (by decide), a_I_n (by decide), a_I_n (by decide)]; exact h194
    rcases hw with hw | ⟨hw, hw2⟩
    · subst hw
      have hS := S_L_end (r := x + 28) j10 hF3 hfy (by rw [h284]; decide) (hfs4.2.2.2.2.2.1.trans n35) j6 hn
      refine hpost _ _ O4 no4 bb4 q4 f1 (a_rc_tr rc4 (a_rc_st j10 hF3 hS)) ?_ ?_
      · rw [e19, a_I_id rfl]
        exact kp5
      · rw [e19, if_neg (fun z => absurd z.1 (by decide))]
    · subst hw
      have hS := S_L_endO (r := x + 28) (p := o) j10 hF3 hfy (by rw [h284]; decide) (hfs4.2.2.2.2.2.1.trans n35) (hfs4.2.2.2.1.trans n32) (by omega) j6 hn
      have hno : o < no4 := Nat.lt_of_lt_of_le ho kp5.2.1
      have f3 := dy_sm (A' := a_I (a_I (a_I (a_I A4 38 0 (nI u)) 42 0 (nI (n + 1))) 27 0 (nI F)) 19 o 2) (s := 2) f1 hno (by rw [e19]; exact hw2) (by decide) (ax_I (by decide) (ax_rf _ _)) (fun i _ => by rw [a_I_1]; simp only [true_and]) (F' := F) (by rw [a_I_n (by decide), a_I_1, if_pos ⟨rfl, rfl⟩])
      have e19' : (a_I (a_I (a_I (a_I A4 38 0 (nI u)) 42 0 (nI (n + 1))) 27 0 (nI F)) 19 o 2).1 19 o = 2 := by rw [a_I_1, if_pos ⟨rfl, rfl⟩]
      have e37' : (a_I (a_I (a_I (a_I A4 38 0 (nI u)) 42 0 (nI (n + 1))) 27 0 (nI F)) 19 o 2).1 37 0 ≠ 0 := by rw [a_I_n (by decide), a_I_n (by decide), a_I_n (by decide), a_I_n (by decide)]; exact hfy
      refine hpost _ _ O4 no4 bb4 q4 f3 (a_rc_tr rc4 (a_rc_st j10 hF3 hS)) ?_ ?_
      · rw [e19']
        exact kp_19 kp5 ho
      · rw [e19', if_pos ⟨rfl, e37'⟩]
