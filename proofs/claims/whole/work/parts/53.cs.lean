theorem a_I_id {A : mo_A} {j i : Nat} {v : Int32} (h : A.1 j i = v) : a_I A j i v = A := by
  refine Prod.ext (funext fun j' => funext fun i' => ?_) rfl
  rw [a_I_1]
  by_cases q : j' = j ∧ i' = i
  · rw [if_pos q, q.1, q.2]; exact h.symm
  · rw [if_neg q]
theorem kp_19 {x u P F : Nat} {μ μ' : mo_Mem} {A A' : mo_A} {O O' : Nat → Nat} {no no' b b' o : Nat} {s : Int32} (h : c_kp x u P F μ A O no b μ' A' O' no' b') (ho : o < no) : c_kp x u P F μ (a_I A 19 o s) O no b μ' (a_I A' 19 o s) O' no' b' := by
  obtain ⟨a1, a2, a3, a4, a5, a6, a7, a8, a9, a10, a11⟩ := h
  refine ⟨a1, a2, a3, fun i q => ?_, fun i q1 q2 => ?_, a6, a7, fun i q => ?_, a9, a10, a11⟩
  · obtain ⟨c1, c2, c3⟩ := a4 i q
    refine ⟨c1, by rw [a_I_n (by decide), a_I_n (by decide)]; exact c2, ?_⟩
    rw [a_I_1, a_I_1]
    by_cases hh : i = o
    · rw [if_pos ⟨rfl, hh⟩, if_pos ⟨rfl, hh⟩]
    · rw [if_neg (fun z => hh z.2), if_neg (fun z => hh z.2)]; exact c3
  · rw [a_I_1, if_neg (fun z => by omega)]; exact a5 i q1 q2
  · refine ⟨fun j h1 h2 => ?_, (a8 i q).2⟩
    rw [a_I_n (by omega), a_I_n (by omega)]
    exact (a8 i q).1 j h1 h2
/-- a maker runs -/
def c_RK (x : Nat) (B : mo_A) (G : c_G) (u D : Nat) : Prop := ∀ μ A O no P F b q p o g c0 c1 c2 w np A1 Q, c_st x B G μ → c_dy x B G u P F μ A O no b q → A.1 37 0 = 0 → u < 12 → p < gnc G → o < no → (∃ cc, A.1 18 o = nI cc ∧ cc < gnc G ∧ a_bel B 8 cc p = true) → B.1 7 p = nI np → np ≤ 3 → F ≤ P + 2 * u + 1 → (w = 0 ∨ (w = 1 ∧ A.1 19 o ≠ 1)) → a_nk A u F p o g w np c0 c1 c2 A1 → (∀ μ' A' O' no' b' q', c_dy x B G u P F μ' A' O' no' b' q' → a_rc (x + 28) A1 A' → c_kp x u P F μ (a_I A 19 o (A'.1 19 o)) O no b μ' A' O' no' b' → (A'.1 19 o = if w = 1 ∧ A'.1 37 0 ≠ 0 then 2 else A.1 19 o) → Q none μ') → mo_M D 19 [.ref (x + 1), .ref (gT G p), .ref (O o), .long g, .long c0, .long c1, .long c2] μ Q
theorem L_rk12 {d x h t : Nat} {μ : mo_Mem} (hs : cl_sf x μ) (hu : mo_I μ 327 (x + 1) = nI 12) (hh : mo_C μ h = 11) (ht : mo_C μ t = 10) (g c0 c1 c2 : Int64) (Q : mo_P) : mo_M (d + 3) 19 [.ref (x + 1), .ref h, .ref t, .long g, .long c0, .long c1, .long c2] μ Q = Q none (mo_wI μ 517 (x + 9) 8) := by
  have hs' := hs
  unfold cl_sf at hs'
  have k2 := fun Q => L_enterS (d := d) (h := h) (t := t) hs hu g Q
  simp only [we19_0, we19_1, en19, true_and, and_true, if_false, if_true, not_true_eq_false, not_false_eq_true, false_implies, true_implies, implies_true, forall_const, true_or, or_true, false_or, or_false, false_and, and_false, eq_self_iff_true, Option.toList_some, Option.toList_none, List.cons_append, List.nil_append, mo_cat_0, mo_cat_c, mo_ct_i, mo_ct_l, mo_ct_r, mo_ct_n, mo_ct_f, Nat.zero_le, Nat.reduceAdd, Nat.reduceLeDiff, Nat.reduceLT, Nat.reduceEqDiff, Nat.reduceSub, mo_rf_s, mo_rf_n, reduceCtorEq, mo_st, mo_st2, mo_lg_0, mo_lg_s, List.set_cons_zero, List.set_cons_succ, List.length_cons, List.length_nil, List.getElem?_cons_zero, List.getElem?_cons_succ, Nat.reduceBEq, Bool.false_eq_true, beq_self_eq_true, hs', hh, ht, k2, mo_ME, mo_u_a, mo_z_a, mo_y_a, Nat.add_left_cancel_iff]
theorem L_cof {d x o c h k nk : Nat} {B : mo_A} {G : c_G} {O : Nat → Nat} {μ : mo_Mem} {A : mo_A} (hs : c_st x B G μ) (ht : c_tc x B G O μ A o c) (hh : h < gnc G) (hb : a_bel B 8 c h = true) (hnk : B.1 7 h = nI nk) (hnl : nk ≤ 3) (hk : k < 3) (Q : mo_P) : mo_M (d + 3) 55 [.ref (O o), .ref (gT G h), .int (nI k)] μ Q = Q (some (.long (a_cv A o h nk k))) μ := by
  unfold a_cv
  by_cases q : k < nk
  · rw [if_pos q, L_cofT hs ht hh hb hnk (by omega) q, (ht.2.2.2.2.2.2.2.2.2.2.2.2.2.2.2 h hb).1 k hk]
  · rw [if_neg q, L_cofF hs ht hh hnk (by omega) (by omega) (by omega)]
theorem rp_all {x u d c P f b q o no : Nat} {B : mo_A} {G : c_G} {μ : mo_Mem} {A : mo_A} {O : Nat → Nat} {Q : mo_P} (hW : c_W x B G u (d + 8)) (hRK : u + 1 < 12 → c_RK x B G (u + 1) (d + 8)) (hu : u < 12) (hc : c < gnc G) (hs : c_st x B G μ) (hd : c_dy x B G (u + 1) P (f + 1) μ A O no b q) (hfr : c_fr x B G u f μ A O no c o) (h28 : A.1 28 f = 1) (h30 : A.1 30 f = 0) (h0 : A.1 37 0 = 0) (hF : f + 1 ≤ P + 2 * (u + 1)) (hpost : (∀ μ' A' O' no' b' q', c_dy x B G (u + 1) P (f + 1) μ' A' O' no' b' q' → a_rc (x + 28) A A' → c_kp x (u + 1) P f μ A O no b μ' A' O' no' b' → a_fs f A A' → (A'.1 37 0 = 0 → A'.1 30 f = 2) → Q none μ')) : mo_M (d + 9) 20 [.ref (x + 1), .ref (gT G c), .ref (x + 16 + u)] μ Q := by
  have hs' := hs.1.1
  unfold cl_sf at hs'
  have hd0 := hd
  obtain ⟨d1, d2, d3, d4, d5, d6, d7, d8, d9, d10, d11, d12, d13, d14, d15, d16, d17, d18, d19, d20, d21, d22, d23, d24, d25⟩ := hd0
  have hn8 := hs.2.2.1.2.1
  have hpw := hs.2.2.1.2.2.2.2.1
  have hP1 : f < 399 := by omega
  have hco := hfr.2.2.2.1
  have ty := (hs.2.2.2.2.2.2.1 c hc).2
  obtain ⟨y1, y2, y3, y4, y5, y6, y7, y8, y9, y10, y11, y12, y13, y14, y15, y16, y17, y18, y19⟩ := ty
  rcases a_par_c hn8 hpw hc with ⟨q1, q2⟩ | ⟨p, q1, q2, q3⟩
  · rw [q2, Option.map_none] at y3
    simp only [we20_0, we20_1, en20, true_and, and_true, if_false, if_true, not_true_eq_false, not_false_eq_true, false_implies, true_implies, implies_true, forall_const, true_or, or_true, false_or, or_false, false_and, and_false, eq_self_iff_true, Option.toList_some, Option.toList_none, List.cons_append, List.nil_append, mo_cat_0, mo_cat_c, mo_ct_i, mo_ct_l, mo_ct_r, mo_ct_n, mo_ct_f, Nat.zero_le, Nat.reduceAdd, Nat.reduceLeDiff, Nat.reduceLT, Nat.reduceEqDiff, Nat.reduceSub, mo_rf_s, mo_rf_n, reduceCtorEq, mo_st, mo_st2, mo_lg_0, mo_lg_s, List.set_cons_zero, List.set_cons_succ, List.length_cons, List.length_nil, List.getElem?_cons_zero, List.getElem?_cons_succ, Nat.reduceBEq, Bool.false_eq_true, beq_self_eq_true, hs', y1, y3, mo_ME, mo_u_a, mo_z_a, mo_y_a, Nat.add_left_cancel_iff]
    have hS := S_M0a (r := x + 28) d10 hP1 h0 h28 hco (by omega) h30 (by rw [(d1 6 (by decide)).1]; exact q1)
    have hx : a_x a_sk A (a_L (a_I A 30 f 2) 36 0 0) := ax_L (by decide) (ax_I (by decide) (ax_rf _ _))
    exact hpost μ _ O no b q (dy_stk hd hx (by rw [a_L_1, a_I_n (by decide)]; exact d10)) (a_rc_st d10 hP1 hS) (kp_x (km_rf x (u + 1) P μ) (au_L (by omega) (au_I (by omega) (au_rf _ _))) hx (by decide) (by decide) (by decide) (Nat.le_refl _)) (fs_L (by decide) (fs_I (Or.inl rfl) (fs_rf _ _))) (fun _ => by rw [a_L_1, a_I_1, if_pos ⟨rfl, rfl⟩])
  · have hA6 : A.1 6 c = nI p := by rw [(d1 6 (by decide)).1]; exact q2
    have hp1 : ¬ A.1 6 c = -1 := by rw [hA6, nI_nm1 (by omega)]; exact id
    have hpn : p < gnc G := by omega
    obtain ⟨⟨np, np1, np2⟩, -⟩ := hs.2.2.1.2.2.2.2.2.2.1 p hpn
    obtain ⟨⟨n, n1, n2⟩, -, hpa, -⟩ := hs.2.2.1.2.2.2.2.2.2.1 c hc
    have go : ∀ v μ2 A2 O2 no2 b2 q2', c_dy x B G (u + 1) P (f + 1) μ2 A2 O2 no2 b2 q2' → A2.1 37 0 = 0 → A2.1 30 f = 1 → A2.2 36 0 = v → a_rc (x + 28) A A2 → c_kp x (u + 1) P f μ A O no b μ2 A2 O2 no2 b2 → a_fs f A A2 → mo_wp (mo_M (d + 8)) Q 20 (29, [some (.ref (x + 1)), some (.ref (gT G c)), some (.ref (x + 16 + u)), none, none, none, none, none, none, none, none, none], [.long v], μ2) := by
      intro v μ2 A2 O2 no2 b2 q2' k1 k2 k3 k4 k5 k6 k7
      subst k4
      have hs2 := c_st_k hs k6.1
      have hs2' := hs2.1.1
      unfold cl_sf at hs2'
      have hd0 := k1
      obtain ⟨j1, j2, j3, j4, j5, j6, j7, j8, j9, j10, j11, j12, j13, j14, j15, j16, j17, j18, j19, j20, j21, j22, j23, j24, j25⟩ := hd0
      have hC4 := (hs2.1.2 u hu).2
      obtain ⟨r1, r2, r3, r4, r5, r6, r7, r8, c0, r9, r10, r11⟩ := fr_s hfr k6 (Nat.lt_succ_self _) k7
      have ht2 := c_th_c hn8 (j24 o r7) r9 r10
      have t6 := ht2.2.2.2.2.2.1
      have k0 := fun Q => L_failed (d := d + 7) hs2.1.1 (j20.trans k2) Q
      have e0 : ∀ Q, mo_M (d + 8) 55 [.ref (O2 o), .ref (gT G c), .int 0] μ2 Q = Q (some (.long (a_cv A2 o c n 0))) μ2 := fun Q => L_cof (d := d + 5) (k := 0) hs2 ht2 hc r11 n2 n1 (by decide) Q
      have e1 : ∀ Q, mo_M (d + 8) 55 [.ref (O2 o), .ref (gT G c), .int 1] μ2 Q = Q (some (.long (a_cv A2 o c n 1))) μ2 := fun Q => L_cof (d := d + 5) (k := 1) hs2 ht2 hc r11 n2 n1 (by decide) Q
      have e2 : ∀ Q, mo_M (d + 8) 55 [.ref (O2 o), .ref (gT G c), .int 2] μ2 Q = Q (some (.long (a_cv A2 o c n 2))) μ2 := fun Q => L_cof (d := d + 5) (k := 2) hs2 ht2 hc r11 n2 n1 (by decide) Q
      obtain ⟨z1, z2, z3, -⟩ := (hs2.2.2.2.2.2.2.1 c hc).2
      rw [q3, Option.map_some] at z3
      have zp := (hs2.2.2.2.2.2.2.1 p hpn).2.1
      simp only [we20_0, we20_1, en20, true_and, and_true, if_false, if_true, not_true_eq_false, not_false_eq_true, false_implies, true_implies, implies_true, forall_const, true_or, or_true, false_or, or_false, false_and, and_false, eq_self_iff_true, Option.toList_some, Option.toList_none, List.cons_append, List.nil_append, mo_cat_0, mo_cat_c, mo_ct_i, mo_ct_l, mo_ct_r, mo_ct_n, mo_ct_f, Nat.zero_le, Nat.reduceAdd, Nat.reduceLeDiff, Nat.reduceLT, Nat.reduceEqDiff, Nat.reduceSub, mo_rf_s, mo_rf_n, reduceCtorEq, mo_st, mo_st2, mo_lg_0, mo_lg_s, List.set_cons_zero, List.set_cons_succ, List.length_cons, List.length_nil, List.getElem?_cons_zero, List.getElem?_cons_succ, Nat.reduceBEq, Bool.false_eq_true, beq_self_eq_true, hs2', hC4, r1, r2, t6, z1, z3, zp, k0, e0, e1, e2, mo_LC, mo_ME, mo_u_a, mo_z_a, mo_y_a, Nat.add_left_cancel_iff]
      have h282 : A2.1 28 f = 1 := k7.1.trans h28
      have hA62 : A2.1 6 c = nI p := by rw [(j1 6 (by decide)).1]; exact q2
      have hx3 : a_x a_sk A2 (a_I A2 30 f 2) := ax_I (by decide) (ax_rf _ _)
      have kp3 : c_kp x (u + 1) P f μ2 A2 O2 no2 b2 μ2 (a_I A2 30 f 2) O2 no2 b2 := kp_x (km_rf x (u + 1) P μ2) (au_I (by omega) (au_rf _ _)) hx3 (by decide) (by decide) (by decide) (Nat.le_refl _)
      have hbp : a_bel B 8 c0 p = true := bel_p hn8 hpw q3 8 c0 (by omega) r10 r11
      by_cases hu1 : u + 1 < 12
      · obtain ⟨g0, hg0⟩ := i_ex (A2.1 41 0)
        have hS := S_M1U (r := x + 28) j10 hP1 k2 h282 r4 (by omega) k3 hA62 q1 r5 (by omega) j6 hu1 hg0 (by rw [(j1 7 (by decide)).1]; exact np2) (by rw [(j1 7 (by decide)).1]; exact n2) np1 n1
        refine hRK hu1 μ2 (a_I A2 30 f 2) O2 no2 P (f + 1) b2 q2' p o (A2.2 36 0) _ _ _ 0 np _ _ hs2 (dy_stk k1 hx3 (by rw [a_I_n (by decide)]; exact j10)) (by rw [a_I_n (by decide)]; exact k2) hu1 hpn r7 ⟨c0, by rw [a_I_n (by decide)]; exact r9, r10, hbp⟩ np2 np1 (by omega) (Or.inl rfl) (nk_0 np1 (by rw [a_I_n (by decide)]; exact hg0)) ?_
        intro μ4 A4 O4 no4 b4 q4 m1 m2 m3 m4
        have m5 : A4.1 19 o = (a_I A2 30 f 2).1 19 o := by rw [m4, if_neg (fun z => absurd z.1 (by decide))]
        rw [a_I_id m5.symm] at m3
        have hfu := m3.2.2.2.2.2.2.2.1
        simp only [we20_0, we20_1, en20, true_and, and_true, if_false, if_true, not_true_eq_false, not_false_eq_true, false_implies, true_implies, implies_true, forall_const, true_or, or_true, false_or, or_false, false_and, and_false, eq_self_iff_true, Option.toList_some, Option.toList_none, List.cons_append, List.nil_append, mo_cat_0, mo_cat_c, mo_ct_i, mo_ct_l, mo_ct_r, mo_ct_n, mo_ct_f, Nat.zero_le, Nat.reduceAdd, Nat.reduceLeDiff, Nat.reduceLT, Nat.reduceEqDiff, Nat.reduceSub, mo_rf_s, mo_rf_n, reduceCtorEq, mo_st, mo_st2, mo_lg_0, mo_lg_s, List.set_cons_zero, List.set_cons_succ, List.length_cons, List.length_nil, List.getElem?_cons_zero, List.getElem?_cons_succ, Nat.reduceBEq, Bool.false_eq_true, beq_self_eq_true, mo_ME, mo_u_a, mo_z_a, mo_y_a, Nat.add_left_cancel_iff]
        refine hpost μ4 A4 O4 no4 b4 q4 m1 (a_rc_tr k5 (a_rc_tr (a_rc_st j10 hP1 hS) m2)) (c_kp_tr k6 (c_kp_tr kp3 m3 (Nat.le_refl _) (Nat.le_refl _) (Nat.le_succ _)) (Nat.le_refl _) (Nat.le_refl _) (Nat.le_refl _)) (fs_tr k7 (fs_tr (fs_I (Or.inl rfl) (fs_rf _ _)) (fs_u hfu (Nat.lt_succ_self _)))) (fun _ => ?_)
        rw [((hfu f (Nat.lt_succ_self _)).1 30 (by decide) (by decide)).1, a_I_1, if_pos ⟨rfl, rfl⟩]
      · have hu12 : u = 11 := by omega
        subst hu12
        have hS := S_M1S (r := x + 28) j10 hP1 k2 h282 r4 (by omega) k3 hA62 q1 r5 (by omega) j6
        rw [L_rk12 (d := d + 5) hs2.1.1 j5 zp t6]
        simp only [we20_0, we20_1, en20, true_and, and_true, if_false, if_true, not_true_eq_false, not_false_eq_true, false_implies, true_implies, implies_true, forall_const, true_or, or_true, false_or, or_false, false_and, and_false, eq_self_iff_true, Option.toList_some, Option.toList_none, List.cons_append, List.nil_append, mo_cat_0, mo_cat_c, mo_ct_i, mo_ct_l, mo_ct_r, mo_ct_n, mo_ct_f, Nat.zero_le, Nat.reduceAdd, Nat.reduceLeDiff, Nat.reduceLT, Nat.reduceEqDiff, Nat.reduceSub, mo_rf_s, mo_rf_n, reduceCtorEq, mo_st, mo_st2, mo_lg_0, mo_lg_s, List.set_cons_zero, List.set_cons_succ, List.length_cons, List.length_nil, List.getElem?_cons_zero, List.getElem?_cons_succ, Nat.reduceBEq, Bool.false_eq_true, beq_self_eq_true, mo_ME, mo_u_a, mo_z_a, mo_y_a, Nat.add_left_cancel_iff]
        have hx4 : a_x (37 :: a_sk) A2 (a_I (a_I A2 30 f 2) 37 0 8) := ax_I (by decide) (ax_I (by decide) (ax_rf _ _))
        refine hpost _ _ O2 no2 b2 q2' (dy_sp k1 hx4 (F' := f + 1) (by rw [a_I_n (by decide), a_I_n (by decide)]; exact j10) (by rw [a_I_1, if_pos ⟨rfl, rfl⟩])) (a_rc_tr k5 (a_rc_st j10 hP1 hS)) (c_kp_tr k6 (kp_x (km_sp x 12 P μ2 8) (au_I (by omega) (au_I (by omega) (au_rf _ _))) hx4 (by decide) (by decide) (by decide) (Nat.le_refl _)) (Nat.le_refl _) (Nat.le_refl _) (Nat.le_refl _)) (fs_tr k7 (fs_I (by omega) (fs_I (Or.inl rfl) (fs_rf _ _)))) (fun hh => ?_)
        rw [a_I_1, if_pos ⟨rfl, rfl⟩] at hh
        exact absurd hh (by decide)
    rw [q3, Option.map_some] at y3
    have hx1 : a_x a_sk A (a_L (a_I A 30 f 1) 36 0 0) := ax_L (by decide) (ax_I (by decide) (ax_rf _ _))
    have kp1 : c_kp x (u + 1) P f μ A O no b μ (a_L (a_I A 30 f 1) 36 0 0) O no b := kp_x (km_rf x (u + 1) P μ) (au_L (by omega) (au_I (by omega) (au_rf _ _))) hx1 (by decide) (by decide) (by decide) (Nat.le_refl _)
    have hfs1 : a_fs f A (a_L (a_I A 30 f 1) 36 0 0) := fs_L (by decide) (fs_I (Or.inl rfl) (fs_rf _ _))
    have hd1 := dy_stk hd hx1 (F' := f + 1) (by rw [a_L_1, a_I_n (by decide)]; exact d10)
    have e30 : (a_L (a_I A 30 f 1) 36 0 0).1 30 f = 1 := by rw [a_L_1, a_I_1, if_pos ⟨rfl, rfl⟩]
    have e37 : (a_L (a_I A 30 f 1) 36 0 0).1 37 0 = 0 := by rw [a_L_1, a_I_n (by decide)]; exact h0
    rcases hpa with hp9 | ⟨e, he, hp9⟩
    · rw [hp9] at y17
      have g9 := go 0 μ _ O no b q hd1 e37 e30 (by rw [a_L_2, if_pos ⟨rfl, rfl⟩]) (a_rc_st d10 hP1 (S_M0c (r := x + 28) d10 hP1 h0 h28 hco (by omega) h30 hp1 (by rw [(d1 9 (by decide)).1]; exact hp9))) kp1 hfs1
      simp only [we20_0, we20_1, en20, true_and, and_true, if_false, if_true, not_true_eq_false, not_false_eq_true, false_implies, true_implies, implies_true, forall_const, true_or, or_true, false_or, or_false, false_and, and_false, eq_self_iff_true, Option.toList_some, Option.toList_none, List.cons_append, List.nil_append, mo_cat_0, mo_cat_c, mo_ct_i, mo_ct_l, mo_ct_r, mo_ct_n, mo_ct_f, Nat.zero_le, Nat.reduceAdd, Nat.reduceLeDiff, Nat.reduceLT, Nat.reduceEqDiff, Nat.reduceSub, mo_rf_s, mo_rf_n, reduceCtorEq, mo_st, mo_st2, mo_lg_0, mo_lg_s, List.set_cons_zero, List.set_cons_succ, List.length_cons, List.length_nil, List.getElem?_cons_zero, List.getElem?_cons_succ, Nat.reduceBEq, Bool.false_eq_true, beq_self_eq_true, hs', y1, y3, y17, mo_LC, mo_ME, mo_u_a, mo_z_a, mo_y_a, Nat.add_left_cancel_iff]
      simp only [we20_0, we20_1, en20, true_and, and_true, if_false, if_true, not_true_eq_false, not_false_eq_true, false_implies, true_implies, implies_true, forall_const, true_or, or_true, false_or, or_false, false_and, and_false, eq_self_iff_true, Option.toList_some, Option.toList_none, List.cons_append, List.nil_append, mo_cat_0, mo_cat_c, mo_ct_i, mo_ct_l, mo_ct_r, mo_ct_n, mo_ct_f, Nat.zero_le, Nat.reduceAdd, Nat.reduceLeDiff, Nat.reduceLT, Nat.reduceEqDiff, Nat.reduceSub, mo_rf_s, mo_rf_n, reduceCtorEq, mo_st, mo_st2, mo_lg_0, mo_lg_s, List.set_cons_zero, List.set_cons_succ, List.length_cons, List.length_nil, List.getElem?_cons_zero, List.getElem?_cons_succ, Nat.reduceBEq, Bool.false_eq_true, beq_self_eq_true, hs', y1, y3, y17, mo_LC, mo_ME, mo_u_a, mo_z_a, mo_y_a, Nat.add_left_cancel_iff] at g9
      exact g9
    · rw [hp9] at y17
      have hne : (nI e = -1) = False := nI_nm1 (by have := hs.2.2.1.1; omega)
      have hA9 : A.1 9 c = nI e := by rw [(d1 9 (by decide)).1]; exact hp9
      have hWs : ∃ A3, a_wk (a_L (a_I A 30 f 1) 36 0 0) b e f A3 ∧ r_S (x + 28) A A3 := by
        by_cases hb2 : b < 300
        · refine ⟨_, wk_1 hb2, ?_⟩
          have := S_M0b (r := x + 28) d10 hP1 h0 h28 hco (by omega) h30 hp1 (by rw [hA9, hne]; exact id) d12 hb2
          rw [hA9, ← hco] at this
          exact this
        · have hb4 : b = 300 := by omega
          subst hb4
          exact ⟨_, wk_2 rfl, S_M0bS d10 hP1 h0 h28 hco (by omega) h30 hp1 (by rw [hA9, hne]; exact id) d12⟩
      obtain ⟨A3, hA3w, hS3⟩ := hWs
      have hC4 := (hs.1.2 u hu).2
      simp only [we20_0, we20_1, en20, true_and, and_true, if_false, if_true, not_true_eq_false, not_false_eq_true, false_implies, true_implies, implies_true, forall_const, true_or, or_true, false_or, or_false, false_and, and_false, eq_self_iff_true, Option.toList_some, Option.toList_none, List.cons_append, List.nil_append, mo_cat_0, mo_cat_c, mo_ct_i, mo_ct_l, mo_ct_r, mo_ct_n, mo_ct_f, Nat.zero_le, Nat.reduceAdd, Nat.reduceLeDiff, Nat.reduceLT, Nat.reduceEqDiff, Nat.reduceSub, mo_rf_s, mo_rf_n, reduceCtorEq, mo_st, mo_st2, mo_lg_0, mo_lg_s, List.set_cons_zero, List.set_cons_succ, List.length_cons, List.length_nil, List.getElem?_cons_zero, List.getElem?_cons_succ, Nat.reduceBEq, Bool.false_eq_true, beq_self_eq_true, hs', y1, y3, y17, hne, hC4, mo_LC, mo_ME, mo_u_a, mo_z_a, mo_y_a, Nat.add_left_cancel_iff]
      have hfr1 := fr_s hfr kp1 (Nat.lt_succ_self _) hfs1
      refine hW μ _ O no P f b q c o e A3 _ hs hd1 e37 hfr1 he hF hA3w ?_
      intro v μ' A' O' no' b' q' k1 k2 k3 k4
      have hfu := k3.2.2.2.2.2.2.2.1
      have hfs2 : a_fs f A A' := fs_tr hfs1 (fs_u hfu (Nat.lt_succ_self _))
      have h302 : A'.1 30 f = 1 := by rw [((hfu f (Nat.lt_succ_self _)).1 30 (by decide) (by decide)).1]; exact e30
      have hkp2 := c_kp_tr kp1 k3 (Nat.le_refl _) (Nat.le_refl _) (Nat.le_succ _)
      have hrc2 := a_rc_tr (a_rc_st d10 hP1 hS3) k2
      by_cases hfy : A'.1 37 0 = 0
      · have g9 := go v μ' A' O' no' b' q' k1 hfy h302 (k4 hfy).symm hrc2 hkp2 hfs2
        simp only [we20_0, we20_1, en20, true_and, and_true, if_false, if_true, not_true_eq_false, not_false_eq_true, false_implies, true_implies, implies_true, forall_const, true_or, or_true, false_or, or_false, false_and, and_false, eq_self_iff_true, Option.toList_some, Option.toList_none, List.cons_append, List.nil_append, mo_cat_0, mo_cat_c, mo_ct_i, mo_ct_l, mo_ct_r, mo_ct_n, mo_ct_f, Nat.zero_le, Nat.reduceAdd, Nat.reduceLeDiff, Nat.reduceLT, Nat.reduceEqDiff, Nat.reduceSub, mo_rf_s, mo_rf_n, reduceCtorEq, mo_st, mo_st2, mo_lg_0, mo_lg_s, List.set_cons_zero, List.set_cons_succ, List.length_cons, List.length_nil, List.getElem?_cons_zero, List.getElem?_cons_succ, Nat.reduceBEq, Bool.false_eq_true, beq_self_eq_true, mo_LC, mo_ME, mo_u_a, mo_z_a, mo_y_a, Nat.add_left_cancel_iff]
        simp only [we20_0, we20_1, en20, true_and, and_true, if_false, if_true, not_true_eq_false, not_false_eq_true, false_implies, true_implies, implies_true, forall_const, true_or, or_true, false_or, or_false, false_and, and_false, eq_self_iff_true, Option.toList_some, Option.toList_none, List.cons_append, List.nil_append, mo_cat_0, mo_cat_c, mo_ct_i, mo_ct_l, mo_ct_r, mo_ct_n, mo_ct_f, Nat.zero_le, Nat.reduceAdd, Nat.reduceLeDiff, Nat.reduceLT, Nat.reduceEqDiff, Nat.reduceSub, mo_rf_s, mo_rf_n, reduceCtorEq, mo_st, mo_st2, mo_lg_0, mo_lg_s, List.set_cons_zero, List.set_cons_succ, List.length_cons, List.length_nil, List.getElem?_cons_zero, List.getElem?_cons_succ, Nat.reduceBEq, Bool.false_eq_true, beq_self_eq_true, mo_LC, mo_ME, mo_u_a, mo_z_a, mo_y_a, Nat.add_left_cancel_iff] at g9
        exact g9
      · have hs2 := c_st_k hs k3.1
        have hs2' := hs2.1.1
        unfold cl_sf at hs2'
        have k0 := fun Q => L_failed (d := d + 7) hs2.1.1 (t := mo_I μ' 517 (x + 9)) rfl Q
        have hne2 : ¬ mo_I μ' 517 (x + 9) = 0 := by rw [k1.2.2.2.2.2.2.2.2.2.2.2.2.2.2.2.2.2.2.2.1]; exact hfy
        simp only [we20_0, we20_1, en20, true_and, and_true, if_false, if_true, not_true_eq_false, not_false_eq_true, false_implies, true_implies, implies_true, forall_const, true_or, or_true, false_or, or_false, false_and, and_false, eq_self_iff_true, Option.toList_some, Option.toList_none, List.cons_append, List.nil_append, mo_cat_0, mo_cat_c, mo_ct_i, mo_ct_l, mo_ct_r, mo_ct_n, mo_ct_f, Nat.zero_le, Nat.reduceAdd, Nat.reduceLeDiff, Nat.reduceLT, Nat.reduceEqDiff, Nat.reduceSub, mo_rf_s, mo_rf_n, reduceCtorEq, mo_st, mo_st2, mo_lg_0, mo_lg_s, List.set_cons_zero, List.set_cons_succ, List.length_cons, List.length_nil, List.getElem?_cons_zero, List.getElem?_cons_succ, Nat.reduceBEq, Bool.false_eq_true, beq_self_eq_true, hs2', k0, hne2, mo_LC, mo_ME, mo_u_a, mo_z_a, mo_y_a, Nat.add_left_cancel_iff]
        exact hpost μ' A' O' no' b' q' k1 hrc2 hkp2 hfs2 (fun hh => absurd hh hfy)
