theorem bf_f {x w d c k : Nat} {B : mo_A} {G : c_G} {μ : mo_Mem} {Q : mo_P} (hs : c_st x B G μ) (hc : c < gnc G) (h0 : ¬ mo_I μ 517 (x + 9) = 0) : mo_wp (mo_M (d + 1)) Q 21 (2, [some (.ref (x + 1)), some (.ref (gT G c)), some (.ref (x + 16 + w)), some (.int (nI k))], [], μ) = Q none μ := by
  have hs' := hs.1.1
  unfold cl_sf at hs'
  have k0 := fun Q => L_failed (d := d) hs.1.1 (t := mo_I μ 517 (x + 9)) rfl Q
  obtain ⟨y1, y2, y3, y4, y5, y6, -⟩ := (hs.2.2.2.2.2.2.1 c hc).2
  rw [wh21_2]
  simp only [we21, en21, true_and, and_true, if_false, if_true, not_true_eq_false, not_false_eq_true, false_implies, true_implies, implies_true, forall_const, true_or, or_true, false_or, or_false, false_and, and_false, eq_self_iff_true, Option.toList_some, Option.toList_none, List.cons_append, List.nil_append, mo_cat_0, mo_cat_c, mo_ct_i, mo_ct_l, mo_ct_r, mo_ct_n, mo_ct_f, Nat.zero_le, Nat.reduceAdd, Nat.reduceLeDiff, Nat.reduceLT, Nat.reduceEqDiff, Nat.reduceSub, mo_rf_s, mo_rf_n, reduceCtorEq, mo_st, mo_st2, mo_lg_0, mo_lg_s, List.set_cons_zero, List.set_cons_succ, List.length_cons, List.length_nil, List.getElem?_cons_zero, List.getElem?_cons_succ, Nat.reduceBEq, Bool.false_eq_true, beq_self_eq_true, hs', y1, y6, k0, h0, mo_LC, mo_ME, mo_u_a, mo_z_a, mo_y_a, Nat.add_left_cancel_iff]
  by_cases q : B.1 8 c ≤ nI k
  · simp [q]
  · simp [q]
theorem bf_loop {x w d c nf : Nat} {B : mo_A} {G : c_G} (hW : c_W x B G w (d + 7)) (hw : w < 12) (hc : c < gnc G) (hnf : B.1 8 c = nI nf) (hnf4 : nf ≤ 4) : ∀ n k, k + n = nf → ∀ μ A O no P f b q o Q, c_st x B G μ → c_dy x B G (w + 1) P (f + 1) μ A O no b q → c_fr x B G w f μ A O no c o → A.1 28 f = 1 → A.1 30 f = nI (2 * k + 2) → A.1 37 0 = 0 → f + 1 ≤ P + 2 * (w + 1) → (∀ μ' A' O' no' b' q', c_dy x B G (w + 1) P (f + 1) μ' A' O' no' b' q' → a_rc (x + 28) A A' → c_kp x (w + 1) P f μ A O no b μ' A' O' no' b' → a_fs f A A' → (A'.1 37 0 = 0 → A'.1 30 f = nI 10) → Q none μ') → mo_wp (mo_M (d + 7)) Q 21 (2, [some (.ref (x + 1)), some (.ref (gT G c)), some (.ref (x + 16 + w)), some (.int (nI k))], [], μ) := by
  intro n
  induction n with
  | zero =>
    intro k hk μ A O no P f b q o Q hs hd hfr h28 h30 h0 hF hpost
    have hs' := hs.1.1
    unfold cl_sf at hs'
    obtain ⟨y1, y2, y3, y4, y5, y6, -⟩ := (hs.2.2.2.2.2.2.1 c hc).2
    rw [hnf] at y6
    have g1 : (nI nf ≤ nI k) = True := i_le (by omega) (by omega)
    have hd0 := hd
    obtain ⟨d1, d2, d3, d4, d5, d6, d7, d8, d9, d10, d11, d12, d13, -⟩ := hd0
    have hn8 := hs.2.2.1.2.1
    rw [wh21_2]
    simp only [we21, en21, true_and, and_true, if_false, if_true, not_true_eq_false, not_false_eq_true, false_implies, true_implies, implies_true, forall_const, true_or, or_true, false_or, or_false, false_and, and_false, eq_self_iff_true, Option.toList_some, Option.toList_none, List.cons_append, List.nil_append, mo_cat_0, mo_cat_c, mo_ct_i, mo_ct_l, mo_ct_r, mo_ct_n, mo_ct_f, Nat.zero_le, Nat.reduceAdd, Nat.reduceLeDiff, Nat.reduceLT, Nat.reduceEqDiff, Nat.reduceSub, mo_rf_s, mo_rf_n, reduceCtorEq, mo_st, mo_st2, mo_lg_0, mo_lg_s, List.set_cons_zero, List.set_cons_succ, List.length_cons, List.length_nil, List.getElem?_cons_zero, List.getElem?_cons_succ, Nat.reduceBEq, Bool.false_eq_true, beq_self_eq_true, hs', y1, y6, g1, mo_ME, mo_u_a, mo_z_a, mo_y_a, Nat.add_left_cancel_iff]
    have hk' : k = nf := by omega
    subst hk'
    by_cases h4 : k < 4
    · have hS := S_F_done (r := x + 28) (k := k) d10 (by omega) h0 h28 hfr.2.2.2.1 (by omega) h4 h30 (by rw [(d1 8 (by decide)).1, hnf]; exact Int32.lt_irrefl)
      have hx : a_x a_sk A (a_I A 30 f 10) := ax_I (by decide) (ax_rf _ _)
      exact hpost μ _ O no b q (dy_stk hd hx (by rw [a_I_n (by decide)]; exact d10)) (a_rc_st d10 (by omega) hS) (kp_x (km_rf x (w + 1) P μ) (au_I (by omega) (au_rf _ _)) hx (by decide) (by decide) (by decide) (Nat.le_refl _)) (fs_I (Or.inl rfl) (fs_rf _ _)) (fun _ => by rw [a_I_1, if_pos ⟨rfl, rfl⟩]; rfl)
    · have hk4 : k = 4 := by omega
      subst hk4
      exact hpost μ A O no b q hd (a_rc_rf _ _) (c_kp_rf _ _ _ _ _ _ _ _ _) (fs_rf _ _) (fun _ => h30)
  | succ n ih =>
    intro k hk μ A O no P f b q o Q hs hd hfr h28 h30 h0 hF hpost
    have hs' := hs.1.1
    unfold cl_sf at hs'
    have hd0 := hd
    obtain ⟨d1, d2, d3, d4, d5, d6, d7, d8, d9, d10, d11, d12, d13, d14, d15, d16, d17, d18, d19, d20, d21, d22, d23, d24, d25⟩ := hd0
    obtain ⟨y1, y2, y3, y4, y5, y6, y7, y8, y9, y10, -⟩ := (hs.2.2.2.2.2.2.1 c hc).2
    have hn8 := hs.2.2.1.2.1
    rw [hnf] at y6
    have g1 : (nI nf ≤ nI k) = False := i_ge (by omega) (by omega)
    have g3 : vp_in (nI k) 4 := vp_in_nI (by omega) (by decide)
    have g4 : (nI k).toNatClampNeg = k := nI_clamp (by omega)
    have k0 := fun Q => L_failed (d := d + 6) hs.1.1 (d20.trans h0) Q
    have ya := y10 k (by omega)
    have hC4 := (hs.1.2 w hw).2
    have hfd : nI k < A.1 8 c := by rw [(d1 8 (by decide)).1, hnf]; exact nI_lt (by omega) (by omega)
    have hP1 : f < 399 := by omega
    have hco := hfr.2.2.2.1
    have e4 : 2 * k + 4 = 2 * (k + 1) + 2 := by omega
    rw [wh21_2]
    rcases (hs.2.2.1.2.2.2.2.2.2.1 c hc).2.2.2 k (by omega) with hb0 | ⟨e, he, hb0⟩
    · rw [hb0] at ya
      simp only [we21, en21, true_and, and_true, if_false, if_true, not_true_eq_false, not_false_eq_true, false_implies, true_implies, implies_true, forall_const, true_or, or_true, false_or, or_false, false_and, and_false, eq_self_iff_true, Option.toList_some, Option.toList_none, List.cons_append, List.nil_append, mo_cat_0, mo_cat_c, mo_ct_i, mo_ct_l, mo_ct_r, mo_ct_n, mo_ct_f, Nat.zero_le, Nat.reduceAdd, Nat.reduceLeDiff, Nat.reduceLT, Nat.reduceEqDiff, Nat.reduceSub, mo_rf_s, mo_rf_n, reduceCtorEq, mo_st, mo_st2, mo_lg_0, mo_lg_s, List.set_cons_zero, List.set_cons_succ, List.length_cons, List.length_nil, List.getElem?_cons_zero, List.getElem?_cons_succ, Nat.reduceBEq, Bool.false_eq_true, beq_self_eq_true, hs', y1, y6, y7, y8, y9, ya, k0, g1, g3, g4, nI_1, mo_LC, mo_ME, mo_u_a, mo_z_a, mo_y_a, Nat.add_left_cancel_iff]
      have hS := S_F_no (r := x + 28) (k := k) d10 hP1 h0 h28 hco (by omega) (by omega) h30 hfd (by rw [(d1 10 (by decide)).1]; exact hb0)
      rw [e4] at hS
      have hx3 : a_x a_sk A (a_I A 30 f (nI (2 * (k + 1) + 2))) := ax_I (by decide) (ax_rf _ _)
      have kp3 : c_kp x (w + 1) P f μ A O no b μ (a_I A 30 f (nI (2 * (k + 1) + 2))) O no b := kp_x (km_rf x (w + 1) P μ) (au_I (by omega) (au_rf _ _)) hx3 (by decide) (by decide) (by decide) (Nat.le_refl _)
      have hfs3 : a_fs f A (a_I A 30 f (nI (2 * (k + 1) + 2))) := fs_I (Or.inl rfl) (fs_rf _ _)
      refine ih (k + 1) (by omega) μ _ O no P f b q o Q hs (dy_stk hd hx3 (by rw [a_I_n (by decide)]; exact d10)) (fr_s hfr kp3 (Nat.lt_succ_self _) hfs3) (hfs3.1.trans h28) (by rw [a_I_1, if_pos ⟨rfl, rfl⟩]) (by rw [a_I_n (by decide)]; exact h0) hF ?_
      intro μ4 A4 O4 no4 b4 q4 m1 m2 m3 m4 m5
      exact hpost μ4 A4 O4 no4 b4 q4 m1 (a_rc_tr (a_rc_st d10 hP1 hS) m2) (c_kp_tr kp3 m3 (Nat.le_refl _) (Nat.le_refl _) (Nat.le_refl _)) (fs_tr hfs3 m4) m5
    · rw [hb0] at ya
      have hne : (nI e = -1) = False := nI_nm1 (by have := hs.2.2.1.1; omega)
      simp only [we21, en21, true_and, and_true, if_false, if_true, not_true_eq_false, not_false_eq_true, false_implies, true_implies, implies_true, forall_const, true_or, or_true, false_or, or_false, false_and, and_false, eq_self_iff_true, Option.toList_some, Option.toList_none, List.cons_append, List.nil_append, mo_cat_0, mo_cat_c, mo_ct_i, mo_ct_l, mo_ct_r, mo_ct_n, mo_ct_f, Nat.zero_le, Nat.reduceAdd, Nat.reduceLeDiff, Nat.reduceLT, Nat.reduceEqDiff, Nat.reduceSub, mo_rf_s, mo_rf_n, reduceCtorEq, mo_st, mo_st2, mo_lg_0, mo_lg_s, List.set_cons_zero, List.set_cons_succ, List.length_cons, List.length_nil, List.getElem?_cons_zero, List.getElem?_cons_succ, Nat.reduceBEq, Bool.false_eq_true, beq_self_eq_true, hs', y1, y6, y7, y8, y9, ya, hC4, k0, g1, g3, g4, hne, mo_LC, mo_ME, mo_u_a, mo_z_a, mo_y_a, Nat.add_left_cancel_iff]
      have hA10 : A.1 10 (4 * c + k) = nI e := by rw [(d1 10 (by decide)).1]; exact hb0
      have hWs : ∃ A3, a_wk (a_I A 30 f (nI (2 * k + 3))) b e f A3 ∧ r_S (x + 28) A A3 := by
        by_cases hb2 : b < 300
        · refine ⟨_, wk_1 hb2, ?_⟩
          have := S_F_has (r := x + 28) (k := k) d10 hP1 h0 h28 hco (by omega) (by omega) h30 hfd (by rw [hA10, hne]; exact id) d12 hb2
          rw [hA10, ← hco] at this
          exact this
        · have hb4 : b = 300 := by omega
          subst hb4
          exact ⟨_, wk_2 rfl, S_F_hasS (k := k) d10 hP1 h0 h28 hco (by omega) (by omega) h30 hfd (by rw [hA10, hne]; exact id) d12⟩
      obtain ⟨A3, hA3w, hS3⟩ := hWs
      have hx1 : a_x a_sk A (a_I A 30 f (nI (2 * k + 3))) := ax_I (by decide) (ax_rf _ _)
      have kp1 : c_kp x (w + 1) P f μ A O no b μ (a_I A 30 f (nI (2 * k + 3))) O no b := kp_x (km_rf x (w + 1) P μ) (au_I (by omega) (au_rf _ _)) hx1 (by decide) (by decide) (by decide) (Nat.le_refl _)
      have hfr1 := fr_s hfr kp1 (Nat.lt_succ_self _) (fs_I (Or.inl rfl) (fs_rf _ _))
      refine hW μ (a_I A 30 f (nI (2 * k + 3))) O no P f b q c o e A3 _ hs (dy_stk hd hx1 (by rw [a_I_n (by decide)]; exact d10)) (by rw [a_I_n (by decide)]; exact h0) hfr1 he hF hA3w ?_
      intro v μ' A' O' no' b' q' k1 k2 k3 k4
      have hs2 := c_st_k hs k3.1
      have hfr2 := fr_k hfr1 k3 (Nat.lt_succ_self _) (Nat.lt_succ_self _)
      have hfu := k3.2.2.2.2.2.2.2.1
      have hfs2 : a_fs f A A' := fs_tr (fs_I (Or.inl rfl) (fs_rf _ _)) (fs_u hfu (Nat.lt_succ_self _))
      have h302 : A'.1 30 f = nI (2 * k + 3) := by rw [((hfu f (Nat.lt_succ_self _)).1 30 (by decide) (by decide)).1, a_I_1, if_pos ⟨rfl, rfl⟩]
      have hkp2 := c_kp_tr kp1 k3 (Nat.le_refl _) (Nat.le_refl _) (Nat.le_succ _)
      have hrc2 := a_rc_tr (a_rc_st d10 hP1 hS3) k2
      have h282 : A'.1 28 f = 1 := hfs2.1.trans h28
      have hs2' := hs2.1.1
      unfold cl_sf at hs2'
      have hd0 := k1
      obtain ⟨j1, j2, j3, j4, j5, j6, j7, j8, j9, j10, j11, j12, j13, j14, j15, j16, j17, j18, j19, j20, j21, j22, j23, j24, j25⟩ := hd0
      have hC42 := (hs2.1.2 w hw).2
      have hfr2' := hfr2
      obtain ⟨r1, r2, r3, r4, r5, r6', r7', r8', c0', r9', r10', r11'⟩ := hfr2'
      by_cases hfy : A'.1 37 0 = 0
      · have hv := k4 hfy
        subst hv
        have ht2 := c_th_c hn8 (j24 o r7') r9' r10'
        have k2' := fun v Q => L_msetT (d := d + 3) (fr := x + 16 + w) hs2 ht2 hc hC42 r1 r2 r11' hnf (by omega) (show k < nf by omega) (j20.trans hfy) v Q
        simp only [we21, en21, true_and, and_true, if_false, if_true, not_true_eq_false, not_false_eq_true, false_implies, true_implies, implies_true, forall_const, true_or, or_true, false_or, or_false, false_and, and_false, eq_self_iff_true, Option.toList_some, Option.toList_none, List.cons_append, List.nil_append, mo_cat_0, mo_cat_c, mo_ct_i, mo_ct_l, mo_ct_r, mo_ct_n, mo_ct_f, Nat.zero_le, Nat.reduceAdd, Nat.reduceLeDiff, Nat.reduceLT, Nat.reduceEqDiff, Nat.reduceSub, mo_rf_s, mo_rf_n, reduceCtorEq, mo_st, mo_st2, mo_lg_0, mo_lg_s, List.set_cons_zero, List.set_cons_succ, List.length_cons, List.length_nil, List.getElem?_cons_zero, List.getElem?_cons_succ, Nat.reduceBEq, Bool.false_eq_true, beq_self_eq_true, hs2', hC42, k2', nI_1, mo_ME, mo_u_a, mo_z_a, mo_y_a, Nat.add_left_cancel_iff]
        have hS2 := S_F_set (r := x + 28) (k := k) j10 hP1 hfy h282 r4 (by omega) (by omega) h302 r5 (by omega) (by rw [(j1 8 (by decide)).1, hnf]; exact nI_lt (by omega) (by omega))
        rw [e4] at hS2
        have hx3 : a_x (21 :: a_sk) A' (a_I (a_L A' 21 (32 * o + 4 * c + k) (A'.2 36 0)) 30 f (nI (2 * (k + 1) + 2))) := ax_I (by decide) (ax_L (by decide) (ax_rf _ _))
        have kp3 : c_kp x (w + 1) P f μ' A' O' no' b' (mo_wAL μ' (O' o + 2) (4 * gV G c + k) (A'.2 36 0)) (a_I (a_L A' 21 (32 * o + 4 * c + k) (A'.2 36 0)) 30 f (nI (2 * (k + 1) + 2))) O' no' b' := kp_x (km_th x (w + 1) P μ' (by have := ht2.2.2.2.1; omega) _ _) (au_I (by omega) (au_L (by omega) (au_rf _ _))) hx3 (by decide) (by decide) (by decide) (Nat.le_refl _)
        have hfs3 : a_fs f A' (a_I (a_L A' 21 (32 * o + 4 * c + k) (A'.2 36 0)) 30 f (nI (2 * (k + 1) + 2))) := fs_I (Or.inl rfl) (fs_L (by decide) (fs_rf _ _))
        have hd3 := dy_fs (A' := a_I (a_L A' 21 (32 * o + 4 * c + k) (A'.2 36 0)) 30 f (nI (2 * (k + 1) + 2))) (v := A'.2 36 0) (h0 := c) (k := k) hs2 k1 r7' ht2 r11' (by omega) hx3 (fun j => by simp only [a_L_2, a_I_2, true_and]) (F' := f + 1) (by rw [a_I_n (by decide), a_L_1]; exact j10)
        refine ih (k + 1) (by omega) _ _ O' no' P f b' q' o Q (c_st_k hs2 kp3.1) hd3 (fr_s hfr2 kp3 (Nat.lt_succ_self _) hfs3) (hfs3.1.trans h282) (by rw [a_I_1, if_pos ⟨rfl, rfl⟩]) (by rw [a_I_n (by decide), a_L_1]; exact hfy) hF ?_
        intro μ4 A4 O4 no4 b4 q4 m1 m2 m3 m4 m5
        exact hpost μ4 A4 O4 no4 b4 q4 m1 (a_rc_tr hrc2 (a_rc_tr (a_rc_st j10 hP1 hS2) m2)) (c_kp_tr hkp2 (c_kp_tr kp3 m3 (Nat.le_refl _) (Nat.le_refl _) (Nat.le_refl _)) (Nat.le_refl _) (Nat.le_refl _) (Nat.le_refl _)) (fs_tr hfs2 (fs_tr hfs3 m4)) m5
      · have hne2 : ¬ mo_I μ' 517 (x + 9) = 0 := by rw [j20]; exact hfy
        have k2' := fun k v Q => L_msetX (d := d + 5) (fr := x + 16 + w) hs2 hne2 k v Q
        simp only [we21, en21, true_and, and_true, if_false, if_true, not_true_eq_false, not_false_eq_true, false_implies, true_implies, implies_true, forall_const, true_or, or_true, false_or, or_false, false_and, and_false, eq_self_iff_true, Option.toList_some, Option.toList_none, List.cons_append, List.nil_append, mo_cat_0, mo_cat_c, mo_ct_i, mo_ct_l, mo_ct_r, mo_ct_n, mo_ct_f, Nat.zero_le, Nat.reduceAdd, Nat.reduceLeDiff, Nat.reduceLT, Nat.reduceEqDiff, Nat.reduceSub, mo_rf_s, mo_rf_n, reduceCtorEq, mo_st, mo_st2, mo_lg_0, mo_lg_s, List.set_cons_zero, List.set_cons_succ, List.length_cons, List.length_nil, List.getElem?_cons_zero, List.getElem?_cons_succ, Nat.reduceBEq, Bool.false_eq_true, beq_self_eq_true, hs2', hC42, k2', nI_1, mo_ME, mo_u_a, mo_z_a, mo_y_a, Nat.add_left_cancel_iff]
        rw [bf_f (d := d + 6) hs2 hc hne2]
        exact hpost μ' A' O' no' b' q' k1 hrc2 hkp2 hfs2 (fun hh => absurd hh hfy)
/-- what fields begin with -/
theorem bf_all {x w d c P f b q o no : Nat} {B : mo_A} {G : c_G} {μ : mo_Mem} {A : mo_A} {O : Nat → Nat} {Q : mo_P} (hW : c_W x B G w (d + 7)) (hw : w < 12) (hc : c < gnc G) (hs : c_st x B G μ) (hd : c_dy x B G (w + 1) P (f + 1) μ A O no b q) (hfr : c_fr x B G w f μ A O no c o) (h28 : A.1 28 f = 1) (h30 : A.1 37 0 = 0 → A.1 30 f = 2) (hF : f + 1 ≤ P + 2 * (w + 1)) (hpost : (∀ μ' A' O' no' b' q', c_dy x B G (w + 1) P (f + 1) μ' A' O' no' b' q' → a_rc (x + 28) A A' → c_kp x (w + 1) P f μ A O no b μ' A' O' no' b' → a_fs f A A' → (A'.1 37 0 = 0 → A'.1 30 f = nI 10) → Q none μ')) : mo_M (d + 8) 21 [.ref (x + 1), .ref (gT G c), .ref (x + 16 + w)] μ Q := by
  have h0' : (0 : Int32) = nI 0 := rfl
  obtain ⟨-, ⟨nf, nf1, nf2⟩, -⟩ := hs.2.2.1.2.2.2.2.2.2.1 c hc
  simp only [we21, en21, true_and, and_true, if_false, if_true, not_true_eq_false, not_false_eq_true, false_implies, true_implies, implies_true, forall_const, true_or, or_true, false_or, or_false, false_and, and_false, eq_self_iff_true, Option.toList_some, Option.toList_none, List.cons_append, List.nil_append, mo_cat_0, mo_cat_c, mo_ct_i, mo_ct_l, mo_ct_r, mo_ct_n, mo_ct_f, Nat.zero_le, Nat.reduceAdd, Nat.reduceLeDiff, Nat.reduceLT, Nat.reduceEqDiff, Nat.reduceSub, mo_rf_s, mo_rf_n, reduceCtorEq, mo_st, mo_st2, mo_lg_0, mo_lg_s, List.set_cons_zero, List.set_cons_succ, List.length_cons, List.length_nil, List.getElem?_cons_zero, List.getElem?_cons_succ, Nat.reduceBEq, Bool.false_eq_true, beq_self_eq_true, mo_ME, mo_u_a, mo_z_a, mo_y_a, Nat.add_left_cancel_iff]
  rw [h0']
  by_cases h0 : A.1 37 0 = 0
  · exact bf_loop hW hw hc nf2 nf1 nf 0 (by omega) μ A O no P f b q o Q hs hd hfr h28 (h30 h0) h0 hF hpost
  · rw [bf_f (d := d + 6) hs hc (by rw [hd.2.2.2.2.2.2.2.2.2.2.2.2.2.2.2.2.2.2.2.1]; exact h0)]
    exact hpost μ A O no b q hd (a_rc_rf _ _) (c_kp_rf _ _ _ _ _ _ _ _ _) (fs_rf _ _) (fun hh => absurd hh h0)
/-- the acts of a maker run, or not as something fails -/
theorem ra_mk {x w d c P f b q o no : Nat} {B : mo_A} {G : c_G} {μ : mo_Mem} {A : mo_A} {O : Nat → Nat} {Q : mo_P} {na : Nat} (hW : c_W x B G w (d + 7)) (hw : w < 12) (hc : c < gnc G) (hna : B.1 13 (5 * c) = nI na) (hna8 : na ≤ 8) (hs : c_st x B G μ) (hd : c_dy x B G (w + 1) P (f + 1) μ A O no b q) (hfr : c_fr x B G w f μ A O no c o) (h28 : A.1 28 f = 1) (h29 : A.1 29 f = nI (5 * c)) (h30 : A.1 37 0 = 0 → A.1 30 f = nI 10) (hF : f + 1 ≤ P + 2 * (w + 1)) (hpost : ∀ μ' A' O' no' b' q', c_dy x B G (w + 1) P (f + 1) μ' A' O' no' b' q' → a_rc (x + 28) A A' → c_kp x (w + 1) P f μ A O no b μ' A' O' no' b' → a_fs f A A' → (A'.1 37 0 = 0 → A'.1 30 f = nI (2 * na + 10)) → Q none μ') : mo_M (d + 8) 23 [.ref (x + 1), .ref (gT G c + 2), .ref (x + 16 + w)] μ Q := by
  have hKc := (hs.2.2.2.2.2.2.1 c hc).2.2.2.2.2.2.2.2.2.2.2.2.1
  rw [← hKc]
  by_cases h0 : A.1 37 0 = 0
  · exact ra_all hW (Or.inr ⟨rfl, rfl⟩) hw (by omega) (Or.inl (by omega)) hna hna8 hs hd hfr h28 h29 (h30 h0) h0 hF hpost
  · have h0' : (0 : Int32) = nI 0 := rfl
    simp only [we23_0, we23_1, en23, true_and, and_true, if_false, if_true, not_true_eq_false, not_false_eq_true, false_implies, true_implies, implies_true, forall_const, true_or, or_true, false_or, or_false, false_and, and_false, eq_self_iff_true, Option.toList_some, Option.toList_none, List.cons_append, List.nil_append, mo_cat_0, mo_cat_c, mo_ct_i, mo_ct_l, mo_ct_r, mo_ct_n, mo_ct_f, Nat.zero_le, Nat.reduceAdd, Nat.reduceLeDiff, Nat.reduceLT, Nat.reduceEqDiff, Nat.reduceSub, mo_rf_s, mo_rf_n, reduceCtorEq, mo_st, mo_st2, mo_lg_0, mo_lg_s, List.set_cons_zero, List.set_cons_succ, List.length_cons, List.length_nil, List.getElem?_cons_zero, List.getElem?_cons_succ, Nat.reduceBEq, Bool.false_eq_true, beq_self_eq_true, mo_ME, mo_u_a, mo_z_a, mo_y_a, Nat.add_left_cancel_iff]
    rw [h0', ra_f (d := d + 6) hs (by omega) (Or.inl (by omega)) (by rw [hd.2.2.2.2.2.2.2.2.2.2.2.2.2.2.2.2.2.2.2.1]; exact h0)]
    exact hpost μ A O no b q hd (a_rc_rf _ _) (c_kp_rf _ _ _ _ _ _ _ _ _) (fs_rf _ _) (fun hh => absurd hh h0)
