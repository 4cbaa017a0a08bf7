/-- the frame f is the same but for its stage -/
def a_fs (f : Nat) (A A' : mo_A) : Prop := A'.1 28 f = A.1 28 f ∧ A'.1 29 f = A.1 29 f ∧ A'.1 31 f = A.1 31 f ∧ A'.1 32 f = A.1 32 f ∧ A'.1 33 f = A.1 33 f ∧ A'.1 35 f = A.1 35 f ∧ A'.2 34 f = A.2 34 f
theorem fs_rf (f : Nat) (A : mo_A) : a_fs f A A := ⟨rfl, rfl, rfl, rfl, rfl, rfl, rfl⟩
theorem fs_tr {f : Nat} {A A' A'' : mo_A} (h : a_fs f A A') (g : a_fs f A' A'') : a_fs f A A'' := ⟨g.1.trans h.1, g.2.1.trans h.2.1, g.2.2.1.trans h.2.2.1, g.2.2.2.1.trans h.2.2.2.1, g.2.2.2.2.1.trans h.2.2.2.2.1, g.2.2.2.2.2.1.trans h.2.2.2.2.2.1, g.2.2.2.2.2.2.trans h.2.2.2.2.2.2⟩
theorem fs_u {f F : Nat} {A A' : mo_A} (h : a_u F A A') (hf : f < F) : a_fs f A A' := by
  have e := (h f hf).1
  exact ⟨(e 28 (by decide) (by decide)).1, (e 29 (by decide) (by decide)).1, (e 31 (by decide) (by decide)).1, (e 32 (by decide) (by decide)).1, (e 33 (by decide) (by decide)).1, (e 35 (by decide) (by decide)).1, (e 34 (by decide) (by decide)).2⟩
theorem fs_I {f j i : Nat} {A X : mo_A} {v : Int32} (hj : j = 30 ∨ j < 28 ∨ 35 < j) (h : a_fs f A X) : a_fs f A (a_I X j i v) := by
  obtain ⟨h1, h2, h3, h4, h5, h6, h7⟩ := h
  exact ⟨by rw [a_I_n (by omega)]; exact h1, by rw [a_I_n (by omega)]; exact h2, by rw [a_I_n (by omega)]; exact h3, by rw [a_I_n (by omega)]; exact h4, by rw [a_I_n (by omega)]; exact h5, by rw [a_I_n (by omega)]; exact h6, h7⟩
theorem fs_L {f j i : Nat} {A X : mo_A} {v : Int64} (hj : j ≠ 34) (h : a_fs f A X) : a_fs f A (a_L X j i v) := by
  obtain ⟨h1, h2, h3, h4, h5, h6, h7⟩ := h
  exact ⟨h1, h2, h3, h4, h5, h6, by rw [a_L_2, if_neg (by omega)]; exact h7⟩
theorem fr_s {x w f u P F no no' b b' c o : Nat} {B : mo_A} {G : c_G} {μ μ' : mo_Mem} {A A' : mo_A} {O O' : Nat → Nat} (h : c_fr x B G w f μ A O no c o) (k : c_kp x u P F μ A O no b μ' A' O' no' b') (hw : w < u) (hf : a_fs f A A') : c_fr x B G w f μ' A' O' no' c o := by
  obtain ⟨h1, h2, h3, h4, h5, h6, h7, h8, c0, h9, h10, h11⟩ := h
  obtain ⟨k1, k2, k3, k4, k5, k6, k7, k8, k9, k10, k11⟩ := k
  obtain ⟨r1, r2, r3⟩ := k6 w hw
  obtain ⟨o1, o2, o3⟩ := k4 o h7
  exact ⟨r1.trans h1, by rw [r2, h2, o1], by rw [r3, h3, hf.2.2.2.2.2.2], hf.2.2.1.trans h4, hf.2.2.2.1.trans h5, h6, by omega, h8, c0, o2.trans h9, h10, h11⟩
/-- the loop of runActs ends as something fails -/
theorem ra_f {x w d m i : Nat} {B : mo_A} {G : c_G} {μ : mo_Mem} {Q : mo_P} {x4 x5 x6 : Option Value} (hs : c_st x B G μ) (hm : m < 5 * gnc G) (hpm : a_pm B m) (h0 : ¬ mo_I μ 517 (x + 9) = 0) : mo_wp (mo_M (d + 1)) Q 23 (2, [some (.ref (x + 1)), some (.ref (gK G m)), some (.ref (x + 16 + w)), some (.int (nI i)), x4, x5, x6], [], μ) = Q none μ := by
  have hs' := hs.1.1
  unfold cl_sf at hs'
  have k0 := fun Q => L_failed (d := d) hs.1.1 (t := mo_I μ 517 (x + 9)) rfl Q
  obtain ⟨c1, c2, c3, c4, c5, c6, c7, c8, c9, c10⟩ := hs.2.2.2.2.2.2.2.1 m hm hpm
  rw [wh23_2]
  simp only [we23_0, we23_1, en23, true_and, and_true, if_false, if_true, not_true_eq_false, not_false_eq_true, false_implies, true_implies, implies_true, forall_const, true_or, or_true, false_or, or_false, false_and, and_false, eq_self_iff_true, Option.toList_some, Option.toList_none, List.cons_append, List.nil_append, mo_cat_0, mo_cat_c, mo_ct_i, mo_ct_l, mo_ct_r, mo_ct_n, mo_ct_f, Nat.zero_le, Nat.reduceAdd, Nat.reduceLeDiff, Nat.reduceLT, Nat.reduceEqDiff, Nat.reduceSub, mo_rf_s, mo_rf_n, reduceCtorEq, mo_st, mo_st2, mo_lg_0, mo_lg_s, List.set_cons_zero, List.set_cons_succ, List.length_cons, List.length_nil, List.getElem?_cons_zero, List.getElem?_cons_succ, Nat.reduceBEq, Bool.false_eq_true, beq_self_eq_true, hs', c1, c7, k0, h0, mo_LC, mo_ME, mo_u_a, mo_z_a, mo_y_a, Nat.add_left_cancel_iff]
  by_cases q : B.1 13 m ≤ nI i
  · simp [q]
  · simp [q]
theorem ra_loop {x w d m na fm : Nat} {kd : Int32} {B : mo_A} {G : c_G} (hW : c_W x B G w (d + 7)) (hkf : a_kf kd fm) (hw : w < 12) (hm : m < 5 * gnc G) (hpm : a_pm B m) (hna : B.1 13 m = nI na) (hna8 : na ≤ 8) : ∀ n i, i + n = na → ∀ μ A O no P f b q c o x4 x5 x6 Q, c_st x B G μ → c_dy x B G (w + 1) P (f + 1) μ A O no b q → c_fr x B G w f μ A O no c o → A.1 28 f = kd → A.1 29 f = nI m → A.1 30 f = nI (2 * i + fm) → A.1 37 0 = 0 → f + 1 ≤ P + 2 * (w + 1) → (∀ μ' A' O' no' b' q', c_dy x B G (w + 1) P (f + 1) μ' A' O' no' b' q' → a_rc (x + 28) A A' → c_kp x (w + 1) P f μ A O no b μ' A' O' no' b' → a_fs f A A' → (A'.1 37 0 = 0 → A'.1 30 f = nI (2 * na + fm)) → Q none μ') → mo_wp (mo_M (d + 7)) Q 23 (2, [some (.ref (x + 1)), some (.ref (gK G m)), some (.ref (x + 16 + w)), some (.int (nI i)), x4, x5, x6], [], μ) := by
  intro n
  induction n with
  | zero =>
    intro i hi μ A O no P f b q c o x4 x5 x6 Q hs hd hfr h28 h29 h30 h0 hF hpost
    have hs' := hs.1.1
    unfold cl_sf at hs'
    obtain ⟨c1, c2, c3, c4, c5, c6, c7, c8, c9, c10⟩ := hs.2.2.2.2.2.2.2.1 m hm hpm
    rw [hna] at c7
    have g1 : (nI na ≤ nI i) = True := i_le (by omega) (by omega)
    rw [wh23_2]
    simp only [we23_0, we23_1, en23, true_and, and_true, if_false, if_true, not_true_eq_false, not_false_eq_true, false_implies, true_implies, implies_true, forall_const, true_or, or_true, false_or, or_false, false_and, and_false, eq_self_iff_true, Option.toList_some, Option.toList_none, List.cons_append, List.nil_append, mo_cat_0, mo_cat_c, mo_ct_i, mo_ct_l, mo_ct_r, mo_ct_n, mo_ct_f, Nat.zero_le, Nat.reduceAdd, Nat.reduceLeDiff, Nat.reduceLT, Nat.reduceEqDiff, Nat.reduceSub, mo_rf_s, mo_rf_n, reduceCtorEq, mo_st, mo_st2, mo_lg_0, mo_lg_s, List.set_cons_zero, List.set_cons_succ, List.length_cons, List.length_nil, List.getElem?_cons_zero, List.getElem?_cons_succ, Nat.reduceBEq, Bool.false_eq_true, beq_self_eq_true, hs', c1, c7, g1, mo_ME, mo_u_a, mo_z_a, mo_y_a, Nat.add_left_cancel_iff]
    have hi' : i = na := by omega
    subst hi'
    exact hpost μ A O no b q hd (a_rc_rf _ _) (c_kp_rf _ _ _ _ _ _ _ _ _) (fs_rf _ _) (fun _ => h30)
  | succ n ih =>
    intro i hi μ A O no P f b q c o x4 x5 x6 Q hs hd hfr h28 h29 h30 h0 hF hpost
    have hs' := hs.1.1
    unfold cl_sf at hs'
    have hd0 := hd
    obtain ⟨d1, d2, d3, d4, d5, d6, d7, d8, d9, d10, d11, d12, d13, d14, d15, d16, d17, d18, d19, d20, d21, d22, d23, d24, d25⟩ := hd0
    obtain ⟨c1, c2, c3, c4, c5, c6, c7, c8, c9, c10⟩ := hs.2.2.2.2.2.2.2.1 m hm hpm
    obtain ⟨y, y1, y2, y3, y4, y5, y6, y7⟩ := c10 na i hna hna8 (by omega)
    obtain ⟨-, -, na', n1, n2, n3⟩ := hs.2.2.1.2.2.2.2.2.2.2.1 m hm
    rw [hna, nI_inj (by omega) (by omega)] at n2
    subst n2
    obtain ⟨nsort, e, he, hexp⟩ := n3 i (by omega)
    rw [hna] at c7
    rw [hexp] at y7
    have g1 : (nI na ≤ nI i) = False := i_ge (by omega) (by omega)
    have g3 : vp_in (nI i) 8 := vp_in_nI (by omega) (by decide)
    have g4 : (nI i).toNatClampNeg = i := nI_clamp (by omega)
    have k0 := fun Q => L_failed (d := d + 6) hs.1.1 (d20.trans h0) Q
    have hn8 := hs.2.2.1.2.1
    obtain ⟨r1, r2, r3, r4, r5, r6, r7, r8, c0, r9, r10, r11⟩ := hfr
    have hac : ¬ A.1 13 m ≤ nI i := by rw [(d1 13 (by decide)).1, hna, g1]; exact id
    have hC4 := (hs.1.2 w hw).2
    rw [wh23_2]
    simp only [we23_0, we23_1, en23, true_and, and_true, if_false, if_true, not_true_eq_false, not_false_eq_true, false_implies, true_implies, implies_true, forall_const, true_or, or_true, false_or, or_false, false_and, and_false, eq_self_iff_true, Option.toList_some, Option.toList_none, List.cons_append, List.nil_append, mo_cat_0, mo_cat_c, mo_ct_i, mo_ct_l, mo_ct_r, mo_ct_n, mo_ct_f, Nat.zero_le, Nat.reduceAdd, Nat.reduceLeDiff, Nat.reduceLT, Nat.reduceEqDiff, Nat.reduceSub, mo_rf_s, mo_rf_n, reduceCtorEq, mo_st, mo_st2, mo_lg_0, mo_lg_s, List.set_cons_zero, List.set_cons_succ, List.length_cons, List.length_nil, List.getElem?_cons_zero, List.getElem?_cons_succ, Nat.reduceBEq, Bool.false_eq_true, beq_self_eq_true, hs', c1, c4, c5, c6, c7, y1, y4, y7, hC4, k0, g1, g3, g4, mo_LC, mo_ME, mo_u_a, mo_z_a, mo_y_a, Nat.add_left_cancel_iff]
    obtain ⟨A1, hA1w, hS⟩ := S_wU (r := x + 28) (k := i) (e := e) hkf d10 (by omega) h0 h28 r4 (by omega) h29 (by omega) (by omega) h30 hac (by rw [(d1 16 (by decide)).1]; exact hexp) d12 d13
    have hx1 : a_x a_sk A (a_I A 30 f (nI (2 * i + 1 + fm))) := ax_I (by decide) (ax_rf _ _)
    have hfr0 : c_fr x B G w f μ A O no c o := ⟨r1, r2, r3, r4, r5, r6, r7, r8, c0, r9, r10, r11⟩
    have kp0 : c_kp x (w + 1) P f μ A O no b μ (a_I A 30 f (nI (2 * i + 1 + fm))) O no b := kp_x (km_rf x (w + 1) P μ) (au_I (by omega) (au_rf _ _)) hx1 (by decide) (by decide) (by decide) (Nat.le_refl _)
    have hfr1 := fr_s hfr0 kp0 (Nat.lt_succ_self _) (fs_I (Or.inl rfl) (fs_rf _ _))
    refine hW μ (a_I A 30 f (nI (2 * i + 1 + fm))) O no P f b q c o e A1 _ hs (dy_stk hd hx1 (by rw [a_I_n (by decide)]; exact d10)) (by rw [a_I_n (by decide)]; exact h0) hfr1 he hF hA1w ?_
    intro v μ' A' O' no' b' q' k1 k2 k3 k4
    have hs2 := c_st_k hs k3.1
    have hfr2 := fr_k hfr1 k3 (Nat.lt_succ_self _) (Nat.lt_succ_self _)
    have hfu := k3.2.2.2.2.2.2.2.1
    have hfs2 : a_fs f A A' := fs_tr (fs_I (Or.inl rfl) (fs_rf _ _)) (fs_u hfu (Nat.lt_succ_self _))
    have h302 : A'.1 30 f = nI (2 * i + 1 + fm) := by rw [((hfu f (Nat.lt_succ_self _)).1 30 (by decide) (by decide)).1, a_I_1, if_pos ⟨rfl, rfl⟩]
    have hkp2 := c_kp_tr kp0 k3 (Nat.le_refl _) (Nat.le_refl _) (Nat.le_succ _)
    have hrc2 := a_rc_tr (a_rc_st d10 (by omega) hS) k2
    have pk0 : ∀ k, k < 192 → cl_pk k := fun k q => Or.inl q
    have y4' := (k3.1.2.1 y y3).1.trans y4
    have y5' := (k3.1.2.2.2.1 0 y y3 (pk0 _ (by decide))).1.trans y5
    have y6' := (k3.1.2.2.2.1 1 y y3 (pk0 _ (by decide))).1.trans y6
    have h282 : A'.1 28 f = kd := hfs2.1.trans h28
    have h292 : A'.1 29 f = nI m := hfs2.2.1.trans h29
    clear y1 y5 y6 y7 y4 c1 c2 c3 c4 c5 c6 c7 c10 d2 d3 d5 d6 d8 d10 d11 d12 d14 d15 d16 d17 d18 d20 d21 d22 d23 d24 d25 hS hs' k0 r1 r2 r3 r4 r5 hC4 hac
    have hs' := hs2.1.1
    unfold cl_sf at hs'
    have hd0 := k1
    obtain ⟨d1', d2, d3, d4', d5, d6, d7', d8, d9', d10, d11, d12, d13', d14, d15, d16, d17, d18, d19', d20, d21, d22, d23, d24, d25⟩ := hd0
    have hC4 := (hs2.1.2 w hw).2
    have hfr2' := hfr2
    obtain ⟨r1, r2, r3, r4, r5, r6', r7', r8', c0', r9', r10', r11'⟩ := hfr2'
    have hac : ¬ A'.1 13 m ≤ nI i := by rw [(d1' 13 (by decide)).1, hna, g1]; exact id
    have hst0 := (d1' 14 (by decide)).1
    have hst1 := (d1' 15 (by decide)).1
    have hP1 : f < 399 := by omega
    have e2 : 2 * i + 2 + fm = 2 * (i + 1) + fm := by omega
    by_cases hfy : A'.1 37 0 = 0
    · have hv := k4 hfy
      subst hv
      have hq4 : q' ≤ 4 := d21 (by rw [hfy]; decide)
      have ht2 := c_th_c hn8 (d24 o r7') r9' r10'
      have k0 := fun Q => L_failed (d := d + 6) hs2.1.1 (d20.trans hfy) Q
      obtain ⟨-, ⟨nf, nf1, nf2⟩, -⟩ := hs.2.2.1.2.2.2.2.2.2.1 c r6
      have hA8 : A'.1 8 c = nI nf := by rw [(d1' 8 (by decide)).1]; exact nf2
      rcases nsort with ⟨q0, kf, hkf4, hkf5⟩ | q1 | q2
      · rw [q0] at y5'
        rw [hkf5] at y6'
        by_cases hlt : kf < nf
        · have k2' := fun v Q => L_msetT (d := d + 3) (fr := x + 16 + w) hs2 ht2 r6 hC4 r1 r2 r11' nf2 (by omega) hlt (d20.trans hfy) v Q
          simp only [we23_0, we23_1, en23, true_and, and_true, if_false, if_true, not_true_eq_false, not_false_eq_true, false_implies, true_implies, implies_true, forall_const, true_or, or_true, false_or, or_false, false_and, and_false, eq_self_iff_true, Option.toList_some, Option.toList_none, List.cons_append, List.nil_append, mo_cat_0, mo_cat_c, mo_ct_i, mo_ct_l, mo_ct_r, mo_ct_n, mo_ct_f, Nat.zero_le, Nat.reduceAdd, Nat.reduceLeDiff, Nat.reduceLT, Nat.reduceEqDiff, Nat.reduceSub, mo_rf_s, mo_rf_n, reduceCtorEq, mo_st, mo_st2, mo_lg_0, mo_lg_s, List.set_cons_zero, List.set_cons_succ, List.length_cons, List.length_nil, List.getElem?_cons_zero, List.getElem?_cons_succ, Nat.reduceBEq, Bool.false_eq_true, beq_self_eq_true, hs', y4', y5', y6', hC4, k2', nI_1, mo_LC, mo_ME, mo_u_a, mo_z_a, mo_y_a, Nat.add_left_cancel_iff]
          have hS2 := S_setU (r := x + 28) hkf d10 hP1 hfy h282 r4 (by omega) h292 (by omega) (by omega) h302 hac (by rw [hst0]; exact q0) (by rw [hst1]; exact hkf5) hkf4 (by rw [hA8]; exact nI_lt hlt (by omega)) r5 (by omega)
          rw [e2] at hS2
          have hx3 : a_x (21 :: a_sk) A' (a_L (a_I A' 30 f (nI (2 * (i + 1) + fm))) 21 (32 * o + 4 * c + kf) (A'.2 36 0)) := ax_L (by decide) (ax_I (by decide) (ax_rf _ _))
          have kp3 : c_kp x (w + 1) P f μ' A' O' no' b' (mo_wAL μ' (O' o + 2) (4 * gV G c + kf) (A'.2 36 0)) (a_L (a_I A' 30 f (nI (2 * (i + 1) + fm))) 21 (32 * o + 4 * c + kf) (A'.2 36 0)) O' no' b' := kp_x (km_th x (w + 1) P μ' (by have := ht2.2.2.2.1; omega) _ _) (au_L (by omega) (au_I (by omega) (au_rf _ _))) hx3 (by decide) (by decide) (by decide) (Nat.le_refl _)
          have hfs3 : a_fs f A' (a_L (a_I A' 30 f (nI (2 * (i + 1) + fm))) 21 (32 * o + 4 * c + kf) (A'.2 36 0)) := fs_L (by decide) (fs_I (Or.inl rfl) (fs_rf _ _))
          have hd3 := dy_fs (A' := a_L (a_I A' 30 f (nI (2 * (i + 1) + fm))) 21 (32 * o + 4 * c + kf) (A'.2 36 0)) (v := A'.2 36 0) (h0 := c) (k := kf) hs2 k1 r7' ht2 r11' hkf4 hx3 (fun j => by simp only [a_L_2, a_I_2, true_and]) (F' := f + 1) (by rw [a_L_1, a_I_n (by decide)]; exact d10)
          refine ih (i + 1) (by omega) _ _ O' no' P f b' q' c o _ _ _ Q (c_st_k hs2 kp3.1) hd3 (fr_s hfr2 kp3 (Nat.lt_succ_self _) hfs3) (hfs3.1.trans h282) (hfs3.2.1.trans h292) (by rw [a_L_1, a_I_1, if_pos ⟨rfl, rfl⟩]) (by rw [a_L_1, a_I_n (by decide)]; exact hfy) hF ?_
          intro μ4 A4 O4 no4 b4 q4 m1 m2 m3 m4 m5
          exact hpost μ4 A4 O4 no4 b4 q4 m1 (a_rc_tr hrc2 (a_rc_tr (a_rc_st d10 hP1 hS2) m2)) (c_kp_tr hkp2 (c_kp_tr kp3 m3 (Nat.le_refl _) (Nat.le_refl _) (Nat.le_refl _)) (Nat.le_refl _) (Nat.le_refl _) (Nat.le_refl _)) (fs_tr hfs2 (fs_tr hfs3 m4)) m5
        · have k2' := fun v Q => L_msetF (d := d + 3) (fr := x + 16 + w) (k := kf) hs2 ht2 r6 hC4 r1 r2 nf2 (by omega) (by omega) (by omega) (d20.trans hfy) d17 hq4 v Q
          simp only [we23_0, we23_1, en23, true_and, and_true, if_false, if_true, not_true_eq_false, not_false_eq_true, false_implies, true_implies, implies_true, forall_const, true_or, or_true, false_or, or_false, false_and, and_false, eq_self_iff_true, Option.toList_some, Option.toList_none, List.cons_append, List.nil_append, mo_cat_0, mo_cat_c, mo_ct_i, mo_ct_l, mo_ct_r, mo_ct_n, mo_ct_f, Nat.zero_le, Nat.reduceAdd, Nat.reduceLeDiff, Nat.reduceLT, Nat.reduceEqDiff, Nat.reduceSub, mo_rf_s, mo_rf_n, reduceCtorEq, mo_st, mo_st2, mo_lg_0, mo_lg_s, List.set_cons_zero, List.set_cons_succ, List.length_cons, List.length_nil, List.getElem?_cons_zero, List.getElem?_cons_succ, Nat.reduceBEq, Bool.false_eq_true, beq_self_eq_true, hs', y4', y5', y6', hC4, k2', nI_1, mo_LC, mo_ME, mo_u_a, mo_z_a, mo_y_a, Nat.add_left_cancel_iff]
          have hS2 := S_setFU (r := x + 28) hkf d10 hP1 hfy h282 r4 (by omega) h292 (by omega) (by omega) h302 hac (by rw [hst0]; exact q0) (by rw [hst1, hkf5, hA8]; exact fun hh => hlt ((nI_ltI (by omega) (by omega)).1 hh)) d18 hq4
          have hx3 : a_x a_sk A' (a_I A' 30 f (nI (2 * i + 2 + fm))) := ax_I (by decide) (ax_rf _ _)
          have hd3 := dy_stk k1 hx3 (F' := f + 1) (by rw [a_I_n (by decide)]; exact d10)
          obtain ⟨-, hd4⟩ := dy_fl (w := 2) hd3 (by rw [a_I_n (by decide)]; exact hfy) (F' := f + 1) (by rw [a_I_n (by decide)]; exact d10)
          have km4 := km_fl x (w + 1) P μ' q' 2
          have hx4 : a_x (37 :: 39 :: a_sk) A' (a_fl (a_I A' 30 f (nI (2 * i + 2 + fm))) q' 2) := ax_tr (ax_I (by decide) (ax_rf _ _)) (fl_x _ _ _)
          have kp4 : c_kp x (w + 1) P f μ' A' O' no' b' (m_fl x μ' q' 2) (a_fl (a_I A' 30 f (nI (2 * i + 2 + fm))) q' 2) O' no' b' := kp_x km4 (au_tr (au_I (by omega) (au_rf _ _)) (fl_u f _ _ _)) hx4 (by decide) (by decide) (by decide) (Nat.le_refl _)
          have h37 := fl_37 (a_I A' 30 f (nI (2 * i + 2 + fm))) q' (w := 2) (by decide)
          rw [ra_f (d := d + 6) (c_st_k hs2 km4.1) hm hpm (by rw [hd4.2.2.2.2.2.2.2.2.2.2.2.2.2.2.2.2.2.2.2.1]; exact h37)]
          exact hpost _ _ O' no' b' (q' + 1) hd4 (a_rc_tr hrc2 (a_rc_st d10 hP1 hS2)) (c_kp_tr hkp2 kp4 (Nat.le_refl _) (Nat.le_refl _) (Nat.le_refl _)) (fs_tr hfs2 (fs_tr (fs_I (Or.inl rfl) (fs_rf _ _)) (fs_u (fl_u (f + 1) _ _ _) (Nat.lt_succ_self _)))) (fun hh => absurd hh h37)
      · rw [q1] at y5'
        obtain ⟨lg, l1, l2, l3, l4⟩ := d23
        have y11 := (hs2.2.2.2.2.2.2.1 c r6).2.1
        have yn := (hs2.2.2.2.2.2.2.1 c r6).2.2.1
        have t6 := ht2.2.2.2.2.2.1
        have t7 := ht2.2.2.2.2.2.2.1
        by_cases hlg : lg < 200
        · have k2' := fun v c o Q => L_logAdd (d := d + 6) hs2.1.1 l2 hlg v c o Q
          simp only [we23_0, we23_1, en23, true_and, and_true, if_false, if_true, not_true_eq_false, not_false_eq_true, false_implies, true_implies, implies_true, forall_const, true_or, or_true, false_or, or_false, false_and, and_false, eq_self_iff_true, Option.toList_some, Option.toList_none, List.cons_append, List.nil_append, mo_cat_0, mo_cat_c, mo_ct_i, mo_ct_l, mo_ct_r, mo_ct_n, mo_ct_f, Nat.zero_le, Nat.reduceAdd, Nat.reduceLeDiff, Nat.reduceLT, Nat.reduceEqDiff, Nat.reduceSub, mo_rf_s, mo_rf_n, reduceCtorEq, mo_st, mo_st2, mo_lg_0, mo_lg_s, List.set_cons_zero, List.set_cons_succ, List.length_cons, List.length_nil, List.getElem?_cons_zero, List.getElem?_cons_succ, Nat.reduceBEq, Bool.false_eq_true, beq_self_eq_true, hs', y4', y5', hC4, k0, k2', r1, r2, y11, yn, t6, t7, nI_1, mo_LC, mo_ME, mo_u_a, mo_z_a, mo_y_a, Nat.add_left_cancel_iff]
          have hS2 := S_logU (r := x + 28) hkf d10 hP1 hfy h282 r4 (by omega) h292 (by omega) (by omega) h302 hac (by rw [hst0]; exact q1) l3 hlg
          rw [e2, r5] at hS2
          have hx3 : a_x (22 :: 23 :: 24 :: 25 :: a_sk) A' (a_I (a_I (a_I (a_L (a_I A' 30 f (nI (2 * (i + 1) + fm))) 23 lg (A'.2 36 0)) 24 lg (nI c)) 25 lg (nI o)) 22 0 (nI (lg + 1))) := ax_I (by decide) (ax_I (by decide) (ax_I (by decide) (ax_L (by decide) (ax_I (by decide) (ax_rf _ _)))))
          have kp3 : c_kp x (w + 1) P f μ' A' O' no' b' _ _ O' no' b' := kp_x (km_lg x (w + 1) P μ' lg (A'.2 36 0) (nI c) (nI o) (nI (lg + 1))) (au_I (by omega) (au_I (by omega) (au_I (by omega) (au_L (by omega) (au_I (by omega) (au_rf _ _)))))) hx3 (by decide) (by decide) (by decide) (Nat.le_refl _)
          have hfs3 : a_fs f A' (a_I (a_I (a_I (a_L (a_I A' 30 f (nI (2 * (i + 1) + fm))) 23 lg (A'.2 36 0)) 24 lg (nI c)) 25 lg (nI o)) 22 0 (nI (lg + 1))) := fs_I (by omega) (fs_I (by omega) (fs_I (by omega) (fs_L (by decide) (fs_I (Or.inl rfl) (fs_rf _ _)))))
          have hd3 := dy_lg (v := A'.2 36 0) (c := nI c) (o := nI o) k1 l3 hlg hx3 (by rw [a_I_1, if_pos ⟨rfl, rfl⟩]) (fun j => by simp only [a_L_2, a_I_2, a_L_1, true_and]) (fun j => by simp only [a_I_1, a_L_1, Nat.reduceEqDiff, false_and, if_false, true_and]) (fun j => by simp only [a_I_1, a_L_1, Nat.reduceEqDiff, false_and, if_false, true_and]) (F' := f + 1) (by simp only [a_I_1, a_L_1, Nat.reduceEqDiff, false_and, if_false]; exact d10)
          refine ih (i + 1) (by omega) _ _ O' no' P f b' q' c o _ _ _ Q (c_st_k hs2 kp3.1) hd3 (fr_s hfr2 kp3 (Nat.lt_succ_self _) hfs3) (hfs3.1.trans h282) (hfs3.2.1.trans h292) (by simp only [a_I_1, a_L_1, Nat.reduceEqDiff, false_and, if_false, and_self, if_true]) (by simp only [a_I_1, a_L_1, Nat.reduceEqDiff, false_and, if_false]; exact hfy) hF ?_
          intro μ4 A4 O4 no4 b4 q4 m1 m2 m3 m4 m5
          exact hpost μ4 A4 O4 no4 b4 q4 m1 (a_rc_tr hrc2 (a_rc_tr (a_rc_st d10 hP1 hS2) m2)) (c_kp_tr hkp2 (c_kp_tr kp3 m3 (Nat.le_refl _) (Nat.le_refl _) (Nat.le_refl _)) (Nat.le_refl _) (Nat.le_refl _) (Nat.le_refl _)) (fs_tr hfs2 (fs_tr hfs3 m4)) m5
        · have hlg2 : lg = 200 := by omega
          subst hlg2
          have k2' := fun v c o Q => L_logFull (d := d + 6) hs2.1.1 l2 v c o Q
          simp only [we23_0, we23_1, en23, true_and, and_true, if_false, if_true, not_true_eq_false, not_false_eq_true, false_implies, true_implies, implies_true, forall_const, true_or, or_true, false_or, or_false, false_and, and_false, eq_self_iff_true, Option.toList_some, Option.toList_none, List.cons_append, List.nil_append, mo_cat_0, mo_cat_c, mo_ct_i, mo_ct_l, mo_ct_r, mo_ct_n, mo_ct_f, Nat.zero_le, Nat.reduceAdd, Nat.reduceLeDiff, Nat.reduceLT, Nat.reduceEqDiff, Nat.reduceSub, mo_rf_s, mo_rf_n, reduceCtorEq, mo_st, mo_st2, mo_lg_0, mo_lg_s, List.set_cons_zero, List.set_cons_succ, List.length_cons, List.length_nil, List.getElem?_cons_zero, List.getElem?_cons_succ, Nat.reduceBEq, Bool.false_eq_true, beq_self_eq_true, hs', y4', y5', hC4, k0, k2', r1, r2, y11, yn, t6, t7, nI_1, mo_LC, mo_ME, mo_u_a, mo_z_a, mo_y_a, Nat.add_left_cancel_iff]
          have hS2 := S_logFU (r := x + 28) hkf d10 hP1 hfy h282 r4 (by omega) h292 (by omega) (by omega) h302 hac (by rw [hst0]; exact q1) l3
          rw [e2] at hS2
          have hx3 : a_x a_sk A' (a_I A' 30 f (nI (2 * (i + 1) + fm))) := ax_I (by decide) (ax_rf _ _)
          have kp3 : c_kp x (w + 1) P f μ' A' O' no' b' μ' (a_I A' 30 f (nI (2 * (i + 1) + fm))) O' no' b' := kp_x (km_rf x (w + 1) P μ') (au_I (by omega) (au_rf _ _)) hx3 (by decide) (by decide) (by decide) (Nat.le_refl _)
          have hfs3 : a_fs f A' (a_I A' 30 f (nI (2 * (i + 1) + fm))) := fs_I (Or.inl rfl) (fs_rf _ _)
          refine ih (i + 1) (by omega) _ _ O' no' P f b' q' c o _ _ _ Q hs2 (dy_stk k1 hx3 (F' := f + 1) (by rw [a_I_n (by decide)]; exact d10)) (fr_s hfr2 kp3 (Nat.lt_succ_self _) hfs3) (hfs3.1.trans h282) (hfs3.2.1.trans h292) (by rw [a_I_1, if_pos ⟨rfl, rfl⟩]) (by rw [a_I_n (by decide)]; exact hfy) hF ?_
          intro μ4 A4 O4 no4 b4 q4 m1 m2 m3 m4 m5
          exact hpost μ4 A4 O4 no4 b4 q4 m1 (a_rc_tr hrc2 (a_rc_tr (a_rc_st d10 hP1 hS2) m2)) (c_kp_tr hkp2 (c_kp_tr kp3 m3 (Nat.le_refl _) (Nat.le_refl _) (Nat.le_refl _)) (Nat.le_refl _) (Nat.le_refl _) (Nat.le_refl _)) (fs_tr hfs2 (fs_tr hfs3 m4)) m5
      · rw [q2] at y5'
        simp only [we23_0, we23_1, en23, true_and, and_true, if_false, if_true, not_true_eq_false, not_false_eq_true, false_implies, true_implies, implies_true, forall_const, true_or, or_true, false_or, or_false, false_and, and_false, eq_self_iff_true, Option.toList_some, Option.toList_none, List.cons_append, List.nil_append, mo_cat_0, mo_cat_c, mo_ct_i, mo_ct_l, mo_ct_r, mo_ct_n, mo_ct_f, Nat.zero_le, Nat.reduceAdd, Nat.reduceLeDiff, Nat.reduceLT, Nat.reduceEqDiff, Nat.reduceSub, mo_rf_s, mo_rf_n, reduceCtorEq, mo_st, mo_st2, mo_lg_0, mo_lg_s, List.set_cons_zero, List.set_cons_succ, List.length_cons, List.length_nil, List.getElem?_cons_zero, List.getElem?_cons_succ, Nat.reduceBEq, Bool.false_eq_true, beq_self_eq_true, hs', y4', y5', hC4, k0, nI_1, mo_LC, mo_ME, mo_u_a, mo_z_a, mo_y_a, Nat.add_left_cancel_iff]
        have hS2 := S_nopU (r := x + 28) hkf d10 hP1 hfy h282 r4 (by omega) h292 (by omega) (by omega) h302 hac (by rw [hst0]; exact q2)
        rw [e2] at hS2
        have hx3 : a_x a_sk A' (a_I A' 30 f (nI (2 * (i + 1) + fm))) := ax_I (by decide) (ax_rf _ _)
        have kp3 : c_kp x (w + 1) P f μ' A' O' no' b' μ' (a_I A' 30 f (nI (2 * (i + 1) + fm))) O' no' b' := kp_x (km_rf x (w + 1) P μ') (au_I (by omega) (au_rf _ _)) hx3 (by decide) (by decide) (by decide) (Nat.le_refl _)
        have hfs3 : a_fs f A' (a_I A' 30 f (nI (2 * (i + 1) + fm))) := fs_I (Or.inl rfl) (fs_rf _ _)
        refine ih (i + 1) (by omega) _ _ O' no' P f b' q' c o _ _ _ Q hs2 (dy_stk k1 hx3 (F' := f + 1) (by rw [a_I_n (by decide)]; exact d10)) (fr_s hfr2 kp3 (Nat.lt_succ_self _) hfs3) (hfs3.1.trans h282) (hfs3.2.1.trans h292) (by rw [a_I_1, if_pos ⟨rfl, rfl⟩]) (by rw [a_I_n (by decide)]; exact hfy) hF ?_
        intro μ4 A4 O4 no4 b4 q4 m1 m2 m3 m4 m5
        exact hpost μ4 A4 O4 no4 b4 q4 m1 (a_rc_tr hrc2 (a_rc_tr (a_rc_st d10 hP1 hS2) m2)) (c_kp_tr hkp2 (c_kp_tr kp3 m3 (Nat.le_refl _) (Nat.le_refl _) (Nat.le_refl _)) (Nat.le_refl _) (Nat.le_refl _) (Nat.le_refl _)) (fs_tr hfs2 (fs_tr hfs3 m4)) m5
    · have k0 := fun Q => L_failed (d := d + 6) hs2.1.1 (t := mo_I μ' 517 (x + 9)) rfl Q
      have hne : ¬ mo_I μ' 517 (x + 9) = 0 := by rw [d20]; exact hfy
      have k2' := fun k v Q => L_msetX (d := d + 5) (fr := x + 16 + w) hs2 hne k v Q
      have fin : ∀ x4 x5 x6, mo_wp (mo_M (d + 7)) Q 23 (2, [some (.ref (x + 1)), some (.ref (gK G m)), some (.ref (x + 16 + w)), some (.int (nI (i + 1))), x4, x5, x6], [], μ') := by
        intro x4 x5 x6
        rw [ra_f (d := d + 6) hs2 hm hpm hne]
        exact hpost μ' A' O' no' b' q' k1 hrc2 hkp2 hfs2 (fun hh => absurd hh hfy)
      rcases nsort with ⟨q0, kf, hkf4, hkf5⟩ | q1 | q2
      · rw [q0] at y5'
        simp only [we23_0, we23_1, en23, true_and, and_true, if_false, if_true, not_true_eq_false, not_false_eq_true, false_implies, true_implies, implies_true, forall_const, true_or, or_true, false_or, or_false, false_and, and_false, eq_self_iff_true, Option.toList_some, Option.toList_none, List.cons_append, List.nil_append, mo_cat_0, mo_cat_c, mo_ct_i, mo_ct_l, mo_ct_r, mo_ct_n, mo_ct_f, Nat.zero_le, Nat.reduceAdd, Nat.reduceLeDiff, Nat.reduceLT, Nat.reduceEqDiff, Nat.reduceSub, mo_rf_s, mo_rf_n, reduceCtorEq, mo_st, mo_st2, mo_lg_0, mo_lg_s, List.set_cons_zero, List.set_cons_succ, List.length_cons, List.length_nil, List.getElem?_cons_zero, List.getElem?_cons_succ, Nat.reduceBEq, Bool.false_eq_true, beq_self_eq_true, hs', y4', y5', y6', hC4, k2', nI_1, mo_LC, mo_ME, mo_u_a, mo_z_a, mo_y_a, Nat.add_left_cancel_iff]
        exact fin _ _ _
      · rw [q1] at y5'
        simp only [we23_0, we23_1, en23, true_and, and_true, if_false, if_true, not_true_eq_false, not_false_eq_true, false_implies, true_implies, implies_true, forall_const, true_or, or_true, false_or, or_false, false_and, and_false, eq_self_iff_true, Option.toList_some, Option.toList_none, List.cons_append, List.nil_append, mo_cat_0, mo_cat_c, mo_ct_i, mo_ct_l, mo_ct_r, mo_ct_n, mo_ct_f, Nat.zero_le, Nat.reduceAdd, Nat.reduceLeDiff, Nat.reduceLT, Nat.reduceEqDiff, Nat.reduceSub, mo_rf_s, mo_rf_n, reduceCtorEq, mo_st, mo_st2, mo_lg_0, mo_lg_s, List.set_cons_zero, List.set_cons_succ, List.length_cons, List.length_nil, List.getElem?_cons_zero, List.getElem?_cons_succ, Nat.reduceBEq, Bool.false_eq_true, beq_self_eq_true, hs', y4', y5', k0, hne, nI_1, mo_LC, mo_ME, mo_u_a, mo_z_a, mo_y_a, Nat.add_left_cancel_iff]
        exact fin _ _ _
      · rw [q2] at y5'
        simp only [we23_0, we23_1, en23, true_and, and_true, if_false, if_true, not_true_eq_false, not_false_eq_true, false_implies, true_implies, implies_true, forall_const, true_or, or_true, false_or, or_false, false_and, and_false, eq_self_iff_true, Option.toList_some, Option.toList_none, List.cons_append, List.nil_append, mo_cat_0, mo_cat_c, mo_ct_i, mo_ct_l, mo_ct_r, mo_ct_n, mo_ct_f, Nat.zero_le, Nat.reduceAdd, Nat.reduceLeDiff, Nat.reduceLT, Nat.reduceEqDiff, Nat.reduceSub, mo_rf_s, mo_rf_n, reduceCtorEq, mo_st, mo_st2, mo_lg_0, mo_lg_s, List.set_cons_zero, List.set_cons_succ, List.length_cons, List.length_nil, List.getElem?_cons_zero, List.getElem?_cons_succ, Nat.reduceBEq, Bool.false_eq_true, beq_self_eq_true, hs', y4', y5', nI_1, mo_LC, mo_ME, mo_u_a, mo_z_a, mo_y_a, Nat.add_left_cancel_iff]
        exact fin _ _ _
/-- the acts of a code run -/
theorem ra_all {x w d m na fm P f b q c o no : Nat} {kd : Int32} {B : mo_A} {G : c_G} {μ : mo_Mem} {A : mo_A} {O : Nat → Nat} {Q : mo_P} (hW : c_W x B G w (d + 7)) (hkf : a_kf kd fm) (hw : w < 12) (hm : m < 5 * gnc G) (hpm : a_pm B m) (hna : B.1 13 m = nI na) (hna8 : na ≤ 8) (hs : c_st x B G μ) (hd : c_dy x B G (w + 1) P (f + 1) μ A O no b q) (hfr : c_fr x B G w f μ A O no c o) (h28 : A.1 28 f = kd) (h29 : A.1 29 f = nI m) (h30 : A.1 30 f = nI fm) (h0 : A.1 37 0 = 0) (hF : f + 1 ≤ P + 2 * (w + 1)) (hpost : (∀ μ' A' O' no' b' q', c_dy x B G (w + 1) P (f + 1) μ' A' O' no' b' q' → a_rc (x + 28) A A' → c_kp x (w + 1) P f μ A O no b μ' A' O' no' b' → a_fs f A A' → (A'.1 37 0 = 0 → A'.1 30 f = nI (2 * na + fm)) → Q none μ')) : mo_M (d + 8) 23 [.ref (x + 1), .ref (gK G m), .ref (x + 16 + w)] μ Q := by
  have h0' : (0 : Int32) = nI 0 := rfl
  simp only [we23_0, we23_1, en23, true_and, and_true, if_false, if_true, not_true_eq_false, not_false_eq_true, false_implies, true_implies, implies_true, forall_const, true_or, or_true, false_or, or_false, false_and, and_false, eq_self_iff_true, Option.toList_some, Option.toList_none, List.cons_append, List.nil_append, mo_cat_0, mo_cat_c, mo_ct_i, mo_ct_l, mo_ct_r, mo_ct_n, mo_ct_f, Nat.zero_le, Nat.reduceAdd, Nat.reduceLeDiff, Nat.reduceLT, Nat.reduceEqDiff, Nat.reduceSub, mo_rf_s, mo_rf_n, reduceCtorEq, mo_st, mo_st2, mo_lg_0, mo_lg_s, List.set_cons_zero, List.set_cons_succ, List.length_cons, List.length_nil, List.getElem?_cons_zero, List.getElem?_cons_succ, Nat.reduceBEq, Bool.false_eq_true, beq_self_eq_true, mo_ME, mo_u_a, mo_z_a, mo_y_a, Nat.add_left_cancel_iff]
  rw [h0']
  exact ra_loop hW hkf hw hm hpm hna hna8 na 0 (by omega) μ A O no P f b q c o _ _ _ Q hs hd hfr h28 h29 (by rw [h30]; congr 1; omega) h0 hF hpost
