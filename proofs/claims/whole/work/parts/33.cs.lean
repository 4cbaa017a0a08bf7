theorem gT_inj {x : Nat} {B : mo_A} {G : c_G} {μ : mo_Mem} (h : c_st x B G μ) {c y : Nat} (hc : c < gnc G) (hy : y < gnc G) : (gT G c = gT G y) = (c = y) := by
  apply propext
  refine ⟨fun q => ?_, fun q => by rw [q]⟩
  have h1 := (h.2.2.2.2.2.2.1 c hc).2.2.1
  have h2 := (h.2.2.2.2.2.2.1 y hy).2.2.1
  rw [q, h2, nI_inj (by have := h.2.2.1.2.1; omega) (by have := h.2.2.1.2.1; omega)] at h1
  exact h1.symm
theorem a_par_c {B : mo_A} {nc c : Nat} (hn : nc ≤ 8) (hp : a_pw B nc) (hc : c < nc) : (B.1 6 c = -1 ∧ a_par B c = none) ∨ ∃ p, p < c ∧ B.1 6 c = nI p ∧ a_par B c = some p := by
  rcases hp c hc with q | ⟨p, q1, q2⟩
  · exact Or.inl ⟨q, by unfold a_par; rw [if_pos q]⟩
  · refine Or.inr ⟨p, q1, q2, ?_⟩
    unfold a_par
    rw [q2, if_neg (by rw [nI_nm1 (by omega)]; exact id), nI_clamp (by omega)]
theorem L_belL {d x y : Nat} {B : mo_A} {G : c_G} {μ : mo_Mem} (h : c_st x B G μ) (hy : y < gnc G) (x0 : Option Value) (Q : mo_P) : ∀ n c, c < n → c < gnc G → mo_wp (mo_M d) Q 61 (2, [x0, some (.ref (gT G y)), some (.ref (gT G c))], [], μ) = Q (some (.int (a_bi (a_bel B n c y)))) μ := by
  intro n
  induction n with
  | zero => intro c hc; omega
  | succ n ih =>
    intro c hc hcn
    obtain ⟨t1, -, t3, -⟩ := (h.2.2.2.2.2.2.1 c hcn).2
    rw [wh61_2.1]
    unfold a_bel
    by_cases ho : c = y
    · subst ho
      simp only [we61, en61, true_and, and_true, if_false, if_true, not_true_eq_false, not_false_eq_true, false_implies, true_implies, implies_true, forall_const, true_or, or_true, false_or, or_false, false_and, and_false, eq_self_iff_true, Option.toList_some, Option.toList_none, List.cons_append, List.nil_append, mo_cat_0, mo_cat_c, mo_ct_i, mo_ct_l, mo_ct_r, mo_ct_n, mo_ct_f, Nat.zero_le, Nat.reduceAdd, Nat.reduceLeDiff, Nat.reduceLT, Nat.reduceEqDiff, Nat.reduceSub, mo_rf_s, mo_rf_n, reduceCtorEq, mo_st, mo_st2, mo_lg_0, mo_lg_s, List.set_cons_zero, List.set_cons_succ, List.length_cons, List.length_nil, List.getElem?_cons_zero, List.getElem?_cons_succ, Nat.reduceBEq, Bool.false_eq_true, beq_self_eq_true, t1, mo_ME, mo_u_a, mo_z_a, mo_y_a, Nat.add_left_cancel_iff]
      simp [a_bi]
    · have e2 : (gT G c = gT G y) = False := by rw [gT_inj h hcn hy]; exact eq_false ho
      rw [if_neg ho]
      rcases a_par_c h.2.2.1.2.1 h.2.2.1.2.2.2.2.1 hcn with ⟨q1, q2⟩ | ⟨p, q1, q2, q3⟩
      · rw [q2] at t3 ⊢
        simp only [we61, en61, true_and, and_true, if_false, if_true, not_true_eq_false, not_false_eq_true, false_implies, true_implies, implies_true, forall_const, true_or, or_true, false_or, or_false, false_and, and_false, eq_self_iff_true, Option.toList_some, Option.toList_none, List.cons_append, List.nil_append, mo_cat_0, mo_cat_c, mo_ct_i, mo_ct_l, mo_ct_r, mo_ct_n, mo_ct_f, Nat.zero_le, Nat.reduceAdd, Nat.reduceLeDiff, Nat.reduceLT, Nat.reduceEqDiff, Nat.reduceSub, mo_rf_s, mo_rf_n, reduceCtorEq, mo_st, mo_st2, mo_lg_0, mo_lg_s, List.set_cons_zero, List.set_cons_succ, List.length_cons, List.length_nil, List.getElem?_cons_zero, List.getElem?_cons_succ, Nat.reduceBEq, Bool.false_eq_true, beq_self_eq_true, t1, t3, e2, Option.map_none, mo_ME, mo_u_a, mo_z_a, mo_y_a, Nat.add_left_cancel_iff]
        rw [wh61_2.2.2]
        simp only [we61, en61, true_and, and_true, if_false, if_true, not_true_eq_false, not_false_eq_true, false_implies, true_implies, implies_true, forall_const, true_or, or_true, false_or, or_false, false_and, and_false, eq_self_iff_true, Option.toList_some, Option.toList_none, List.cons_append, List.nil_append, mo_cat_0, mo_cat_c, mo_ct_i, mo_ct_l, mo_ct_r, mo_ct_n, mo_ct_f, Nat.zero_le, Nat.reduceAdd, Nat.reduceLeDiff, Nat.reduceLT, Nat.reduceEqDiff, Nat.reduceSub, mo_rf_s, mo_rf_n, reduceCtorEq, mo_st, mo_st2, mo_lg_0, mo_lg_s, List.set_cons_zero, List.set_cons_succ, List.length_cons, List.length_nil, List.getElem?_cons_zero, List.getElem?_cons_succ, Nat.reduceBEq, Bool.false_eq_true, beq_self_eq_true, t1, t3, e2, mo_ME, mo_u_a, mo_z_a, mo_y_a, Nat.add_left_cancel_iff]
        simp [a_bi]
      · rw [q3] at t3 ⊢
        simp only [we61, en61, true_and, and_true, if_false, if_true, not_true_eq_false, not_false_eq_true, false_implies, true_implies, implies_true, forall_const, true_or, or_true, false_or, or_false, false_and, and_false, eq_self_iff_true, Option.toList_some, Option.toList_none, List.cons_append, List.nil_append, mo_cat_0, mo_cat_c, mo_ct_i, mo_ct_l, mo_ct_r, mo_ct_n, mo_ct_f, Nat.zero_le, Nat.reduceAdd, Nat.reduceLeDiff, Nat.reduceLT, Nat.reduceEqDiff, Nat.reduceSub, mo_rf_s, mo_rf_n, reduceCtorEq, mo_st, mo_st2, mo_lg_0, mo_lg_s, List.set_cons_zero, List.set_cons_succ, List.length_cons, List.length_nil, List.getElem?_cons_zero, List.getElem?_cons_succ, Nat.reduceBEq, Bool.false_eq_true, beq_self_eq_true, t1, t3, e2, Option.map_some, mo_ME, mo_u_a, mo_z_a, mo_y_a, Nat.add_left_cancel_iff]
        exact ih p (by omega) (by omega)
theorem L_bel {d x c y : Nat} {B : mo_A} {G : c_G} {μ : mo_Mem} (h : c_st x B G μ) (hy : y < gnc G) (hc : c < gnc G) (Q : mo_P) : mo_M (d + 1) 61 [.ref (gT G c), .ref (gT G y)] μ Q = Q (some (.int (a_bi (a_bel B 8 c y)))) μ := by
  simp only [we61, en61, true_and, and_true, if_false, if_true, not_true_eq_false, not_false_eq_true, false_implies, true_implies, implies_true, forall_const, true_or, or_true, false_or, or_false, false_and, and_false, eq_self_iff_true, Option.toList_some, Option.toList_none, List.cons_append, List.nil_append, mo_cat_0, mo_cat_c, mo_ct_i, mo_ct_l, mo_ct_r, mo_ct_n, mo_ct_f, Nat.zero_le, Nat.reduceAdd, Nat.reduceLeDiff, Nat.reduceLT, Nat.reduceEqDiff, Nat.reduceSub, mo_rf_s, mo_rf_n, reduceCtorEq, mo_st, mo_st2, mo_lg_0, mo_lg_s, List.set_cons_zero, List.set_cons_succ, List.length_cons, List.length_nil, List.getElem?_cons_zero, List.getElem?_cons_succ, Nat.reduceBEq, Bool.false_eq_true, beq_self_eq_true, mo_ME, mo_u_a, mo_z_a, mo_y_a, Nat.add_left_cancel_iff]
  exact L_belL h hy _ Q 8 c (by have := h.2.2.1.2.1; omega) hc
def a_mk (B : mo_A) (G : c_G) (c nm : Nat) : Option Nat := if B.1 11 (5 * c + 1 + nm) = 0 then none else some (gK G (5 * c + 1 + nm))
theorem L_isName {d k : Nat} {μ : mo_Mem} (hk : k < 4) (Q : mo_P) : mo_M (d + 1) 83 [.int (nI k)] μ Q = Q (some (.int 1)) μ := by
  have g1 : (nI k < 0) = False := i_ng (by omega)
  have g2 : ((4 : Int32) ≤ nI k) = False := i_ge (b := 4) hk (by decide)
  simp only [we83, en83, true_and, and_true, if_false, if_true, not_true_eq_false, not_false_eq_true, false_implies, true_implies, implies_true, forall_const, true_or, or_true, false_or, or_false, false_and, and_false, eq_self_iff_true, Option.toList_some, Option.toList_none, List.cons_append, List.nil_append, mo_cat_0, mo_cat_c, mo_ct_i, mo_ct_l, mo_ct_r, mo_ct_n, mo_ct_f, Nat.zero_le, Nat.reduceAdd, Nat.reduceLeDiff, Nat.reduceLT, Nat.reduceEqDiff, Nat.reduceSub, mo_rf_s, mo_rf_n, reduceCtorEq, mo_st, mo_st2, mo_lg_0, mo_lg_s, List.set_cons_zero, List.set_cons_succ, List.length_cons, List.length_nil, List.getElem?_cons_zero, List.getElem?_cons_succ, Nat.reduceBEq, Bool.false_eq_true, beq_self_eq_true, g1, g2, mo_ME, mo_u_a, mo_z_a, mo_y_a, Nat.add_left_cancel_iff]
theorem L_isNameX {d : Nat} {μ : mo_Mem} {k : Int32} (hk : ¬ vp_in k 4) (Q : mo_P) : mo_M (d + 1) 83 [.int k] μ Q = Q (some (.int 0)) μ := by
  rcases vp_out (by decide) hk with q | ⟨q1, q2⟩
  · simp only [we83, en83, true_and, and_true, if_false, if_true, not_true_eq_false, not_false_eq_true, false_implies, true_implies, implies_true, forall_const, true_or, or_true, false_or, or_false, false_and, and_false, eq_self_iff_true, Option.toList_some, Option.toList_none, List.cons_append, List.nil_append, mo_cat_0, mo_cat_c, mo_ct_i, mo_ct_l, mo_ct_r, mo_ct_n, mo_ct_f, Nat.zero_le, Nat.reduceAdd, Nat.reduceLeDiff, Nat.reduceLT, Nat.reduceEqDiff, Nat.reduceSub, mo_rf_s, mo_rf_n, reduceCtorEq, mo_st, mo_st2, mo_lg_0, mo_lg_s, List.set_cons_zero, List.set_cons_succ, List.length_cons, List.length_nil, List.getElem?_cons_zero, List.getElem?_cons_succ, Nat.reduceBEq, Bool.false_eq_true, beq_self_eq_true, q, mo_ME, mo_u_a, mo_z_a, mo_y_a, Nat.add_left_cancel_iff]
  · have q3 : ((4 : Int32) ≤ k) = True := eq_true q2
    simp only [we83, en83, true_and, and_true, if_false, if_true, not_true_eq_false, not_false_eq_true, false_implies, true_implies, implies_true, forall_const, true_or, or_true, false_or, or_false, false_and, and_false, eq_self_iff_true, Option.toList_some, Option.toList_none, List.cons_append, List.nil_append, mo_cat_0, mo_cat_c, mo_ct_i, mo_ct_l, mo_ct_r, mo_ct_n, mo_ct_f, Nat.zero_le, Nat.reduceAdd, Nat.reduceLeDiff, Nat.reduceLT, Nat.reduceEqDiff, Nat.reduceSub, mo_rf_s, mo_rf_n, reduceCtorEq, mo_st, mo_st2, mo_lg_0, mo_lg_s, List.set_cons_zero, List.set_cons_succ, List.length_cons, List.length_nil, List.getElem?_cons_zero, List.getElem?_cons_succ, Nat.reduceBEq, Bool.false_eq_true, beq_self_eq_true, q1, q3, mo_ME, mo_u_a, mo_z_a, mo_y_a, Nat.add_left_cancel_iff]
theorem L_mAt {d x c nm : Nat} {B : mo_A} {G : c_G} {μ : mo_Mem} (h : c_st x B G μ) (hc : c < gnc G) (hn : nm < 4) (Q : mo_P) : mo_M (d + 2) 60 [.ref (gT G c), .int (nI nm)] μ Q = Q (some (va_rf (a_mk B G c nm))) μ := by
  obtain ⟨t1, t2, t3, t4, t5, t6, t7, t8, t9, t10, t11, t12, t13, t14, t15, t16, t17⟩ := (h.2.2.2.2.2.2.1 c hc).2
  have k1 := fun Q => L_isName (d := d) (μ := μ) hn Q
  have g3 : vp_in (nI nm) 4 := vp_in_nI (by omega) (by decide)
  have g4 : (nI nm).toNatClampNeg = nm := nI_clamp (by omega)
  have g5 := t16 nm hn
  simp only [we60, en60, true_and, and_true, if_false, if_true, not_true_eq_false, not_false_eq_true, false_implies, true_implies, implies_true, forall_const, true_or, or_true, false_or, or_false, false_and, and_false, eq_self_iff_true, Option.toList_some, Option.toList_none, List.cons_append, List.nil_append, mo_cat_0, mo_cat_c, mo_ct_i, mo_ct_l, mo_ct_r, mo_ct_n, mo_ct_f, Nat.zero_le, Nat.reduceAdd, Nat.reduceLeDiff, Nat.reduceLT, Nat.reduceEqDiff, Nat.reduceSub, mo_rf_s, mo_rf_n, reduceCtorEq, mo_st, mo_st2, mo_lg_0, mo_lg_s, List.set_cons_zero, List.set_cons_succ, List.length_cons, List.length_nil, List.getElem?_cons_zero, List.getElem?_cons_succ, Nat.reduceBEq, Bool.false_eq_true, beq_self_eq_true, t1, t13, t14, t15, g3, g4, g5, k1, mo_LC, mo_ME, mo_u_a, mo_z_a, mo_y_a, Nat.add_left_cancel_iff]
  rfl
theorem L_mAtX {d x c : Nat} {B : mo_A} {G : c_G} {μ : mo_Mem} (h : c_st x B G μ) (hc : c < gnc G) {k : Int32} (hk : ¬ vp_in k 4) (Q : mo_P) : mo_M (d + 2) 60 [.ref (gT G c), .int k] μ Q = Q (some .null) μ := by
  have k1 := fun Q => L_isNameX (d := d) (μ := μ) hk Q
  simp only [we60, en60, true_and, and_true, if_false, if_true, not_true_eq_false, not_false_eq_true, false_implies, true_implies, implies_true, forall_const, true_or, or_true, false_or, or_false, false_and, and_false, eq_self_iff_true, Option.toList_some, Option.toList_none, List.cons_append, List.nil_append, mo_cat_0, mo_cat_c, mo_ct_i, mo_ct_l, mo_ct_r, mo_ct_n, mo_ct_f, Nat.zero_le, Nat.reduceAdd, Nat.reduceLeDiff, Nat.reduceLT, Nat.reduceEqDiff, Nat.reduceSub, mo_rf_s, mo_rf_n, reduceCtorEq, mo_st, mo_st2, mo_lg_0, mo_lg_s, List.set_cons_zero, List.set_cons_succ, List.length_cons, List.length_nil, List.getElem?_cons_zero, List.getElem?_cons_succ, Nat.reduceBEq, Bool.false_eq_true, beq_self_eq_true, k1, mo_ME, mo_u_a, mo_z_a, mo_y_a, Nat.add_left_cancel_iff]
theorem L_nearL {d x nm : Nat} {B : mo_A} {G : c_G} {μ : mo_Mem} (h : c_st x B G μ) (hn : nm < 4) (x0 : Option Value) (Q : mo_P) : ∀ n c, c < n → c < gnc G → ∀ x3, mo_wp (mo_M (d + 2)) Q 62 (2, [x0, some (.int (nI nm)), some (.ref (gT G c)), x3], [], μ) = Q (some (va_rf ((a_near B n c nm).map (gT G)))) μ := by
  intro n
  induction n with
  | zero => intro c hc; omega
  | succ n ih =>
    intro c hc hcn x3
    have t := (h.2.2.2.2.2.2.1 c hcn).2
    obtain ⟨t1, -, t3, -⟩ := t
    have k1 := fun Q => L_mAt (d := d) h hcn hn Q
    have hm : 5 * c + 1 + nm < 5 * gnc G := by omega
    obtain ⟨m1, -⟩ := h.2.2.1.2.2.2.2.2.2.2.1 _ hm
    rw [wh62_2.1]
    unfold a_near
    rcases m1 with q | q | q
    · have e : a_mk B G c nm = none := by unfold a_mk; rw [if_pos q]
      rw [if_neg (by rw [q]; decide)]
      rcases a_par_c h.2.2.1.2.1 h.2.2.1.2.2.2.2.1 hcn with ⟨q1, q2⟩ | ⟨p, q1, q2, q3⟩
      · rw [q2] at t3 ⊢
        simp only [we62, en62, true_and, and_true, if_false, if_true, not_true_eq_false, not_false_eq_true, false_implies, true_implies, implies_true, forall_const, true_or, or_true, false_or, or_false, false_and, and_false, eq_self_iff_true, Option.toList_some, Option.toList_none, List.cons_append, List.nil_append, mo_cat_0, mo_cat_c, mo_ct_i, mo_ct_l, mo_ct_r, mo_ct_n, mo_ct_f, Nat.zero_le, Nat.reduceAdd, Nat.reduceLeDiff, Nat.reduceLT, Nat.reduceEqDiff, Nat.reduceSub, mo_rf_s, mo_rf_n, reduceCtorEq, mo_st, mo_st2, mo_lg_0, mo_lg_s, List.set_cons_zero, List.set_cons_succ, List.length_cons, List.length_nil, List.getElem?_cons_zero, List.getElem?_cons_succ, Nat.reduceBEq, Bool.false_eq_true, beq_self_eq_true, t1, t3, k1, e, Option.map_none, mo_ME, mo_u_a, mo_z_a, mo_y_a, Nat.add_left_cancel_iff]
        rw [wh62_2.2.2]
        simp only [we62, en62, true_and, and_true, if_false, if_true, not_true_eq_false, not_false_eq_true, false_implies, true_implies, implies_true, forall_const, true_or, or_true, false_or, or_false, false_and, and_false, eq_self_iff_true, Option.toList_some, Option.toList_none, List.cons_append, List.nil_append, mo_cat_0, mo_cat_c, mo_ct_i, mo_ct_l, mo_ct_r, mo_ct_n, mo_ct_f, Nat.zero_le, Nat.reduceAdd, Nat.reduceLeDiff, Nat.reduceLT, Nat.reduceEqDiff, Nat.reduceSub, mo_rf_s, mo_rf_n, reduceCtorEq, mo_st, mo_st2, mo_lg_0, mo_lg_s, List.set_cons_zero, List.set_cons_succ, List.length_cons, List.length_nil, List.getElem?_cons_zero, List.getElem?_cons_succ, Nat.reduceBEq, Bool.false_eq_true, beq_self_eq_true, Option.map_none, mo_ME, mo_u_a, mo_z_a, mo_y_a, Nat.add_left_cancel_iff]
      · rw [q3] at t3 ⊢
        simp only [we62, en62, true_and, and_true, if_false, if_true, not_true_eq_false, not_false_eq_true, false_implies, true_implies, implies_true, forall_const, true_or, or_true, false_or, or_false, false_and, and_false, eq_self_iff_true, Option.toList_some, Option.toList_none, List.cons_append, List.nil_append, mo_cat_0, mo_cat_c, mo_ct_i, mo_ct_l, mo_ct_r, mo_ct_n, mo_ct_f, Nat.zero_le, Nat.reduceAdd, Nat.reduceLeDiff, Nat.reduceLT, Nat.reduceEqDiff, Nat.reduceSub, mo_rf_s, mo_rf_n, reduceCtorEq, mo_st, mo_st2, mo_lg_0, mo_lg_s, List.set_cons_zero, List.set_cons_succ, List.length_cons, List.length_nil, List.getElem?_cons_zero, List.getElem?_cons_succ, Nat.reduceBEq, Bool.false_eq_true, beq_self_eq_true, t1, t3, k1, e, Option.map_some, mo_ME, mo_u_a, mo_z_a, mo_y_a, Nat.add_left_cancel_iff]
        exact ih p (by omega) (by omega) _
    · have e : a_mk B G c nm = some (gK G (5 * c + 1 + nm)) := by unfold a_mk; rw [if_neg (by rw [q]; decide)]
      obtain ⟨c1, c2, -⟩ := h.2.2.2.2.2.2.2.1 _ hm (Or.inr (by rw [q]; decide))
      rw [q] at c2
      simp only [we62, en62, true_and, and_true, if_false, if_true, not_true_eq_false, not_false_eq_true, false_implies, true_implies, implies_true, forall_const, true_or, or_true, false_or, or_false, false_and, and_false, eq_self_iff_true, Option.toList_some, Option.toList_none, List.cons_append, List.nil_append, mo_cat_0, mo_cat_c, mo_ct_i, mo_ct_l, mo_ct_r, mo_ct_n, mo_ct_f, Nat.zero_le, Nat.reduceAdd, Nat.reduceLeDiff, Nat.reduceLT, Nat.reduceEqDiff, Nat.reduceSub, mo_rf_s, mo_rf_n, reduceCtorEq, mo_st, mo_st2, mo_lg_0, mo_lg_s, List.set_cons_zero, List.set_cons_succ, List.length_cons, List.length_nil, List.getElem?_cons_zero, List.getElem?_cons_succ, Nat.reduceBEq, Bool.false_eq_true, beq_self_eq_true, t1, k1, e, c1, c2, mo_LC, q, Option.map_some, mo_ME, mo_u_a, mo_z_a, mo_y_a, Nat.add_left_cancel_iff]
    · have e : a_mk B G c nm = some (gK G (5 * c + 1 + nm)) := by unfold a_mk; rw [if_neg (by rw [q]; decide)]
      obtain ⟨c1, c2, -⟩ := h.2.2.2.2.2.2.2.1 _ hm (Or.inr (by rw [q]; decide))
      rw [q] at c2
      rw [if_neg (by rw [q]; decide)]
      rcases a_par_c h.2.2.1.2.1 h.2.2.1.2.2.2.2.1 hcn with ⟨q1, q2⟩ | ⟨p, q1, q2, q3⟩
      · rw [q2] at t3 ⊢
        simp only [we62, en62, true_and, and_true, if_false, if_true, not_true_eq_false, not_false_eq_true, false_implies, true_implies, implies_true, forall_const, true_or, or_true, false_or, or_false, false_and, and_false, eq_self_iff_true, Option.toList_some, Option.toList_none, List.cons_append, List.nil_append, mo_cat_0, mo_cat_c, mo_ct_i, mo_ct_l, mo_ct_r, mo_ct_n, mo_ct_f, Nat.zero_le, Nat.reduceAdd, Nat.reduceLeDiff, Nat.reduceLT, Nat.reduceEqDiff, Nat.reduceSub, mo_rf_s, mo_rf_n, reduceCtorEq, mo_st, mo_st2, mo_lg_0, mo_lg_s, List.set_cons_zero, List.set_cons_succ, List.length_cons, List.length_nil, List.getElem?_cons_zero, List.getElem?_cons_succ, Nat.reduceBEq, Bool.false_eq_true, beq_self_eq_true, t1, t3, k1, e, Option.map_none, c1, c2, mo_LC, mo_ME, mo_u_a, mo_z_a, mo_y_a, Nat.add_left_cancel_iff]
        rw [wh62_2.2.2]
        simp only [we62, en62, true_and, and_true, if_false, if_true, not_true_eq_false, not_false_eq_true, false_implies, true_implies, implies_true, forall_const, true_or, or_true, false_or, or_false, false_and, and_false, eq_self_iff_true, Option.toList_some, Option.toList_none, List.cons_append, List.nil_append, mo_cat_0, mo_cat_c, mo_ct_i, mo_ct_l, mo_ct_r, mo_ct_n, mo_ct_f, Nat.zero_le, Nat.reduceAdd, Nat.reduceLeDiff, Nat.reduceLT, Nat.reduceEqDiff, Nat.reduceSub, mo_rf_s, mo_rf_n, reduceCtorEq, mo_st, mo_st2, mo_lg_0, mo_lg_s, List.set_cons_zero, List.set_cons_succ, List.length_cons, List.length_nil, List.getElem?_cons_zero, List.getElem?_cons_succ, Nat.reduceBEq, Bool.false_eq_true, beq_self_eq_true, Option.map_none, mo_ME, mo_u_a, mo_z_a, mo_y_a, Nat.add_left_cancel_iff]
      · rw [q3] at t3 ⊢
        simp only [we62, en62, true_and, and_true, if_false, if_true, not_true_eq_false, not_false_eq_true, false_implies, true_implies, implies_true, forall_const, true_or, or_true, false_or, or_false, false_and, and_false, eq_self_iff_true, Option.toList_some, Option.toList_none, List.cons_append, List.nil_append, mo_cat_0, mo_cat_c, mo_ct_i, mo_ct_l, mo_ct_r, mo_ct_n, mo_ct_f, Nat.zero_le, Nat.reduceAdd, Nat.reduceLeDiff, Nat.reduceLT, Nat.reduceEqDiff, Nat.reduceSub, mo_rf_s, mo_rf_n, reduceCtorEq, mo_st, mo_st2, mo_lg_0, mo_lg_s, List.set_cons_zero, List.set_cons_succ, List.length_cons, List.length_nil, List.getElem?_cons_zero, List.getElem?_cons_succ, Nat.reduceBEq, Bool.false_eq_true, beq_self_eq_true, t1, t3, k1, e, Option.map_some, c1, c2, mo_LC, mo_ME, mo_u_a, mo_z_a, mo_y_a, Nat.add_left_cancel_iff]
        exact ih p (by omega) (by omega) _
theorem L_near {d x c nm : Nat} {B : mo_A} {G : c_G} {μ : mo_Mem} (h : c_st x B G μ) (hn : nm < 4) (hc : c < gnc G) (Q : mo_P) : mo_M (d + 3) 62 [.ref (gT G c), .int (nI nm)] μ Q = Q (some (va_rf ((a_near B 8 c nm).map (gT G)))) μ := by
  simp only [we62, en62, true_and, and_true, if_false, if_true, not_true_eq_false, not_false_eq_true, false_implies, true_implies, implies_true, forall_const, true_or, or_true, false_or, or_false, false_and, and_false, eq_self_iff_true, Option.toList_some, Option.toList_none, List.cons_append, List.nil_append, mo_cat_0, mo_cat_c, mo_ct_i, mo_ct_l, mo_ct_r, mo_ct_n, mo_ct_f, Nat.zero_le, Nat.reduceAdd, Nat.reduceLeDiff, Nat.reduceLT, Nat.reduceEqDiff, Nat.reduceSub, mo_rf_s, mo_rf_n, reduceCtorEq, mo_st, mo_st2, mo_lg_0, mo_lg_s, List.set_cons_zero, List.set_cons_succ, List.length_cons, List.length_nil, List.getElem?_cons_zero, List.getElem?_cons_succ, Nat.reduceBEq, Bool.false_eq_true, beq_self_eq_true, mo_ME, mo_u_a, mo_z_a, mo_y_a, Nat.add_left_cancel_iff]
  exact L_nearL h hn _ Q 8 c (by have := h.2.2.1.2.1; omega) hc _
theorem L_near0 {d : Nat} {μ : mo_Mem} (k : Int32) (Q : mo_P) : mo_M (d + 1) 62 [.null, .int k] μ Q = Q (some .null) μ := by
  rw [← mo_rf_n, en62.2]
  simp only [we62, en62, true_and, and_true, if_false, if_true, not_true_eq_false, not_false_eq_true, false_implies, true_implies, implies_true, forall_const, true_or, or_true, false_or, or_false, false_and, and_false, eq_self_iff_true, Option.toList_some, Option.toList_none, List.cons_append, List.nil_append, mo_cat_0, mo_cat_c, mo_ct_i, mo_ct_l, mo_ct_r, mo_ct_n, mo_ct_f, Nat.zero_le, Nat.reduceAdd, Nat.reduceLeDiff, Nat.reduceLT, Nat.reduceEqDiff, Nat.reduceSub, mo_rf_s, mo_rf_n, reduceCtorEq, mo_st, mo_st2, mo_lg_0, mo_lg_s, List.set_cons_zero, List.set_cons_succ, List.length_cons, List.length_nil, List.getElem?_cons_zero, List.getElem?_cons_succ, Nat.reduceBEq, Bool.false_eq_true, beq_self_eq_true, mo_ME, mo_u_a, mo_z_a, mo_y_a, Nat.add_left_cancel_iff]
  rw [wh62_2.2.2]
  simp only [we62, en62, true_and, and_true, if_false, if_true, not_true_eq_false, not_false_eq_true, false_implies, true_implies, implies_true, forall_const, true_or, or_true, false_or, or_false, false_and, and_false, eq_self_iff_true, Option.toList_some, Option.toList_none, List.cons_append, List.nil_append, mo_cat_0, mo_cat_c, mo_ct_i, mo_ct_l, mo_ct_r, mo_ct_n, mo_ct_f, Nat.zero_le, Nat.reduceAdd, Nat.reduceLeDiff, Nat.reduceLT, Nat.reduceEqDiff, Nat.reduceSub, mo_rf_s, mo_rf_n, reduceCtorEq, mo_st, mo_st2, mo_lg_0, mo_lg_s, List.set_cons_zero, List.set_cons_succ, List.length_cons, List.length_nil, List.getElem?_cons_zero, List.getElem?_cons_succ, Nat.reduceBEq, Bool.false_eq_true, beq_self_eq_true, mo_ME, mo_u_a, mo_z_a, mo_y_a, Nat.add_left_cancel_iff]
/-- where a call finds its method -/
def a_cal (B : mo_A) (own st nm : Nat) : Option Nat := if B.1 11 (5 * st + 1 + nm) = 2 then some st else a_near B 8 own nm
theorem L_called {d x own st nm : Nat} {B : mo_A} {G : c_G} {μ : mo_Mem} (h : c_st x B G μ) (hn : nm < 4) (ho : own < gnc G) (hs : st < gnc G) (Q : mo_P) : mo_M (d + 4) 63 [.ref (gT G own), .ref (gT G st), .int (nI nm)] μ Q = Q (some (va_rf ((a_cal B own st nm).map (gT G)))) μ := by
  have k1 := fun Q => L_mAt (d := d + 1) h hs hn Q
  have k2 := fun Q => L_near (d := d) h hn ho Q
  have hm : 5 * st + 1 + nm < 5 * gnc G := by omega
  obtain ⟨m1, -⟩ := h.2.2.1.2.2.2.2.2.2.2.1 _ hm
  unfold a_cal
  have y1 := (h.2.2.2.2.2.2.1 st hs).2.1
  rcases m1 with q | q | q
  · have e : a_mk B G st nm = none := by unfold a_mk; rw [if_pos q]
    simp only [we63, en63, true_and, and_true, if_false, if_true, not_true_eq_false, not_false_eq_true, false_implies, true_implies, implies_true, forall_const, true_or, or_true, false_or, or_false, false_and, and_false, eq_self_iff_true, Option.toList_some, Option.toList_none, List.cons_append, List.nil_append, mo_cat_0, mo_cat_c, mo_ct_i, mo_ct_l, mo_ct_r, mo_ct_n, mo_ct_f, Nat.zero_le, Nat.reduceAdd, Nat.reduceLeDiff, Nat.reduceLT, Nat.reduceEqDiff, Nat.reduceSub, mo_rf_s, mo_rf_n, reduceCtorEq, mo_st, mo_st2, mo_lg_0, mo_lg_s, List.set_cons_zero, List.set_cons_succ, List.length_cons, List.length_nil, List.getElem?_cons_zero, List.getElem?_cons_succ, Nat.reduceBEq, Bool.false_eq_true, beq_self_eq_true, y1, k1, k2, e, q, mo_LC, mo_ME, mo_u_a, mo_z_a, mo_y_a, Nat.add_left_cancel_iff]
  · have e : a_mk B G st nm = some (gK G (5 * st + 1 + nm)) := by unfold a_mk; rw [if_neg (by rw [q]; decide)]
    obtain ⟨c1, c2, -⟩ := h.2.2.2.2.2.2.2.1 _ hm (Or.inr (by rw [q]; decide))
    rw [q] at c2
    simp only [we63, en63, true_and, and_true, if_false, if_true, not_true_eq_false, not_false_eq_true, false_implies, true_implies, implies_true, forall_const, true_or, or_true, false_or, or_false, false_and, and_false, eq_self_iff_true, Option.toList_some, Option.toList_none, List.cons_append, List.nil_append, mo_cat_0, mo_cat_c, mo_ct_i, mo_ct_l, mo_ct_r, mo_ct_n, mo_ct_f, Nat.zero_le, Nat.reduceAdd, Nat.reduceLeDiff, Nat.reduceLT, Nat.reduceEqDiff, Nat.reduceSub, mo_rf_s, mo_rf_n, reduceCtorEq, mo_st, mo_st2, mo_lg_0, mo_lg_s, List.set_cons_zero, List.set_cons_succ, List.length_cons, List.length_nil, List.getElem?_cons_zero, List.getElem?_cons_succ, Nat.reduceBEq, Bool.false_eq_true, beq_self_eq_true, y1, k1, k2, e, c1, c2, mo_LC, q, mo_ME, mo_u_a, mo_z_a, mo_y_a, Nat.add_left_cancel_iff]
  · have e : a_mk B G st nm = some (gK G (5 * st + 1 + nm)) := by unfold a_mk; rw [if_neg (by rw [q]; decide)]
    obtain ⟨c1, c2, -⟩ := h.2.2.2.2.2.2.2.1 _ hm (Or.inr (by rw [q]; decide))
    rw [q] at c2
    simp only [we63, en63, true_and, and_true, if_false, if_true, not_true_eq_false, not_false_eq_true, false_implies, true_implies, implies_true, forall_const, true_or, or_true, false_or, or_false, false_and, and_false, eq_self_iff_true, Option.toList_some, Option.toList_none, List.cons_append, List.nil_append, mo_cat_0, mo_cat_c, mo_ct_i, mo_ct_l, mo_ct_r, mo_ct_n, mo_ct_f, Nat.zero_le, Nat.reduceAdd, Nat.reduceLeDiff, Nat.reduceLT, Nat.reduceEqDiff, Nat.reduceSub, mo_rf_s, mo_rf_n, reduceCtorEq, mo_st, mo_st2, mo_lg_0, mo_lg_s, List.set_cons_zero, List.set_cons_succ, List.length_cons, List.length_nil, List.getElem?_cons_zero, List.getElem?_cons_succ, Nat.reduceBEq, Bool.false_eq_true, beq_self_eq_true, y1, k1, k2, e, c1, c2, mo_LC, q, Option.map_some, mo_ME, mo_u_a, mo_z_a, mo_y_a, Nat.add_left_cancel_iff]
theorem L_called0 {d x own nm : Nat} {B : mo_A} {G : c_G} {μ : mo_Mem} (h : c_st x B G μ) (hn : nm < 4) (ho : own < gnc G) (Q : mo_P) : mo_M (d + 4) 63 [.ref (gT G own), .null, .int (nI nm)] μ Q = Q (some (va_rf ((a_near B 8 own nm).map (gT G)))) μ := by
  have k2 := fun Q => L_near (d := d) h hn ho Q
  rw [← mo_rf_n, en63.2.1]
  simp only [we63, en63, true_and, and_true, if_false, if_true, not_true_eq_false, not_false_eq_true, false_implies, true_implies, implies_true, forall_const, true_or, or_true, false_or, or_false, false_and, and_false, eq_self_iff_true, Option.toList_some, Option.toList_none, List.cons_append, List.nil_append, mo_cat_0, mo_cat_c, mo_ct_i, mo_ct_l, mo_ct_r, mo_ct_n, mo_ct_f, Nat.zero_le, Nat.reduceAdd, Nat.reduceLeDiff, Nat.reduceLT, Nat.reduceEqDiff, Nat.reduceSub, mo_rf_s, mo_rf_n, reduceCtorEq, mo_st, mo_st2, mo_lg_0, mo_lg_s, List.set_cons_zero, List.set_cons_succ, List.length_cons, List.length_nil, List.getElem?_cons_zero, List.getElem?_cons_succ, Nat.reduceBEq, Bool.false_eq_true, beq_self_eq_true, k2, mo_ME, mo_u_a, mo_z_a, mo_y_a, Nat.add_left_cancel_iff]
