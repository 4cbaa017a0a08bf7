theorem C_typeU {d x : Nat} {B : mo_A} {G : c_G} {μ : mo_Mem} (hs : c_st x B G μ) (p c f : Int32) (hp : ¬ p = -1) (hp2 : ¬ vp_in p (gnc G)) (Q : mo_P) : mo_M (d + 4) 66 [.ref x, .int p, .int c, .int f] μ Q = Q (some (.int (-2))) μ := by
  have hs' := hs.1.1; unfold cl_sf at hs'; have hn8 := hs.2.2.1.2.1
  have k1 := fun Q => L_tyI (d := d + 2) hs hp2 Q
  simp only [we66, en66, true_and, and_true, if_false, if_true, not_true_eq_false, not_false_eq_true, false_implies, true_implies, implies_true, forall_const, true_or, or_true, false_or, or_false, false_and, and_false, eq_self_iff_true, Option.toList_some, Option.toList_none, List.cons_append, List.nil_append, mo_cat_0, mo_cat_c, mo_ct_i, mo_ct_l, mo_ct_r, mo_ct_n, mo_ct_f, Nat.zero_le, Nat.reduceAdd, Nat.reduceLeDiff, Nat.reduceLT, Nat.reduceEqDiff, Nat.reduceSub, mo_rf_s, mo_rf_n, reduceCtorEq, mo_st, mo_st2, mo_lg_0, mo_lg_s, List.set_cons_zero, List.set_cons_succ, List.length_cons, List.length_nil, List.getElem?_cons_zero, List.getElem?_cons_succ, Nat.reduceBEq, Bool.false_eq_true, beq_self_eq_true, hs', k1, hp, mo_LC, mo_ME, mo_u_a, mo_z_a, mo_y_a, Nat.add_left_cancel_iff]
theorem C_typeO {d x : Nat} {B : mo_A} {G : c_G} {μ : mo_Mem} (hs : c_st x B G μ) (p c f : Int32) (hp : p = -1 ∨ vp_in p (gnc G)) (ho : ¬ vp_in c 4 ∨ ¬ vp_in f 5) (Q : mo_P) : mo_M (d + 4) 66 [.ref x, .int p, .int c, .int f] μ Q = Q (some (.int (-3))) μ := by
  have hs' := hs.1.1; unfold cl_sf at hs'; have hn8 := hs.2.2.1.2.1
  by_cases hp1 : vp_in p (gnc G)
  · obtain ⟨y, hy, rfl⟩ := vp_ex (by omega) hp1
    have k1 := fun Q => L_ty (d := d + 2) hs hy Q
    rcases cf_out ho with z | ⟨z1, z2⟩ | ⟨z1, z2, z3⟩ | ⟨z1, z2, z3, z4⟩
    · simp only [we66, en66, true_and, and_true, if_false, if_true, not_true_eq_false, not_false_eq_true, false_implies, true_implies, implies_true, forall_const, true_or, or_true, false_or, or_false, false_and, and_false, eq_self_iff_true, Option.toList_some, Option.toList_none, List.cons_append, List.nil_append, mo_cat_0, mo_cat_c, mo_ct_i, mo_ct_l, mo_ct_r, mo_ct_n, mo_ct_f, Nat.zero_le, Nat.reduceAdd, Nat.reduceLeDiff, Nat.reduceLT, Nat.reduceEqDiff, Nat.reduceSub, mo_rf_s, mo_rf_n, reduceCtorEq, mo_st, mo_st2, mo_lg_0, mo_lg_s, List.set_cons_zero, List.set_cons_succ, List.length_cons, List.length_nil, List.getElem?_cons_zero, List.getElem?_cons_succ, Nat.reduceBEq, Bool.false_eq_true, beq_self_eq_true, hs', k1, mo_LC, z, mo_ME, mo_u_a, mo_z_a, mo_y_a, Nat.add_left_cancel_iff]
    · simp only [we66, en66, true_and, and_true, if_false, if_true, not_true_eq_false, not_false_eq_true, false_implies, true_implies, implies_true, forall_const, true_or, or_true, false_or, or_false, false_and, and_false, eq_self_iff_true, Option.toList_some, Option.toList_none, List.cons_append, List.nil_append, mo_cat_0, mo_cat_c, mo_ct_i, mo_ct_l, mo_ct_r, mo_ct_n, mo_ct_f, Nat.zero_le, Nat.reduceAdd, Nat.reduceLeDiff, Nat.reduceLT, Nat.reduceEqDiff, Nat.reduceSub, mo_rf_s, mo_rf_n, reduceCtorEq, mo_st, mo_st2, mo_lg_0, mo_lg_s, List.set_cons_zero, List.set_cons_succ, List.length_cons, List.length_nil, List.getElem?_cons_zero, List.getElem?_cons_succ, Nat.reduceBEq, Bool.false_eq_true, beq_self_eq_true, hs', k1, mo_LC, z1, z2, mo_ME, mo_u_a, mo_z_a, mo_y_a, Nat.add_left_cancel_iff]
    · simp only [we66, en66, true_and, and_true, if_false, if_true, not_true_eq_false, not_false_eq_true, false_implies, true_implies, implies_true, forall_const, true_or, or_true, false_or, or_false, false_and, and_false, eq_self_iff_true, Option.toList_some, Option.toList_none, List.cons_append, List.nil_append, mo_cat_0, mo_cat_c, mo_ct_i, mo_ct_l, mo_ct_r, mo_ct_n, mo_ct_f, Nat.zero_le, Nat.reduceAdd, Nat.reduceLeDiff, Nat.reduceLT, Nat.reduceEqDiff, Nat.reduceSub, mo_rf_s, mo_rf_n, reduceCtorEq, mo_st, mo_st2, mo_lg_0, mo_lg_s, List.set_cons_zero, List.set_cons_succ, List.length_cons, List.length_nil, List.getElem?_cons_zero, List.getElem?_cons_succ, Nat.reduceBEq, Bool.false_eq_true, beq_self_eq_true, hs', k1, mo_LC, z1, z2, z3, mo_ME, mo_u_a, mo_z_a, mo_y_a, Nat.add_left_cancel_iff]
    · simp only [we66, en66, true_and, and_true, if_false, if_true, not_true_eq_false, not_false_eq_true, false_implies, true_implies, implies_true, forall_const, true_or, or_true, false_or, or_false, false_and, and_false, eq_self_iff_true, Option.toList_some, Option.toList_none, List.cons_append, List.nil_append, mo_cat_0, mo_cat_c, mo_ct_i, mo_ct_l, mo_ct_r, mo_ct_n, mo_ct_f, Nat.zero_le, Nat.reduceAdd, Nat.reduceLeDiff, Nat.reduceLT, Nat.reduceEqDiff, Nat.reduceSub, mo_rf_s, mo_rf_n, reduceCtorEq, mo_st, mo_st2, mo_lg_0, mo_lg_s, List.set_cons_zero, List.set_cons_succ, List.length_cons, List.length_nil, List.getElem?_cons_zero, List.getElem?_cons_succ, Nat.reduceBEq, Bool.false_eq_true, beq_self_eq_true, hs', k1, mo_LC, z1, z2, z3, z4, mo_ME, mo_u_a, mo_z_a, mo_y_a, Nat.add_left_cancel_iff]
  · have hp2 : p = -1 := by rcases hp with z | z; exact z; exact absurd z hp1
    have k1 := fun Q => L_tyI (d := d + 2) hs hp1 Q
    subst hp2
    rcases cf_out ho with z | ⟨z1, z2⟩ | ⟨z1, z2, z3⟩ | ⟨z1, z2, z3, z4⟩
    · simp only [we66, en66, true_and, and_true, if_false, if_true, not_true_eq_false, not_false_eq_true, false_implies, true_implies, implies_true, forall_const, true_or, or_true, false_or, or_false, false_and, and_false, eq_self_iff_true, Option.toList_some, Option.toList_none, List.cons_append, List.nil_append, mo_cat_0, mo_cat_c, mo_ct_i, mo_ct_l, mo_ct_r, mo_ct_n, mo_ct_f, Nat.zero_le, Nat.reduceAdd, Nat.reduceLeDiff, Nat.reduceLT, Nat.reduceEqDiff, Nat.reduceSub, mo_rf_s, mo_rf_n, reduceCtorEq, mo_st, mo_st2, mo_lg_0, mo_lg_s, List.set_cons_zero, List.set_cons_succ, List.length_cons, List.length_nil, List.getElem?_cons_zero, List.getElem?_cons_succ, Nat.reduceBEq, Bool.false_eq_true, beq_self_eq_true, hs', k1, mo_LC, z, mo_ME, mo_u_a, mo_z_a, mo_y_a, Nat.add_left_cancel_iff]
    · simp only [we66, en66, true_and, and_true, if_false, if_true, not_true_eq_false, not_false_eq_true, false_implies, true_implies, implies_true, forall_const, true_or, or_true, false_or, or_false, false_and, and_false, eq_self_iff_true, Option.toList_some, Option.toList_none, List.cons_append, List.nil_append, mo_cat_0, mo_cat_c, mo_ct_i, mo_ct_l, mo_ct_r, mo_ct_n, mo_ct_f, Nat.zero_le, Nat.reduceAdd, Nat.reduceLeDiff, Nat.reduceLT, Nat.reduceEqDiff, Nat.reduceSub, mo_rf_s, mo_rf_n, reduceCtorEq, mo_st, mo_st2, mo_lg_0, mo_lg_s, List.set_cons_zero, List.set_cons_succ, List.length_cons, List.length_nil, List.getElem?_cons_zero, List.getElem?_cons_succ, Nat.reduceBEq, Bool.false_eq_true, beq_self_eq_true, hs', k1, mo_LC, z1, z2, mo_ME, mo_u_a, mo_z_a, mo_y_a, Nat.add_left_cancel_iff]
    · simp only [we66, en66, true_and, and_true, if_false, if_true, not_true_eq_false, not_false_eq_true, false_implies, true_implies, implies_true, forall_const, true_or, or_true, false_or, or_false, false_and, and_false, eq_self_iff_true, Option.toList_some, Option.toList_none, List.cons_append, List.nil_append, mo_cat_0, mo_cat_c, mo_ct_i, mo_ct_l, mo_ct_r, mo_ct_n, mo_ct_f, Nat.zero_le, Nat.reduceAdd, Nat.reduceLeDiff, Nat.reduceLT, Nat.reduceEqDiff, Nat.reduceSub, mo_rf_s, mo_rf_n, reduceCtorEq, mo_st, mo_st2, mo_lg_0, mo_lg_s, List.set_cons_zero, List.set_cons_succ, List.length_cons, List.length_nil, List.getElem?_cons_zero, List.getElem?_cons_succ, Nat.reduceBEq, Bool.false_eq_true, beq_self_eq_true, hs', k1, mo_LC, z1, z2, z3, mo_ME, mo_u_a, mo_z_a, mo_y_a, Nat.add_left_cancel_iff]
    · simp only [we66, en66, true_and, and_true, if_false, if_true, not_true_eq_false, not_false_eq_true, false_implies, true_implies, implies_true, forall_const, true_or, or_true, false_or, or_false, false_and, and_false, eq_self_iff_true, Option.toList_some, Option.toList_none, List.cons_append, List.nil_append, mo_cat_0, mo_cat_c, mo_ct_i, mo_ct_l, mo_ct_r, mo_ct_n, mo_ct_f, Nat.zero_le, Nat.reduceAdd, Nat.reduceLeDiff, Nat.reduceLT, Nat.reduceEqDiff, Nat.reduceSub, mo_rf_s, mo_rf_n, reduceCtorEq, mo_st, mo_st2, mo_lg_0, mo_lg_s, List.set_cons_zero, List.set_cons_succ, List.length_cons, List.length_nil, List.getElem?_cons_zero, List.getElem?_cons_succ, Nat.reduceBEq, Bool.false_eq_true, beq_self_eq_true, hs', k1, mo_LC, z1, z2, z3, z4, mo_ME, mo_u_a, mo_z_a, mo_y_a, Nat.add_left_cancel_iff]
theorem C_typeF {d x : Nat} {B : mo_A} {G : c_G} {μ : mo_Mem} (hs : c_st x B G μ) (p c f : Int32) (h8 : gnc G = 8) (hp : p = -1 ∨ vp_in p (gnc G)) {k m : Nat} (hk : k < 4) (hm : m < 5) (hck : c = nI k) (hfm : f = nI m) (Q : mo_P) : mo_M (d + 4) 66 [.ref x, .int p, .int c, .int f] μ Q = Q (some (.int (-5))) μ := by
  have hs' := hs.1.1; unfold cl_sf at hs'; have hn8 := hs.2.2.1.2.1
  subst hck hfm
  have c1 : (nI k < 0) = False := i_ng (by omega)
  have c2 : ((3 : Int32) < nI k) = False := i_nl (a := k) (b := 3) (by omega) (by decide)
  have c3 : (nI m < 0) = False := i_ng (by omega)
  have c4 : (nI m ≤ 4) = True := i_le (a := m) (b := 4) (by omega) (by decide)
  have hn := hs.2.2.2.2.1
  rw [h8] at hn
  by_cases hp1 : vp_in p (gnc G)
  · obtain ⟨y, hy, rfl⟩ := vp_ex (by omega) hp1
    have k1 := fun Q => L_ty (d := d + 2) hs hy Q
    have k2 := fun c f Q => L_tyF (d := d + 2) hs.1.1 hn (some (gT G y)) c f Q
    rw [mo_rf_s] at k2
    have y1 := (hs.2.2.2.2.2.2.1 y hy).2.1
    simp only [we66, en66, true_and, and_true, if_false, if_true, not_true_eq_false, not_false_eq_true, false_implies, true_implies, implies_true, forall_const, true_or, or_true, false_or, or_false, false_and, and_false, eq_self_iff_true, Option.toList_some, Option.toList_none, List.cons_append, List.nil_append, mo_cat_0, mo_cat_c, mo_ct_i, mo_ct_l, mo_ct_r, mo_ct_n, mo_ct_f, Nat.zero_le, Nat.reduceAdd, Nat.reduceLeDiff, Nat.reduceLT, Nat.reduceEqDiff, Nat.reduceSub, mo_rf_s, mo_rf_n, reduceCtorEq, mo_st, mo_st2, mo_lg_0, mo_lg_s, List.set_cons_zero, List.set_cons_succ, List.length_cons, List.length_nil, List.getElem?_cons_zero, List.getElem?_cons_succ, Nat.reduceBEq, Bool.false_eq_true, beq_self_eq_true, hs', k1, k2, y1, c1, c2, c3, c4, mo_LC, mo_ME, mo_u_a, mo_z_a, mo_y_a, Nat.add_left_cancel_iff]
  · have hp2 : p = -1 := by rcases hp with z | z; exact z; exact absurd z hp1
    have k1 := fun Q => L_tyI (d := d + 2) hs hp1 Q
    have k2 := fun c f Q => L_tyF (d := d + 2) hs.1.1 hn none c f Q
    rw [mo_rf_n] at k2
    subst hp2
    simp only [we66, en66, true_and, and_true, if_false, if_true, not_true_eq_false, not_false_eq_true, false_implies, true_implies, implies_true, forall_const, true_or, or_true, false_or, or_false, false_and, and_false, eq_self_iff_true, Option.toList_some, Option.toList_none, List.cons_append, List.nil_append, mo_cat_0, mo_cat_c, mo_ct_i, mo_ct_l, mo_ct_r, mo_ct_n, mo_ct_f, Nat.zero_le, Nat.reduceAdd, Nat.reduceLeDiff, Nat.reduceLT, Nat.reduceEqDiff, Nat.reduceSub, mo_rf_s, mo_rf_n, reduceCtorEq, mo_st, mo_st2, mo_lg_0, mo_lg_s, List.set_cons_zero, List.set_cons_succ, List.length_cons, List.length_nil, List.getElem?_cons_zero, List.getElem?_cons_succ, Nat.reduceBEq, Bool.false_eq_true, beq_self_eq_true, hs', k1, k2, c1, c2, c3, c4, mo_LC, mo_ME, mo_u_a, mo_z_a, mo_y_a, Nat.add_left_cancel_iff]
theorem C_typeN {d x : Nat} {B : mo_A} {G : c_G} {μ : mo_Mem} (hs : c_st x B G μ) (p c f : Int32) (h8 : gnc G < 8) (hp : p = -1) {k m : Nat} (hk : k < 4) (hm : m < 5) (hck : c = nI k) (hfm : f = nI m) (Q : mo_P) : mo_M (d + 4) 66 [.ref x, .int p, .int c, .int f] μ Q = Q (some (.int (nI (gnc G)))) (m_ty x μ (gnc G) none 0 c f) := by
  have hs' := hs.1.1; unfold cl_sf at hs'; have hn8 := hs.2.2.1.2.1
  subst hck hfm hp
  have c1 : (nI k < 0) = False := i_ng (by omega)
  have c2 : ((3 : Int32) < nI k) = False := i_nl (a := k) (b := 3) (by omega) (by decide)
  have c3 : (nI m < 0) = False := i_ng (by omega)
  have c4 : (nI m ≤ 4) = True := i_le (a := m) (b := 4) (by omega) (by decide)
  have k1 := fun Q => L_tyI (d := d + 2) (i := -1) hs (L_nr1 hn8) Q
  have k2 := fun c f Q => L_tyN (d := d) hs.1.1 hs.2.1 hs.2.2.2.2.1 h8 c f Q
  simp only [we66, en66, true_and, and_true, if_false, if_true, not_true_eq_false, not_false_eq_true, false_implies, true_implies, implies_true, forall_const, true_or, or_true, false_or, or_false, false_and, and_false, eq_self_iff_true, Option.toList_some, Option.toList_none, List.cons_append, List.nil_append, mo_cat_0, mo_cat_c, mo_ct_i, mo_ct_l, mo_ct_r, mo_ct_n, mo_ct_f, Nat.zero_le, Nat.reduceAdd, Nat.reduceLeDiff, Nat.reduceLT, Nat.reduceEqDiff, Nat.reduceSub, mo_rf_s, mo_rf_n, reduceCtorEq, mo_st, mo_st2, mo_lg_0, mo_lg_s, List.set_cons_zero, List.set_cons_succ, List.length_cons, List.length_nil, List.getElem?_cons_zero, List.getElem?_cons_succ, Nat.reduceBEq, Bool.false_eq_true, beq_self_eq_true, hs', k1, k2, c1, c2, c3, c4, mo_LC, mo_ME, mo_u_a, mo_z_a, mo_y_a, Nat.add_left_cancel_iff]
theorem C_typeS {d x : Nat} {B : mo_A} {G : c_G} {μ : mo_Mem} (hs : c_st x B G μ) (p c f : Int32) (h8 : gnc G < 8) {y : Nat} (hy : y < gnc G) (hp : p = nI y) {k m : Nat} (hk : k < 4) (hm : m < 5) (hck : c = nI k) (hfm : f = nI m) (Q : mo_P) : mo_M (d + 4) 66 [.ref x, .int p, .int c, .int f] μ Q = Q (some (.int (nI (gnc G)))) (m_ty x μ (gnc G) (some (gT G y)) (nI (gV G y + 1)) c f) := by
  have hs' := hs.1.1; unfold cl_sf at hs'; have hn8 := hs.2.2.1.2.1
  subst hck hfm hp
  have c1 : (nI k < 0) = False := i_ng (by omega)
  have c2 : ((3 : Int32) < nI k) = False := i_nl (a := k) (b := 3) (by omega) (by decide)
  have c3 : (nI m < 0) = False := i_ng (by omega)
  have c4 : (nI m ≤ 4) = True := i_le (a := m) (b := 4) (by omega) (by decide)
  obtain ⟨y1, y2, y3, y4, -⟩ := (hs.2.2.2.2.2.2.1 y hy).2
  have y18 := (hs.2.2.2.2.2.2.1 y hy).2.2.2.2.2.2.2.2.2.2.2.2.2.2.2.2.2.2.1
  have k1 := fun Q => L_ty (d := d + 2) hs hy Q
  have k2 := fun c f Q => L_tyS (d := d) hs.1.1 hs.2.1 hs.2.2.2.2.1 h8 (by omega) y1 y4 c f Q
  simp only [we66, en66, true_and, and_true, if_false, if_true, not_true_eq_false, not_false_eq_true, false_implies, true_implies, implies_true, forall_const, true_or, or_true, false_or, or_false, false_and, and_false, eq_self_iff_true, Option.toList_some, Option.toList_none, List.cons_append, List.nil_append, mo_cat_0, mo_cat_c, mo_ct_i, mo_ct_l, mo_ct_r, mo_ct_n, mo_ct_f, Nat.zero_le, Nat.reduceAdd, Nat.reduceLeDiff, Nat.reduceLT, Nat.reduceEqDiff, Nat.reduceSub, mo_rf_s, mo_rf_n, reduceCtorEq, mo_st, mo_st2, mo_lg_0, mo_lg_s, List.set_cons_zero, List.set_cons_succ, List.length_cons, List.length_nil, List.getElem?_cons_zero, List.getElem?_cons_succ, Nat.reduceBEq, Bool.false_eq_true, beq_self_eq_true, hs', k1, k2, y1, c1, c2, c3, c4, mo_LC, mo_ME, mo_u_a, mo_z_a, mo_y_a, Nat.add_left_cancel_iff]
def g_ty (G : c_G) (a lv : Nat) : c_G := (gne G, gnc G + 1, gE G, fun i => if i = gnc G then a else gT G i, fun m => if m = 5 * gnc G then a + 2 else gK G m, fun i => if i = gnc G then lv else gV G i)
theorem tyA (A : mo_A) (nc : Nat) (p c f : Int32) : (∀ j, j ≠ 5 → j ≠ 6 → j ≠ 7 → j ≠ 8 → j ≠ 9 → j ≠ 10 → (a_ty A nc p c f).1 j = A.1 j) ∧ (a_ty A nc p c f).2 = A.2 ∧ (a_ty A nc p c f).1 5 0 = nI (nc + 1) ∧ (∀ i, (a_ty A nc p c f).1 6 i = if i = nc then p else A.1 6 i) ∧ (∀ i, (a_ty A nc p c f).1 7 i = if i = nc then c else A.1 7 i) ∧ (∀ i, (a_ty A nc p c f).1 8 i = if i = nc then f else A.1 8 i) ∧ (∀ i, (a_ty A nc p c f).1 9 i = if i = nc then -1 else A.1 9 i) ∧ (∀ i, i < nc → ∀ k, k < 4 → (a_ty A nc p c f).1 10 (4 * i + k) = A.1 10 (4 * i + k)) ∧ (∀ k, k < 4 → (a_ty A nc p c f).1 10 (4 * nc + k) = -1) := by
  unfold a_ty
  refine ⟨fun j h1 h2 h3 h4 h5 h6 => funext fun i => ?_, rfl, ?_, fun i => ?_, fun i => ?_, fun i => ?_, fun i => ?_, fun i hi k hk => ?_, fun k hk => ?_⟩
  · simp only [a_I_1, h1, h2, h3, h4, h5, h6, false_and, if_false]
  · simp only [a_I_1, and_self, if_true]
  · simp only [a_I_1, Nat.reduceEqDiff, false_and, true_and, if_false]
  · simp only [a_I_1, Nat.reduceEqDiff, false_and, true_and, if_false]
  · simp only [a_I_1, Nat.reduceEqDiff, false_and, true_and, if_false]
  · simp only [a_I_1, Nat.reduceEqDiff, false_and, true_and, if_false]
  · simp only [a_I_1, Nat.reduceEqDiff, false_and, true_and, if_false]
    rw [if_neg (by omega), if_neg (by omega), if_neg (by omega), if_neg (by omega)]
  · simp only [a_I_1, Nat.reduceEqDiff, false_and, true_and, if_false]
    have : k = 0 ∨ k = 1 ∨ k = 2 ∨ k = 3 := by omega
    rcases this with rfl | rfl | rfl | rfl
    · rw [if_neg (by omega), if_neg (by omega), if_neg (by omega), if_pos (by omega)]
    · rw [if_neg (by omega), if_neg (by omega), if_pos rfl]
    · rw [if_neg (by omega), if_pos rfl]
    · rw [if_pos rfl]
