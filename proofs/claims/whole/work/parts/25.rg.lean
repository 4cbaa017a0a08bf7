def a_bel (A : mo_A) (n c x : Nat) : Bool := match n with
  | 0 => false
  | n + 1 => if c = x then true else match a_par A c with
    | none => false
    | some p => a_bel A n p x
def a_bi (b : Bool) : Int32 := if b = true then 1 else 0
theorem R_belL {d r nc y : Nat} {μ : mo_Mem} {A : mo_A} (hs : r_sh r μ) (hP : ∀ i, mo_AI μ (r + 5) i = A.1 6 i) (hnc : nc ≤ 8) (hp : a_pw A nc) (hy : y < nc) (x1 : Int32) (Q : mo_P) : ∀ n c, c < n → c < nc → mo_wp (mo_M d) Q 116 (2, [some (.ref r), some (.int x1), some (.int (nI y)), some (.int (nI c))], [], μ) = Q (some (.int (a_bi (a_bel A n c y)))) μ := by
  have hs' := hs
  unfold r_sh at hs'
  intro n
  induction n with
  | zero => intro c hc; omega
  | succ n ih =>
    intro c hc hcn
    have e1 : (nI c = -1) = False := nI_nm1 (by omega)
    have hv2 : vp_in (nI c) 8 := vp_in_nI (by omega) (by decide)
    have hcl2 : (nI c).toNatClampNeg = c := nI_clamp (by omega)
    rw [wh116_2]
    simp only [we116, true_and, and_true, if_false, if_true, not_true_eq_false, not_false_eq_true, false_implies, true_implies, implies_true, forall_const, true_or, or_true, false_or, or_false, false_and, and_false, eq_self_iff_true, Option.toList_some, Option.toList_none, List.cons_append, List.nil_append, mo_cat_0, mo_cat_c, mo_ct_i, mo_ct_l, mo_ct_r, mo_ct_n, mo_ct_f, Nat.zero_le, Nat.reduceAdd, Nat.reduceLeDiff, Nat.reduceLT, Nat.reduceEqDiff, Nat.reduceSub, mo_rf_s, mo_rf_n, reduceCtorEq, mo_st, mo_st2, mo_lg_0, mo_lg_s, List.set_cons_zero, List.set_cons_succ, List.length_cons, List.length_nil, List.getElem?_cons_zero, List.getElem?_cons_succ, Nat.reduceBEq, Bool.false_eq_true, beq_self_eq_true, mo_LC, hs', hP, e1, hv2, hcl2]
    unfold a_bel
    by_cases ho : c = y
    · subst ho
      simp [a_bi]
    · have e2 : (nI c = nI y) = False := nI_ne (by omega) (by omega) ho
      rw [if_neg ho]
      simp only [e2, not_false_eq_true, true_implies, not_true_eq_false, false_implies, and_true]
      unfold a_par
      rcases hp c hcn with q | ⟨p, q1, q2⟩
      · rw [q, if_pos rfl]
        rw [wh116_2]
        simp only [we116, true_and, and_true, if_false, if_true, not_true_eq_false, not_false_eq_true, false_implies, true_implies, implies_true, forall_const, true_or, or_true, false_or, or_false, false_and, and_false, eq_self_iff_true, Option.toList_some, Option.toList_none, List.cons_append, List.nil_append, mo_cat_0, mo_cat_c, mo_ct_i, mo_ct_l, mo_ct_r, mo_ct_n, mo_ct_f, Nat.zero_le, Nat.reduceAdd, Nat.reduceLeDiff, Nat.reduceLT, Nat.reduceEqDiff, Nat.reduceSub, mo_rf_s, mo_rf_n, reduceCtorEq, mo_st, mo_st2, mo_lg_0, mo_lg_s, List.set_cons_zero, List.set_cons_succ, List.length_cons, List.length_nil, List.getElem?_cons_zero, List.getElem?_cons_succ, Nat.reduceBEq, Bool.false_eq_true, beq_self_eq_true, mo_LC, hs', hP]
        simp [a_bi]
      · rw [q2, if_neg (by rw [nI_nm1 (by omega)]; exact id), nI_clamp (by omega)]
        simp only [true_and]
        exact ih p (by omega) (by omega)
theorem R_bel {d r nc c y : Nat} {μ : mo_Mem} {A : mo_A} (hs : r_sh r μ) (hP : ∀ i, mo_AI μ (r + 5) i = A.1 6 i) (hnc : nc ≤ 8) (hp : a_pw A nc) (hy : y < nc) (hc : c < nc) (Q : mo_P) : mo_M (d + 1) 116 [.ref r, .int (nI c), .int (nI y)] μ Q = Q (some (.int (a_bi (a_bel A 8 c y)))) μ := by
  simp only [we116, en116, true_and, and_true, if_false, if_true, not_true_eq_false, not_false_eq_true, false_implies, true_implies, implies_true, forall_const, true_or, or_true, false_or, or_false, false_and, and_false, eq_self_iff_true, Option.toList_some, Option.toList_none, List.cons_append, List.nil_append, mo_cat_0, mo_cat_c, mo_ct_i, mo_ct_l, mo_ct_r, mo_ct_n, mo_ct_f, Nat.zero_le, Nat.reduceAdd, Nat.reduceLeDiff, Nat.reduceLT, Nat.reduceEqDiff, Nat.reduceSub, mo_rf_s, mo_rf_n, reduceCtorEq, mo_st, mo_st2, mo_lg_0, mo_lg_s, List.set_cons_zero, List.set_cons_succ, List.length_cons, List.length_nil, List.getElem?_cons_zero, List.getElem?_cons_succ, Nat.reduceBEq, Bool.false_eq_true, beq_self_eq_true]
  exact R_belL hs hP hnc hp hy _ Q 8 c (by omega) hc
