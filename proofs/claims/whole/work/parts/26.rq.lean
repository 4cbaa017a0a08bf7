theorem cmG (x y : Int64) : (0 ≤ lg_cmp x y) = ¬ x < y := by
  rw [propext (lg_cmp_ge x y), Int64.le_iff_toInt_le, Int64.lt_iff_toInt_lt]
  apply propext
  omega
theorem mo_bq {p : Prop} {x : Int32} (h : (p → x = 1) ∧ (¬ p → x = 0)) : x = mo_b p := by
  by_cases hp : p
  · rw [mo_b_t hp]; exact h.1 hp
  · rw [mo_b_f hp]; exact h.2 hp
theorem R_isExp {d r n : Nat} {μ : mo_Mem} (hs : r_sh r μ) (hn : mo_I μ 768 r = nI n) (hlt : n < 2 ^ 31) (e : Int32) (Q : mo_P) : mo_M (d + 1) 85 [.ref r, .int e] μ Q = Q (some (.int (mo_b (vp_in e n)))) μ := by
  have hs' := hs
  unfold r_sh at hs'
  rw [vp_in_le hlt]
  simp only [we85, en85, true_and, and_true, if_false, if_true, not_true_eq_false, not_false_eq_true, false_implies, true_implies, implies_true, forall_const, true_or, or_true, false_or, or_false, false_and, and_false, eq_self_iff_true, Option.toList_some, Option.toList_none, List.cons_append, List.nil_append, mo_cat_0, mo_cat_c, mo_ct_i, mo_ct_l, mo_ct_r, mo_ct_n, mo_ct_f, Nat.zero_le, Nat.reduceAdd, Nat.reduceLeDiff, Nat.reduceLT, Nat.reduceEqDiff, Nat.reduceSub, mo_rf_s, mo_rf_n, reduceCtorEq, hs', hn]
  by_cases h1 : e < 0
  · simp [h1, mo_b_f]
  · by_cases h2 : nI n ≤ e
    · simp [h1, h2, mo_b_f]
    · simp [h1, h2, mo_b_t]
theorem R_isClass {d r n : Nat} {μ : mo_Mem} (hs : r_sh r μ) (hn : mo_I μ 773 r = nI n) (hlt : n < 2 ^ 31) (x : Int64) (Q : mo_P) : mo_M (d + 1) 86 [.ref r, .long x] μ Q = Q (some (.int (mo_b (¬ x < 0 ∧ x < lN n)))) μ := by
  have hs' := hs
  unfold r_sh at hs'
  have h64 : (nI n).toInt64 = lN n := nI_l hlt
  simp only [we86, en86, true_and, and_true, if_false, if_true, not_true_eq_false, not_false_eq_true, false_implies, true_implies, implies_true, forall_const, true_or, or_true, false_or, or_false, false_and, and_false, eq_self_iff_true, Option.toList_some, Option.toList_none, List.cons_append, List.nil_append, mo_cat_0, mo_cat_c, mo_ct_i, mo_ct_l, mo_ct_r, mo_ct_n, mo_ct_f, Nat.zero_le, Nat.reduceAdd, Nat.reduceLeDiff, Nat.reduceLT, Nat.reduceEqDiff, Nat.reduceSub, mo_rf_s, mo_rf_n, reduceCtorEq, hs', hn, h64, cmL, cmG]
  by_cases h1 : x < 0
  · simp [h1, mo_b_f]
  · by_cases h2 : x < lN n
    · simp [h1, h2, mo_b_t]
    · simp [h1, h2, mo_b_f]
theorem R_isName {d : Nat} {μ : mo_Mem} (x : Int64) (Q : mo_P) : mo_M (d + 1) 87 [.long x] μ Q = Q (some (.int (mo_b (¬ x < 0 ∧ x < 4)))) μ := by
  simp only [we87, en87, true_and, and_true, if_false, if_true, not_true_eq_false, not_false_eq_true, false_implies, true_implies, implies_true, forall_const, true_or, or_true, false_or, or_false, false_and, and_false, eq_self_iff_true, Option.toList_some, Option.toList_none, List.cons_append, List.nil_append, mo_cat_0, mo_cat_c, mo_ct_i, mo_ct_l, mo_ct_r, mo_ct_n, mo_ct_f, Nat.zero_le, Nat.reduceAdd, Nat.reduceLeDiff, Nat.reduceLT, Nat.reduceEqDiff, Nat.reduceSub, mo_rf_s, mo_rf_n, reduceCtorEq, cmL, cmG]
  by_cases h1 : x < 0
  · simp [h1, mo_b_f]
  · by_cases h2 : x < 4
    · simp [h1, h2, mo_b_t]
    · simp [h1, h2, mo_b_f]
theorem t64_neg (x : Int32) : (x.toInt64 < 0) = (x < 0) := by
  apply propext
  rw [Int64.lt_iff_toInt_lt, Int32.lt_iff_toInt_lt, Int32.toInt_toInt64]
  exact Iff.rfl
theorem t64_lt {n : Nat} (h : n < 2 ^ 31) (x : Int32) : (x.toInt64 < lN n) = (x < nI n) := by
  apply propext
  rw [Int64.lt_iff_toInt_lt, Int32.lt_iff_toInt_lt, Int32.toInt_toInt64, lN_toInt h, nI_toInt h]
theorem t64_in {n : Nat} (h : n < 2 ^ 31) (x : Int32) : (¬ x.toInt64 < 0 ∧ x.toInt64 < lN n) = vp_in x n := by
  rw [t64_neg, t64_lt h]
  exact propext (vp_in_lt h).symm
theorem vp_out {x : Int32} {n : Nat} (hn : n < 2 ^ 31) (h : ¬ vp_in x n) : x < 0 ∨ (¬ x < 0 ∧ nI n ≤ x) := by
  rw [vp_in_le hn] at h
  by_cases q : x < 0
  · exact Or.inl q
  · exact Or.inr ⟨q, Classical.byContradiction fun r => h ⟨q, r⟩⟩
