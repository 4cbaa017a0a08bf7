def a_par (A : mo_A) (c : Nat) : Option Nat := if A.1 6 c = -1 then none else some (A.1 6 c).toNatClampNeg
def a_near (A : mo_A) (n c nm : Nat) : Option Nat := match n with
  | 0 => none
  | n + 1 => if A.1 11 (5 * c + 1 + nm) = 1 then some c else match a_par A c with
    | none => none
    | some p => a_near A n p nm
def a_enc (o : Option Nat) : Int32 := match o with
  | none => -1
  | some k => nI k
/-- parents come earlier -/
def a_pw (A : mo_A) (nc : Nat) : Prop := ∀ c, c < nc → A.1 6 c = -1 ∨ ∃ p, p < c ∧ A.1 6 c = nI p
theorem nI_nm1 {n : Nat} (h : n < 2 ^ 31) : (nI n = -1) = False := by
  apply eq_false
  intro q
  have h1 := nI_toInt h
  rw [q] at h1
  have h2 : (-1 : Int32).toInt = -1 := by decide
  rw [h2] at h1
  omega
theorem a_enc_n {o : Option Nat} {n : Nat} (h : ∀ k, o = some k → k < 2 ^ 31) : (a_enc o = -1) = (o = none) := by
  cases o with
  | none => simp [a_enc]
  | some k => simp only [a_enc, nI_nm1 (h k rfl)]; simp
theorem a_near_lt {A : mo_A} {nc : Nat} (hnc : nc ≤ 8) (hp : a_pw A nc) : ∀ n c nm k, c < nc → a_near A n c nm = some k → k ≤ c := by
  intro n
  induction n with
  | zero => intro c nm k _ h; cases h
  | succ n ih =>
    intro c nm k hc h
    unfold a_near at h
    split at h
    · cases h; exact Nat.le_refl _
    · unfold a_par at h
      rcases hp c hc with q | ⟨p, q1, q2⟩
      · rw [if_pos q] at h; cases h
      · rw [if_neg (by rw [q2, nI_nm1 (by omega)]; exact id)] at h
        dsimp only at h
        rw [q2, nI_clamp (by omega)] at h
        have := ih p nm k (by omega) h
        omega
theorem R_nearL {d r nc nm : Nat} {μ : mo_Mem} {A : mo_A} (hs : r_sh r μ) (hO : ∀ i, mo_AI μ (r + 10) i = A.1 11 i) (hP : ∀ i, mo_AI μ (r + 5) i = A.1 6 i) (hnc : nc ≤ 8) (hp : a_pw A nc) (hnm : nm < 4) (x1 : Int32) (Q : mo_P) : ∀ n c, c < n → c < nc → mo_wp (mo_M d) Q 105 (2, [some (.ref r), some (.int x1), some (.int (nI nm)), some (.int (nI c))], [], μ) = Q (some (.int (a_enc (a_near A n c nm)))) μ := by
  have hs' := hs
  unfold r_sh at hs'
  intro n
  induction n with
  | zero => intro c hc; omega
  | succ n ih =>
    intro c hc hcn
    have e1 : (nI c = -1) = False := nI_nm1 (by omega)
    have hv : vp_in (nI (5 * c + 1 + nm)) 40 := vp_in_nI (by omega) (by decide)
    have hcl : (nI (5 * c + 1 + nm)).toNatClampNeg = 5 * c + 1 + nm := nI_clamp (by omega)
    have hv2 : vp_in (nI c) 8 := vp_in_nI (by omega) (by decide)
    have hcl2 : (nI c).toNatClampNeg = c := nI_clamp (by omega)
    have hl5 : (5 : Int32) * nI c = nI (5 * c) := pk_mul 5 c
    rw [wh105_2]
    simp only [we105, true_and, and_true, if_false, if_true, not_true_eq_false, not_false_eq_true, false_implies, true_implies, implies_true, forall_const, true_or, or_true, false_or, or_false, false_and, and_false, eq_self_iff_true, Option.toList_some, Option.toList_none, List.cons_append, List.nil_append, mo_cat_0, mo_cat_c, mo_ct_i, mo_ct_l, mo_ct_r, mo_ct_n, mo_ct_f, Nat.zero_le, Nat.reduceAdd, Nat.reduceLeDiff, Nat.reduceLT, Nat.reduceEqDiff, Nat.reduceSub, mo_rf_s, mo_rf_n, reduceCtorEq, mo_st, mo_st2, mo_lg_0, mo_lg_s, List.set_cons_zero, List.set_cons_succ, List.length_cons, List.length_nil, List.getElem?_cons_zero, List.getElem?_cons_succ, Nat.reduceBEq, Bool.false_eq_true, beq_self_eq_true, mo_LC, hs', hO, hP, e1, hv, hcl, hv2, hcl2, hl5, nI_1, nI_add]
    unfold a_near
    by_cases ho : A.1 11 (5 * c + 1 + nm) = 1
    · simp only [ho, if_true, not_true_eq_false, false_implies, true_and, not_false_eq_true, true_implies, a_enc, and_true]
    · rw [if_neg ho]
      simp only [ho, not_false_eq_true, true_implies, not_true_eq_false, false_implies, and_true]
      unfold a_par
      rcases hp c hcn with q | ⟨p, q1, q2⟩
      · rw [q, if_pos rfl]
        rw [wh105_2]
        simp only [we105, true_and, and_true, if_false, if_true, not_true_eq_false, not_false_eq_true, false_implies, true_implies, implies_true, forall_const, true_or, or_true, false_or, or_false, false_and, and_false, eq_self_iff_true, Option.toList_some, Option.toList_none, List.cons_append, List.nil_append, mo_cat_0, mo_cat_c, mo_ct_i, mo_ct_l, mo_ct_r, mo_ct_n, mo_ct_f, Nat.zero_le, Nat.reduceAdd, Nat.reduceLeDiff, Nat.reduceLT, Nat.reduceEqDiff, Nat.reduceSub, mo_rf_s, mo_rf_n, reduceCtorEq, mo_st, mo_st2, mo_lg_0, mo_lg_s, List.set_cons_zero, List.set_cons_succ, List.length_cons, List.length_nil, List.getElem?_cons_zero, List.getElem?_cons_succ, Nat.reduceBEq, Bool.false_eq_true, beq_self_eq_true, mo_LC, hs', hO, hP]
        rfl
      · rw [q2, if_neg (by rw [nI_nm1 (by omega)]; exact id), nI_clamp (by omega), true_and]
        exact ih p (by omega) (by omega)
theorem R_near {d r nc nm c : Nat} {μ : mo_Mem} {A : mo_A} (hs : r_sh r μ) (hO : ∀ i, mo_AI μ (r + 10) i = A.1 11 i) (hP : ∀ i, mo_AI μ (r + 5) i = A.1 6 i) (hnc : nc ≤ 8) (hp : a_pw A nc) (hnm : nm < 4) (hc : c < nc) (Q : mo_P) : mo_M (d + 1) 105 [.ref r, .int (nI c), .int (nI nm)] μ Q = Q (some (.int (a_enc (a_near A 8 c nm)))) μ := by
  simp only [we105, en105, true_and, and_true, if_false, if_true, not_true_eq_false, not_false_eq_true, false_implies, true_implies, implies_true, forall_const, true_or, or_true, false_or, or_false, false_and, and_false, eq_self_iff_true, Option.toList_some, Option.toList_none, List.cons_append, List.nil_append, mo_cat_0, mo_cat_c, mo_ct_i, mo_ct_l, mo_ct_r, mo_ct_n, mo_ct_f, Nat.zero_le, Nat.reduceAdd, Nat.reduceLeDiff, Nat.reduceLT, Nat.reduceEqDiff, Nat.reduceSub, mo_rf_s, mo_rf_n, reduceCtorEq, mo_st, mo_st2, mo_lg_0, mo_lg_s, List.set_cons_zero, List.set_cons_succ, List.length_cons, List.length_nil, List.getElem?_cons_zero, List.getElem?_cons_succ, Nat.reduceBEq, Bool.false_eq_true, beq_self_eq_true]
  exact R_nearL hs hO hP hnc hp hnm _ Q 8 c (by omega) hc
