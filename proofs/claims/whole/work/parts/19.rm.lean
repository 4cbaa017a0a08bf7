def m_push (r : Nat) (μ : mo_Mem) (f : Nat) (w x p c : Int32) (g : Int64) : mo_Mem := mo_wI (mo_wAI (mo_wAL (mo_wAI (mo_wAI (mo_wAI (mo_wAI (mo_wAI μ (r + 23) f w) (r + 24) f x) (r + 25) f 0) (r + 27) f p) (r + 26) f c) (r + 29) f g) (r + 30) f 0) 795 r (nI (f + 1))
theorem R_push {d r f : Nat} {μ : mo_Mem} (hs : r_sh r μ) (hf : mo_I μ 795 r = nI f) (hlt : f < 400) (w x p c : Int32) (g : Int64) (Q : mo_P) : mo_M (d + 1) 94 [.ref r, .int w, .int x, .int p, .int c, .long g] μ Q = Q none (m_push r μ f w x p c g) := by
  have hv : vp_in (nI f) 400 := vp_in_nI hlt (by decide)
  have hc : (nI f).toNatClampNeg = f := nI_clamp (by omega)
  have hs' := hs
  unfold r_sh at hs'
  simp only [we94_0, we94_1, en94, true_and, and_true, if_false, if_true, not_true_eq_false, not_false_eq_true, false_implies, true_implies, implies_true, forall_const, true_or, or_true, false_or, or_false, false_and, and_false, eq_self_iff_true, Option.toList_some, Option.toList_none, List.cons_append, List.nil_append, mo_cat_0, mo_cat_c, mo_ct_i, mo_ct_l, mo_ct_r, mo_ct_n, mo_ct_f, Nat.zero_le, Nat.reduceAdd, Nat.reduceLeDiff, Nat.reduceLT, Nat.reduceEqDiff, Nat.reduceSub, mo_rf_s, mo_rf_n, reduceCtorEq, mo_ME, mo_u_a, mo_z_a, mo_y_a, Nat.add_left_cancel_iff, hs', hf, hv, hc, nI_1]
  rfl
theorem R_work {d r : Nat} {μ : mo_Mem} {t f b : Nat} (hs : r_sh r μ) (ht : mo_I μ 795 r = nI t) (hlt : t < 400) (hb : mo_I μ 808 r = nI b) (hb3 : b < 300) (hf : f < 400) (e : Int32) (Q : mo_P) : mo_M (d + 2) 95 [.ref r, .int e, .int (nI f)] μ Q = Q none (m_push r (mo_wI μ 808 r (nI (b + 1))) t 0 e (mo_AI μ (r + 27) f) (mo_AI μ (r + 26) f) (mo_AL μ (r + 29) f)) := by
  have hs' := hs
  unfold r_sh at hs'
  have hv : vp_in (nI f) 400 := vp_in_nI hf (by decide)
  have hc : (nI f).toNatClampNeg = f := nI_clamp (by omega)
  have h3 : (nI b = 300) = False := by rw [show (300 : Int32) = nI 300 from rfl, nI_inj (by omega) (by decide)]; simp; omega
  have hp := fun w x p c g Q => R_push (d := d) (μ := mo_wI μ 808 r (nI (b + 1))) (f := t) (r_sh_c hs rfl rfl rfl) (by simpa [mo_I_wI, mo_u] using ht) hlt w x p c g Q
  simp only [we95, en95, true_and, and_true, if_false, if_true, not_true_eq_false, not_false_eq_true, false_implies, true_implies, implies_true, forall_const, true_or, or_true, false_or, or_false, false_and, and_false, eq_self_iff_true, Option.toList_some, Option.toList_none, List.cons_append, List.nil_append, mo_cat_0, mo_cat_c, mo_ct_i, mo_ct_l, mo_ct_r, mo_ct_n, mo_ct_f, Nat.zero_le, Nat.reduceAdd, Nat.reduceLeDiff, Nat.reduceLT, Nat.reduceEqDiff, Nat.reduceSub, mo_rf_s, mo_rf_n, reduceCtorEq, mo_st, mo_st2, mo_lg_0, mo_lg_s, List.set_cons_zero, List.set_cons_succ, List.length_cons, List.length_nil, List.getElem?_cons_zero, List.getElem?_cons_succ, Nat.reduceBEq, Bool.false_eq_true, beq_self_eq_true, mo_ME, mo_u_a, mo_z_a, mo_y_a, Nat.add_left_cancel_iff, hs', nI_1, hb, hv, hc, h3, hp]
theorem R_workS {d r : Nat} {μ : mo_Mem} {f : Nat} (hs : r_sh r μ) (hb : mo_I μ 808 r = 300) (e f : Int32) (Q : mo_P) : mo_M (d + 1) 95 [.ref r, .int e, .int f] μ Q = Q none (mo_wI μ 805 r 8) := by
  have hs' := hs
  unfold r_sh at hs'
  simp only [we95, en95, true_and, and_true, if_false, if_true, not_true_eq_false, not_false_eq_true, false_implies, true_implies, implies_true, forall_const, true_or, or_true, false_or, or_false, false_and, and_false, eq_self_iff_true, Option.toList_some, Option.toList_none, List.cons_append, List.nil_append, mo_cat_0, mo_cat_c, mo_ct_i, mo_ct_l, mo_ct_r, mo_ct_n, mo_ct_f, Nat.zero_le, Nat.reduceAdd, Nat.reduceLeDiff, Nat.reduceLT, Nat.reduceEqDiff, Nat.reduceSub, mo_rf_s, mo_rf_n, reduceCtorEq, mo_st, mo_st2, mo_lg_0, mo_lg_s, List.set_cons_zero, List.set_cons_succ, List.length_cons, List.length_nil, List.getElem?_cons_zero, List.getElem?_cons_succ, Nat.reduceBEq, Bool.false_eq_true, beq_self_eq_true, mo_ME, mo_u_a, mo_z_a, mo_y_a, Nat.add_left_cancel_iff, hs', nI_1, hb]
theorem R_enter {d r : Nat} {μ : mo_Mem} {t u g0 : Nat} (hs : r_sh r μ) (ht : mo_I μ 795 r = nI t) (hlt : t < 400) (hu : mo_I μ 806 r = nI u) (hu2 : u < 12) (hg : mo_I μ 809 r = nI g0) (w x p c : Int32) (g : Int64) (Q : mo_P) : mo_M (d + 2) 96 [.ref r, .int w, .int x, .int p, .int c, .long g] μ Q = Q (some (.int 1)) (m_push r (mo_wI (mo_wI μ 806 r (nI (u + 1))) 809 r (nI (g0 + 1))) t w x p c g) := by
  have hs' := hs
  unfold r_sh at hs'
  have h3 : (nI u = 12) = False := by rw [show (12 : Int32) = nI 12 from rfl, nI_inj (by omega) (by decide)]; simp; omega
  have hp := fun w x p c g Q => R_push (d := d) (μ := mo_wI (mo_wI μ 806 r (nI (u + 1))) 809 r (nI (g0 + 1))) (f := t) (r_sh_c hs rfl rfl rfl) (by simpa [mo_I_wI, mo_u] using ht) hlt w x p c g Q
  simp only [we96, en96, true_and, and_true, if_false, if_true, not_true_eq_false, not_false_eq_true, false_implies, true_implies, implies_true, forall_const, true_or, or_true, false_or, or_false, false_and, and_false, eq_self_iff_true, Option.toList_some, Option.toList_none, List.cons_append, List.nil_append, mo_cat_0, mo_cat_c, mo_ct_i, mo_ct_l, mo_ct_r, mo_ct_n, mo_ct_f, Nat.zero_le, Nat.reduceAdd, Nat.reduceLeDiff, Nat.reduceLT, Nat.reduceEqDiff, Nat.reduceSub, mo_rf_s, mo_rf_n, reduceCtorEq, mo_st, mo_st2, mo_lg_0, mo_lg_s, List.set_cons_zero, List.set_cons_succ, List.length_cons, List.length_nil, List.getElem?_cons_zero, List.getElem?_cons_succ, Nat.reduceBEq, Bool.false_eq_true, beq_self_eq_true, mo_ME, mo_u_a, mo_z_a, mo_y_a, Nat.add_left_cancel_iff, hs', nI_1, hu, hg, h3, hp]
theorem R_enterS {d r : Nat} {μ : mo_Mem}  (hs : r_sh r μ) (hu : mo_I μ 806 r = 12) (w x p c : Int32) (g : Int64) (Q : mo_P) : mo_M (d + 1) 96 [.ref r, .int w, .int x, .int p, .int c, .long g] μ Q = Q (some (.int 0)) (mo_wI μ 805 r 8) := by
  have hs' := hs
  unfold r_sh at hs'
  simp only [we96, en96, true_and, and_true, if_false, if_true, not_true_eq_false, not_false_eq_true, false_implies, true_implies, implies_true, forall_const, true_or, or_true, false_or, or_false, false_and, and_false, eq_self_iff_true, Option.toList_some, Option.toList_none, List.cons_append, List.nil_append, mo_cat_0, mo_cat_c, mo_ct_i, mo_ct_l, mo_ct_r, mo_ct_n, mo_ct_f, Nat.zero_le, Nat.reduceAdd, Nat.reduceLeDiff, Nat.reduceLT, Nat.reduceEqDiff, Nat.reduceSub, mo_rf_s, mo_rf_n, reduceCtorEq, mo_st, mo_st2, mo_lg_0, mo_lg_s, List.set_cons_zero, List.set_cons_succ, List.length_cons, List.length_nil, List.getElem?_cons_zero, List.getElem?_cons_succ, Nat.reduceBEq, Bool.false_eq_true, beq_self_eq_true, mo_ME, mo_u_a, mo_z_a, mo_y_a, Nat.add_left_cancel_iff, hs', nI_1, hu]
theorem R_fail {d r : Nat} {μ : mo_Mem} {k : Nat} (hs : r_sh r μ) (hk : mo_I μ 807 r = nI k) (hk4 : k < 4) (w : Int32) (Q : mo_P) : mo_M (d + 1) 97 [.ref r, .int w] μ Q = Q none (mo_wI (mo_wI μ 807 r (nI (k + 1))) 805 r w) := by
  have hs' := hs
  unfold r_sh at hs'
  have h3 : (nI (k + 1) = 5) = False := by rw [show (5 : Int32) = nI 5 from rfl, nI_inj (by omega) (by decide)]; simp; omega
  simp only [we97, en97, true_and, and_true, if_false, if_true, not_true_eq_false, not_false_eq_true, false_implies, true_implies, implies_true, forall_const, true_or, or_true, false_or, or_false, false_and, and_false, eq_self_iff_true, Option.toList_some, Option.toList_none, List.cons_append, List.nil_append, mo_cat_0, mo_cat_c, mo_ct_i, mo_ct_l, mo_ct_r, mo_ct_n, mo_ct_f, Nat.zero_le, Nat.reduceAdd, Nat.reduceLeDiff, Nat.reduceLT, Nat.reduceEqDiff, Nat.reduceSub, mo_rf_s, mo_rf_n, reduceCtorEq, mo_st, mo_st2, mo_lg_0, mo_lg_s, List.set_cons_zero, List.set_cons_succ, List.length_cons, List.length_nil, List.getElem?_cons_zero, List.getElem?_cons_succ, Nat.reduceBEq, Bool.false_eq_true, beq_self_eq_true, mo_ME, mo_u_a, mo_z_a, mo_y_a, Nat.add_left_cancel_iff, hs', nI_1, hk, h3]
theorem R_failS {d r : Nat} {μ : mo_Mem}  (hs : r_sh r μ) (hk : mo_I μ 807 r = nI 4) (w : Int32) (Q : mo_P) : mo_M (d + 1) 97 [.ref r, .int w] μ Q = Q none (mo_wI (mo_wI μ 807 r (nI 5)) 805 r 8) := by
  have hs' := hs
  unfold r_sh at hs'
  have h3 : (nI 5 = 5) = True := eq_true rfl
  simp only [we97, en97, true_and, and_true, if_false, if_true, not_true_eq_false, not_false_eq_true, false_implies, true_implies, implies_true, forall_const, true_or, or_true, false_or, or_false, false_and, and_false, eq_self_iff_true, Option.toList_some, Option.toList_none, List.cons_append, List.nil_append, mo_cat_0, mo_cat_c, mo_ct_i, mo_ct_l, mo_ct_r, mo_ct_n, mo_ct_f, Nat.zero_le, Nat.reduceAdd, Nat.reduceLeDiff, Nat.reduceLT, Nat.reduceEqDiff, Nat.reduceSub, mo_rf_s, mo_rf_n, reduceCtorEq, mo_st, mo_st2, mo_lg_0, mo_lg_s, List.set_cons_zero, List.set_cons_succ, List.length_cons, List.length_nil, List.getElem?_cons_zero, List.getElem?_cons_succ, Nat.reduceBEq, Bool.false_eq_true, beq_self_eq_true, mo_ME, mo_u_a, mo_z_a, mo_y_a, Nat.add_left_cancel_iff, hs', nI_1, hk, h3]
theorem R_end {d r : Nat} {μ : mo_Mem} {u n t : Nat} (hs : r_sh r μ) (hu : mo_I μ 806 r = nI (u + 1)) (hn : mo_I μ 810 r = nI n) (ht : mo_I μ 795 r = nI (t + 1)) (f : Int32) (Q : mo_P) : mo_M (d + 1) 101 [.ref r, .int f] μ Q = Q none (mo_wI (mo_wI (mo_wI μ 806 r (nI u)) 810 r (nI (n + 1))) 795 r (nI t)) := by
  have hs' := hs
  unfold r_sh at hs'
  simp only [we101, en101, true_and, and_true, if_false, if_true, not_true_eq_false, not_false_eq_true, false_implies, true_implies, implies_true, forall_const, true_or, or_true, false_or, or_false, false_and, and_false, eq_self_iff_true, Option.toList_some, Option.toList_none, List.cons_append, List.nil_append, mo_cat_0, mo_cat_c, mo_ct_i, mo_ct_l, mo_ct_r, mo_ct_n, mo_ct_f, Nat.zero_le, Nat.reduceAdd, Nat.reduceLeDiff, Nat.reduceLT, Nat.reduceEqDiff, Nat.reduceSub, mo_rf_s, mo_rf_n, reduceCtorEq, mo_st, mo_st2, mo_lg_0, mo_lg_s, List.set_cons_zero, List.set_cons_succ, List.length_cons, List.length_nil, List.getElem?_cons_zero, List.getElem?_cons_succ, Nat.reduceBEq, Bool.false_eq_true, beq_self_eq_true, mo_ME, mo_u_a, mo_z_a, mo_y_a, Nat.add_left_cancel_iff, hs', nI_1, hu, hn, ht, nI_pred]
theorem R_tell {d r : Nat} {μ : mo_Mem} {t : Nat} (hs : r_sh r μ) (ht : mo_I μ 795 r = nI (t + 1)) (v : Int64) (Q : mo_P) : mo_M (d + 1) 102 [.ref r, .long v] μ Q = Q none (mo_wI (mo_wL μ 804 r v) 795 r (nI t)) := by
  have hs' := hs
  unfold r_sh at hs'
  simp only [we102, en102, true_and, and_true, if_false, if_true, not_true_eq_false, not_false_eq_true, false_implies, true_implies, implies_true, forall_const, true_or, or_true, false_or, or_false, false_and, and_false, eq_self_iff_true, Option.toList_some, Option.toList_none, List.cons_append, List.nil_append, mo_cat_0, mo_cat_c, mo_ct_i, mo_ct_l, mo_ct_r, mo_ct_n, mo_ct_f, Nat.zero_le, Nat.reduceAdd, Nat.reduceLeDiff, Nat.reduceLT, Nat.reduceEqDiff, Nat.reduceSub, mo_rf_s, mo_rf_n, reduceCtorEq, mo_st, mo_st2, mo_lg_0, mo_lg_s, List.set_cons_zero, List.set_cons_succ, List.length_cons, List.length_nil, List.getElem?_cons_zero, List.getElem?_cons_succ, Nat.reduceBEq, Bool.false_eq_true, beq_self_eq_true, mo_ME, mo_u_a, mo_z_a, mo_y_a, Nat.add_left_cancel_iff, hs', nI_1, ht, nI_pred]
theorem R_begin {d r : Nat} {μ : mo_Mem}  (hs : r_sh r μ)  (Q : mo_P) : mo_M (d + 1) 111 [.ref r] μ Q = Q none (mo_wL (mo_wI (mo_wI (mo_wI (mo_wI (mo_wI (mo_wI (mo_wI (mo_wI μ 795 r 0) 805 r 0) 806 r 0) 807 r 0) 808 r 0) 809 r 0) 810 r 0) 811 r 0) 804 r 0) := by
  have hs' := hs
  unfold r_sh at hs'
  simp only [we111, en111, true_and, and_true, if_false, if_true, not_true_eq_false, not_false_eq_true, false_implies, true_implies, implies_true, forall_const, true_or, or_true, false_or, or_false, false_and, and_false, eq_self_iff_true, Option.toList_some, Option.toList_none, List.cons_append, List.nil_append, mo_cat_0, mo_cat_c, mo_ct_i, mo_ct_l, mo_ct_r, mo_ct_n, mo_ct_f, Nat.zero_le, Nat.reduceAdd, Nat.reduceLeDiff, Nat.reduceLT, Nat.reduceEqDiff, Nat.reduceSub, mo_rf_s, mo_rf_n, reduceCtorEq, mo_st, mo_st2, mo_lg_0, mo_lg_s, List.set_cons_zero, List.set_cons_succ, List.length_cons, List.length_nil, List.getElem?_cons_zero, List.getElem?_cons_succ, Nat.reduceBEq, Bool.false_eq_true, beq_self_eq_true, mo_ME, mo_u_a, mo_z_a, mo_y_a, Nat.add_left_cancel_iff, hs', nI_1]
theorem mo_go_wp {d : Nat} {ret : mo_P} {mi : Nat} (cut : List Nat) (n : Nat) {s : mo_St} (h : mo_wp (mo_M d) ret mi s) : mo_go (mo_M d) ret (mo_wp (mo_M d) ret mi) cut mi n s := by
  induction n generalizing s with
  | zero => exact h
  | succ n ih =>
    have hu := mo_wp_unfold h
    unfold mo_s1 at hu
    unfold mo_go
    cases hT : mo_T mi s.1 with
    | none => rw [hT] at hu; exact hu
    | some e =>
      rw [hT] at hu
      refine mo_den_mono (fun mi vs μ Q Q' q r => mo_M_post d mi vs μ Q Q' q r) (fun _ _ q => q) (fun t q => ?_) _ hu
      by_cases hc : t.1 ∈ cut
      · rw [if_pos hc]; exact q
      · rw [if_neg hc]; exact ih q
/-- a call opened -/
theorem mo_in (n d mi : Nat) (vs : List Value) (μ : mo_Mem) (Q : mo_P) : mo_M (d + 1) mi vs μ Q = ((mo_ol vs).length ≤ mo_ml mi ∧ mo_go (mo_M d) Q (mo_wp (mo_M d) Q mi) [] mi n (0, mo_ent (mo_ml mi) vs, [], μ)) :=
  propext ⟨fun h => ⟨h.1, mo_go_wp [] n h.2⟩, fun h => ⟨h.1, mo_wp_go [] n h.2⟩⟩
/-- nothing outside the reference's block has changed -/
def r_fc (r : Nat) (μ μ' : mo_Mem) : Prop := mo_C μ' = mo_C μ ∧ mo_N μ' = mo_N μ ∧ mo_R μ' = mo_R μ ∧ mo_AR μ' = mo_AR μ ∧ mo_X μ' = mo_X μ ∧ mo_S μ' = mo_S μ ∧ (∀ k a, a ≠ r → mo_I μ' k a = mo_I μ k a ∧ mo_L μ' k a = mo_L μ k a) ∧ (∀ a, (a < r ∨ r + 32 ≤ a) → mo_AI μ' a = mo_AI μ a ∧ mo_AL μ' a = mo_AL μ a)
theorem r_fc_rf (r : Nat) (μ : mo_Mem) : r_fc r μ μ := ⟨rfl, rfl, rfl, rfl, rfl, rfl, fun _ _ _ => ⟨rfl, rfl⟩, fun _ _ => ⟨rfl, rfl⟩⟩
theorem r_fc_tr {r : Nat} {μ μ' μ'' : mo_Mem} (h : r_fc r μ μ') (g : r_fc r μ' μ'') : r_fc r μ μ'' := by
  obtain ⟨a1, a2, a3, a4, a5, a6, a7, a8⟩ := h
  obtain ⟨b1, b2, b3, b4, b5, b6, b7, b8⟩ := g
  exact ⟨b1.trans a1, b2.trans a2, b3.trans a3, b4.trans a4, b5.trans a5, b6.trans a6, fun k a q => ⟨(b7 k a q).1.trans (a7 k a q).1, (b7 k a q).2.trans (a7 k a q).2⟩, fun a q => ⟨(b8 a q).1.trans (a8 a q).1, (b8 a q).2.trans (a8 a q).2⟩⟩
theorem r_fc_I {r : Nat} {μ μ' : mo_Mem} {k : Nat} {v : Int32} (h : r_fc r μ μ') : r_fc r μ (mo_wI μ' k r v) :=
  r_fc_tr h ⟨rfl, rfl, rfl, rfl, rfl, rfl, fun k' a q => ⟨by simp [mo_I_wI, mo_u, q], rfl⟩, fun _ _ => ⟨rfl, rfl⟩⟩
theorem r_fc_L {r : Nat} {μ μ' : mo_Mem} {k : Nat} {v : Int64} (h : r_fc r μ μ') : r_fc r μ (mo_wL μ' k r v) :=
  r_fc_tr h ⟨rfl, rfl, rfl, rfl, rfl, rfl, fun k' a q => ⟨rfl, by simp [mo_L_wL, mo_u, q]⟩, fun _ _ => ⟨rfl, rfl⟩⟩
theorem r_fc_AI {r k i : Nat} {μ μ' : mo_Mem} {v : Int32} (hk : k < 32) (h : r_fc r μ μ') : r_fc r μ (mo_wAI μ' (r + k) i v) :=
  r_fc_tr h ⟨rfl, rfl, rfl, rfl, rfl, rfl, fun _ _ _ => ⟨rfl, rfl⟩, fun a q => ⟨by have hne : a ≠ r + k := (by omega); funext j; simp [mo_AI_wAI, mo_u, hne], rfl⟩⟩
theorem r_fc_AL {r k i : Nat} {μ μ' : mo_Mem} {v : Int64} (hk : k < 32) (h : r_fc r μ μ') : r_fc r μ (mo_wAL μ' (r + k) i v) :=
  r_fc_tr h ⟨rfl, rfl, rfl, rfl, rfl, rfl, fun _ _ _ => ⟨rfl, rfl⟩, fun a q => ⟨rfl, by have hne : a ≠ r + k := (by omega); funext j; simp [mo_AL_wAL, mo_u, hne]⟩⟩
theorem r_fc_push {r f : Nat} {μ μ' : mo_Mem} {w x p c : Int32} {g : Int64} (h : r_fc r μ μ') : r_fc r μ (m_push r μ' f w x p c g) :=
  r_fc_I (r_fc_AI (by decide) (r_fc_AL (by decide) (r_fc_AI (by decide) (r_fc_AI (by decide) (r_fc_AI (by decide) (r_fc_AI (by decide) (r_fc_AI (by decide) h)))))))
def a_push (A : mo_A) (f : Nat) (w x p c : Int32) (g : Int64) : mo_A := a_I (a_I (a_L (a_I (a_I (a_I (a_I (a_I A 28 f w) 29 f x) 30 f 0) 32 f p) 31 f c) 34 f g) 35 f 0) 27 0 (nI (f + 1))
theorem r_vw_push (r f : Nat) (μ : mo_Mem) (w x p c : Int32) (g : Int64) : r_vw r (m_push r μ f w x p c g) = a_push (r_vw r μ) f w x p c g := by
  simp only [m_push, r_VW, a_push]
/-- the reference's step() takes A to A' -/
def r_S (r : Nat) (A A' : mo_A) : Prop := ∀ μ, r_at r μ A → ∀ (d : Nat) (Q : mo_P), (∀ μ', r_at r μ' A' → r_fc r μ μ' → Q none μ') → mo_M (d + 10) 99 [.ref r] μ Q
