/-- a new thing -/
def m_nt (x : Nat) (G : c_G) (μ : mo_Mem) (no c : Nat) : mo_Mem := mo_wI (mo_wAR (mo_wR (mo_new (mo_wR (mo_new (mo_wR (mo_wI (mo_new μ 10 0 5) 576 (mo_X μ) (nI no)) 577 (mo_X μ) (some (gT G c))) 21 (3 * (gV G c + 1)) (3 * (gV G c + 1))) 578 (mo_X μ) (some (mo_X μ + 1))) 21 (4 * (gV G c + 1)) (4 * (gV G c + 1))) 579 (mo_X μ) (some (mo_X μ + 1 + 1))) (x + 10) no (some (mo_X μ))) 324 (x + 1) (nI (no + 1))
theorem nt_k {x : Nat} {B : mo_A} {G : c_G} {μ : mo_Mem} (hs : c_st x B G μ) (no c : Nat) : cl_k x μ (m_nt x G μ no c) := by
  have hx := hs.2.1
  unfold m_nt
  exact cl_k_I (cl_k_AR (cl_k_R (cl_k_new (cl_k_R (cl_k_new (cl_k_R (cl_k_I (cl_k_new (cl_k_rf x μ) hx) (fun h => absurd h (Nat.lt_irrefl _)) (by omega)) (fun h => absurd h (Nat.lt_irrefl _))) hx) (fun h => absurd h (Nat.lt_irrefl _))) hx) (fun h => absurd h (Nat.lt_irrefl _))) (fun _ => Or.inl rfl)) (fun _ => by unfold cl_pk; omega) (by omega)
theorem L_build {x no d c : Nat} {B : mo_A} {G : c_G} {μ : mo_Mem} {Q : mo_P} (g c0 c1 c2 : Int64) (hs : c_st x B G μ) (hc : c < gnc G) (hn : mo_I μ 324 (x + 1) = nI no) (hn1 : no < 100) (h : mo_M (d + 8) 19 [.ref (x + 1), .ref (gT G c), .ref (mo_X μ), .long g, .long c0, .long c1, .long c2] (m_nt x G μ no c) (fun r μ' => r = none ∧ cl_sf x μ' ∧ mo_C μ' (mo_X μ) = 10 ∧ Q (some (.ref (mo_X μ))) (mo_wI μ' 580 (mo_X μ) (if mo_I μ' 517 (x + 9) = 0 then 1 else 0)))) : mo_M (d + 9) 18 [.ref (x + 1), .ref (gT G c), .long g, .long c0, .long c1, .long c2] μ Q := by
  have hs' := hs.1.1
  unfold cl_sf at hs'
  have hX := hs.2.1
  have ty := (hs.2.2.2.2.2.2.1 c hc).2
  have hV := hs.2.2.2.2.2.2.2.2.2.2 c hc
  have hTX := ty.2.2.2.2.2.2.2.2.2.2.2.2.2.2.2.2.2.1
  obtain ⟨y1, y2, y3, y4, -⟩ := ty
  have g1 : (nI no < Int32.ofNat 100) = True := i_lt (b := 100) hn1 (by decide)
  have g3 : vp_in (nI no) 100 := vp_in_nI (by omega) (by decide)
  have g4 : (nI no).toNatClampNeg = no := nI_clamp (by omega)
  have p1 : (x + 1 = mo_X μ) = False := eq_false (by omega)
  have p2 : (gT G c = mo_X μ) = False := eq_false (by omega)
  have p3 : (gT G c = mo_X μ + 1) = False := eq_false (by omega)
  have p4 : (mo_X μ = mo_X μ + 1) = False := eq_false (by omega)
  have p5 : (mo_X μ = mo_X μ + 1 + 1) = False := eq_false (by omega)
  have p6 : (x = mo_X μ + 1) = False := eq_false (by omega)
  have p7 : (x = mo_X μ) = False := eq_false (by omega)
  have p8 : (x + 10 = mo_X μ) = False := eq_false (by omega)
  have p9 : (x + 9 = mo_X μ) = False := eq_false (by omega)
  have p10 : (x + 8 = mo_X μ) = False := eq_false (by omega)
  have p11 : (gT G c = mo_X μ + 1 + 1) = False := eq_false (by omega)
  have q1 : (nI (3 * (gV G c + 1)) < 0) = False := i_ng (by omega)
  have q2 : (nI (3 * (gV G c + 1))).toNatClampNeg = 3 * (gV G c + 1) := nI_clamp (by omega)
  have q3 : (nI (4 * (gV G c + 1)) < 0) = False := i_ng (by omega)
  have q4 : (nI (4 * (gV G c + 1))).toNatClampNeg = 4 * (gV G c + 1) := nI_clamp (by omega)
  have q5 : (3 * (gV G c + 1) ≤ 5000) = True := eq_true (by omega)
  have q6 : (4 * (gV G c + 1) ≤ 5000) = True := eq_true (by omega)
  simp only [we18_0, we18_1, we16, we52, en18, en16, en52, true_and, and_true, if_false, if_true, not_true_eq_false, not_false_eq_true, false_implies, true_implies, implies_true, forall_const, true_or, or_true, false_or, or_false, false_and, and_false, eq_self_iff_true, Option.toList_some, Option.toList_none, List.cons_append, List.nil_append, mo_cat_0, mo_cat_c, mo_ct_i, mo_ct_l, mo_ct_r, mo_ct_n, mo_ct_f, Nat.zero_le, Nat.reduceAdd, Nat.reduceLeDiff, Nat.reduceLT, Nat.reduceEqDiff, Nat.reduceSub, mo_rf_s, mo_rf_n, reduceCtorEq, mo_st, mo_st2, mo_lg_0, mo_lg_s, List.set_cons_zero, List.set_cons_succ, List.length_cons, List.length_nil, List.getElem?_cons_zero, List.getElem?_cons_succ, Nat.reduceBEq, Bool.false_eq_true, beq_self_eq_true, hs', y1, y4, hn, g1, g3, g4, nI_1, iM3, iM4, mo_LC, p1, p2, p3, p4, p5, p6, p7, p8, p9, p10, p11, q1, q2, q3, q4, q5, q6, mo_ME, mo_u_a, mo_z_a, mo_y_a, Nat.add_left_cancel_iff]
  refine mo_M_post _ _ _ _ _ _ ?_ h
  rintro r μ' ⟨rfl, hs2, ht, hq⟩
  have k0 := fun Q => L_failed (d := d + 7) hs2 (t := mo_I μ' 517 (x + 9)) rfl Q
  unfold cl_sf at hs2
  by_cases hf : mo_I μ' 517 (x + 9) = 0
  · rw [if_pos hf] at hq
    simp only [we18_0, we18_1, en18, true_and, and_true, if_false, if_true, not_true_eq_false, not_false_eq_true, false_implies, true_implies, implies_true, forall_const, true_or, or_true, false_or, or_false, false_and, and_false, eq_self_iff_true, Option.toList_some, Option.toList_none, List.cons_append, List.nil_append, mo_cat_0, mo_cat_c, mo_ct_i, mo_ct_l, mo_ct_r, mo_ct_n, mo_ct_f, Nat.zero_le, Nat.reduceAdd, Nat.reduceLeDiff, Nat.reduceLT, Nat.reduceEqDiff, Nat.reduceSub, mo_rf_s, mo_rf_n, reduceCtorEq, mo_st, mo_st2, mo_lg_0, mo_lg_s, List.set_cons_zero, List.set_cons_succ, List.length_cons, List.length_nil, List.getElem?_cons_zero, List.getElem?_cons_succ, Nat.reduceBEq, Bool.false_eq_true, beq_self_eq_true, hs2, ht, k0, hf, mo_LC, mo_ME, mo_u_a, mo_z_a, mo_y_a, Nat.add_left_cancel_iff]
    exact hq
  · rw [if_neg hf] at hq
    simp only [we18_0, we18_1, en18, true_and, and_true, if_false, if_true, not_true_eq_false, not_false_eq_true, false_implies, true_implies, implies_true, forall_const, true_or, or_true, false_or, or_false, false_and, and_false, eq_self_iff_true, Option.toList_some, Option.toList_none, List.cons_append, List.nil_append, mo_cat_0, mo_cat_c, mo_ct_i, mo_ct_l, mo_ct_r, mo_ct_n, mo_ct_f, Nat.zero_le, Nat.reduceAdd, Nat.reduceLeDiff, Nat.reduceLT, Nat.reduceEqDiff, Nat.reduceSub, mo_rf_s, mo_rf_n, reduceCtorEq, mo_st, mo_st2, mo_lg_0, mo_lg_s, List.set_cons_zero, List.set_cons_succ, List.length_cons, List.length_nil, List.getElem?_cons_zero, List.getElem?_cons_succ, Nat.reduceBEq, Bool.false_eq_true, beq_self_eq_true, hs2, ht, k0, hf, mo_LC, mo_ME, mo_u_a, mo_z_a, mo_y_a, Nat.add_left_cancel_iff]
    exact hq
theorem L_buildF {x d : Nat} {G : c_G} {μ : mo_Mem} {Q : mo_P} {c : Nat} (g c0 c1 c2 : Int64) (hs : cl_sf x μ) (hn : mo_I μ 324 (x + 1) = nI 100) : mo_M (d + 3) 18 [.ref (x + 1), .ref (gT G c), .long g, .long c0, .long c1, .long c2] μ Q = Q (some .null) (mo_wI μ 517 (x + 9) 8) := by
  have hs' := hs
  unfold cl_sf at hs'
  have g1 : (nI 100 < Int32.ofNat 100) = False := i_nl (a := 100) (b := 100) (Nat.le_refl _) (by decide)
  have k1 := fun Q => L_fail8 (d := d + 1) hs Q
  simp only [we18_0, we18_1, we16, en18, en16, true_and, and_true, if_false, if_true, not_true_eq_false, not_false_eq_true, false_implies, true_implies, implies_true, forall_const, true_or, or_true, false_or, or_false, false_and, and_false, eq_self_iff_true, Option.toList_some, Option.toList_none, List.cons_append, List.nil_append, mo_cat_0, mo_cat_c, mo_ct_i, mo_ct_l, mo_ct_r, mo_ct_n, mo_ct_f, Nat.zero_le, Nat.reduceAdd, Nat.reduceLeDiff, Nat.reduceLT, Nat.reduceEqDiff, Nat.reduceSub, mo_rf_s, mo_rf_n, reduceCtorEq, mo_st, mo_st2, mo_lg_0, mo_lg_s, List.set_cons_zero, List.set_cons_succ, List.length_cons, List.length_nil, List.getElem?_cons_zero, List.getElem?_cons_succ, Nat.reduceBEq, Bool.false_eq_true, beq_self_eq_true, hs', hn, g1, k1, mo_LC, mo_ME, mo_u_a, mo_z_a, mo_y_a, Nat.add_left_cancel_iff]
theorem dy_nt {x u P F b q no F' c : Nat} {B : mo_A} {G : c_G} {O : Nat → Nat} {μ : mo_Mem} {A A' : mo_A} (hs : c_st x B G μ) (h : c_dy x B G u P F μ A O no b q) (hc : c < gnc G) (hno : no < 100) (hx : a_x (17 :: 18 :: 19 :: a_sk) A A') (h17 : A'.1 17 0 = nI (no + 1)) (h18 : ∀ i, A'.1 18 i = if i = no then nI c else A.1 18 i) (h19 : ∀ i, A'.1 19 i = if i = no then 0 else A.1 19 i) (hF : A'.1 27 0 = nI F') : c_dy x B G u P F' (m_nt x G μ no c) A' (fun i => if i = no then mo_X μ else O i) (no + 1) b q := by
  obtain ⟨d1, d2, d3, d4, d5, d6, d7, d8, d9, d10, d11, d12, d13, d14, d15, d16, d17, d18, d19, d20, d21, d22, d23, d24, d25⟩ := h
  have e : ∀ j, j ∉ 17 :: 18 :: 19 :: a_sk → A'.1 j = A.1 j ∧ A'.2 j = A.2 j := hx
  have i37 := (e 37 (by decide)).1
  have hX := hs.2.1
  have kk := nt_k hs no c
  have mi : ∀ k a, a < mo_X μ → k ≠ 324 → mo_I (m_nt x G μ no c) k a = mo_I μ k a := fun k a ha hk => by
    simp only [m_nt, mo_ME, mo_u_a, mo_z_a]
    rw [if_neg (fun q => hk q.1), if_neg (by omega), if_neg (by omega), if_neg (by omega), if_neg (by omega)]
  have mal : ∀ a, a < mo_X μ → mo_AL (m_nt x G μ no c) a = mo_AL μ a := fun a ha => by
    funext i
    simp only [m_nt, mo_ME, mo_u_a, mo_y_a]
    rw [if_neg (by omega), if_neg (by omega), if_neg (by omega)]
  have mai : ∀ a, a < mo_X μ → mo_AI (m_nt x G μ no c) a = mo_AI μ a := fun a ha => by
    funext i
    simp only [m_nt, mo_ME, mo_u_a, mo_y_a]
    rw [if_neg (by omega), if_neg (by omega), if_neg (by omega)]
  have mar : ∀ i, mo_AR (m_nt x G μ no c) (x + 10) i = if i = no then some (mo_X μ) else mo_AR μ (x + 10) i := fun i => by
    simp only [m_nt, mo_ME, mo_u_a, mo_y_a, true_and]
    by_cases q : i = no
    · rw [if_pos q, if_pos q]
    · rw [if_neg q, if_neg q, if_neg (by omega), if_neg (by omega), if_neg (by omega)]
  refine ⟨fun j hj => ?_, by simp only [m_nt, mo_ME, mo_u_a, and_self, if_true], h17, by omega, (mi _ _ (by omega) (by decide)).trans d5, by rw [(e 38 (by decide)).1]; exact d6, d7, (mi _ _ (by omega) (by decide)).trans d8, d9, hF, (mi _ _ (by omega) (by decide)).trans d11, by rw [(e 40 (by decide)).1]; exact d12, d13, by rw [(e 41 (by decide)).1, mi _ _ (by omega) (by decide)]; exact d14, by rw [(e 42 (by decide)).1, mi _ _ (by omega) (by decide)]; exact d15, by rw [(e 43 (by decide)).1, mi _ _ (by omega) (by decide)]; exact d16, (mi _ _ (by omega) (by decide)).trans d17, by rw [(e 39 (by decide)).1]; exact d18, d19, by rw [i37, mi _ _ (by omega) (by decide)]; exact d20, by rw [i37]; exact d21, by rw [(e 26 (by decide)).2, kk.2.2.2.2.2.2.2.2]; exact d22, ?_, fun o' ho' => ?_, ?_⟩
  · have e1 : j ∉ 17 :: 18 :: 19 :: a_sk := by simp [a_sk]; omega
    exact ⟨(e j e1).1.trans (d1 j hj).1, (e j e1).2.trans (d1 j hj).2⟩
  · exact lg_k d23 (mi _ _ (by omega) (by decide)) (mal _ (by omega)) (mai _ (by omega)) (mai _ (by omega)) (e 22 (by decide)).1 (e 23 (by decide)).2 (e 24 (by decide)).1 (e 25 (by decide)).1
  · by_cases hoo : o' = no
    · subst hoo
      have e0 : (fun i => if i = o' then mo_X μ else O i) o' = mo_X μ := by show (if o' = o' then mo_X μ else O o') = _; rw [if_pos rfl]
      refine ⟨c, hc, by rw [h18, if_pos rfl], ?_, ?_, ?_, ?_, ?_, ?_, ?_, ?_, ?_, ?_, ?_, ?_, ?_, fun h' hb' => ⟨fun k hk => ?_, fun k hk => ?_⟩⟩
      · rw [e0, mar, if_pos rfl]
      · rw [e0]; exact hX
      · rw [e0]; simp only [m_nt, mo_ME]; omega
      · rw [e0]; simp only [m_nt, mo_ME, mo_v]; rw [if_neg (by omega), if_neg (by omega), if_pos trivial]
      · rw [e0]; simp only [m_nt, mo_ME, mo_u_a, mo_z_a, Nat.reduceEqDiff, false_and, if_false]; rw [if_neg (by omega), if_neg (by omega), if_pos ⟨trivial, trivial⟩]
      · rw [e0]; simp only [m_nt, mo_ME, mo_u_a, mo_z_a, Nat.reduceEqDiff, false_and, if_false, and_self, if_true]; rw [if_neg (by omega), if_neg (by omega)]
      · rw [e0]; simp only [m_nt, mo_ME, mo_u_a, mo_z_a, Nat.reduceEqDiff, false_and, if_false, and_self, if_true]; rw [if_neg (by omega)]
      · rw [e0]; simp only [m_nt, mo_ME, mo_u_a, mo_z_a, Nat.reduceEqDiff, false_and, if_false, and_self, if_true]
      · rw [e0]; simp only [m_nt, mo_ME, mo_v]; rw [if_neg (by omega), if_pos trivial]
      · rw [e0]; simp only [m_nt, mo_ME, mo_v]; rw [if_neg (by omega), if_pos trivial]
      · rw [e0]; simp only [m_nt, mo_ME, mo_v]; rw [if_pos trivial]
      · rw [e0]; simp only [m_nt, mo_ME, mo_v]; rw [if_pos trivial]
      · rw [e0, h19, if_pos rfl]; simp only [m_nt, mo_ME, mo_u_a, mo_z_a, Nat.reduceEqDiff, false_and, if_false]; rw [if_neg (by omega), if_neg (by omega), if_pos trivial]; decide
      · rw [e0, (e 20 (by decide)).2]
        have hbl := (bel_V hs.2.2.1.2.1 hs.2.2.1.2.2.2.2.1 hs.2.2.2.2.2.2.2.2.2.1 8 c (by have := hs.2.2.1.2.1; omega) hc hb').1
        have := (d25 o' (Nat.le_refl _) hno).1 (3 * h' + k) (by have := hs.2.2.1.2.1; omega)
        rw [Nat.add_assoc, this]
        simp only [m_nt, mo_ME, mo_y_a, mo_u_a]
        rw [if_neg (by omega), if_pos trivial]
      · rw [e0, (e 21 (by decide)).2]
        have hbl := (bel_V hs.2.2.1.2.1 hs.2.2.1.2.2.2.2.1 hs.2.2.2.2.2.2.2.2.2.1 8 c (by have := hs.2.2.1.2.1; omega) hc hb').1
        have := (d25 o' (Nat.le_refl _) hno).2 (4 * h' + k) (by have := hs.2.2.1.2.1; omega)
        rw [Nat.add_assoc, this]
        simp only [m_nt, mo_ME, mo_y_a, mo_u_a]
        rw [if_pos trivial]
    · obtain ⟨c', t'⟩ := d24 o' (by omega)
      have e0 : (fun i => if i = no then mo_X μ else O i) o' = O o' := by show (if o' = no then mo_X μ else O o') = _; rw [if_neg hoo]
      have t5 := t'.2.2.2.2.1
      have := tc_k (A' := A') t' kk (by rw [mar, if_neg hoo]) (mi _ _ (by omega) (by decide)) (mal _ (by omega)) (mal _ (by omega)) (by rw [h18, if_neg hoo]) (by rw [h19, if_neg hoo]) (e 20 (by decide)).2 (e 21 (by decide)).2
      refine ⟨c', ?_⟩
      unfold c_tc at this ⊢
      rw [e0]
      exact this
  · intro o' h1 h2
    rw [(e 20 (by decide)).2, (e 21 (by decide)).2]
    exact d25 o' (by omega) h2
theorem kp_nt {x u P F : Nat} {B : mo_A} {G : c_G} {μ μ' : mo_Mem} {A An A' : mo_A} {O O' : Nat → Nat} {no no' b b' c : Nat} (hs : c_st x B G μ) (hc : c < gnc G) (hu : u ≤ 12) (h : c_kp x u P F (m_nt x G μ no c) An (fun i => if i = no then mo_X μ else O i) (no + 1) b μ' A' O' no' b') (hA : a_u F A An) (hx : a_x (17 :: 18 :: 19 :: a_sk) A An) (h18 : ∀ i, i < no → An.1 18 i = A.1 18 i) (h19 : ∀ i, i < no → An.1 19 i = A.1 19 i) (hst : A'.1 19 no = 1 ∨ A'.1 19 no = 2) : c_kp x u P F μ A O no b μ' A' O' no' b' := by
  obtain ⟨a1, a2, a3, a4, a5, a6, a7, a8, a9, a10, a11⟩ := h
  have hX := hs.2.1
  have hV := hs.2.2.2.2.2.2.2.2.2.2 c hc
  refine ⟨cl_k_tr (nt_k hs no c) a1, by omega, a3, fun o ho => ?_, fun o h1 h2 => ?_, fun i hi => ?_, fun j hj => ?_, au_tr hA a8, ?_, ?_, by rw [a11, (hx 26 (by decide)).2]⟩
  · obtain ⟨c1, c2, c3⟩ := a4 o (by omega)
    refine ⟨?_, c2.trans (h18 o ho), c3.trans (h19 o ho)⟩
    rw [c1]
    show (if o = no then mo_X μ else O o) = O o
    rw [if_neg (by omega)]
  · by_cases hoo : o = no
    · subst hoo; exact hst
    · exact a5 o (by omega) h2
  · obtain ⟨c1, c2, c3⟩ := a6 i hi
    rw [c1, c2, c3]
    simp only [m_nt, mo_ME, mo_u_a, mo_z_a, Nat.reduceEqDiff, false_and, if_false]
    rw [if_neg (by omega), if_neg (by omega), if_neg (by omega), if_neg (by omega), if_neg (by omega), if_neg (by omega), if_neg (by omega), if_neg (by omega), if_neg (by omega)]
    exact ⟨rfl, rfl, rfl⟩
  · obtain ⟨c1, c2, c3⟩ := a7 j hj
    rw [c1, c2, c3]
    simp only [m_nt, mo_ME, mo_u_a, mo_y_a, Nat.add_left_cancel_iff, Nat.reduceEqDiff, false_and, if_false]
    rw [if_neg (by omega), if_neg (by omega), if_neg (by omega), if_neg (by omega), if_neg (by omega), if_neg (by omega), if_neg (by omega), if_neg (by omega), if_neg (by omega)]
    exact ⟨rfl, rfl, rfl⟩
  · have e : mo_X (m_nt x G μ no c) = mo_X μ + 3 := by simp only [m_nt, mo_ME]
    rw [e] at a9
    omega
  · have e : mo_S (m_nt x G μ no c) = mo_S μ + 5 + 3 * (gV G c + 1) + 4 * (gV G c + 1) := by simp only [m_nt, mo_ME]
    rw [e] at a10
    omega
