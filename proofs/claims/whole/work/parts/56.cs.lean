theorem a_I_c {A : mo_A} {j i j' i' : Nat} {v v' : Int32} (h : j ≠ j') : a_I (a_I A j i v) j' i' v' = a_I (a_I A j' i' v') j i v := by
  refine Prod.ext (funext fun a => funext fun b => ?_) rfl
  rw [a_I_1, a_I_1, a_I_1, a_I_1]
  by_cases q : a = j' ∧ b = i'
  · rw [if_pos q, if_pos q, if_neg (fun z => h (z.1.symm.trans q.1))]
  · rw [if_neg q, if_neg q]
theorem nk_b {X : mo_A} {u F p o g0 n : Nat} {g c0 c1 c2 : Int64} (hn : n ≤ 3) (hg : X.1 41 0 = nI g0) : a_nk X u F p o g 1 n c0 c1 c2 (a_cs (a_I (a_push (a_I (a_I X 38 0 (nI (u + 1))) 41 0 (nI (g0 + 1))) F 1 (nI (5 * p)) (nI o) (nI p) g) 35 F 1) o p n c0 c1 c2) := by
  obtain ⟨p1, p2, p3, p4, p5, p6, p7, p8⟩ := push_rd (a_I (a_I X 38 0 (nI (u + 1))) 41 0 (nI (g0 + 1))) F 1 (nI (5 * p)) (nI o) (nI p) g
  have hx : a_x (20 :: 38 :: 41 :: a_sk) X (a_I (a_push (a_I (a_I X 38 0 (nI (u + 1))) 41 0 (nI (g0 + 1))) F 1 (nI (5 * p)) (nI o) (nI p) g) 35 F 1) := ax_I (by decide) (ax_push (by decide) (ax_I (by decide) (ax_I (by decide) (ax_rf _ _))))
  have hu : a_u F X (a_I (a_push (a_I (a_I X 38 0 (nI (u + 1))) 41 0 (nI (g0 + 1))) F 1 (nI (5 * p)) (nI o) (nI p) g) 35 F 1) := au_I (by omega) (au_push (Nat.le_refl _) (au_I (by omega) (au_I (by omega) (au_rf _ _))))
  have e41 : (a_I (a_push (a_I (a_I X 38 0 (nI (u + 1))) 41 0 (nI (g0 + 1))) F 1 (nI (5 * p)) (nI o) (nI p) g) 35 F 1).1 41 0 = nI (g0 + 1) := by simp only [a_push, a_I_1, a_I_2, a_L_1, a_L_2, Nat.reduceEqDiff, false_and, and_self, if_true, if_false]
  have e38 : (a_I (a_push (a_I (a_I X 38 0 (nI (u + 1))) 41 0 (nI (g0 + 1))) F 1 (nI (5 * p)) (nI o) (nI p) g) 35 F 1).1 38 0 = nI (u + 1) := by simp only [a_push, a_I_1, a_I_2, a_L_1, a_L_2, Nat.reduceEqDiff, false_and, and_self, if_true, if_false]
  have e20 : (a_I (a_push (a_I (a_I X 38 0 (nI (u + 1))) 41 0 (nI (g0 + 1))) F 1 (nI (5 * p)) (nI o) (nI p) g) 35 F 1).2 20 = X.2 20 := by funext i; simp only [a_push, a_I_1, a_I_2, a_L_1, a_L_2, Nat.reduceEqDiff, false_and, and_self, if_true, if_false]
  have e21 : (a_I (a_push (a_I (a_I X 38 0 (nI (u + 1))) 41 0 (nI (g0 + 1))) F 1 (nI (5 * p)) (nI o) (nI p) g) 35 F 1).1 20 = X.1 20 := by funext i; simp only [a_push, a_I_1, a_I_2, a_L_1, a_L_2, Nat.reduceEqDiff, false_and, and_self, if_true, if_false]
  have p1' : (a_I (a_push (a_I (a_I X 38 0 (nI (u + 1))) 41 0 (nI (g0 + 1))) F 1 (nI (5 * p)) (nI o) (nI p) g) 35 F 1).1 28 F = 1 := by rw [a_I_n (by decide)]; exact p1
  have p2' : (a_I (a_push (a_I (a_I X 38 0 (nI (u + 1))) 41 0 (nI (g0 + 1))) F 1 (nI (5 * p)) (nI o) (nI p) g) 35 F 1).1 29 F = nI (5 * p) := by rw [a_I_n (by decide)]; exact p2
  have p3' : (a_I (a_push (a_I (a_I X 38 0 (nI (u + 1))) 41 0 (nI (g0 + 1))) F 1 (nI (5 * p)) (nI o) (nI p) g) 35 F 1).1 30 F = 0 := by rw [a_I_n (by decide)]; exact p3
  have p4' : (a_I (a_push (a_I (a_I X 38 0 (nI (u + 1))) 41 0 (nI (g0 + 1))) F 1 (nI (5 * p)) (nI o) (nI p) g) 35 F 1).1 31 F = nI p := by rw [a_I_n (by decide)]; exact p4
  have p5' : (a_I (a_push (a_I (a_I X 38 0 (nI (u + 1))) 41 0 (nI (g0 + 1))) F 1 (nI (5 * p)) (nI o) (nI p) g) 35 F 1).1 32 F = nI o := by rw [a_I_n (by decide)]; exact p5
  have p6' : (a_I (a_push (a_I (a_I X 38 0 (nI (u + 1))) 41 0 (nI (g0 + 1))) F 1 (nI (5 * p)) (nI o) (nI p) g) 35 F 1).2 34 F = g := p6
  have p7' : (a_I (a_push (a_I (a_I X 38 0 (nI (u + 1))) 41 0 (nI (g0 + 1))) F 1 (nI (5 * p)) (nI o) (nI p) g) 35 F 1).1 35 F = 1 := by rw [a_I_1, if_pos ⟨rfl, rfl⟩]
  have p8' : (a_I (a_push (a_I (a_I X 38 0 (nI (u + 1))) 41 0 (nI (g0 + 1))) F 1 (nI (5 * p)) (nI o) (nI p) g) 35 F 1).1 27 0 = nI (F + 1) := by rw [a_I_n (by decide)]; exact p8
  generalize a_I (a_push (a_I (a_I X 38 0 (nI (u + 1))) 41 0 (nI (g0 + 1))) F 1 (nI (5 * p)) (nI o) (nI p) g) 35 F 1 = Y at *
  have h1 := cs_1 Y o p n c0 c1 c2
  have h2 : ∀ j, j ≠ 20 → (a_cs Y o p n c0 c1 c2).2 j = Y.2 j := fun j hj => cs_2 Y o p n c0 c1 c2 hj
  refine ⟨⟨g0, hg, by rw [h1]; exact e41⟩, ax_20 (by decide) hx h1 h2, au_20 hu h1 h2, by rw [h1]; exact p8', by rw [h1]; exact e38, by rw [h1]; exact p1', by rw [h1]; exact p2', by rw [h1]; exact p3', by rw [h1]; exact p4', by rw [h1]; exact p5', by rw [h2 34 (by decide)]; exact p6', by rw [h1]; exact p7', fun i => ?_, by rw [h1]; exact e21⟩
  rw [cs_3 Y o p hn]
  unfold a_c3
  rw [e20]
theorem nk_33 {X Y : mo_A} {u f p o n : Nat} {g c0 c1 c2 : Int64} {w z : Int32} (h : a_nk X u (f + 1) p o g w n c0 c1 c2 Y) : a_nk (a_I X 33 f z) u (f + 1) p o g w n c0 c1 c2 (a_I Y 33 f z) := by
  obtain ⟨⟨g0, h1, h2⟩, h3, h4, h5, h6, h7, h8, h9, h10, h11, h12, h13, h14, h15⟩ := h
  refine ⟨⟨g0, by rw [a_I_n (by decide)]; exact h1, by rw [a_I_n (by decide)]; exact h2⟩, fun j hj => ?_, fun i hi => ?_, by rw [a_I_n (by decide)]; exact h5, by rw [a_I_n (by decide)]; exact h6, by rw [a_I_n (by decide)]; exact h7, by rw [a_I_n (by decide)]; exact h8, by rw [a_I_n (by decide)]; exact h9, by rw [a_I_n (by decide)]; exact h10, by rw [a_I_n (by decide)]; exact h11, h12, by rw [a_I_n (by decide)]; exact h13, h14, ?_⟩
  · refine ⟨funext fun i => ?_, (h3 j hj).2⟩
    have hne : j ≠ 33 := fun q => hj (by rw [q]; decide)
    rw [a_I_n hne, a_I_n hne, (h3 j hj).1]
  · refine ⟨fun j q1 q2 => ⟨?_, ((h4 i hi).1 j q1 q2).2⟩, (h4 i hi).2⟩
    rw [a_I_1, a_I_1, ((h4 i hi).1 j q1 q2).1]
  · funext i
    rw [a_I_n (by decide), a_I_n (by decide), h15]
theorem S_m9U {r f e c p u g0 n : Nat} {A : mo_A} (hf : A.1 27 0 = nI (f + 1)) (hlt : f < 399) (h0 : A.1 37 0 = 0) (hk : A.1 28 f = 0) (he : A.1 29 f = nI e) (hel : e < 60) (hsrt : A.1 1 e = 9) (hst : A.1 30 f = 2) (hn : A.2 2 e = lN c) (hcl : c < 8) (hob : A.1 17 0 = nI p) (hpl : p < 100) (hu : A.1 38 0 = nI u) (hu2 : u < 12) (hg : A.1 41 0 = nI g0) (hcp7 : A.1 7 c = nI n) (hn3 : n ≤ 3) : r_S r A (a_I (a_cs (a_I (a_push (a_I (a_I (a_I (a_I (a_I (a_I A 30 f 3) 17 0 (nI (p + 1))) 18 p (nI c)) 19 p 0) 38 0 (nI (u + 1))) 41 0 (nI (g0 + 1))) (f + 1) 1 (nI (5 * c)) (nI p) (nI c) (A.2 44 f)) 35 (f + 1) 1) p c n (A.2 36 0) 0 0) 33 f (nI p)) := by
  have h1 : n = 0 ∨ n = 1 ∨ n = 2 ∨ n = 3 := by omega
  rcases h1 with rfl | rfl | rfl | rfl
  · exact S_m9_0 hf hlt h0 hk he hel hsrt hst hn hcl hob hpl hu hu2 hg hcp7
  · exact S_m9_1 hf hlt h0 hk he hel hsrt hst hn hcl hob hpl hu hu2 hg hcp7
  · exact S_m9_2 hf hlt h0 hk he hel hsrt hst hn hcl hob hpl hu hu2 hg hcp7
  · exact S_m9_3 hf hlt h0 hk he hel hsrt hst hn hcl hob hpl hu hu2 hg hcp7
theorem L_fof0 {d x o c h nk : Nat} {B : mo_A} {G : c_G} {O : Nat → Nat} {μ : mo_Mem} {A : mo_A} (hs : c_st x B G μ) (ht : c_tc x B G O μ A o c) (hh : h < gnc G) (hb : a_bel B 8 c h = true) (hnk : B.1 8 h = nI nk) (hnl : nk ≤ 4) (Q : mo_P) : mo_M (d + 3) 56 [.ref (O o), .ref (gT G h), .int 0] μ Q = Q (some (.long (if 0 < nk then A.2 21 (32 * o + 4 * h) else 0))) μ := by
  by_cases q : 0 < nk
  · rw [if_pos q]
    have := L_fofT (d := d) (k := 0) hs ht hh hb hnk (by omega) q Q
    rw [(ht.2.2.2.2.2.2.2.2.2.2.2.2.2.2.2 h hb).2 0 (by decide)] at this
    exact this
  · rw [if_neg q]
    exact L_fofF (d := d) (k := 0) hs ht hh hnk (by omega) (by decide) (by omega) Q
theorem fm_all {x u d : Nat} {B : mo_A} {G : c_G} (hRK : u < 12 → c_RK x B G u (d + 8)) : c_FM x B G u (d + 10) := by
  intro μ A O no P F b q e c Q hs hd h0 he hB9 hBn hc h28 h29 h30 hF hpost
  have hs' := hs.1.1
  unfold cl_sf at hs'
  have hd0 := hd
  obtain ⟨d1, d2, d3, d4, d5, d6, d7, d8, d9, d10, d11, d12, d13, d14, d15, d16, d17, d18, d19, d20, d21, d22, d23, d24, d25⟩ := hd0
  have hn8 := hs.2.2.1.2.1
  have he60 : e < 60 := Nat.lt_of_lt_of_le he hs.2.2.1.1
  have hF3 : F < 399 := by omega
  have hA1 : A.1 1 e = 9 := by rw [(d1 1 (by decide)).1]; exact hB9
  have hA2 : A.2 2 e = lN c := by rw [(d1 2 (by decide)).2]; exact hBn
  have y1 := (hs.2.2.2.2.2.2.1 c hc).2.1
  obtain ⟨⟨np, np1, np2⟩, ⟨nf, nf1, nf2⟩, -⟩ := hs.2.2.1.2.2.2.2.2.2.1 c hc
  by_cases hno : no < 100
  · simp only [we35, en35, true_and, and_true, if_false, if_true, not_true_eq_false, not_false_eq_true, false_implies, true_implies, implies_true, forall_const, true_or, or_true, false_or, or_false, false_and, and_false, eq_self_iff_true, Option.toList_some, Option.toList_none, List.cons_append, List.nil_append, mo_cat_0, mo_cat_c, mo_ct_i, mo_ct_l, mo_ct_r, mo_ct_n, mo_ct_f, Nat.zero_le, Nat.reduceAdd, Nat.reduceLeDiff, Nat.reduceLT, Nat.reduceEqDiff, Nat.reduceSub, mo_rf_s, mo_rf_n, reduceCtorEq, mo_st, mo_st2, mo_lg_0, mo_lg_s, List.set_cons_zero, List.set_cons_succ, List.length_cons, List.length_nil, List.getElem?_cons_zero, List.getElem?_cons_succ, Nat.reduceBEq, Bool.false_eq_true, beq_self_eq_true, hs', y1, mo_ME, mo_u_a, mo_z_a, mo_y_a, Nat.add_left_cancel_iff]
    refine L_build (d := d) _ _ _ _ hs hc d2 hno ?_
    have hx0 : a_x (17 :: 18 :: 19 :: a_sk) A (a_I (a_I (a_I (a_I A 30 F 3) 17 0 (nI (no + 1))) 18 no (nI c)) 19 no 0) := ax_I (by decide) (ax_I (by decide) (ax_I (by decide) (ax_I (by decide) (ax_rf _ _))))
    have hu0 : a_u F A (a_I (a_I (a_I (a_I A 30 F 3) 17 0 (nI (no + 1))) 18 no (nI c)) 19 no 0) := au_I (by omega) (au_I (by omega) (au_I (by omega) (au_I (by omega) (au_rf _ _))))
    have e17 : (a_I (a_I (a_I (a_I A 30 F 3) 17 0 (nI (no + 1))) 18 no (nI c)) 19 no 0).1 17 0 = nI (no + 1) := by simp only [a_I_1, Nat.reduceEqDiff, false_and, and_self, if_true, if_false]
    have e18 : ∀ i, (a_I (a_I (a_I (a_I A 30 F 3) 17 0 (nI (no + 1))) 18 no (nI c)) 19 no 0).1 18 i = if i = no then nI c else A.1 18 i := fun i => by simp only [a_I_1, Nat.reduceEqDiff, false_and, true_and, if_false]
    have e19 : ∀ i, (a_I (a_I (a_I (a_I A 30 F 3) 17 0 (nI (no + 1))) 18 no (nI c)) 19 no 0).1 19 i = if i = no then 0 else A.1 19 i := fun i => by simp only [a_I_1, Nat.reduceEqDiff, false_and, true_and, if_false]
    have e27 : (a_I (a_I (a_I (a_I A 30 F 3) 17 0 (nI (no + 1))) 18 no (nI c)) 19 no 0).1 27 0 = nI (F + 1) := by simp only [a_I_1, Nat.reduceEqDiff, false_and, if_false]; exact d10
    have e37 : (a_I (a_I (a_I (a_I A 30 F 3) 17 0 (nI (no + 1))) 18 no (nI c)) 19 no 0).1 37 0 = 0 := by simp only [a_I_1, Nat.reduceEqDiff, false_and, if_false]; exact h0
    have e41 : (a_I (a_I (a_I (a_I A 30 F 3) 17 0 (nI (no + 1))) 18 no (nI c)) 19 no 0).1 41 0 = A.1 41 0 := by simp only [a_I_1, Nat.reduceEqDiff, false_and, if_false]
    have e28 : (a_I (a_I (a_I (a_I A 30 F 3) 17 0 (nI (no + 1))) 18 no (nI c)) 19 no 0).1 28 F = 0 := by simp only [a_I_1, Nat.reduceEqDiff, false_and, if_false]; exact h28
    have e29 : (a_I (a_I (a_I (a_I A 30 F 3) 17 0 (nI (no + 1))) 18 no (nI c)) 19 no 0).1 29 F = nI e := by simp only [a_I_1, Nat.reduceEqDiff, false_and, if_false]; exact h29
    have e30 : (a_I (a_I (a_I (a_I A 30 F 3) 17 0 (nI (no + 1))) 18 no (nI c)) 19 no 0).1 30 F = 3 := by simp only [a_I_1, Nat.reduceEqDiff, false_and, and_self, if_true, if_false]
    have hkk := nt_k hs no c
    have hsn := c_st_k hs hkk
    have hOn : (fun i => if i = no then mo_X μ else O i) no = mo_X μ := by show (if no = no then mo_X μ else O no) = _; rw [if_pos rfl]
    by_cases hu : u < 12
    · obtain ⟨g0, hg0⟩ := i_ex (A.1 41 0)
      have hS := S_m9U (r := x + 28) d10 hF3 h0 h28 h29 he60 hA1 h30 hA2 (by omega) d3 hno d6 hu hg0 (by rw [(d1 7 (by decide)).1]; exact np2) np1
      generalize hX : a_I (a_I (a_I (a_I A 30 F 3) 17 0 (nI (no + 1))) 18 no (nI c)) 19 no 0 = X at *
      have hnk := nk_33 (f := F) (z := nI no) (nk_b (X := X) (u := u) (F := F + 1) (p := c) (o := no) (g := A.2 44 F) (c0 := A.2 36 0) (c1 := 0) (c2 := 0) np1 (by rw [e41]; exact hg0))
      generalize hY : a_I (a_cs (a_I (a_push (a_I (a_I X 38 0 (nI (u + 1))) 41 0 (nI (g0 + 1))) (F + 1) 1 (nI (5 * c)) (nI no) (nI c) (A.2 44 F)) 35 (F + 1) 1) no c np (A.2 36 0) 0 0) 33 F (nI no) = Y at *
      have hx1 : a_x (17 :: 18 :: 19 :: a_sk) A (a_I X 33 F (nI no)) := ax_I (by decide) hx0
      have hdn := dy_nt (A' := a_I X 33 F (nI no)) hs hd hc hno hx1 (by rw [a_I_n (by decide)]; exact e17) (fun i => by rw [a_I_n (by decide)]; exact e18 i) (fun i => by rw [a_I_n (by decide)]; exact e19 i) (F' := F + 1) (by rw [a_I_n (by decide)]; exact e27)
      have hRK' := hRK hu (m_nt x G μ no c) (a_I X 33 F (nI no)) (fun i => if i = no then mo_X μ else O i) (no + 1) P (F + 1) b q c no (A.2 44 F) (A.2 36 0) 0 0 1 np Y
      rw [show (if no = no then mo_X μ else O no) = mo_X μ from if_pos rfl] at hRK'
      refine hRK' _ hsn hdn (by rw [a_I_n (by decide)]; exact e37) hu hc (Nat.lt_succ_self _) ⟨c, by rw [a_I_n (by decide), e18, if_pos rfl], hc, bel_r c⟩ np2 np1 (by omega) (Or.inr ⟨rfl, by rw [a_I_n (by decide), e19, if_pos rfl]; decide⟩) hnk ?_
      intro μ2 A2 O2 no2 b2 q2 k1 k2 k3 k4
      have hs2 := c_st_k hsn k3.1
      have hno2 : no < no2 := Nat.lt_of_lt_of_le (Nat.lt_succ_self _) k3.2.1
      have hd2 := k1
      obtain ⟨j1, j2, j3, j4, j5, j6, j7, j8, j9, j10, j11, j12, j13, j14, j15, j16, j17, j18, j19, j20, j21, j22, j23, j24, j25⟩ := hd2
      have hO2 : O2 no = mo_X μ := by rw [(k3.2.2.2.1 no (Nat.lt_succ_self _)).1, hOn]
      have h182 : A2.1 18 no = nI c := by rw [(k3.2.2.2.1 no (Nat.lt_succ_self _)).2.1, a_I_n (by decide), a_I_n (by decide), e18, if_pos rfl]
      have ht2 := c_th_c hn8 (j24 no hno2) h182 hc
      have hXC : mo_C μ2 (mo_X μ) = 10 := by rw [← hO2]; exact ht2.2.2.2.2.2.1
      have hX60 : x + 60 ≤ mo_X μ := hs.2.1
      have hfu := k3.2.2.2.2.2.2.2.1 F (Nat.lt_succ_self _)
      have h282 : A2.1 28 F = 0 := by rw [(hfu.1 28 (by decide) (by decide)).1, a_I_n (by decide), a_I_n (by decide)]; exact e28
      have h292 : A2.1 29 F = nI e := by rw [(hfu.1 29 (by decide) (by decide)).1, a_I_n (by decide), a_I_n (by decide)]; exact e29
      have h302 : A2.1 30 F = 3 := by rw [(hfu.1 30 (by decide) (by decide)).1, a_I_n (by decide), a_I_n (by decide)]; exact e30
      have h332 : A2.1 33 F = nI no := by rw [(hfu.1 33 (by decide) (by decide)).1, a_I_n (by decide), a_I_1, if_pos ⟨rfl, rfl⟩]
      have h1n : A2.1 1 e = 9 := by rw [(j1 1 (by decide)).1]; exact hB9
      have rc2 := a_rc_tr (a_rc_st d10 hF3 hS) k2
      have hxn : ∀ s, a_x (17 :: 18 :: 19 :: a_sk) A (a_I (a_I (a_I X 33 F (nI no)) 19 no (A2.1 19 no)) 19 no s) := fun s => ax_I (by decide) (ax_I (by decide) hx1)
      have hun : ∀ s, a_u F A (a_I (a_I (a_I X 33 F (nI no)) 19 no (A2.1 19 no)) 19 no s) := fun s => au_I (by omega) (au_I (by omega) (au_I (by omega) hu0))
      have h18n : ∀ s i, i < no → (a_I (a_I (a_I X 33 F (nI no)) 19 no (A2.1 19 no)) 19 no s).1 18 i = A.1 18 i := fun s i hi => by rw [a_I_n (by decide), a_I_n (by decide), a_I_n (by decide), e18, if_neg (by omega)]
      have h19n : ∀ s i, i < no → (a_I (a_I (a_I X 33 F (nI no)) 19 no (A2.1 19 no)) 19 no s).1 19 i = A.1 19 i := fun s i hi => by rw [a_I_1, if_neg (by omega), a_I_1, if_neg (by omega), a_I_n (by decide), e19, if_neg (by omega)]
      refine ⟨rfl, hs2.1.1, hXC, ?_⟩
      by_cases hfy : A2.1 37 0 = 0
      · rw [if_pos (j20.trans hfy)]
        have hval : r_S (x + 28) A2 (a_I (a_L (a_I (a_I A2 30 F 4) 19 no 1) 36 0 (if 0 < nf then A2.2 21 (32 * no + 4 * c) else 0)) 27 0 (nI F)) := by
          by_cases hnf : 0 < nf
          · rw [if_pos hnf]
            exact S_m9e1 j10 hF3 hfy h282 h292 he60 h1n h302 (by rw [(j1 2 (by decide)).2]; exact hBn) (by omega) h332 hno (by rw [(j1 8 (by decide)).1, nf2, show (0 : Int32) = nI 0 from rfl, nI_inj (by omega) (by decide)]; omega)
          · rw [if_neg hnf]
            exact S_m9e0 j10 hF3 hfy h282 h292 he60 h1n h302 (by rw [(j1 2 (by decide)).2]; exact hBn) (by omega) h332 hno (by rw [(j1 8 (by decide)).1, nf2, show nf = 0 by omega]; rfl)
        generalize hV : (if 0 < nf then A2.2 21 (32 * no + 4 * c) else 0) = V at *
        have hd3 := dy_md (o := no) (s := 1) (v := 1) (A' := a_I (a_L (a_I (a_I A2 30 F 4) 19 no 1) 36 0 V) 27 0 (nI F)) k1 hno2 rfl (ax_I (by decide) (ax_L (by decide) (ax_I (by decide) (ax_I (by decide) (ax_rf _ _))))) (fun i _ => by simp only [a_I_1, a_L_1, Nat.reduceEqDiff, false_and, true_and, if_false]) (F' := F) (by rw [a_I_1, if_pos ⟨rfl, rfl⟩])
        rw [hO2] at hd3
        have hs3 := c_st_k hs2 (km_md x 0 0 μ2 hX60 1).1
        have hs3' := hs3.1.1
        unfold cl_sf at hs3'
        have ht3 : c_tc x B G O2 (mo_wI μ2 580 (mo_X μ) 1) (a_I (a_L (a_I (a_I A2 30 F 4) 19 no 1) 36 0 V) 27 0 (nI F)) no c := c_th_c hn8 (hd3.2.2.2.2.2.2.2.2.2.2.2.2.2.2.2.2.2.2.2.2.2.2.2.1 no hno2) (by simp only [a_I_1, a_L_1, Nat.reduceEqDiff, false_and, if_false]; exact h182) hc
        have k5 := fun Q => L_fof0 (d := d + 6) hs3 ht3 hc (bel_r c) nf2 nf1 Q
        rw [hO2] at k5
        have y3 := (hs3.2.2.2.2.2.2.1 c hc).2.1
        have hXC3 : mo_C (mo_wI μ2 580 (mo_X μ) 1) (mo_X μ) = 10 := hXC
        have eV : (if 0 < nf then (a_I (a_L (a_I (a_I A2 30 F 4) 19 no 1) 36 0 V) 27 0 (nI F)).2 21 (32 * no + 4 * c) else 0) = V := by
          rw [← hV]
          by_cases hnf : 0 < nf
          · rw [if_pos hnf, if_pos hnf, a_I_2, a_L_2, if_neg (by omega)]; rfl
          · rw [if_neg hnf, if_neg hnf]
        rw [eV] at k5
        simp only [we35, en35, true_and, and_true, if_false, if_true, not_true_eq_false, not_false_eq_true, false_implies, true_implies, implies_true, forall_const, true_or, or_true, false_or, or_false, false_and, and_false, eq_self_iff_true, Option.toList_some, Option.toList_none, List.cons_append, List.nil_append, mo_cat_0, mo_cat_c, mo_ct_i, mo_ct_l, mo_ct_r, mo_ct_n, mo_ct_f, Nat.zero_le, Nat.reduceAdd, Nat.reduceLeDiff, Nat.reduceLT, Nat.reduceEqDiff, Nat.reduceSub, mo_rf_s, mo_rf_n, reduceCtorEq, mo_st, mo_st2, mo_lg_0, mo_lg_s, List.set_cons_zero, List.set_cons_succ, List.length_cons, List.length_nil, List.getElem?_cons_zero, List.getElem?_cons_succ, Nat.reduceBEq, Bool.false_eq_true, beq_self_eq_true, hs3', k5, y3, hXC3, mo_ME, mo_u_a, mo_z_a, mo_y_a, Nat.add_left_cancel_iff]
        have kp2 := kp_19 (s := 1) k3 (Nat.lt_succ_self no)
        have ex3 : a_x a_sk (a_I A2 19 no 1) (a_I (a_L (a_I (a_I A2 30 F 4) 19 no 1) 36 0 V) 27 0 (nI F)) := by
          rw [a_I_c (j := 30) (j' := 19) (by decide)]
          exact ax_I (by decide) (ax_L (by decide) (ax_I (by decide) (ax_rf _ _)))
        have eu3 : a_u F (a_I A2 19 no 1) (a_I (a_L (a_I (a_I A2 30 F 4) 19 no 1) 36 0 V) 27 0 (nI F)) := by
          rw [a_I_c (j := 30) (j' := 19) (by decide)]
          exact au_I (by omega) (au_L (by omega) (au_I (by omega) (au_rf _ _)))
        have kp3 : c_kp x u P F μ2 (a_I A2 19 no 1) O2 no2 b2 (mo_wI μ2 580 (mo_X μ) 1) (a_I (a_L (a_I (a_I A2 30 F 4) 19 no 1) 36 0 V) 27 0 (nI F)) O2 no2 b2 := kp_x (km_md x u P μ2 hX60 1) eu3 ex3 (by decide) (by decide) (by decide) (Nat.le_refl _)
        have kp4 := c_kp_tr (c_kp_le kp2 (Nat.le_refl u) (Nat.le_refl P) (Nat.le_succ F)) kp3 (Nat.le_refl _) (Nat.le_refl _) (Nat.le_refl _)
        exact hpost V _ _ O2 no2 b2 q2 hd3 (a_rc_tr rc2 (a_rc_st j10 hF3 hval)) (kp_nt hs hc (by omega) kp4 (hun 1) (hxn 1) (h18n 1) (h19n 1) (Or.inl (by simp only [a_I_1, a_L_1, Nat.reduceEqDiff, false_and, and_self, if_true, if_false]))) (fun _ => by rw [a_I_2, a_L_2, if_pos ⟨rfl, rfl⟩])
      · rw [if_neg (by rw [j20]; exact hfy)]
        have h192 : A2.1 19 no = 2 := by rw [k4, if_pos ⟨rfl, hfy⟩]
        have hS2 : r_S (x + 28) A2 (a_I A2 27 0 (nI F)) := S_pU j10 hF3 hfy h282 h292 he60 (Or.inl (by rw [h1n]; decide))
        have hd3 := dy_md (o := no) (s := 2) (v := 0) (A' := a_I A2 27 0 (nI F)) k1 hno2 (by decide) (ax_I (by decide) (ax_rf _ _)) (fun i _ => by
          rw [a_I_n (by decide)]
          by_cases hi : i = no
          · rw [if_pos hi, hi]; exact h192
          · rw [if_neg hi]) (F' := F) (by rw [a_I_1, if_pos ⟨rfl, rfl⟩])
        rw [hO2] at hd3
        have hs3 := c_st_k hs2 (km_md x 0 0 μ2 hX60 0).1
        have hs3' := hs3.1.1
        unfold cl_sf at hs3'
        have ht3 : c_tc x B G O2 (mo_wI μ2 580 (mo_X μ) 0) (a_I A2 27 0 (nI F)) no c := c_th_c hn8 (hd3.2.2.2.2.2.2.2.2.2.2.2.2.2.2.2.2.2.2.2.2.2.2.2.1 no hno2) (by rw [a_I_n (by decide)]; exact h182) hc
        have k5 := fun Q => L_fof0 (d := d + 6) hs3 ht3 hc (bel_r c) nf2 nf1 Q
        rw [hO2] at k5
        have y3 := (hs3.2.2.2.2.2.2.1 c hc).2.1
        have hXC3 : mo_C (mo_wI μ2 580 (mo_X μ) 0) (mo_X μ) = 10 := hXC
        simp only [we35, en35, true_and, and_true, if_false, if_true, not_true_eq_false, not_false_eq_true, false_implies, true_implies, implies_true, forall_const, true_or, or_true, false_or, or_false, false_and, and_false, eq_self_iff_true, Option.toList_some, Option.toList_none, List.cons_append, List.nil_append, mo_cat_0, mo_cat_c, mo_ct_i, mo_ct_l, mo_ct_r, mo_ct_n, mo_ct_f, Nat.zero_le, Nat.reduceAdd, Nat.reduceLeDiff, Nat.reduceLT, Nat.reduceEqDiff, Nat.reduceSub, mo_rf_s, mo_rf_n, reduceCtorEq, mo_st, mo_st2, mo_lg_0, mo_lg_s, List.set_cons_zero, List.set_cons_succ, List.length_cons, List.length_nil, List.getElem?_cons_zero, List.getElem?_cons_succ, Nat.reduceBEq, Bool.false_eq_true, beq_self_eq_true, hs3', k5, y3, hXC3, mo_ME, mo_u_a, mo_z_a, mo_y_a, Nat.add_left_cancel_iff]
        have kp2 := kp_19 (s := 2) k3 (Nat.lt_succ_self no)
        rw [a_I_id (A := A2) h192] at kp2
        have kp3 : c_kp x u P F μ2 A2 O2 no2 b2 (mo_wI μ2 580 (mo_X μ) 0) (a_I A2 27 0 (nI F)) O2 no2 b2 := kp_x (km_md x u P μ2 hX60 0) (au_I (by omega) (au_rf _ _)) (l := a_sk) (ax_I (by decide) (ax_rf _ _)) (by decide) (by decide) (by decide) (Nat.le_refl _)
        have kp4 := c_kp_tr (c_kp_le kp2 (Nat.le_refl u) (Nat.le_refl P) (Nat.le_succ F)) kp3 (Nat.le_refl _) (Nat.le_refl _) (Nat.le_refl _)
        exact hpost _ _ _ O2 no2 b2 q2 hd3 (a_rc_tr rc2 (a_rc_st j10 hF3 hS2)) (kp_nt hs hc (by omega) kp4 (hun 2) (hxn 2) (h18n 2) (h19n 2) (Or.inr (by rw [a_I_n (by decide)]; exact h192))) (fun hh => absurd (by rw [a_I_n (by decide)] at hh; exact hh) hfy)
    · have hu12 : u = 12 := by omega
      subst hu12
      have hS := S_m9S (r := x + 28) d10 hF3 h0 h28 h29 he60 hA1 h30 hA2 (by omega) d3 hno d6
      generalize hX : a_I (a_I (a_I (a_I A 30 F 3) 17 0 (nI (no + 1))) 18 no (nI c)) 19 no 0 = X at *
      have hdn := dy_nt (A' := X) hs hd hc hno hx0 e17 e18 e19 (F' := F + 1) e27
      have hnn : no < no + 1 := Nat.lt_succ_self _
      have htn : c_tc x B G (fun i => if i = no then mo_X μ else O i) (m_nt x G μ no c) X no c := c_th_c hn8 (hdn.2.2.2.2.2.2.2.2.2.2.2.2.2.2.2.2.2.2.2.2.2.2.2.1 no hnn) (by rw [e18, if_pos rfl]) hc
      have hXC : mo_C (m_nt x G μ no c) (mo_X μ) = 10 := by have := htn.2.2.2.2.2.1; rw [hOn] at this; exact this
      rw [L_rk12 (d := d + 5) hsn.1.1 hdn.2.2.2.2.1 (hsn.2.2.2.2.2.2.1 c hc).2.1 hXC]
      have hX60 : x + 60 ≤ mo_X μ := hs.2.1
      have hs2 := c_st_k hsn (km_sp x 0 0 (m_nt x G μ no c) 8).1
      have hd2 := dy_sp hdn (A' := a_I X 37 0 8) (ax_I (by decide) (ax_rf _ _)) (F' := F + 1) (by rw [a_I_n (by decide)]; exact e27) (by rw [a_I_1, if_pos ⟨rfl, rfl⟩])
      refine ⟨rfl, hs2.1.1, by simp only [mo_ME]; exact hXC, ?_⟩
      have h517 : ¬ mo_I (mo_wI (m_nt x G μ no c) 517 (x + 9) 8) 517 (x + 9) = 0 := by
        simp only [mo_ME, mo_u_a, and_self, if_true]; decide
      rw [if_neg h517]
      have hA3 : ∀ i, (a_I (a_I (a_I (a_I X 37 0 8) 19 no 2) 33 F (nI no)) 27 0 (nI F)).1 19 i = if i = no then 2 else (a_I X 37 0 8).1 19 i := fun i => by simp only [a_I_1, Nat.reduceEqDiff, false_and, true_and, if_false]
      have hd3 := dy_md (o := no) (s := 2) (v := 0) (A' := a_I (a_I (a_I (a_I X 37 0 8) 19 no 2) 33 F (nI no)) 27 0 (nI F)) hd2 hnn (by decide) (ax_I (by decide) (ax_I (by decide) (ax_I (by decide) (ax_rf _ _)))) (fun i _ => hA3 i) (F' := F) (by rw [a_I_1, if_pos ⟨rfl, rfl⟩])
      rw [show (if no = no then mo_X μ else O no) = mo_X μ from if_pos rfl] at hd3
      have hs3 := c_st_k hs2 (km_md x 0 0 (mo_wI (m_nt x G μ no c) 517 (x + 9) 8) hX60 0).1
      have hs3' := hs3.1.1
      unfold cl_sf at hs3'
      have ht3 := c_th_c hn8 (hd3.2.2.2.2.2.2.2.2.2.2.2.2.2.2.2.2.2.2.2.2.2.2.2.1 no hnn) (c := c) (by simp only [a_I_1, Nat.reduceEqDiff, false_and, if_false]; rw [e18, if_pos rfl]) hc
      have k5 := fun Q => L_fof0 (d := d + 6) hs3 ht3 hc (bel_r c) nf2 nf1 Q
      rw [show (if no = no then mo_X μ else O no) = mo_X μ from if_pos rfl] at k5
      have y3 := (hs3.2.2.2.2.2.2.1 c hc).2.1
      have hXC3 : mo_C (mo_wI (mo_wI (m_nt x G μ no c) 517 (x + 9) 8) 580 (mo_X μ) 0) (mo_X μ) = 10 := by simp only [mo_ME]; exact hXC
      simp only [we35, en35, true_and, and_true, if_false, if_true, not_true_eq_false, not_false_eq_true, false_implies, true_implies, implies_true, forall_const, true_or, or_true, false_or, or_false, false_and, and_false, eq_self_iff_true, Option.toList_some, Option.toList_none, List.cons_append, List.nil_append, mo_cat_0, mo_cat_c, mo_ct_i, mo_ct_l, mo_ct_r, mo_ct_n, mo_ct_f, Nat.zero_le, Nat.reduceAdd, Nat.reduceLeDiff, Nat.reduceLT, Nat.reduceEqDiff, Nat.reduceSub, mo_rf_s, mo_rf_n, reduceCtorEq, mo_st, mo_st2, mo_lg_0, mo_lg_s, List.set_cons_zero, List.set_cons_succ, List.length_cons, List.length_nil, List.getElem?_cons_zero, List.getElem?_cons_succ, Nat.reduceBEq, Bool.false_eq_true, beq_self_eq_true, hs3', k5, y3, hXC3, mo_ME, mo_u_a, mo_z_a, mo_y_a, Nat.add_left_cancel_iff]
      have e37' : (a_I (a_I (a_I X 37 0 8) 19 no 2) 33 F (nI no)).1 37 0 = 8 := by simp only [a_I_1, Nat.reduceEqDiff, false_and, and_self, if_true, if_false]
      have hS2 : r_S (x + 28) (a_I (a_I (a_I X 37 0 8) 19 no 2) 33 F (nI no)) (a_I (a_I (a_I (a_I X 37 0 8) 19 no 2) 33 F (nI no)) 27 0 (nI F)) := S_pU (e := e) (by simp only [a_I_1, Nat.reduceEqDiff, false_and, if_false]; exact e27) hF3 (by rw [e37']; decide) (by simp only [a_I_1, Nat.reduceEqDiff, false_and, if_false]; exact e28) (by simp only [a_I_1, Nat.reduceEqDiff, false_and, if_false]; exact e29) he60 (Or.inr (Or.inr e37'))
      have ex3 : a_x (37 :: a_sk) (a_I X 19 no 2) (a_I (a_I (a_I (a_I X 37 0 8) 19 no 2) 33 F (nI no)) 27 0 (nI F)) := by
        rw [a_I_c (j := 37) (j' := 19) (by decide)]
        exact ax_I (by decide) (ax_I (by decide) (ax_I (by decide) (ax_rf _ _)))
      have eu3 : a_u F (a_I X 19 no 2) (a_I (a_I (a_I (a_I X 37 0 8) 19 no 2) 33 F (nI no)) 27 0 (nI F)) := by
        rw [a_I_c (j := 37) (j' := 19) (by decide)]
        exact au_I (by omega) (au_I (by omega) (au_I (by omega) (au_rf _ _)))
      have kp3 : c_kp x 12 P F (m_nt x G μ no c) (a_I X 19 no 2) (fun i => if i = no then mo_X μ else O i) (no + 1) b (mo_wI (mo_wI (m_nt x G μ no c) 517 (x + 9) 8) 580 (mo_X μ) 0) (a_I (a_I (a_I (a_I X 37 0 8) 19 no 2) 33 F (nI no)) 27 0 (nI F)) (fun i => if i = no then mo_X μ else O i) (no + 1) b := kp_x (km_tr (km_sp x 12 P (m_nt x G μ no c) 8) (km_md x 12 P _ hX60 0)) eu3 ex3 (by decide) (by decide) (by decide) (Nat.le_refl _)
      refine hpost _ _ _ _ (no + 1) b q hd3 (a_rc_tr (a_rc_st d10 hF3 hS) (a_rc_st (by simp only [a_I_1, Nat.reduceEqDiff, false_and, if_false]; exact e27) hF3 hS2)) (kp_nt hs hc (by omega) kp3 (au_I (by omega) hu0) (ax_I (by decide) hx0) (fun i hi => by rw [a_I_n (by decide), e18, if_neg (by omega)]) (fun i hi => by rw [a_I_1, if_neg (by omega), e19, if_neg (by omega)]) (Or.inr (by rw [hA3, if_pos rfl]))) (fun hh => ?_)
      rw [a_I_n (by decide), e37'] at hh
      exact absurd hh (by decide)
  · have hno2 : no = 100 := by omega
    subst hno2
    have k1 := fun g c0 c1 c2 Q => L_buildF (d := d + 6) (G := G) (c := c) (Q := Q) g c0 c1 c2 hs.1.1 d2
    simp only [we35, en35, true_and, and_true, if_false, if_true, not_true_eq_false, not_false_eq_true, false_implies, true_implies, implies_true, forall_const, true_or, or_true, false_or, or_false, false_and, and_false, eq_self_iff_true, Option.toList_some, Option.toList_none, List.cons_append, List.nil_append, mo_cat_0, mo_cat_c, mo_ct_i, mo_ct_l, mo_ct_r, mo_ct_n, mo_ct_f, Nat.zero_le, Nat.reduceAdd, Nat.reduceLeDiff, Nat.reduceLT, Nat.reduceEqDiff, Nat.reduceSub, mo_rf_s, mo_rf_n, reduceCtorEq, mo_st, mo_st2, mo_lg_0, mo_lg_s, List.set_cons_zero, List.set_cons_succ, List.length_cons, List.length_nil, List.getElem?_cons_zero, List.getElem?_cons_succ, Nat.reduceBEq, Bool.false_eq_true, beq_self_eq_true, hs', y1, k1, mo_ME, mo_u_a, mo_z_a, mo_y_a, Nat.add_left_cancel_iff]
    have hS := S_m9F (r := x + 28) d10 hF3 h0 h28 h29 he60 hA1 h30 hA2 (by omega) d3
    have e37' : (a_I (a_I A 30 F 3) 37 0 8).1 37 0 = 8 := by rw [a_I_1, if_pos ⟨rfl, rfl⟩]
    have e27 : (a_I (a_I A 30 F 3) 37 0 8).1 27 0 = nI (F + 1) := by rw [a_I_n (by decide), a_I_n (by decide)]; exact d10
    have hS2 : r_S (x + 28) (a_I (a_I A 30 F 3) 37 0 8) (a_I (a_I (a_I A 30 F 3) 37 0 8) 27 0 (nI F)) := S_pU (e := e) e27 hF3 (by rw [e37']; decide) (by rw [a_I_n (by decide), a_I_n (by decide)]; exact h28) (by rw [a_I_n (by decide), a_I_n (by decide)]; exact h29) he60 (Or.inr (Or.inr e37'))
    have hx : a_x (37 :: a_sk) A (a_I (a_I (a_I A 30 F 3) 37 0 8) 27 0 (nI F)) := ax_I (by decide) (ax_I (by decide) (ax_I (by decide) (ax_rf _ _)))
    refine hpost 0 _ _ O 100 b q (dy_sp hd hx (F' := F) (by rw [a_I_1, if_pos ⟨rfl, rfl⟩]) (by rw [a_I_n (by decide)]; exact e37')) (a_rc_tr (a_rc_st d10 hF3 hS) (a_rc_st e27 hF3 hS2)) (kp_x (km_sp x u P μ 8) (au_I (by omega) (au_I (by omega) (au_I (by omega) (au_rf _ _)))) hx (by decide) (by decide) (by decide) (Nat.le_refl _)) (fun hh => ?_)
    rw [a_I_n (by decide), e37'] at hh
    exact absurd hh (by decide)
