/-- captures are set -/
def a_cs (X : mo_A) (o p n : Nat) (v0 v1 v2 : Int64) : mo_A := match n with
  | 0 => X
  | 1 => a_L X 20 (24 * o + 3 * p) v0
  | 2 => a_L (a_L X 20 (24 * o + 3 * p) v0) 20 (24 * o + 3 * p + 1) v1
  | _ => a_L (a_L (a_L X 20 (24 * o + 3 * p) v0) 20 (24 * o + 3 * p + 1) v1) 20 (24 * o + 3 * p + 2) v2
def a_c3 (A : mo_A) (o p n : Nat) (v0 v1 v2 : Int64) (i : Nat) : Int64 := if i = 24 * o + 3 * p + 2 ∧ 2 < n then v2 else if i = 24 * o + 3 * p + 1 ∧ 1 < n then v1 else if i = 24 * o + 3 * p ∧ 0 < n then v0 else A.2 20 i
theorem cs_1 (X : mo_A) (o p n : Nat) (v0 v1 v2 : Int64) : (a_cs X o p n v0 v1 v2).1 = X.1 := by
  unfold a_cs
  split <;> rfl
theorem cs_2 (X : mo_A) (o p n : Nat) (v0 v1 v2 : Int64) {j : Nat} (hj : j ≠ 20) : (a_cs X o p n v0 v1 v2).2 j = X.2 j := by
  unfold a_cs
  split <;> funext i <;> simp only [a_L_2, hj, false_and, if_false]
theorem cs_3 (X : mo_A) (o p : Nat) {n : Nat} (hn : n ≤ 3) (v0 v1 v2 : Int64) (i : Nat) : (a_cs X o p n v0 v1 v2).2 20 i = a_c3 X o p n v0 v1 v2 i := by
  have h : n = 0 ∨ n = 1 ∨ n = 2 ∨ n = 3 := by omega
  unfold a_c3
  rcases h with rfl | rfl | rfl | rfl <;> simp only [a_cs, a_L_2, true_and, Nat.reduceLT, and_true, and_false, if_false, Nat.lt_irrefl, Nat.not_lt_zero]
/-- what enter(MAKER) of the reference, with the captures, makes of A -/
def a_nk (A : mo_A) (u F p o : Nat) (g : Int64) (w : Int32) (n : Nat) (c0 c1 c2 : Int64) (A1 : mo_A) : Prop := (∃ g0, A.1 41 0 = nI g0 ∧ A1.1 41 0 = nI (g0 + 1)) ∧ a_x (20 :: 38 :: 41 :: a_sk) A A1 ∧ a_u F A A1 ∧ A1.1 27 0 = nI (F + 1) ∧ A1.1 38 0 = nI (u + 1) ∧ A1.1 28 F = 1 ∧ A1.1 29 F = nI (5 * p) ∧ A1.1 30 F = 0 ∧ A1.1 31 F = nI p ∧ A1.1 32 F = nI o ∧ A1.2 34 F = g ∧ A1.1 35 F = w ∧ (∀ i, A1.2 20 i = a_c3 A o p n c0 c1 c2 i) ∧ A1.1 20 = A.1 20
theorem ax_20 {l : List Nat} {A X X' : mo_A} (h20 : 20 ∈ l) (h : a_x l A X) (h1 : X'.1 = X.1) (h2 : ∀ j, j ≠ 20 → X'.2 j = X.2 j) : a_x l A X' := fun j hj => ⟨by rw [h1]; exact (h j hj).1, by rw [h2 j (fun q => hj (by rw [q]; exact h20))]; exact (h j hj).2⟩
theorem au_20 {F : Nat} {A X X' : mo_A} (h : a_u F A X) (h1 : X'.1 = X.1) (h2 : ∀ j, j ≠ 20 → X'.2 j = X.2 j) : a_u F A X' := fun i hi => ⟨fun j q1 q2 => ⟨by rw [h1]; exact ((h i hi).1 j q1 q2).1, by rw [h2 j (by omega)]; exact ((h i hi).1 j q1 q2).2⟩, by rw [h2 44 (by decide)]; exact (h i hi).2⟩
theorem nk_0 {A : mo_A} {u F p o g0 n : Nat} {g c0 c1 c2 : Int64} (hn : n ≤ 3) (hg : A.1 41 0 = nI g0) : a_nk A u F p o g 0 n c0 c1 c2 (a_cs (a_push (a_I (a_I A 38 0 (nI (u + 1))) 41 0 (nI (g0 + 1))) F 1 (nI (5 * p)) (nI o) (nI p) g) o p n c0 c1 c2) := by
  obtain ⟨p1, p2, p3, p4, p5, p6, p7, p8⟩ := push_rd (a_I (a_I A 38 0 (nI (u + 1))) 41 0 (nI (g0 + 1))) F 1 (nI (5 * p)) (nI o) (nI p) g
  have hx : a_x (20 :: 38 :: 41 :: a_sk) A (a_push (a_I (a_I A 38 0 (nI (u + 1))) 41 0 (nI (g0 + 1))) F 1 (nI (5 * p)) (nI o) (nI p) g) := ax_push (by decide) (ax_I (by decide) (ax_I (by decide) (ax_rf _ _)))
  have hu : a_u F A (a_push (a_I (a_I A 38 0 (nI (u + 1))) 41 0 (nI (g0 + 1))) F 1 (nI (5 * p)) (nI o) (nI p) g) := au_push (Nat.le_refl _) (au_I (by omega) (au_I (by omega) (au_rf _ _)))
  have e41 : (a_push (a_I (a_I A 38 0 (nI (u + 1))) 41 0 (nI (g0 + 1))) F 1 (nI (5 * p)) (nI o) (nI p) g).1 41 0 = nI (g0 + 1) := by simp only [a_push, a_I_1, a_I_2, a_L_1, a_L_2, Nat.reduceEqDiff, false_and, and_self, if_true, if_false]
  have e38 : (a_push (a_I (a_I A 38 0 (nI (u + 1))) 41 0 (nI (g0 + 1))) F 1 (nI (5 * p)) (nI o) (nI p) g).1 38 0 = nI (u + 1) := by simp only [a_push, a_I_1, a_I_2, a_L_1, a_L_2, Nat.reduceEqDiff, false_and, and_self, if_true, if_false]
  have e20 : (a_push (a_I (a_I A 38 0 (nI (u + 1))) 41 0 (nI (g0 + 1))) F 1 (nI (5 * p)) (nI o) (nI p) g).2 20 = A.2 20 := by funext i; simp only [a_push, a_I_1, a_I_2, a_L_1, a_L_2, Nat.reduceEqDiff, false_and, and_self, if_true, if_false]
  have e21 : (a_push (a_I (a_I A 38 0 (nI (u + 1))) 41 0 (nI (g0 + 1))) F 1 (nI (5 * p)) (nI o) (nI p) g).1 20 = A.1 20 := by funext i; simp only [a_push, a_I_1, a_I_2, a_L_1, a_L_2, Nat.reduceEqDiff, false_and, and_self, if_true, if_false]
  generalize a_push (a_I (a_I A 38 0 (nI (u + 1))) 41 0 (nI (g0 + 1))) F 1 (nI (5 * p)) (nI o) (nI p) g = X at *
  have h1 := cs_1 X o p n c0 c1 c2
  have h2 : ∀ j, j ≠ 20 → (a_cs X o p n c0 c1 c2).2 j = X.2 j := fun j hj => cs_2 X o p n c0 c1 c2 hj
  refine ⟨⟨g0, hg, by rw [h1]; exact e41⟩, ax_20 (by decide) hx h1 h2, au_20 hu h1 h2, by rw [h1]; exact p8, by rw [h1]; exact e38, by rw [h1]; exact p1, by rw [h1]; exact p2, by rw [h1]; exact p3, by rw [h1]; exact p4, by rw [h1]; exact p5, by rw [h2 34 (by decide)]; exact p6, by rw [h1]; exact p7, fun i => ?_, by rw [h1]; exact e21⟩
  rw [cs_3 X o p hn]
  unfold a_c3
  rw [e20]
def a_cv (A : mo_A) (o c n k : Nat) : Int64 := if k < n then A.2 20 (24 * o + 3 * c + k) else 0
theorem S_M1U {r f c p q u g0 np n : Nat} {A : mo_A} (hf : A.1 27 0 = nI (f + 1)) (hlt : f < 399) (h0 : A.1 37 0 = 0) (hk : A.1 28 f = 1) (hco : A.1 31 f = nI c) (hcl : c < 8) (hst : A.1 30 f = 1) (hpp : A.1 6 c = nI p) (hpc : p < c) (hob : A.1 32 f = nI q) (hql : q < 100) (hu : A.1 38 0 = nI u) (hu2 : u < 12) (hg : A.1 41 0 = nI g0) (hcp7 : A.1 7 p = nI np) (hcc7 : A.1 7 c = nI n) (hnp : np ≤ 3) (hn : n ≤ 3) : r_S r A (a_cs (a_push (a_I (a_I (a_I A 30 f 2) 38 0 (nI (u + 1))) 41 0 (nI (g0 + 1))) (f + 1) 1 (nI (5 * p)) (nI q) (nI p) (A.2 36 0)) q p np (a_cv A q c n 0) (a_cv A q c n 1) (a_cv A q c n 2)) := by
  have h1 : np = 0 ∨ np = 1 ∨ np = 2 ∨ np = 3 := by omega
  have h2 : n = 0 ∨ n = 1 ∨ n = 2 ∨ n = 3 := by omega
  unfold a_cv
  rcases h1 with rfl | rfl | rfl | rfl <;> rcases h2 with rfl | rfl | rfl | rfl <;> simp only [a_cs, Nat.reduceLT, Nat.lt_irrefl, Nat.not_lt_zero, if_true, if_false, Nat.add_zero]
  · exact S_M1_00 hf hlt h0 hk hco hcl hst hpp hpc hob hql hu hu2 hg hcp7 hcc7
  · exact S_M1_01 hf hlt h0 hk hco hcl hst hpp hpc hob hql hu hu2 hg hcp7 hcc7
  · exact S_M1_02 hf hlt h0 hk hco hcl hst hpp hpc hob hql hu hu2 hg hcp7 hcc7
  · exact S_M1_03 hf hlt h0 hk hco hcl hst hpp hpc hob hql hu hu2 hg hcp7 hcc7
  · exact S_M1_10 hf hlt h0 hk hco hcl hst hpp hpc hob hql hu hu2 hg hcp7 hcc7
  · exact S_M1_11 hf hlt h0 hk hco hcl hst hpp hpc hob hql hu hu2 hg hcp7 hcc7
  · exact S_M1_12 hf hlt h0 hk hco hcl hst hpp hpc hob hql hu hu2 hg hcp7 hcc7
  · exact S_M1_13 hf hlt h0 hk hco hcl hst hpp hpc hob hql hu hu2 hg hcp7 hcc7
  · exact S_M1_20 hf hlt h0 hk hco hcl hst hpp hpc hob hql hu hu2 hg hcp7 hcc7
  · exact S_M1_21 hf hlt h0 hk hco hcl hst hpp hpc hob hql hu hu2 hg hcp7 hcc7
  · exact S_M1_22 hf hlt h0 hk hco hcl hst hpp hpc hob hql hu hu2 hg hcp7 hcc7
  · exact S_M1_23 hf hlt h0 hk hco hcl hst hpp hpc hob hql hu hu2 hg hcp7 hcc7
  · exact S_M1_30 hf hlt h0 hk hco hcl hst hpp hpc hob hql hu hu2 hg hcp7 hcc7
  · exact S_M1_31 hf hlt h0 hk hco hcl hst hpp hpc hob hql hu hu2 hg hcp7 hcc7
  · exact S_M1_32 hf hlt h0 hk hco hcl hst hpp hpc hob hql hu hu2 hg hcp7 hcc7
  · exact S_M1_33 hf hlt h0 hk hco hcl hst hpp hpc hob hql hu hu2 hg hcp7 hcc7
