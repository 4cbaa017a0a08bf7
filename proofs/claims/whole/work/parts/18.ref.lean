theorem mo_call {d mi : Nat} {vs : List Value} {μ : mo_Mem} {Q : mo_P} (cut : List Nat) (n : Nat) (h1 : (mo_ol vs).length ≤ mo_ml mi) (h : mo_go (mo_M d) Q (mo_wp (mo_M d) Q mi) cut mi n (0, mo_ent (mo_ml mi) vs, [], μ)) : mo_M (d + 1) mi vs μ Q := ⟨h1, mo_wp_go cut n h⟩
noncomputable def mo_b (p : Prop) : Int32 := @ite _ p (Classical.propDecidable p) 1 0
theorem mo_b_t {p : Prop} (h : p) : mo_b p = 1 := by unfold mo_b; rw [if_pos h]
theorem mo_b_f {p : Prop} (h : ¬ p) : mo_b p = 0 := by unfold mo_b; rw [if_neg h]
theorem mo_b0 (p : Prop) : (mo_b p = 0) = ¬ p := by
  apply propext
  by_cases h : p
  · rw [mo_b_t h]; simp [h]
  · rw [mo_b_f h]; simp [h]
theorem mo_b1 (p : Prop) : (mo_b p = 1) = p := by
  apply propext
  by_cases h : p
  · rw [mo_b_t h]; simp [h]
  · rw [mo_b_f h]; simp [h]
theorem mo_b01 (p : Prop) : (mo_b p = 0 ∨ mo_b p = 1) = True := by
  rw [mo_b0, mo_b1]
  by_cases h : p <;> simp [h]
theorem mo_bT : mo_b True = 1 := mo_b_t trivial
theorem mo_bF : mo_b False = 0 := mo_b_f id
theorem vp_in_neg {x : Int32} {n : Nat} (h : x < 0) : ¬ vp_in x n := fun q => q (Or.inl h)
theorem vp_in_lt {x : Int32} {n : Nat} (hn : n < 2 ^ 31) : vp_in x n ↔ ¬ x < 0 ∧ x < nI n := by
  rw [vp_in_iff, Int32.lt_iff_toInt_lt, Int32.lt_iff_toInt_lt, nI_toInt hn]
  show _ ↔ ¬ x.toInt < 0 ∧ _
  omega
theorem vp_in_le {x : Int32} {n : Nat} (hn : n < 2 ^ 31) : vp_in x n ↔ ¬ x < 0 ∧ ¬ nI n ≤ x := by
  rw [vp_in_iff, Int32.lt_iff_toInt_lt, Int32.le_iff_toInt_le, nI_toInt hn]
  show _ ↔ ¬ x.toInt < 0 ∧ _
  omega
theorem nI_inj {a b : Nat} (ha : a < 2 ^ 31) (hb : b < 2 ^ 31) : (nI a = nI b) = (a = b) := propext (nI_eq ha hb)
theorem nI_lit0 : (0 : Int32) = nI 0 := rfl
/-- two maps: the reference's ints and longs, by field and place -/
abbrev mo_A : Type := (Nat → Nat → Int32) × (Nat → Nat → Int64)
def a_I (A : mo_A) (j i : Nat) (v : Int32) : mo_A := (mo_u A.1 j i v, A.2)
def a_L (A : mo_A) (j i : Nat) (v : Int64) : mo_A := (A.1, mo_u A.2 j i v)
theorem a_I_1 (A : mo_A) (j i : Nat) (v : Int32) (j' i' : Nat) : (a_I A j i v).1 j' i' = if j' = j ∧ i' = i then v else A.1 j' i' := rfl
theorem a_I_2 (A : mo_A) (j i : Nat) (v : Int32) : (a_I A j i v).2 = A.2 := rfl
theorem a_L_1 (A : mo_A) (j i : Nat) (v : Int64) : (a_L A j i v).1 = A.1 := rfl
theorem a_L_2 (A : mo_A) (j i : Nat) (v : Int64) (j' i' : Nat) : (a_L A j i v).2 j' i' = if j' = j ∧ i' = i then v else A.2 j' i' := rfl
def r_off (j : Nat) : Nat := match j with
  | 1 => 1
  | 2 => 2
  | 3 => 3
  | 4 => 4
  | 6 => 5
  | 7 => 6
  | 8 => 7
  | 9 => 8
  | 10 => 9
  | 11 => 10
  | 12 => 11
  | 13 => 12
  | 14 => 13
  | 15 => 14
  | 16 => 15
  | 18 => 16
  | 19 => 17
  | 20 => 18
  | 21 => 19
  | 23 => 20
  | 24 => 21
  | 25 => 22
  | 28 => 23
  | 29 => 24
  | 30 => 25
  | 31 => 26
  | 32 => 27
  | 33 => 28
  | 34 => 29
  | 35 => 30
  | 44 => 31
  | _ => 0
def r_vw (r : Nat) (μ : mo_Mem) : mo_A := (fun j i => if r_off j = 0 then (if i = 0 then mo_I μ (768 + j) r else 0) else mo_AI μ (r + r_off j) i, fun j i => if r_off j = 0 then (if i = 0 then mo_L μ (768 + j) r else 0) else mo_AL μ (r + r_off j) i)
theorem r_off_lt {i : Nat} (hi : r_off i ≠ 0) : i < 45 := by
  unfold r_off at hi
  split at hi <;> first | omega | exact absurd rfl hi
set_option maxRecDepth 100000 in
theorem r_off_all : ∀ i, i < 45 → ∀ j, j < 45 → r_off i ≠ 0 → r_off i = r_off j → i = j := by decide +kernel
theorem r_off_inj {i j : Nat} (hi : r_off i ≠ 0) (h : r_off i = r_off j) : i = j := r_off_all i (r_off_lt hi) j (r_off_lt (by rw [← h]; exact hi)) hi h
theorem r_vw_AI (r : Nat) (μ : mo_Mem) (j i : Nat) (v : Int32) (hj : r_off j ≠ 0) : r_vw r (mo_wAI μ (r + r_off j) i v) = a_I (r_vw r μ) j i v := by
  refine Prod.ext (funext fun j' => funext fun i' => ?_) rfl
  show (if r_off j' = 0 then (if i' = 0 then mo_I μ (768 + j') r else 0) else mo_u (mo_AI μ) (r + r_off j) i v (r + r_off j') i') = mo_u (r_vw r μ).1 j i v j' i'
  unfold mo_u
  by_cases h0 : r_off j' = 0
  · have hne : ¬ j' = j := fun q => hj (by rw [← q]; exact h0)
    simp [r_vw, h0, hne]
  · rw [if_neg h0]
    by_cases hjj : j' = j
    · subst hjj
      by_cases hi : i' = i <;> simp [hi, r_vw, h0]
    · have : ¬ (r_off j' = r_off j) := fun q => hjj (r_off_inj h0 q)
      simp [this, hjj, r_vw, h0]
theorem r_vw_AL (r : Nat) (μ : mo_Mem) (j i : Nat) (v : Int64) (hj : r_off j ≠ 0) : r_vw r (mo_wAL μ (r + r_off j) i v) = a_L (r_vw r μ) j i v := by
  refine Prod.ext rfl (funext fun j' => funext fun i' => ?_)
  show (if r_off j' = 0 then (if i' = 0 then mo_L μ (768 + j') r else 0) else mo_u (mo_AL μ) (r + r_off j) i v (r + r_off j') i') = mo_u (r_vw r μ).2 j i v j' i'
  unfold mo_u
  by_cases h0 : r_off j' = 0
  · have hne : ¬ j' = j := fun q => hj (by rw [← q]; exact h0)
    simp [r_vw, h0, hne]
  · rw [if_neg h0]
    by_cases hjj : j' = j
    · subst hjj
      by_cases hi : i' = i <;> simp [hi, r_vw, h0]
    · have : ¬ (r_off j' = r_off j) := fun q => hjj (r_off_inj h0 q)
      simp [this, hjj, r_vw, h0]
theorem r_vw_I (r : Nat) (μ : mo_Mem) (j : Nat) (v : Int32) (hj : r_off j = 0) : r_vw r (mo_wI μ (768 + j) r v) = a_I (r_vw r μ) j 0 v := by
  refine Prod.ext (funext fun j' => funext fun i' => ?_) rfl
  show (if r_off j' = 0 then (if i' = 0 then mo_u (mo_I μ) (768 + j) r v (768 + j') r else 0) else mo_AI μ (r + r_off j') i') = mo_u (r_vw r μ).1 j 0 v j' i'
  unfold mo_u
  by_cases h0 : r_off j' = 0
  · rw [if_pos h0]
    by_cases hi : i' = 0
    · subst hi
      by_cases hjj : j' = j
      · subst hjj; simp
      · have : ¬ (768 + j' = 768 + j) := by omega
        simp [hjj, this, r_vw, h0]
    · simp [hi, r_vw, h0]
  · rw [if_neg h0, if_neg (fun q => h0 (by rw [q.1]; exact hj))]
    simp [r_vw, h0]
theorem r_vw_L (r : Nat) (μ : mo_Mem) (j : Nat) (v : Int64) (hj : r_off j = 0) : r_vw r (mo_wL μ (768 + j) r v) = a_L (r_vw r μ) j 0 v := by
  refine Prod.ext rfl (funext fun j' => funext fun i' => ?_)
  show (if r_off j' = 0 then (if i' = 0 then mo_u (mo_L μ) (768 + j) r v (768 + j') r else 0) else mo_AL μ (r + r_off j') i') = mo_u (r_vw r μ).2 j 0 v j' i'
  unfold mo_u
  by_cases h0 : r_off j' = 0
  · rw [if_pos h0]
    by_cases hi : i' = 0
    · subst hi
      by_cases hjj : j' = j
      · subst hjj; simp
      · have : ¬ (768 + j' = 768 + j) := by omega
        simp [hjj, this, r_vw, h0]
    · simp [hi, r_vw, h0]
  · rw [if_neg h0, if_neg (fun q => h0 (by rw [q.1]; exact hj))]
    simp [r_vw, h0]
def r_sh (r : Nat) (μ : mo_Mem) : Prop := mo_C μ r = 13 ∧ mo_R μ 769 r = some (r + 1) ∧ mo_C μ (r + 1) = 20 ∧ mo_N μ (r + 1) = 60 ∧ mo_R μ 770 r = some (r + 2) ∧ mo_C μ (r + 2) = 21 ∧ mo_N μ (r + 2) = 60 ∧ mo_R μ 771 r = some (r + 3) ∧ mo_C μ (r + 3) = 20 ∧ mo_N μ (r + 3) = 60 ∧ mo_R μ 772 r = some (r + 4) ∧ mo_C μ (r + 4) = 20 ∧ mo_N μ (r + 4) = 60 ∧ mo_R μ 774 r = some (r + 5) ∧ mo_C μ (r + 5) = 20 ∧ mo_N μ (r + 5) = 8 ∧ mo_R μ 775 r = some (r + 6) ∧ mo_C μ (r + 6) = 20 ∧ mo_N μ (r + 6) = 8 ∧ mo_R μ 776 r = some (r + 7) ∧ mo_C μ (r + 7) = 20 ∧ mo_N μ (r + 7) = 8 ∧ mo_R μ 777 r = some (r + 8) ∧ mo_C μ (r + 8) = 20 ∧ mo_N μ (r + 8) = 8 ∧ mo_R μ 778 r = some (r + 9) ∧ mo_C μ (r + 9) = 20 ∧ mo_N μ (r + 9) = 32 ∧ mo_R μ 779 r = some (r + 10) ∧ mo_C μ (r + 10) = 20 ∧ mo_N μ (r + 10) = 40 ∧ mo_R μ 780 r = some (r + 11) ∧ mo_C μ (r + 11) = 20 ∧ mo_N μ (r + 11) = 40 ∧ mo_R μ 781 r = some (r + 12) ∧ mo_C μ (r + 12) = 20 ∧ mo_N μ (r + 12) = 40 ∧ mo_R μ 782 r = some (r + 13) ∧ mo_C μ (r + 13) = 20 ∧ mo_N μ (r + 13) = 320 ∧ mo_R μ 783 r = some (r + 14) ∧ mo_C μ (r + 14) = 20 ∧ mo_N μ (r + 14) = 320 ∧ mo_R μ 784 r = some (r + 15) ∧ mo_C μ (r + 15) = 20 ∧ mo_N μ (r + 15) = 320 ∧ mo_R μ 786 r = some (r + 16) ∧ mo_C μ (r + 16) = 20 ∧ mo_N μ (r + 16) = 100 ∧ mo_R μ 787 r = some (r + 17) ∧ mo_C μ (r + 17) = 20 ∧ mo_N μ (r + 17) = 100 ∧ mo_R μ 788 r = some (r + 18) ∧ mo_C μ (r + 18) = 21 ∧ mo_N μ (r + 18) = 2400 ∧ mo_R μ 789 r = some (r + 19) ∧ mo_C μ (r + 19) = 21 ∧ mo_N μ (r + 19) = 3200 ∧ mo_R μ 791 r = some (r + 20) ∧ mo_C μ (r + 20) = 21 ∧ mo_N μ (r + 20) = 200 ∧ mo_R μ 792 r = some (r + 21) ∧ mo_C μ (r + 21) = 20 ∧ mo_N μ (r + 21) = 200 ∧ mo_R μ 793 r = some (r + 22) ∧ mo_C μ (r + 22) = 20 ∧ mo_N μ (r + 22) = 200 ∧ mo_R μ 796 r = some (r + 23) ∧ mo_C μ (r + 23) = 20 ∧ mo_N μ (r + 23) = 400 ∧ mo_R μ 797 r = some (r + 24) ∧ mo_C μ (r + 24) = 20 ∧ mo_N μ (r + 24) = 400 ∧ mo_R μ 798 r = some (r + 25) ∧ mo_C μ (r + 25) = 20 ∧ mo_N μ (r + 25) = 400 ∧ mo_R μ 799 r = some (r + 26) ∧ mo_C μ (r + 26) = 20 ∧ mo_N μ (r + 26) = 400 ∧ mo_R μ 800 r = some (r + 27) ∧ mo_C μ (r + 27) = 20 ∧ mo_N μ (r + 27) = 400 ∧ mo_R μ 801 r = some (r + 28) ∧ mo_C μ (r + 28) = 20 ∧ mo_N μ (r + 28) = 400 ∧ mo_R μ 802 r = some (r + 29) ∧ mo_C μ (r + 29) = 21 ∧ mo_N μ (r + 29) = 400 ∧ mo_R μ 803 r = some (r + 30) ∧ mo_C μ (r + 30) = 22 ∧ mo_N μ (r + 30) = 400 ∧ mo_R μ 812 r = some (r + 31) ∧ mo_C μ (r + 31) = 21 ∧ mo_N μ (r + 31) = 400
/-- the reference stands at r and holds A -/
def r_at (r : Nat) (μ : mo_Mem) (A : mo_A) : Prop := r_sh r μ ∧ r_vw r μ = A
theorem r_rd {r : Nat} {μ : mo_Mem} {A : mo_A} (h : r_at r μ A) : mo_I μ 768 r = A.1 0 0 ∧ (∀ i, mo_AI μ (r + 1) i = A.1 1 i) ∧ (∀ i, mo_AL μ (r + 2) i = A.2 2 i) ∧ (∀ i, mo_AI μ (r + 3) i = A.1 3 i) ∧ (∀ i, mo_AI μ (r + 4) i = A.1 4 i) ∧ mo_I μ 773 r = A.1 5 0 ∧ (∀ i, mo_AI μ (r + 5) i = A.1 6 i) ∧ (∀ i, mo_AI μ (r + 6) i = A.1 7 i) ∧ (∀ i, mo_AI μ (r + 7) i = A.1 8 i) ∧ (∀ i, mo_AI μ (r + 8) i = A.1 9 i) ∧ (∀ i, mo_AI μ (r + 9) i = A.1 10 i) ∧ (∀ i, mo_AI μ (r + 10) i = A.1 11 i) ∧ (∀ i, mo_AI μ (r + 11) i = A.1 12 i) ∧ (∀ i, mo_AI μ (r + 12) i = A.1 13 i) ∧ (∀ i, mo_AI μ (r + 13) i = A.1 14 i) ∧ (∀ i, mo_AI μ (r + 14) i = A.1 15 i) ∧ (∀ i, mo_AI μ (r + 15) i = A.1 16 i) ∧ mo_I μ 785 r = A.1 17 0 ∧ (∀ i, mo_AI μ (r + 16) i = A.1 18 i) ∧ (∀ i, mo_AI μ (r + 17) i = A.1 19 i) ∧ (∀ i, mo_AL μ (r + 18) i = A.2 20 i) ∧ (∀ i, mo_AL μ (r + 19) i = A.2 21 i) ∧ mo_I μ 790 r = A.1 22 0 ∧ (∀ i, mo_AL μ (r + 20) i = A.2 23 i) ∧ (∀ i, mo_AI μ (r + 21) i = A.1 24 i) ∧ (∀ i, mo_AI μ (r + 22) i = A.1 25 i) ∧ mo_L μ 794 r = A.2 26 0 ∧ mo_I μ 795 r = A.1 27 0 ∧ (∀ i, mo_AI μ (r + 23) i = A.1 28 i) ∧ (∀ i, mo_AI μ (r + 24) i = A.1 29 i) ∧ (∀ i, mo_AI μ (r + 25) i = A.1 30 i) ∧ (∀ i, mo_AI μ (r + 26) i = A.1 31 i) ∧ (∀ i, mo_AI μ (r + 27) i = A.1 32 i) ∧ (∀ i, mo_AI μ (r + 28) i = A.1 33 i) ∧ (∀ i, mo_AL μ (r + 29) i = A.2 34 i) ∧ (∀ i, mo_AI μ (r + 30) i = A.1 35 i) ∧ mo_L μ 804 r = A.2 36 0 ∧ mo_I μ 805 r = A.1 37 0 ∧ mo_I μ 806 r = A.1 38 0 ∧ mo_I μ 807 r = A.1 39 0 ∧ mo_I μ 808 r = A.1 40 0 ∧ mo_I μ 809 r = A.1 41 0 ∧ mo_I μ 810 r = A.1 42 0 ∧ mo_I μ 811 r = A.1 43 0 ∧ (∀ i, mo_AL μ (r + 31) i = A.2 44 i) := by
  obtain ⟨-, rfl⟩ := h
  exact ⟨rfl, (fun _ => rfl), (fun _ => rfl), (fun _ => rfl), (fun _ => rfl), rfl, (fun _ => rfl), (fun _ => rfl), (fun _ => rfl), (fun _ => rfl), (fun _ => rfl), (fun _ => rfl), (fun _ => rfl), (fun _ => rfl), (fun _ => rfl), (fun _ => rfl), (fun _ => rfl), rfl, (fun _ => rfl), (fun _ => rfl), (fun _ => rfl), (fun _ => rfl), rfl, (fun _ => rfl), (fun _ => rfl), (fun _ => rfl), rfl, rfl, (fun _ => rfl), (fun _ => rfl), (fun _ => rfl), (fun _ => rfl), (fun _ => rfl), (fun _ => rfl), (fun _ => rfl), (fun _ => rfl), rfl, rfl, rfl, rfl, rfl, rfl, rfl, rfl, (fun _ => rfl)⟩
theorem r_VW : (∀ (r : Nat) (μ : mo_Mem) (v : Int32), r_vw r (mo_wI μ 768 r v) = a_I (r_vw r μ) 0 0 v) ∧ (∀ (r : Nat) (μ : mo_Mem) (i : Nat) (v : Int32), r_vw r (mo_wAI μ (r + 1) i v) = a_I (r_vw r μ) 1 i v) ∧ (∀ (r : Nat) (μ : mo_Mem) (i : Nat) (v : Int64), r_vw r (mo_wAL μ (r + 2) i v) = a_L (r_vw r μ) 2 i v) ∧ (∀ (r : Nat) (μ : mo_Mem) (i : Nat) (v : Int32), r_vw r (mo_wAI μ (r + 3) i v) = a_I (r_vw r μ) 3 i v) ∧ (∀ (r : Nat) (μ : mo_Mem) (i : Nat) (v : Int32), r_vw r (mo_wAI μ (r + 4) i v) = a_I (r_vw r μ) 4 i v) ∧ (∀ (r : Nat) (μ : mo_Mem) (v : Int32), r_vw r (mo_wI μ 773 r v) = a_I (r_vw r μ) 5 0 v) ∧ (∀ (r : Nat) (μ : mo_Mem) (i : Nat) (v : Int32), r_vw r (mo_wAI μ (r + 5) i v) = a_I (r_vw r μ) 6 i v) ∧ (∀ (r : Nat) (μ : mo_Mem) (i : Nat) (v : Int32), r_vw r (mo_wAI μ (r + 6) i v) = a_I (r_vw r μ) 7 i v) ∧ (∀ (r : Nat) (μ : mo_Mem) (i : Nat) (v : Int32), r_vw r (mo_wAI μ (r + 7) i v) = a_I (r_vw r μ) 8 i v) ∧ (∀ (r : Nat) (μ : mo_Mem) (i : Nat) (v : Int32), r_vw r (mo_wAI μ (r + 8) i v) = a_I (r_vw r μ) 9 i v) ∧ (∀ (r : Nat) (μ : mo_Mem) (i : Nat) (v : Int32), r_vw r (mo_wAI μ (r + 9) i v) = a_I (r_vw r μ) 10 i v) ∧ (∀ (r : Nat) (μ : mo_Mem) (i : Nat) (v : Int32), r_vw r (mo_wAI μ (r + 10) i v) = a_I (r_vw r μ) 11 i v) ∧ (∀ (r : Nat) (μ : mo_Mem) (i : Nat) (v : Int32), r_vw r (mo_wAI μ (r + 11) i v) = a_I (r_vw r μ) 12 i v) ∧ (∀ (r : Nat) (μ : mo_Mem) (i : Nat) (v : Int32), r_vw r (mo_wAI μ (r + 12) i v) = a_I (r_vw r μ) 13 i v) ∧ (∀ (r : Nat) (μ : mo_Mem) (i : Nat) (v : Int32), r_vw r (mo_wAI μ (r + 13) i v) = a_I (r_vw r μ) 14 i v) ∧ (∀ (r : Nat) (μ : mo_Mem) (i : Nat) (v : Int32), r_vw r (mo_wAI μ (r + 14) i v) = a_I (r_vw r μ) 15 i v) ∧ (∀ (r : Nat) (μ : mo_Mem) (i : Nat) (v : Int32), r_vw r (mo_wAI μ (r + 15) i v) = a_I (r_vw r μ) 16 i v) ∧ (∀ (r : Nat) (μ : mo_Mem) (v : Int32), r_vw r (mo_wI μ 785 r v) = a_I (r_vw r μ) 17 0 v) ∧ (∀ (r : Nat) (μ : mo_Mem) (i : Nat) (v : Int32), r_vw r (mo_wAI μ (r + 16) i v) = a_I (r_vw r μ) 18 i v) ∧ (∀ (r : Nat) (μ : mo_Mem) (i : Nat) (v : Int32), r_vw r (mo_wAI μ (r + 17) i v) = a_I (r_vw r μ) 19 i v) ∧ (∀ (r : Nat) (μ : mo_Mem) (i : Nat) (v : Int64), r_vw r (mo_wAL μ (r + 18) i v) = a_L (r_vw r μ) 20 i v) ∧ (∀ (r : Nat) (μ : mo_Mem) (i : Nat) (v : Int64), r_vw r (mo_wAL μ (r + 19) i v) = a_L (r_vw r μ) 21 i v) ∧ (∀ (r : Nat) (μ : mo_Mem) (v : Int32), r_vw r (mo_wI μ 790 r v) = a_I (r_vw r μ) 22 0 v) ∧ (∀ (r : Nat) (μ : mo_Mem) (i : Nat) (v : Int64), r_vw r (mo_wAL μ (r + 20) i v) = a_L (r_vw r μ) 23 i v) ∧ (∀ (r : Nat) (μ : mo_Mem) (i : Nat) (v : Int32), r_vw r (mo_wAI μ (r + 21) i v) = a_I (r_vw r μ) 24 i v) ∧ (∀ (r : Nat) (μ : mo_Mem) (i : Nat) (v : Int32), r_vw r (mo_wAI μ (r + 22) i v) = a_I (r_vw r μ) 25 i v) ∧ (∀ (r : Nat) (μ : mo_Mem) (v : Int64), r_vw r (mo_wL μ 794 r v) = a_L (r_vw r μ) 26 0 v) ∧ (∀ (r : Nat) (μ : mo_Mem) (v : Int32), r_vw r (mo_wI μ 795 r v) = a_I (r_vw r μ) 27 0 v) ∧ (∀ (r : Nat) (μ : mo_Mem) (i : Nat) (v : Int32), r_vw r (mo_wAI μ (r + 23) i v) = a_I (r_vw r μ) 28 i v) ∧ (∀ (r : Nat) (μ : mo_Mem) (i : Nat) (v : Int32), r_vw r (mo_wAI μ (r + 24) i v) = a_I (r_vw r μ) 29 i v) ∧ (∀ (r : Nat) (μ : mo_Mem) (i : Nat) (v : Int32), r_vw r (mo_wAI μ (r + 25) i v) = a_I (r_vw r μ) 30 i v) ∧ (∀ (r : Nat) (μ : mo_Mem) (i : Nat) (v : Int32), r_vw r (mo_wAI μ (r + 26) i v) = a_I (r_vw r μ) 31 i v) ∧ (∀ (r : Nat) (μ : mo_Mem) (i : Nat) (v : Int32), r_vw r (mo_wAI μ (r + 27) i v) = a_I (r_vw r μ) 32 i v) ∧ (∀ (r : Nat) (μ : mo_Mem) (i : Nat) (v : Int32), r_vw r (mo_wAI μ (r + 28) i v) = a_I (r_vw r μ) 33 i v) ∧ (∀ (r : Nat) (μ : mo_Mem) (i : Nat) (v : Int64), r_vw r (mo_wAL μ (r + 29) i v) = a_L (r_vw r μ) 34 i v) ∧ (∀ (r : Nat) (μ : mo_Mem) (i : Nat) (v : Int32), r_vw r (mo_wAI μ (r + 30) i v) = a_I (r_vw r μ) 35 i v) ∧ (∀ (r : Nat) (μ : mo_Mem) (v : Int64), r_vw r (mo_wL μ 804 r v) = a_L (r_vw r μ) 36 0 v) ∧ (∀ (r : Nat) (μ : mo_Mem) (v : Int32), r_vw r (mo_wI μ 805 r v) = a_I (r_vw r μ) 37 0 v) ∧ (∀ (r : Nat) (μ : mo_Mem) (v : Int32), r_vw r (mo_wI μ 806 r v) = a_I (r_vw r μ) 38 0 v) ∧ (∀ (r : Nat) (μ : mo_Mem) (v : Int32), r_vw r (mo_wI μ 807 r v) = a_I (r_vw r μ) 39 0 v) ∧ (∀ (r : Nat) (μ : mo_Mem) (v : Int32), r_vw r (mo_wI μ 808 r v) = a_I (r_vw r μ) 40 0 v) ∧ (∀ (r : Nat) (μ : mo_Mem) (v : Int32), r_vw r (mo_wI μ 809 r v) = a_I (r_vw r μ) 41 0 v) ∧ (∀ (r : Nat) (μ : mo_Mem) (v : Int32), r_vw r (mo_wI μ 810 r v) = a_I (r_vw r μ) 42 0 v) ∧ (∀ (r : Nat) (μ : mo_Mem) (v : Int32), r_vw r (mo_wI μ 811 r v) = a_I (r_vw r μ) 43 0 v) ∧ (∀ (r : Nat) (μ : mo_Mem) (i : Nat) (v : Int64), r_vw r (mo_wAL μ (r + 31) i v) = a_L (r_vw r μ) 44 i v) :=
  ⟨(fun r μ v => r_vw_I r μ 0 v (by decide)), (fun r μ i v => r_vw_AI r μ 1 i v (by decide)), (fun r μ i v => r_vw_AL r μ 2 i v (by decide)), (fun r μ i v => r_vw_AI r μ 3 i v (by decide)), (fun r μ i v => r_vw_AI r μ 4 i v (by decide)), (fun r μ v => r_vw_I r μ 5 v (by decide)), (fun r μ i v => r_vw_AI r μ 6 i v (by decide)), (fun r μ i v => r_vw_AI r μ 7 i v (by decide)), (fun r μ i v => r_vw_AI r μ 8 i v (by decide)), (fun r μ i v => r_vw_AI r μ 9 i v (by decide)), (fun r μ i v => r_vw_AI r μ 10 i v (by decide)), (fun r μ i v => r_vw_AI r μ 11 i v (by decide)), (fun r μ i v => r_vw_AI r μ 12 i v (by decide)), (fun r μ i v => r_vw_AI r μ 13 i v (by decide)), (fun r μ i v => r_vw_AI r μ 14 i v (by decide)), (fun r μ i v => r_vw_AI r μ 15 i v (by decide)), (fun r μ i v => r_vw_AI r μ 16 i v (by decide)), (fun r μ v => r_vw_I r μ 17 v (by decide)), (fun r μ i v => r_vw_AI r μ 18 i v (by decide)), (fun r μ i v => r_vw_AI r μ 19 i v (by decide)), (fun r μ i v => r_vw_AL r μ 20 i v (by decide)), (fun r μ i v => r_vw_AL r μ 21 i v (by decide)), (fun r μ v => r_vw_I r μ 22 v (by decide)), (fun r μ i v => r_vw_AL r μ 23 i v (by decide)), (fun r μ i v => r_vw_AI r μ 24 i v (by decide)), (fun r μ i v => r_vw_AI r μ 25 i v (by decide)), (fun r μ v => r_vw_L r μ 26 v (by decide)), (fun r μ v => r_vw_I r μ 27 v (by decide)), (fun r μ i v => r_vw_AI r μ 28 i v (by decide)), (fun r μ i v => r_vw_AI r μ 29 i v (by decide)), (fun r μ i v => r_vw_AI r μ 30 i v (by decide)), (fun r μ i v => r_vw_AI r μ 31 i v (by decide)), (fun r μ i v => r_vw_AI r μ 32 i v (by decide)), (fun r μ i v => r_vw_AI r μ 33 i v (by decide)), (fun r μ i v => r_vw_AL r μ 34 i v (by decide)), (fun r μ i v => r_vw_AI r μ 35 i v (by decide)), (fun r μ v => r_vw_L r μ 36 v (by decide)), (fun r μ v => r_vw_I r μ 37 v (by decide)), (fun r μ v => r_vw_I r μ 38 v (by decide)), (fun r μ v => r_vw_I r μ 39 v (by decide)), (fun r μ v => r_vw_I r μ 40 v (by decide)), (fun r μ v => r_vw_I r μ 41 v (by decide)), (fun r μ v => r_vw_I r μ 42 v (by decide)), (fun r μ v => r_vw_I r μ 43 v (by decide)), (fun r μ i v => r_vw_AL r μ 44 i v (by decide))⟩
theorem r_sh_c {r : Nat} {μ μ' : mo_Mem} (h : r_sh r μ) (e1 : mo_C μ' = mo_C μ) (e2 : mo_N μ' = mo_N μ) (e3 : mo_R μ' = mo_R μ) : r_sh r μ' := by
  unfold r_sh at h ⊢
  rw [e1, e2, e3]
  exact h
