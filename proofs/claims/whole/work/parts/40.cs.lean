/-- what work(e) of the reference makes of A, at frame f -/
def a_wk (A : mo_A) (b e f : Nat) (A1 : mo_A) : Prop := (b < 300 ∧ A1 = a_push (a_I A 40 0 (nI (b + 1))) (f + 1) 0 (nI e) (A.1 32 f) (A.1 31 f) (A.2 34 f)) ∨ (b = 300 ∧ A1 = a_I A 37 0 8)
theorem wk_1 {A : mo_A} {b e f : Nat} (hb : b < 300) : a_wk A b e f (a_push (a_I A 40 0 (nI (b + 1))) (f + 1) 0 (nI e) (A.1 32 f) (A.1 31 f) (A.2 34 f)) := Or.inl ⟨hb, rfl⟩
theorem wk_2 {A : mo_A} {b e f : Nat} (hb : b = 300) : a_wk A b e f (a_I A 37 0 8) := Or.inr ⟨hb, rfl⟩
theorem a_I_n {A : mo_A} {j i j' i' : Nat} {v : Int32} (h : j' ≠ j) : (a_I A j i v).1 j' i' = A.1 j' i' := by rw [a_I_1, if_neg (fun q => h q.1)]
theorem S_aU {r f e b s a : Nat} {A : mo_A} (hf : A.1 27 0 = nI (f + 1)) (hlt : f < 399) (h0 : A.1 37 0 = 0) (hk : A.1 28 f = 0) (he : A.1 29 f = nI e) (hel : e < 60) (hs4 : 4 ≤ s) (hs10 : s ≤ 10) (hsrt : A.1 1 e = nI s) (hst : A.1 30 f = 0) (hb : A.1 40 0 = nI b) (hb3 : b ≤ 300) (ha : A.1 3 e = nI a) : ∃ A1, a_wk (a_I A 30 f 1) b a f A1 ∧ r_S r A A1 := by
  have hc : s = 4 ∨ s = 5 ∨ s = 6 ∨ s = 7 ∨ s = 8 ∨ s = 9 ∨ s = 10 := by omega
  by_cases hb2 : b < 300
  · refine ⟨_, wk_1 hb2, ?_⟩
    rw [← ha]
    rcases hc with q | q | q | q | q | q | q <;> subst q
    · exact S_a4 hf hlt h0 hk he hel hsrt hst hb hb2
    · exact S_a5 hf hlt h0 hk he hel hsrt hst hb hb2
    · exact S_a6 hf hlt h0 hk he hel hsrt hst hb hb2
    · exact S_a7 hf hlt h0 hk he hel hsrt hst hb hb2
    · exact S_a8 hf hlt h0 hk he hel hsrt hst hb hb2
    · exact S_a9 hf hlt h0 hk he hel hsrt hst hb hb2
    · exact S_a10 hf hlt h0 hk he hel hsrt hst hb hb2
  · have hb4 : b = 300 := by omega
    subst hb4
    refine ⟨_, wk_2 rfl, ?_⟩
    rcases hc with q | q | q | q | q | q | q <;> subst q
    · exact S_a4S hf hlt h0 hk he hel hsrt hst hb
    · exact S_a5S hf hlt h0 hk he hel hsrt hst hb
    · exact S_a6S hf hlt h0 hk he hel hsrt hst hb
    · exact S_a7S hf hlt h0 hk he hel hsrt hst hb
    · exact S_a8S hf hlt h0 hk he hel hsrt hst hb
    · exact S_a9S hf hlt h0 hk he hel hsrt hst hb
    · exact S_a10S hf hlt h0 hk he hel hsrt hst hb
theorem S_bU {r f e b s a : Nat} {A : mo_A} (hf : A.1 27 0 = nI (f + 1)) (hlt : f < 399) (h0 : A.1 37 0 = 0) (hk : A.1 28 f = 0) (he : A.1 29 f = nI e) (hel : e < 60) (hs4 : s = 4 ∨ s = 5 ∨ s = 6 ∨ s = 9) (hsrt : A.1 1 e = nI s) (hst : A.1 30 f = 1) (hb : A.1 40 0 = nI b) (hb3 : b ≤ 300) (ha : A.1 4 e = nI a) : ∃ A1, a_wk (a_L (a_I A 30 f 2) 44 f (A.2 36 0)) b a f A1 ∧ r_S r A A1 := by
  by_cases hb2 : b < 300
  · refine ⟨_, wk_1 hb2, ?_⟩
    rw [← ha]
    rcases hs4 with q | q | q | q <;> subst q
    · exact S_b4 hf hlt h0 hk he hel hsrt hst hb hb2
    · exact S_b5 hf hlt h0 hk he hel hsrt hst hb hb2
    · exact S_b6 hf hlt h0 hk he hel hsrt hst hb hb2
    · exact S_b9 hf hlt h0 hk he hel hsrt hst hb hb2
  · have hb4 : b = 300 := by omega
    subst hb4
    refine ⟨_, wk_2 rfl, ?_⟩
    rcases hs4 with q | q | q | q <;> subst q
    · exact S_b4S hf hlt h0 hk he hel hsrt hst hb
    · exact S_b5S hf hlt h0 hk he hel hsrt hst hb
    · exact S_b6S hf hlt h0 hk he hel hsrt hst hb
    · exact S_b9S hf hlt h0 hk he hel hsrt hst hb
theorem S_tU {r f e b tk a : Nat} {A : mo_A} (hf : A.1 27 0 = nI (f + 1)) (hlt : f < 399) (hfl : ¬ A.1 37 0 = 0) (hk : A.1 28 f = 0) (he : A.1 29 f = nI e) (hel : e < 60) (hsrt : A.1 1 e = 10) (hst : A.1 30 f = 1) (h8 : ¬ A.1 37 0 = 8) (htk : A.1 43 0 = nI tk) (hb : A.1 40 0 = nI b) (hb3 : b ≤ 300) (ha : A.1 4 e = nI a) : ∃ A1, a_wk (a_I (a_I (a_I A 37 0 0) 43 0 (nI (tk + 1))) 30 f 2) b a f A1 ∧ r_S r A A1 := by
  by_cases hb2 : b < 300
  · refine ⟨_, wk_1 hb2, ?_⟩
    rw [← ha]
    exact S_L_try hf hlt hfl hk he hel hsrt hst h8 htk hb hb2
  · have hb4 : b = 300 := by omega
    subst hb4
    exact ⟨_, wk_2 rfl, S_L_tryS hf hlt hfl hk he hel hsrt hst h8 htk hb⟩
/-- an exp's frame goes, as something fails -/
theorem S_pU {r f e : Nat} {A : mo_A} (hf : A.1 27 0 = nI (f + 1)) (hlt : f < 399) (hfl : ¬ A.1 37 0 = 0) (hk : A.1 28 f = 0) (he : A.1 29 f = nI e) (hel : e < 60) (hp : ¬ A.1 1 e = 10 ∨ ¬ A.1 30 f = 1 ∨ A.1 37 0 = 8) : r_S r A (a_I A 27 0 (nI f)) := by
  by_cases q1 : A.1 1 e = 10
  · by_cases q2 : A.1 30 f = 1
    · rcases hp with q | q | q
      · exact absurd q1 q
      · exact absurd q2 q
      · exact S_L_popC hf hlt q hk he hel q1 q2
    · exact S_L_popB hf hlt hfl hk he hel q1 q2
  · exact S_L_popA hf hlt hfl hk he hel q1
/-- what fail(w) of the reference makes of A -/
def a_fl (A : mo_A) (q : Nat) (w : Int32) : mo_A := if q < 4 then a_I (a_I A 39 0 (nI (q + 1))) 37 0 w else a_I (a_I A 39 0 (nI 5)) 37 0 8
theorem fl_x (A : mo_A) (q : Nat) (w : Int32) : a_x (37 :: 39 :: a_sk) A (a_fl A q w) := by
  unfold a_fl
  split
  · exact ax_I (by decide) (ax_I (by decide) (ax_rf _ _))
  · exact ax_I (by decide) (ax_I (by decide) (ax_rf _ _))
theorem fl_u (F : Nat) (A : mo_A) (q : Nat) (w : Int32) : a_u F A (a_fl A q w) := by
  unfold a_fl
  split
  · exact au_I (by omega) (au_I (by omega) (au_rf _ _))
  · exact au_I (by omega) (au_I (by omega) (au_rf _ _))
theorem fl_37 (A : mo_A) (q : Nat) {w : Int32} (hw : w ≠ 0) : (a_fl A q w).1 37 0 ≠ 0 := by
  unfold a_fl
  split
  · rw [a_I_1, if_pos ⟨rfl, rfl⟩]; exact hw
  · rw [a_I_1, if_pos ⟨rfl, rfl⟩]; decide
theorem fl_27 (A : mo_A) (q : Nat) (w : Int32) (i : Nat) : (a_fl A q w).1 27 i = A.1 27 i := by
  unfold a_fl
  split
  · rw [a_I_n (by decide), a_I_n (by decide)]
  · rw [a_I_n (by decide), a_I_n (by decide)]
theorem dy_fl {x u P F b q no F' : Nat} {B : mo_A} {G : c_G} {O : Nat → Nat} {μ : mo_Mem} {A : mo_A} {w : Int32} (h : c_dy x B G u P F μ A O no b q) (h0 : A.1 37 0 = 0) (hF : A.1 27 0 = nI F') : q ≤ 4 ∧ c_dy x B G u P F' (m_fl x μ q w) (a_fl A q w) O no b (q + 1) := by
  have hq4 : q ≤ 4 := h.2.2.2.2.2.2.2.2.2.2.2.2.2.2.2.2.2.2.2.2.1 (by rw [h0]; decide)
  refine ⟨hq4, ?_⟩
  by_cases hq : q < 4
  · have e : a_fl A q w = a_I (a_I A 39 0 (nI (q + 1))) 37 0 w := by unfold a_fl; rw [if_pos hq]
    exact dy_fa hq h (fl_x A q w) (by rw [fl_27]; exact hF) (by rw [e, a_I_n (by decide), a_I_1, if_pos ⟨rfl, rfl⟩]) (by rw [e, a_I_1, if_pos ⟨rfl, rfl⟩])
  · have hq5 : q = 4 := by omega
    have e : a_fl A q w = a_I (a_I A 39 0 (nI 5)) 37 0 8 := by unfold a_fl; rw [if_neg hq]
    have e2 : q + 1 = 5 := by omega
    rw [e2]
    exact dy_fb hq5 h (fl_x A q w) (by rw [fl_27]; exact hF) (by rw [e, a_I_n (by decide), a_I_1, if_pos ⟨rfl, rfl⟩]) (by rw [e, a_I_1, if_pos ⟨rfl, rfl⟩])
