/-- what enter(METHOD) of the reference makes of A -/
def a_nm (A : mo_A) (u F m o k : Nat) (g : Int64) (A1 : mo_A) : Prop := (u < 12 ∧ ∃ g0, A.1 41 0 = nI g0 ∧ A1 = a_push (a_I (a_I A 38 0 (nI (u + 1))) 41 0 (nI (g0 + 1))) F 2 (nI m) (nI o) (nI k) g) ∨ (u = 12 ∧ A1 = a_I A 37 0 8)
/-- a method runs -/
def c_RM (x : Nat) (B : mo_A) (G : c_G) (u D : Nat) : Prop := ∀ μ A O no P F b q k nm o g A1 Q, c_st x B G μ → c_dy x B G u P F μ A O no b q → A.1 37 0 = 0 → k < gnc G → nm < 4 → B.1 11 (5 * k + 1 + nm) ≠ 0 → o < no → (∃ c0, A.1 18 o = nI c0 ∧ c0 < gnc G ∧ a_bel B 8 c0 k = true) → F ≤ P + 2 * u + 1 → a_nm A u F (5 * k + 1 + nm) o k g A1 → (∀ v μ' A' O' no' b' q', c_dy x B G u P F μ' A' O' no' b' q' → a_rc (x + 28) A1 A' → c_kp x u P F μ A O no b μ' A' O' no' b' → (A'.1 37 0 = 0 → v = A'.2 36 0) → Q (some (.long v)) μ') → mo_M D 22 [.ref (x + 1), .ref (gT G k), .int (nI nm), .ref (O o), .long g] μ Q
/-- an object is made in an exp, and its field read -/
def c_FM (x : Nat) (B : mo_A) (G : c_G) (u D : Nat) : Prop := ∀ μ A O no P F b q e c Q, c_st x B G μ → c_dy x B G u P (F + 1) μ A O no b q → A.1 37 0 = 0 → e < gne G → B.1 1 e = 9 → B.2 2 e = lN c → c < gnc G → A.1 28 F = 0 → A.1 29 F = nI e → A.1 30 F = 2 → F ≤ P + 2 * u → (∀ v μ' A' O' no' b' q', c_dy x B G u P F μ' A' O' no' b' q' → a_rc (x + 28) A A' → c_kp x u P F μ A O no b μ' A' O' no' b' → (A'.1 37 0 = 0 → v = A'.2 36 0) → Q (some (.long v)) μ') → mo_M D 35 [.ref (x + 1), .ref (gT G c), .long (A.2 44 F), .long (A.2 36 0)] μ Q
theorem S_capF {r f e c q : Nat} {A : mo_A} (hf : A.1 27 0 = nI (f + 1)) (hlt : f < 399) (h0 : A.1 37 0 = 0) (hk : A.1 28 f = 0) (he : A.1 29 f = nI e) (hel : e < 60) (hsrt : A.1 1 e = 2) (hco : A.1 31 f = nI c) (hcl : c < 8) (hlt2 : ¬ A.2 2 e < (A.1 7 c).toInt64) (hq : A.1 39 0 = nI q) (hq4 : q ≤ 4) : r_S r A (a_fl (a_I A 30 f (A.1 30 f + 1)) q 2) := by
  unfold a_fl
  by_cases h : q < 4
  · rw [if_pos h]; exact S_capFa hf hlt h0 hk he hel hsrt hco hcl hlt2 hq h
  · rw [if_neg h]; exact S_capFb hf hlt h0 hk he hel hsrt hco hcl hlt2 (by rw [hq]; congr 1; omega)
theorem S_fldF {r f e c q : Nat} {A : mo_A} (hf : A.1 27 0 = nI (f + 1)) (hlt : f < 399) (h0 : A.1 37 0 = 0) (hk : A.1 28 f = 0) (he : A.1 29 f = nI e) (hel : e < 60) (hsrt : A.1 1 e = 3) (hco : A.1 31 f = nI c) (hcl : c < 8) (hlt2 : ¬ A.2 2 e < (A.1 8 c).toInt64) (hq : A.1 39 0 = nI q) (hq4 : q ≤ 4) : r_S r A (a_fl (a_I A 30 f (A.1 30 f + 1)) q 2) := by
  unfold a_fl
  by_cases h : q < 4
  · rw [if_pos h]; exact S_fldFa hf hlt h0 hk he hel hsrt hco hcl hlt2 hq h
  · rw [if_neg h]; exact S_fldFb hf hlt h0 hk he hel hsrt hco hcl hlt2 (by rw [hq]; congr 1; omega)
theorem S_c6F {r f e q : Nat} {A : mo_A} (hf : A.1 27 0 = nI (f + 1)) (hlt : f < 399) (h0 : A.1 37 0 = 0) (hk : A.1 28 f = 0) (he : A.1 29 f = nI e) (hel : e < 60) (hsrt : A.1 1 e = 6) (hst : A.1 30 f = 2) (hz : A.2 36 0 = 0) (hq : A.1 39 0 = nI q) (hq4 : q ≤ 4) : r_S r A (a_fl (a_I A 30 f 3) q 3) := by
  unfold a_fl
  by_cases h : q < 4
  · rw [if_pos h]; exact S_c6Fa hf hlt h0 hk he hel hsrt hst hz hq h
  · rw [if_neg h]; exact S_c6Fb hf hlt h0 hk he hel hsrt hst hz (by rw [hq]; congr 1; omega)
theorem S_k7N {r f e c c0 o nc nm q : Nat} {B A : mo_A} (lk : a_lk B A) (hf : A.1 27 0 = nI (f + 1)) (hlt : f < 399) (h0 : A.1 37 0 = 0) (hk : A.1 28 f = 0) (he : A.1 29 f = nI e) (hel : e < 60) (hst : A.1 30 f = 1) (hco : A.1 31 f = nI c) (hcl : c < 8) (hn : A.2 2 e = lN nm) (hnm : nm < 4) (hsrt : A.1 1 e = 7) (hpw : a_pw B nc) (hnc : nc ≤ 8) (hob : A.1 32 f = nI o) (hpl : o < 100) (hcf : A.1 18 o = nI c0) (hq0 : c0 < nc) (hq : A.1 39 0 = nI q) (hq4 : q ≤ 4) (hcal : a_cal B c0 c nm = none) : r_S r A (a_fl (a_I A 30 f 2) q 1) := by
  unfold a_cal at hcal
  by_cases hop : B.1 11 (5 * c + 1 + nm) = 2
  · rw [if_pos hop] at hcal; cases hcal
  · rw [if_neg hop] at hcal
    have hop' : ¬ A.1 11 (5 * c + 1 + nm) = 2 := by rw [(lk 11 (by decide)).1]; exact hop
    rw [← lk_near lk] at hcal
    unfold a_fl
    by_cases h : q < 4
    · rw [if_pos h]; exact S_k7Fa hf hlt h0 hk he hel hst hco hcl hn hnm hsrt hop' (lk_pw lk hpw) hnc hob hpl hcf hq0 hcal hq h
    · rw [if_neg h]; exact S_k7Fb hf hlt h0 hk he hel hst hco hcl hn hnm hsrt hop' (lk_pw lk hpw) hnc hob hpl hcf hq0 hcal (by rw [hq]; congr 1; omega)
theorem S_k7U {r f e c c0 o nc nm u k : Nat} {B A : mo_A} (lk : a_lk B A) (hf : A.1 27 0 = nI (f + 1)) (hlt : f < 399) (h0 : A.1 37 0 = 0) (hk : A.1 28 f = 0) (he : A.1 29 f = nI e) (hel : e < 60) (hst : A.1 30 f = 1) (hco : A.1 31 f = nI c) (hcl : c < 8) (hn : A.2 2 e = lN nm) (hnm : nm < 4) (hsrt : A.1 1 e = 7) (hpw : a_pw B nc) (hnc : nc ≤ 8) (hob : A.1 32 f = nI o) (hpl : o < 100) (hcf : A.1 18 o = nI c0) (hq0 : c0 < nc) (hu : A.1 38 0 = nI u) (hu2 : u ≤ 12) (hcal : a_cal B c0 c nm = some k) : ∃ A1, a_nm (a_I A 30 f 2) u (f + 1) (5 * k + 1 + nm) o k (A.2 36 0) A1 ∧ r_S r A A1 := by
  obtain ⟨g0, hg⟩ := i_ex (A.1 41 0)
  unfold a_cal at hcal
  by_cases hop : B.1 11 (5 * c + 1 + nm) = 2
  · rw [if_pos hop] at hcal
    have hck : k = c := (Option.some.inj hcal).symm
    subst hck
    have hop' : A.1 11 (5 * k + 1 + nm) = 2 := by rw [(lk 11 (by decide)).1]; exact hop
    by_cases h : u < 12
    · refine ⟨_, Or.inl ⟨h, g0, by rw [a_I_n (by decide)]; exact hg, rfl⟩, ?_⟩
      have := S_k7p (r := r) hf hlt h0 hk he hel hst hco hcl hn hnm hsrt hop' hu h hg
      rw [hob] at this
      exact this
    · have : u = 12 := by omega
      subst this
      exact ⟨_, Or.inr ⟨rfl, rfl⟩, S_k7pS hf hlt h0 hk he hel hst hco hcl hn hnm hsrt hop' hu⟩
  · rw [if_neg hop] at hcal
    have hop' : ¬ A.1 11 (5 * c + 1 + nm) = 2 := by rw [(lk 11 (by decide)).1]; exact hop
    rw [← lk_near lk] at hcal
    by_cases h : u < 12
    · refine ⟨_, Or.inl ⟨h, g0, by rw [a_I_n (by decide)]; exact hg, rfl⟩, ?_⟩
      exact S_k7n hf hlt h0 hk he hel hst hco hcl hn hnm hsrt hop' (lk_pw lk hpw) hnc hob hpl hcf hq0 hcal hu h hg
    · have : u = 12 := by omega
      subst this
      exact ⟨_, Or.inr ⟨rfl, rfl⟩, S_k7nS hf hlt h0 hk he hel hst hco hcl hn hnm hsrt hop' (lk_pw lk hpw) hnc hob hpl hcf hq0 hcal hu⟩
theorem S_k8N {r f e c nc nm q : Nat} {B A : mo_A} (lk : a_lk B A) (hf : A.1 27 0 = nI (f + 1)) (hlt : f < 399) (h0 : A.1 37 0 = 0) (hk : A.1 28 f = 0) (he : A.1 29 f = nI e) (hel : e < 60) (hst : A.1 30 f = 1) (hco : A.1 31 f = nI c) (hcl : c < nc) (hn : A.2 2 e = lN nm) (hnm : nm < 4) (hsrt : A.1 1 e = 8) (hpw : a_pw B nc) (hnc : nc ≤ 8) (hq : A.1 39 0 = nI q) (hq4 : q ≤ 4) (hcal : (a_par B c).bind (fun p => a_near B 8 p nm) = none) : r_S r A (a_fl (a_I A 30 f 2) q 1) := by
  rcases a_par_c hnc hpw hcl with ⟨q1, q2⟩ | ⟨p, q1, q2, q3⟩
  · have hpp : A.1 6 c = -1 := by rw [(lk 6 (by decide)).1]; exact q1
    unfold a_fl
    by_cases h : q < 4
    · rw [if_pos h]; exact S_k8Na hf hlt h0 hk he hel hst hco (by omega) hn hnm hsrt hpp hq h
    · rw [if_neg h]; exact S_k8Nb hf hlt h0 hk he hel hst hco (by omega) hn hnm hsrt hpp (by rw [hq]; congr 1; omega)
  · have hpp : A.1 6 c = nI p := by rw [(lk 6 (by decide)).1]; exact q2
    rw [q3, Option.bind_some, ← lk_near lk] at hcal
    unfold a_fl
    by_cases h : q < 4
    · rw [if_pos h]; exact S_k8Fa hf hlt h0 hk he hel hst hco (by omega) hn hnm hsrt (lk_pw lk hpw) hnc hpp (by omega) hcal hq h
    · rw [if_neg h]; exact S_k8Fb hf hlt h0 hk he hel hst hco (by omega) hn hnm hsrt (lk_pw lk hpw) hnc hpp (by omega) hcal (by rw [hq]; congr 1; omega)
theorem S_k8U {r f e c o nc nm u k : Nat} {B A : mo_A} (lk : a_lk B A) (hf : A.1 27 0 = nI (f + 1)) (hlt : f < 399) (h0 : A.1 37 0 = 0) (hk : A.1 28 f = 0) (he : A.1 29 f = nI e) (hel : e < 60) (hst : A.1 30 f = 1) (hco : A.1 31 f = nI c) (hcl : c < nc) (hn : A.2 2 e = lN nm) (hnm : nm < 4) (hsrt : A.1 1 e = 8) (hpw : a_pw B nc) (hnc : nc ≤ 8) (hob : A.1 32 f = nI o) (hu : A.1 38 0 = nI u) (hu2 : u ≤ 12) (hcal : (a_par B c).bind (fun p => a_near B 8 p nm) = some k) : ∃ A1, a_nm (a_I A 30 f 2) u (f + 1) (5 * k + 1 + nm) o k (A.2 36 0) A1 ∧ r_S r A A1 := by
  obtain ⟨g0, hg⟩ := i_ex (A.1 41 0)
  rcases a_par_c hnc hpw hcl with ⟨q1, q2⟩ | ⟨p, q1, q2, q3⟩
  · rw [q2] at hcal; cases hcal
  · have hpp : A.1 6 c = nI p := by rw [(lk 6 (by decide)).1]; exact q2
    rw [q3, Option.bind_some, ← lk_near lk] at hcal
    by_cases h : u < 12
    · refine ⟨_, Or.inl ⟨h, g0, by rw [a_I_n (by decide)]; exact hg, rfl⟩, ?_⟩
      have := S_k8n (r := r) hf hlt h0 hk he hel hst hco (by omega) hn hnm hsrt (lk_pw lk hpw) hnc hpp (by omega) hcal hu h hg
      rw [hob] at this
      exact this
    · have : u = 12 := by omega
      subst this
      exact ⟨_, Or.inr ⟨rfl, rfl⟩, S_k8nS hf hlt h0 hk he hel hst hco (by omega) hn hnm hsrt (lk_pw lk hpw) hnc hpp (by omega) hcal hu⟩
