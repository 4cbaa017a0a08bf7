/-- the two kinds of code: a method's acts stand from 0, a maker's from 10 -/
def a_kf (kd : Int32) (fm : Nat) : Prop := (kd = 2 ∧ fm = 0) ∨ (kd = 1 ∧ fm = 10)
theorem S_wU {r f c m k fm b e : Nat} {kd : Int32} {A : mo_A} (hkf : a_kf kd fm) (hf : A.1 27 0 = nI (f + 1)) (hlt : f < 399) (h0 : A.1 37 0 = 0) (hk : A.1 28 f = kd) (hco : A.1 31 f = nI c) (hcl : c < 8) (hid : A.1 29 f = nI m) (hml : m < 40) (hk8 : k < 8) (hst : A.1 30 f = nI (2 * k + fm)) (hac : ¬ A.1 13 m ≤ nI k) (he : A.1 16 (8 * m + k) = nI e) (hb : A.1 40 0 = nI b) (hb3 : b ≤ 300) : ∃ A1, a_wk (a_I A 30 f (nI (2 * k + 1 + fm))) b e f A1 ∧ r_S r A A1 := by
  by_cases hb2 : b < 300
  · refine ⟨_, wk_1 hb2, ?_⟩
    rw [← he]
    rcases hkf with ⟨rfl, rfl⟩ | ⟨rfl, rfl⟩
    · have := S_Nw (r := r) hf hlt h0 hk hco hcl hid hml (by omega) hk8 hst hac hb hb2
      rw [← hco] at this
      exact this
    · have := S_Kw (r := r) hf hlt h0 hk hco hcl hid hml (by omega) hk8 hst hac hb hb2
      rw [← hco] at this
      exact this
  · have hb4 : b = 300 := by omega
    subst hb4
    refine ⟨_, wk_2 rfl, ?_⟩
    rcases hkf with ⟨rfl, rfl⟩ | ⟨rfl, rfl⟩
    · exact S_NwS hf hlt h0 hk hco hcl hid hml (by omega) hst hk8 hac hb
    · exact S_KwS hf hlt h0 hk hco hcl hid hml (by omega) hst hk8 hac hb
theorem S_setU {r f c m k fm p q : Nat} {kd : Int32} {A : mo_A} (hkf : a_kf kd fm) (hf : A.1 27 0 = nI (f + 1)) (hlt : f < 399) (h0 : A.1 37 0 = 0) (hk : A.1 28 f = kd) (hco : A.1 31 f = nI c) (hcl : c < 8) (hid : A.1 29 f = nI m) (hml : m < 40) (hk8 : k < 8) (hst : A.1 30 f = nI (2 * k + 1 + fm)) (hac : ¬ A.1 13 m ≤ nI k) (has : A.1 14 (8 * m + k) = 0) (hfl : A.1 15 (8 * m + k) = nI q) (hq4 : q < 4) (hfd : nI q < A.1 8 c) (hob : A.1 32 f = nI p) (hpl : p < 100) : r_S r A (a_L (a_I A 30 f (nI (2 * k + 2 + fm))) 21 (32 * p + 4 * c + q) (A.2 36 0)) := by
  rcases hkf with ⟨rfl, rfl⟩ | ⟨rfl, rfl⟩
  · exact S_Nset hf hlt h0 hk hco hcl hid hml (by omega) hk8 hst hac has hfl hq4 hfd hob hpl
  · exact S_Kset hf hlt h0 hk hco hcl hid hml (by omega) hk8 hst hac has hfl hq4 hfd hob hpl
theorem S_setFU {r f c m k fm q : Nat} {kd : Int32} {A : mo_A} (hkf : a_kf kd fm) (hf : A.1 27 0 = nI (f + 1)) (hlt : f < 399) (h0 : A.1 37 0 = 0) (hk : A.1 28 f = kd) (hco : A.1 31 f = nI c) (hcl : c < 8) (hid : A.1 29 f = nI m) (hml : m < 40) (hk8 : k < 8) (hst : A.1 30 f = nI (2 * k + 1 + fm)) (hac : ¬ A.1 13 m ≤ nI k) (has : A.1 14 (8 * m + k) = 0) (hfd : ¬ A.1 15 (8 * m + k) < A.1 8 c) (hq : A.1 39 0 = nI q) (hq4 : q ≤ 4) : r_S r A (a_fl (a_I A 30 f (nI (2 * k + 2 + fm))) q 2) := by
  rcases hkf with ⟨rfl, rfl⟩ | ⟨rfl, rfl⟩
  · unfold a_fl
    by_cases h : q < 4
    · rw [if_pos h]; exact S_NsetFa hf hlt h0 hk hco hcl hid hml (by omega) hk8 hst hac has hfd hq h
    · rw [if_neg h]; exact S_NsetFb hf hlt h0 hk hco hcl hid hml (by omega) hk8 hst hac has hfd (by rw [hq]; congr 1; omega)
  · unfold a_fl
    by_cases h : q < 4
    · rw [if_pos h]; exact S_KsetFa hf hlt h0 hk hco hcl hid hml (by omega) hk8 hst hac has hfd hq h
    · rw [if_neg h]; exact S_KsetFb hf hlt h0 hk hco hcl hid hml (by omega) hk8 hst hac has hfd (by rw [hq]; congr 1; omega)
theorem S_logU {r f c m k fm lg : Nat} {kd : Int32} {A : mo_A} (hkf : a_kf kd fm) (hf : A.1 27 0 = nI (f + 1)) (hlt : f < 399) (h0 : A.1 37 0 = 0) (hk : A.1 28 f = kd) (hco : A.1 31 f = nI c) (hcl : c < 8) (hid : A.1 29 f = nI m) (hml : m < 40) (hk8 : k < 8) (hst : A.1 30 f = nI (2 * k + 1 + fm)) (hac : ¬ A.1 13 m ≤ nI k) (has : A.1 14 (8 * m + k) = 1) (hlg : A.1 22 0 = nI lg) (hl2 : lg < 200) : r_S r A (a_I (a_I (a_I (a_L (a_I A 30 f (nI (2 * k + 2 + fm))) 23 lg (A.2 36 0)) 24 lg (nI c)) 25 lg (A.1 32 f)) 22 0 (nI (lg + 1))) := by
  rcases hkf with ⟨rfl, rfl⟩ | ⟨rfl, rfl⟩
  · exact S_Nlog hf hlt h0 hk hco hcl hid hml (by omega) hk8 hst hac has hlg hl2
  · exact S_Klog hf hlt h0 hk hco hcl hid hml (by omega) hk8 hst hac has hlg hl2
theorem S_logFU {r f c m k fm : Nat} {kd : Int32} {A : mo_A} (hkf : a_kf kd fm) (hf : A.1 27 0 = nI (f + 1)) (hlt : f < 399) (h0 : A.1 37 0 = 0) (hk : A.1 28 f = kd) (hco : A.1 31 f = nI c) (hcl : c < 8) (hid : A.1 29 f = nI m) (hml : m < 40) (hk8 : k < 8) (hst : A.1 30 f = nI (2 * k + 1 + fm)) (hac : ¬ A.1 13 m ≤ nI k) (has : A.1 14 (8 * m + k) = 1) (hlg : A.1 22 0 = nI 200) : r_S r A (a_I A 30 f (nI (2 * k + 2 + fm))) := by
  rcases hkf with ⟨rfl, rfl⟩ | ⟨rfl, rfl⟩
  · exact S_NlogF hf hlt h0 hk hco hcl hid hml (by omega) hk8 hst hac has hlg
  · exact S_KlogF hf hlt h0 hk hco hcl hid hml (by omega) hk8 hst hac has hlg
theorem S_nopU {r f c m k fm : Nat} {kd : Int32} {A : mo_A} (hkf : a_kf kd fm) (hf : A.1 27 0 = nI (f + 1)) (hlt : f < 399) (h0 : A.1 37 0 = 0) (hk : A.1 28 f = kd) (hco : A.1 31 f = nI c) (hcl : c < 8) (hid : A.1 29 f = nI m) (hml : m < 40) (hk8 : k < 8) (hst : A.1 30 f = nI (2 * k + 1 + fm)) (hac : ¬ A.1 13 m ≤ nI k) (has : A.1 14 (8 * m + k) = 2) : r_S r A (a_I A 30 f (nI (2 * k + 2 + fm))) := by
  rcases hkf with ⟨rfl, rfl⟩ | ⟨rfl, rfl⟩
  · exact S_Nnop hf hlt h0 hk hco hcl hid hml (by omega) hk8 hst hac has
  · exact S_Knop hf hlt h0 hk hco hcl hid hml (by omega) hk8 hst hac has
