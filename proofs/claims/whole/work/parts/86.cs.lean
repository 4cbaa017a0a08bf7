theorem in_fa {x : Nat} {μ : mo_Mem} (hX : mo_X μ = x) (hI : ∀ k a, mo_I μ k a = 0) (hL : ∀ k a, mo_L μ k a = 0) (hAL : ∀ a i, mo_AL μ a i = 0) : (∀ k a, mo_I (m_in x μ) k a = 0) ∧ (∀ k a, mo_L (m_in x μ) k a = 0) ∧ (∀ a i, mo_AL (m_in x μ) a i = 0) ∧ mo_X (m_in x μ) = x + 28 ∧ mo_S (m_in x μ) = mo_S μ + 1745 ∧ (∀ a, a < x → mo_C (m_in x μ) a = mo_C μ a ∧ mo_N (m_in x μ) a = mo_N μ a) ∧ (∀ a, a < x → mo_AI (m_in x μ) a = mo_AI μ a) ∧ ((∀ a i, x ≤ a → mo_AI μ a i = 0) → ∀ a i, x ≤ a → mo_AI (m_in x μ) a i = 0) := by
  refine ⟨fun k a => ?_, fun k a => ?_, fun a i => ?_, ?_, ?_, fun a ha => ?_, fun a ha => funext fun i => ?_, fun h a i ha => ?_⟩
  · simp only [m_in, mo_ME, mo_z_a, hI, ite_self]
  · simp only [m_in, mo_ME, mo_z_a, hL, ite_self]
  · simp only [m_in, mo_ME, mo_y_a, hAL, ite_self]
  · simp only [m_in, mo_ME, hX, Nat.add_assoc, Nat.reduceAdd]
  · simp only [m_in, mo_ME, Nat.add_assoc, Nat.reduceAdd]
  · simp only [m_in, mo_ME, mo_v, hX]
    constructor
    · repeat rw [if_neg (by omega)]
    · repeat rw [if_neg (by omega)]
  · simp only [m_in, mo_ME, mo_y_a, hX]
    repeat rw [if_neg (by omega)]
  · simp only [m_in, mo_ME, mo_y_a, h a i ha, ite_self]
theorem ir_fa {x : Nat} {μ : mo_Mem} (hX : mo_X μ = x) (hI : ∀ k a, mo_I μ k a = 0) (hL : ∀ k a, mo_L μ k a = 0) (hAL : ∀ a i, mo_AL μ a i = 0) : (∀ k a, mo_I (m_ir x μ) k a = 0) ∧ (∀ k a, mo_L (m_ir x μ) k a = 0) ∧ (∀ a i, mo_AL (m_ir x μ) a i = 0) ∧ mo_X (m_ir x μ) = x + 32 ∧ mo_S (m_ir x μ) = mo_S μ + 11429 ∧ (∀ a, a < x → mo_C (m_ir x μ) a = mo_C μ a ∧ mo_N (m_ir x μ) a = mo_N μ a) ∧ (∀ a, a < x → mo_AI (m_ir x μ) a = mo_AI μ a) ∧ (∀ k a, a < x → mo_R (m_ir x μ) k a = mo_R μ k a) ∧ (∀ a, a < x → mo_AR (m_ir x μ) a = mo_AR μ a) ∧ (∀ y, y ≤ x → (∀ a i, y ≤ a → mo_AI μ a i = 0) → ∀ a i, y ≤ a → mo_AI (m_ir x μ) a i = 0) := by
  refine ⟨fun k a => ?_, fun k a => ?_, fun a i => ?_, ?_, ?_, fun a ha => ?_, fun a ha => funext fun i => ?_, fun k a ha => ?_, fun a ha => funext fun i => ?_, fun y hy h a i ha => ?_⟩
  · simp only [m_ir, mo_ME, mo_z_a, hI, ite_self]
  · simp only [m_ir, mo_ME, mo_z_a, hL, ite_self]
  · simp only [m_ir, mo_ME, mo_y_a, hAL, ite_self]
  · simp only [m_ir, mo_ME, hX, Nat.add_assoc, Nat.reduceAdd]
  · simp only [m_ir, mo_ME, Nat.add_assoc, Nat.reduceAdd]
  · have hn : ∀ n, (a = x + n) = False := fun n => eq_false (by omega)
    have h0 : (a = x) = False := eq_false (by omega)
    simp only [m_ir, mo_ME, mo_v, hX, Nat.add_assoc, Nat.reduceAdd, hn, h0, if_false, and_self]
  · have hn : ∀ n, (a = x + n) = False := fun n => eq_false (by omega)
    have h0 : (a = x) = False := eq_false (by omega)
    simp only [m_ir, mo_ME, mo_y_a, hX, Nat.add_assoc, Nat.reduceAdd, hn, h0, if_false]
  · have hn : ∀ n, (a = x + n) = False := fun n => eq_false (by omega)
    have h0 : (a = x) = False := eq_false (by omega)
    simp only [m_ir, mo_ME, mo_z_a, mo_u_a, hX, Nat.add_assoc, Nat.reduceAdd, hn, h0, if_false, and_false]
  · have hn : ∀ n, (a = x + n) = False := fun n => eq_false (by omega)
    have h0 : (a = x) = False := eq_false (by omega)
    simp only [m_ir, mo_ME, mo_y_a, hX, Nat.add_assoc, Nat.reduceAdd, hn, h0, if_false]
  · simp only [m_ir, mo_ME, mo_y_a, h a i ha, ite_self]
def g_0 : c_G := (0, 0, fun _ => 0, fun _ => 0, fun _ => 0, fun _ => 0)
theorem iv_0 {x : Nat} {μ : mo_Mem} (h1 : cl_sh x μ) (h2 : r_sh (x + 28) μ) (hX : mo_X μ = x + 60) (hS : mo_S μ = 13174) (hI : ∀ k a, mo_I μ k a = 0) (hL : ∀ k a, mo_L μ k a = 0) (hAI : ∀ a i, x ≤ a → mo_AI μ a i = 0) (hAL : ∀ a i, mo_AL μ a i = 0) : c_iv x 13174 0 μ := by
  have hA : r_vw (x + 28) μ = (fun _ _ => 0, fun _ _ => 0) := by
    refine Prod.ext (funext fun j => funext fun i => ?_) (funext fun j => funext fun i => ?_)
    · show (if r_off j = 0 then (if i = 0 then mo_I μ (768 + j) (x + 28) else 0) else mo_AI μ (x + 28 + r_off j) i) = 0
      rw [hI, hAI _ _ (by omega), ite_self, ite_self]
    · show (if r_off j = 0 then (if i = 0 then mo_L μ (768 + j) (x + 28) else 0) else mo_AL μ (x + 28 + r_off j) i) = 0
      rw [hL, hAL, ite_self, ite_self]
  have hz : (0 : Int32) = nI 0 := rfl
  refine ⟨(fun _ _ => 0, fun _ _ => 0), g_0, fun _ => 0, 0, 0, 0, ⟨h1, by omega, ⟨by decide, by decide, rfl, rfl, fun c hc => absurd hc (Nat.not_lt_zero _), fun c hc => absurd hc (Nat.not_lt_zero _), fun c hc => absurd hc (Nat.not_lt_zero _), fun c hc => absurd hc (Nat.not_lt_zero _), fun m _ _ => ⟨rfl, rfl⟩⟩, hI _ _, hI _ _, fun c hc => absurd hc (Nat.not_lt_zero _), fun c hc => absurd hc (Nat.not_lt_zero _), fun c hc => absurd hc (Nat.not_lt_zero _), fun c _ hc => absurd hc (Nat.not_lt_zero _), fun c _ hc => absurd hc (Nat.not_lt_zero _), fun c hc => absurd hc (Nat.not_lt_zero _)⟩, ⟨lk_rf _, hI _ _, rfl, by decide, hI _ _, rfl, by decide, hI _ _, by decide, rfl, hI _ _, rfl, by decide, hI _ _, hI _ _, hI _ _, hI _ _, rfl, by decide, hI _ _, fun _ => by decide, hL _ _, ⟨0, by decide, hI _ _, rfl, fun i _ => ⟨hAL _ _, hAI _ _ (by omega), hAI _ _ (by omega)⟩⟩, fun c hc => absurd hc (Nat.not_lt_zero _), fun o _ _ => ⟨fun i _ => rfl, fun i _ => rfl⟩⟩, ⟨h2, hA⟩, fun c hc => absurd hc (Nat.not_lt_zero _), by omega, by omega⟩
theorem iv_start {S b L : Nat} {xs : Nat → Int32} (hb : b < S) : c_iv S 13174 0 (m_ir (S + 28) (m_in S (mo_mem0 S b L xs))) ∧ c_sc b (mo_mem0 S b L xs) (m_ir (S + 28) (m_in S (mo_mem0 S b L xs))) := by
  have hX0 : mo_X (mo_mem0 S b L xs) = S := rfl
  have hAI0 : ∀ a i, S ≤ a → mo_AI (mo_mem0 S b L xs) a i = 0 := fun a i ha => by
    show (if a = b then xs i else 0) = 0
    rw [if_neg (by omega)]
  obtain ⟨a1, a2, a3, a4, a5, a6, a7, a8⟩ := in_fa hX0 (fun k a => rfl) (fun k a => rfl) (fun a i => rfl)
  have hsh := in_sh hX0
  have hS0 : mo_S (mo_mem0 S b L xs) = 0 := rfl
  have a8 := a8 hAI0
  generalize hμ1 : m_in S (mo_mem0 S b L xs) = μ1 at *
  obtain ⟨b1, b2, b3, b4, b5, b6, b7, b8, b9, b10⟩ := ir_fa a4 a1 a2 a3
  have hrs := in_rs a4
  have b10 := b10 S (by omega) a8
  generalize m_ir (S + 28) μ1 = μ2 at *
  refine ⟨iv_0 ⟨?_, fun i hi => ?_⟩ hrs (by omega) (by omega) b1 b2 b10 b3, ⟨(b6 b (by omega)).1.trans (a6 b hb).1, (b6 b (by omega)).2.trans (a6 b hb).2, (b7 b (by omega)).trans (a7 b hb), fun a ha => (b6 a (by omega)).1.trans (a6 a (by omega)).1, by omega⟩⟩
  · have h1a := hsh.1
    unfold cl_sf at h1a ⊢
    obtain ⟨h0, h1, h2, h3, h4, h5, h6, h7, h8, h9, h10, h11, h12, h13, h14, h15, h16, h17, h18, h19, h20, h21, h22, h23, h24, h25, h26, h27, h28, h29, h30, h31, h32, h33, h34, h35, h36, h37, h38, h39, h40, h41⟩ := h1a
    exact ⟨(b6 _ (by omega)).1.trans h0, (b8 _ _ (by omega)).trans h1, (b8 _ _ (by omega)).trans h2, (b6 _ (by omega)).1.trans h3, (b8 _ _ (by omega)).trans h4, (b8 _ _ (by omega)).trans h5, (b8 _ _ (by omega)).trans h6, (b8 _ _ (by omega)).trans h7, (b8 _ _ (by omega)).trans h8, (b8 _ _ (by omega)).trans h9, (b6 _ (by omega)).1.trans h10, (b8 _ _ (by omega)).trans h11, (b8 _ _ (by omega)).trans h12, (b6 _ (by omega)).1.trans h13, (b6 _ (by omega)).2.trans h14, (b6 _ (by omega)).1.trans h15, (b6 _ (by omega)).2.trans h16, (b6 _ (by omega)).1.trans h17, (b8 _ _ (by omega)).trans h18, (b8 _ _ (by omega)).trans h19, (b8 _ _ (by omega)).trans h20, (b6 _ (by omega)).1.trans h21, (b6 _ (by omega)).2.trans h22, (b6 _ (by omega)).1.trans h23, (b6 _ (by omega)).2.trans h24, (b6 _ (by omega)).1.trans h25, (b6 _ (by omega)).2.trans h26, (b6 _ (by omega)).1.trans h27, (b6 _ (by omega)).1.trans h28, (b6 _ (by omega)).2.trans h29, (b6 _ (by omega)).1.trans h30, (b8 _ _ (by omega)).trans h31, (b8 _ _ (by omega)).trans h32, (b8 _ _ (by omega)).trans h33, (b6 _ (by omega)).1.trans h34, (b6 _ (by omega)).2.trans h35, (b6 _ (by omega)).1.trans h36, (b6 _ (by omega)).2.trans h37, (b6 _ (by omega)).1.trans h38, (b6 _ (by omega)).2.trans h39, (b6 _ (by omega)).1.trans h40, (b6 _ (by omega)).2.trans h41⟩
  · obtain ⟨z1, z2⟩ := hsh.2 i hi
    exact ⟨by rw [b9 _ (by omega)]; exact z1, by rw [(b6 _ (by omega)).1]; exact z2⟩
