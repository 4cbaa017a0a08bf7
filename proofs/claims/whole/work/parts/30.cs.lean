/-- the objects that the class has for ever -/
def cl_sf (x : Nat) (μ : mo_Mem) : Prop := mo_C μ x = 12 ∧ mo_R μ 704 x = some (x + 1) ∧ mo_R μ 705 x = some (x + 2) ∧ mo_C μ (x + 1) = 6 ∧ mo_R μ 320 (x + 1) = some (x + 2) ∧ mo_R μ 321 (x + 1) = some (x + 5) ∧ mo_R μ 322 (x + 1) = some (x + 9) ∧ mo_R μ 323 (x + 1) = some (x + 10) ∧ mo_R μ 325 (x + 1) = some (x + 11) ∧ mo_R μ 326 (x + 1) = some (x + 15) ∧ mo_C μ (x + 2) = 8 ∧ mo_R μ 448 (x + 2) = some (x + 3) ∧ mo_R μ 449 (x + 2) = some (x + 4) ∧ mo_C μ (x + 3) = 32 ∧ mo_N μ (x + 3) = 60 ∧ mo_C μ (x + 4) = 40 ∧ mo_N μ (x + 4) = 8 ∧ mo_C μ (x + 5) = 5 ∧ mo_R μ 256 (x + 5) = some (x + 6) ∧ mo_R μ 257 (x + 5) = some (x + 7) ∧ mo_R μ 258 (x + 5) = some (x + 8) ∧ mo_C μ (x + 6) = 21 ∧ mo_N μ (x + 6) = 200 ∧ mo_C μ (x + 7) = 20 ∧ mo_N μ (x + 7) = 200 ∧ mo_C μ (x + 8) = 20 ∧ mo_N μ (x + 8) = 200 ∧ mo_C μ (x + 9) = 9 ∧ mo_C μ (x + 10) = 39 ∧ mo_N μ (x + 10) = 100 ∧ mo_C μ (x + 11) = 7 ∧ mo_R μ 384 (x + 11) = some (x + 12) ∧ mo_R μ 385 (x + 11) = some (x + 13) ∧ mo_R μ 386 (x + 11) = some (x + 14) ∧ mo_C μ (x + 12) = 32 ∧ mo_N μ (x + 12) = 300 ∧ mo_C μ (x + 13) = 20 ∧ mo_N μ (x + 13) = 300 ∧ mo_C μ (x + 14) = 21 ∧ mo_N μ (x + 14) = 300 ∧ mo_C μ (x + 15) = 33 ∧ mo_N μ (x + 15) = 12
def cl_sh (x : Nat) (μ : mo_Mem) : Prop := cl_sf x μ ∧ (∀ i, i < 12 → mo_AR μ (x + 15) i = some (x + 16 + i) ∧ mo_C μ (x + 16 + i) = 4)
def cl_pk (k : Nat) : Prop := k < 192 ∨ (448 ≤ k ∧ k < 512) ∨ (640 ≤ k ∧ k < 704) ∨ k = 576
/-- what a run leaves alone: the plan, the pointers, the reference -/
def cl_k (x : Nat) (μ μ' : mo_Mem) : Prop := mo_X μ ≤ mo_X μ' ∧ (∀ a, a < mo_X μ → mo_C μ' a = mo_C μ a ∧ mo_N μ' a = mo_N μ a) ∧ (∀ k a, a < mo_X μ → k ≠ 192 → k ≠ 193 → mo_R μ' k a = mo_R μ k a) ∧ (∀ k a, a < mo_X μ → cl_pk k → mo_I μ' k a = mo_I μ k a ∧ mo_L μ' k a = mo_L μ k a) ∧ (∀ a, a < mo_X μ → a ≠ x + 10 → a ≠ x + 12 → mo_AR μ' a = mo_AR μ a) ∧ (∀ a, a < mo_X μ → a ≠ x + 7 → a ≠ x + 8 → a ≠ x + 13 → mo_AI μ' a = mo_AI μ a) ∧ (∀ k, mo_I μ' k (x + 28) = mo_I μ k (x + 28) ∧ mo_L μ' k (x + 28) = mo_L μ k (x + 28)) ∧ (∀ a, x + 28 ≤ a → a < x + 60 → mo_AL μ' a = mo_AL μ a) ∧ mo_L μ' 706 x = mo_L μ 706 x
theorem cl_k_rf (x : Nat) (μ : mo_Mem) : cl_k x μ μ := ⟨Nat.le_refl _, fun _ _ => ⟨rfl, rfl⟩, fun _ _ _ _ _ => rfl, fun _ _ _ _ => ⟨rfl, rfl⟩, fun _ _ _ _ => rfl, fun _ _ _ _ _ => rfl, fun _ => ⟨rfl, rfl⟩, fun _ _ _ => rfl, rfl⟩
theorem cl_k_tr {x : Nat} {μ μ' μ'' : mo_Mem} (h : cl_k x μ μ') (g : cl_k x μ' μ'') : cl_k x μ μ'' := by
  obtain ⟨a1, a2, a3, a4, a5, a6, a7, a8, a9⟩ := h
  obtain ⟨b1, b2, b3, b4, b5, b6, b7, b8, b9⟩ := g
  exact ⟨Nat.le_trans a1 b1, fun a q => ⟨(b2 a (Nat.lt_of_lt_of_le q a1)).1.trans (a2 a q).1, (b2 a (Nat.lt_of_lt_of_le q a1)).2.trans (a2 a q).2⟩, fun k a q r s => (b3 k a (Nat.lt_of_lt_of_le q a1) r s).trans (a3 k a q r s), fun k a q r => ⟨(b4 k a (Nat.lt_of_lt_of_le q a1) r).1.trans (a4 k a q r).1, (b4 k a (Nat.lt_of_lt_of_le q a1) r).2.trans (a4 k a q r).2⟩, fun a q r s => (b5 a (Nat.lt_of_lt_of_le q a1) r s).trans (a5 a q r s), fun a q r s t => (b6 a (Nat.lt_of_lt_of_le q a1) r s t).trans (a6 a q r s t), fun k => ⟨(b7 k).1.trans (a7 k).1, (b7 k).2.trans (a7 k).2⟩, fun a q r => (b8 a q r).trans (a8 a q r), b9.trans a9⟩
theorem cl_k_I {x : Nat} {μ μ' : mo_Mem} {k a : Nat} {v : Int32} (h : cl_k x μ μ') (h1 : a < mo_X μ → ¬ cl_pk k) (h2 : a ≠ x + 28) : cl_k x μ (mo_wI μ' k a v) := by
  obtain ⟨a1, a2, a3, a4, a5, a6, a7, a8, a9⟩ := h
  refine ⟨a1, a2, a3, fun k' a' q r => ⟨?_, (a4 k' a' q r).2⟩, a5, a6, fun k' => ⟨?_, (a7 k').2⟩, a8, a9⟩
  · rw [mo_I_wI, mo_u_a, if_neg (fun t => h1 (by rw [← t.2]; exact q) (by rw [← t.1]; exact r))]; exact (a4 k' a' q r).1
  · rw [mo_I_wI, mo_u_a, if_neg (fun t => h2 t.2.symm)]; exact (a7 k').1
theorem cl_k_L {x : Nat} {μ μ' : mo_Mem} {k a : Nat} {v : Int64} (h : cl_k x μ μ') (h1 : a < mo_X μ → ¬ cl_pk k) (h2 : a ≠ x + 28) (h3 : a ≠ x) : cl_k x μ (mo_wL μ' k a v) := by
  obtain ⟨a1, a2, a3, a4, a5, a6, a7, a8, a9⟩ := h
  refine ⟨a1, a2, a3, fun k' a' q r => ⟨(a4 k' a' q r).1, ?_⟩, a5, a6, fun k' => ⟨(a7 k').1, ?_⟩, a8, ?_⟩
  · rw [mo_L_wL, mo_u_a, if_neg (fun t => h1 (by rw [← t.2]; exact q) (by rw [← t.1]; exact r))]; exact (a4 k' a' q r).2
  · rw [mo_L_wL, mo_u_a, if_neg (fun t => h2 t.2.symm)]; exact (a7 k').2
  · rw [mo_L_wL, mo_u_a, if_neg (fun t => h3 t.2.symm)]; exact a9
theorem cl_k_R {x : Nat} {μ μ' : mo_Mem} {k a : Nat} {v : Option Nat} (h : cl_k x μ μ') (h1 : a < mo_X μ → k = 192 ∨ k = 193) : cl_k x μ (mo_wR μ' k a v) := by
  obtain ⟨a1, a2, a3, a4, a5, a6, a7, a8, a9⟩ := h
  refine ⟨a1, a2, fun k' a' q r s => ?_, a4, a5, a6, a7, a8, a9⟩
  rw [mo_R_wR, mo_u_a, if_neg (fun t => by rcases h1 (by rw [← t.2]; exact q) with w | w; exact r (t.1.trans w); exact s (t.1.trans w))]; exact a3 k' a' q r s
theorem cl_k_AI {x : Nat} {μ μ' : mo_Mem} {a i : Nat} {v : Int32} (h : cl_k x μ μ') (h1 : a < mo_X μ → a = x + 7 ∨ a = x + 8 ∨ a = x + 13) : cl_k x μ (mo_wAI μ' a i v) := by
  obtain ⟨a1, a2, a3, a4, a5, a6, a7, a8, a9⟩ := h
  refine ⟨a1, a2, a3, a4, a5, fun a' q r s t => ?_, a7, a8, a9⟩
  rw [← a6 a' q r s t]
  funext j
  rw [mo_AI_wAI, mo_u_a, if_neg (fun w => by rcases h1 (by rw [← w.1]; exact q) with z | z | z <;> rw [← w.1] at z; exact r z; exact s z; exact t z)]
theorem cl_k_AL {x : Nat} {μ μ' : mo_Mem} {a i : Nat} {v : Int64} (h : cl_k x μ μ') (h1 : a < x + 28 ∨ x + 60 ≤ a) : cl_k x μ (mo_wAL μ' a i v) := by
  obtain ⟨a1, a2, a3, a4, a5, a6, a7, a8, a9⟩ := h
  refine ⟨a1, a2, a3, a4, a5, a6, a7, fun a' q r => ?_, a9⟩
  rw [← a8 a' q r]
  funext j
  rw [mo_AL_wAL, mo_u_a, if_neg (fun w => by omega)]
theorem cl_k_AR {x : Nat} {μ μ' : mo_Mem} {a i : Nat} {v : Option Nat} (h : cl_k x μ μ') (h1 : a < mo_X μ → a = x + 10 ∨ a = x + 12) : cl_k x μ (mo_wAR μ' a i v) := by
  obtain ⟨a1, a2, a3, a4, a5, a6, a7, a8, a9⟩ := h
  refine ⟨a1, a2, a3, a4, fun a' q r s => ?_, a6, a7, a8, a9⟩
  rw [← a5 a' q r s]
  funext j
  rw [mo_AR_wAR, mo_u_a, if_neg (fun w => by rcases h1 (by rw [← w.1]; exact q) with z | z <;> rw [← w.1] at z; exact r z; exact s z)]
theorem cl_k_new {x : Nat} {μ μ' : mo_Mem} {t l n : Nat} (h : cl_k x μ μ') (hx : x + 60 ≤ mo_X μ) : cl_k x μ (mo_new μ' t l n) := by
  obtain ⟨a1, a2, a3, a4, a5, a6, a7, a8, a9⟩ := h
  refine ⟨Nat.le_trans a1 (by rw [mo_X_new]; omega), fun a q => ?_, fun k a q r s => ?_, fun k a q r => ?_, fun a q r s => ?_, fun a q r s t => ?_, fun k => ?_, fun a q r => ?_, ?_⟩
  · rw [mo_C_new, mo_N_new]; unfold mo_v; rw [if_neg (by omega), if_neg (by omega)]; exact a2 a q
  · rw [mo_R_new, mo_z_a, if_neg (by omega)]; exact a3 k a q r s
  · rw [mo_I_new, mo_L_new, mo_z_a, mo_z_a, if_neg (by omega), if_neg (by omega)]; exact a4 k a q r
  · rw [← a5 a q r s]; funext j; rw [mo_AR_new, mo_y_a, if_neg (by omega)]
  · rw [← a6 a q r s t]; funext j; rw [mo_AI_new, mo_y_a, if_neg (by omega)]
  · rw [mo_I_new, mo_L_new, mo_z_a, mo_z_a, if_neg (by omega), if_neg (by omega)]; exact a7 k
  · rw [← a8 a q r]; funext j; rw [mo_AL_new, mo_y_a, if_neg (by omega)]
  · rw [mo_L_new, mo_z_a, if_neg (by omega)]; exact a9
theorem cl_sh_k {x : Nat} {μ μ' : mo_Mem} (h : cl_sh x μ) (hx : x + 60 ≤ mo_X μ) (g : cl_k x μ μ') : cl_sh x μ' := by
  obtain ⟨k1, k2, k3, k4, k5, k6, k7, k8, k9⟩ := g
  obtain ⟨⟨h0, h1, h2, h3, h4, h5, h6, h7, h8, h9, h10, h11, h12, h13, h14, h15, h16, h17, h18, h19, h20, h21, h22, h23, h24, h25, h26, h27, h28, h29, h30, h31, h32, h33, h34, h35, h36, h37, h38, h39, h40, h41⟩, hq⟩ := h
  exact ⟨⟨((k2 _ (by omega)).1.trans h0), ((k3 _ _ (by omega) (by decide) (by decide)).trans h1), ((k3 _ _ (by omega) (by decide) (by decide)).trans h2), ((k2 _ (by omega)).1.trans h3), ((k3 _ _ (by omega) (by decide) (by decide)).trans h4), ((k3 _ _ (by omega) (by decide) (by decide)).trans h5), ((k3 _ _ (by omega) (by decide) (by decide)).trans h6), ((k3 _ _ (by omega) (by decide) (by decide)).trans h7), ((k3 _ _ (by omega) (by decide) (by decide)).trans h8), ((k3 _ _ (by omega) (by decide) (by decide)).trans h9), ((k2 _ (by omega)).1.trans h10), ((k3 _ _ (by omega) (by decide) (by decide)).trans h11), ((k3 _ _ (by omega) (by decide) (by decide)).trans h12), ((k2 _ (by omega)).1.trans h13), ((k2 _ (by omega)).2.trans h14), ((k2 _ (by omega)).1.trans h15), ((k2 _ (by omega)).2.trans h16), ((k2 _ (by omega)).1.trans h17), ((k3 _ _ (by omega) (by decide) (by decide)).trans h18), ((k3 _ _ (by omega) (by decide) (by decide)).trans h19), ((k3 _ _ (by omega) (by decide) (by decide)).trans h20), ((k2 _ (by omega)).1.trans h21), ((k2 _ (by omega)).2.trans h22), ((k2 _ (by omega)).1.trans h23), ((k2 _ (by omega)).2.trans h24), ((k2 _ (by omega)).1.trans h25), ((k2 _ (by omega)).2.trans h26), ((k2 _ (by omega)).1.trans h27), ((k2 _ (by omega)).1.trans h28), ((k2 _ (by omega)).2.trans h29), ((k2 _ (by omega)).1.trans h30), ((k3 _ _ (by omega) (by decide) (by decide)).trans h31), ((k3 _ _ (by omega) (by decide) (by decide)).trans h32), ((k3 _ _ (by omega) (by decide) (by decide)).trans h33), ((k2 _ (by omega)).1.trans h34), ((k2 _ (by omega)).2.trans h35), ((k2 _ (by omega)).1.trans h36), ((k2 _ (by omega)).2.trans h37), ((k2 _ (by omega)).1.trans h38), ((k2 _ (by omega)).2.trans h39), ((k2 _ (by omega)).1.trans h40), ((k2 _ (by omega)).2.trans h41)⟩, fun i hi => ⟨(congrFun (k5 _ (by omega) (by omega) (by omega)) i).trans (hq i hi).1, (k2 _ (by omega)).1.trans (hq i hi).2⟩⟩
/-- the reference is left alone -/
theorem cl_r_k {x : Nat} {μ μ' : mo_Mem} {A : mo_A} (h : r_at (x + 28) μ A) (hx : x + 60 ≤ mo_X μ) (g : cl_k x μ μ') : r_at (x + 28) μ' A := by
  obtain ⟨k1, k2, k3, k4, k5, k6, k7, k8, k9⟩ := g
  obtain ⟨h1, h2⟩ := h
  refine ⟨?_, ?_⟩
  · unfold r_sh at h1 ⊢
    have kr : ∀ k, k ≠ 192 → k ≠ 193 → mo_R μ' k (x + 28) = mo_R μ k (x + 28) := fun k q s => k3 k _ (by omega) q s
    simp (disch := decide) only [kr]
    have kc : ∀ j, j < 32 → mo_C μ' (x + 28 + j) = mo_C μ (x + 28 + j) ∧ mo_N μ' (x + 28 + j) = mo_N μ (x + 28 + j) := fun j hj => k2 _ (by omega)
    have k0 := (k2 (x + 28) (by omega)).1
    rw [k0]
    simp only [(kc 1 (by decide)).1, (kc 1 (by decide)).2, (kc 2 (by decide)).1, (kc 2 (by decide)).2, (kc 3 (by decide)).1, (kc 3 (by decide)).2, (kc 4 (by decide)).1, (kc 4 (by decide)).2, (kc 5 (by decide)).1, (kc 5 (by decide)).2, (kc 6 (by decide)).1, (kc 6 (by decide)).2, (kc 7 (by decide)).1, (kc 7 (by decide)).2, (kc 8 (by decide)).1, (kc 8 (by decide)).2, (kc 9 (by decide)).1, (kc 9 (by decide)).2, (kc 10 (by decide)).1, (kc 10 (by decide)).2, (kc 11 (by decide)).1, (kc 11 (by decide)).2, (kc 12 (by decide)).1, (kc 12 (by decide)).2, (kc 13 (by decide)).1, (kc 13 (by decide)).2, (kc 14 (by decide)).1, (kc 14 (by decide)).2, (kc 15 (by decide)).1, (kc 15 (by decide)).2, (kc 16 (by decide)).1, (kc 16 (by decide)).2, (kc 17 (by decide)).1, (kc 17 (by decide)).2, (kc 18 (by decide)).1, (kc 18 (by decide)).2, (kc 19 (by decide)).1, (kc 19 (by decide)).2, (kc 20 (by decide)).1, (kc 20 (by decide)).2, (kc 21 (by decide)).1, (kc 21 (by decide)).2, (kc 22 (by decide)).1, (kc 22 (by decide)).2, (kc 23 (by decide)).1, (kc 23 (by decide)).2, (kc 24 (by decide)).1, (kc 24 (by decide)).2, (kc 25 (by decide)).1, (kc 25 (by decide)).2, (kc 26 (by decide)).1, (kc 26 (by decide)).2, (kc 27 (by decide)).1, (kc 27 (by decide)).2, (kc 28 (by decide)).1, (kc 28 (by decide)).2, (kc 29 (by decide)).1, (kc 29 (by decide)).2, (kc 30 (by decide)).1, (kc 30 (by decide)).2, (kc 31 (by decide)).1, (kc 31 (by decide)).2]
    exact h1
  · rw [← h2]
    have ho : ∀ j, r_off j ≤ 31 := by
      intro j
      unfold r_off
      split <;> omega
    refine Prod.ext (funext fun j => funext fun i => ?_) (funext fun j => funext fun i => ?_)
    · show (if r_off j = 0 then (if i = 0 then mo_I μ' (768 + j) (x + 28) else 0) else mo_AI μ' (x + 28 + r_off j) i) = (if r_off j = 0 then (if i = 0 then mo_I μ (768 + j) (x + 28) else 0) else mo_AI μ (x + 28 + r_off j) i)
      rw [(k7 _).1, k6 (x + 28 + r_off j) (by have := ho j; omega) (by omega) (by omega) (by omega)]
    · show (if r_off j = 0 then (if i = 0 then mo_L μ' (768 + j) (x + 28) else 0) else mo_AL μ' (x + 28 + r_off j) i) = (if r_off j = 0 then (if i = 0 then mo_L μ (768 + j) (x + 28) else 0) else mo_AL μ (x + 28 + r_off j) i)
      rw [(k7 _).2, k8 (x + 28 + r_off j) (by omega) (by have := ho j; omega)]
