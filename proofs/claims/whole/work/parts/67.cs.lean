/-- the reference's place is left alone -/
def c_ot (x : Nat) (μ μ' : mo_Mem) : Prop := ∀ a, x + 28 ≤ a → a < x + 60 → mo_C μ' a = mo_C μ a ∧ mo_N μ' a = mo_N μ a ∧ (∀ k, mo_R μ' k a = mo_R μ k a ∧ mo_I μ' k a = mo_I μ k a ∧ mo_L μ' k a = mo_L μ k a) ∧ mo_AI μ' a = mo_AI μ a ∧ mo_AL μ' a = mo_AL μ a
theorem r_ot {x : Nat} {μ μ' : mo_Mem} {A : mo_A} (h : r_at (x + 28) μ A) (g : c_ot x μ μ') : r_at (x + 28) μ' A := by
  obtain ⟨h1, h2⟩ := h
  have k0 := g (x + 28) (by omega) (by omega)
  have ho : ∀ j, r_off j ≤ 31 := by
    intro j
    unfold r_off
    split <;> omega
  refine ⟨?_, ?_⟩
  · unfold r_sh at h1 ⊢
    have kr : ∀ k, mo_R μ' k (x + 28) = mo_R μ k (x + 28) := fun k => (k0.2.2.1 k).1
    simp only [kr]
    have kc : ∀ j, j < 32 → mo_C μ' (x + 28 + j) = mo_C μ (x + 28 + j) ∧ mo_N μ' (x + 28 + j) = mo_N μ (x + 28 + j) := fun j hj => ⟨(g _ (by omega) (by omega)).1, (g _ (by omega) (by omega)).2.1⟩
    rw [k0.1]
    simp only [(kc 1 (by decide)).1, (kc 1 (by decide)).2, (kc 2 (by decide)).1, (kc 2 (by decide)).2, (kc 3 (by decide)).1, (kc 3 (by decide)).2, (kc 4 (by decide)).1, (kc 4 (by decide)).2, (kc 5 (by decide)).1, (kc 5 (by decide)).2, (kc 6 (by decide)).1, (kc 6 (by decide)).2, (kc 7 (by decide)).1, (kc 7 (by decide)).2, (kc 8 (by decide)).1, (kc 8 (by decide)).2, (kc 9 (by decide)).1, (kc 9 (by decide)).2, (kc 10 (by decide)).1, (kc 10 (by decide)).2, (kc 11 (by decide)).1, (kc 11 (by decide)).2, (kc 12 (by decide)).1, (kc 12 (by decide)).2, (kc 13 (by decide)).1, (kc 13 (by decide)).2, (kc 14 (by decide)).1, (kc 14 (by decide)).2, (kc 15 (by decide)).1, (kc 15 (by decide)).2, (kc 16 (by decide)).1, (kc 16 (by decide)).2, (kc 17 (by decide)).1, (kc 17 (by decide)).2, (kc 18 (by decide)).1, (kc 18 (by decide)).2, (kc 19 (by decide)).1, (kc 19 (by decide)).2, (kc 20 (by decide)).1, (kc 20 (by decide)).2, (kc 21 (by decide)).1, (kc 21 (by decide)).2, (kc 22 (by decide)).1, (kc 22 (by decide)).2, (kc 23 (by decide)).1, (kc 23 (by decide)).2, (kc 24 (by decide)).1, (kc 24 (by decide)).2, (kc 25 (by decide)).1, (kc 25 (by decide)).2, (kc 26 (by decide)).1, (kc 26 (by decide)).2, (kc 27 (by decide)).1, (kc 27 (by decide)).2, (kc 28 (by decide)).1, (kc 28 (by decide)).2, (kc 29 (by decide)).1, (kc 29 (by decide)).2, (kc 30 (by decide)).1, (kc 30 (by decide)).2, (kc 31 (by decide)).1, (kc 31 (by decide)).2]
    exact h1
  · rw [← h2]
    refine Prod.ext (funext fun j => funext fun i => ?_) (funext fun j => funext fun i => ?_)
    · show (if r_off j = 0 then (if i = 0 then mo_I μ' (768 + j) (x + 28) else 0) else mo_AI μ' (x + 28 + r_off j) i) = (if r_off j = 0 then (if i = 0 then mo_I μ (768 + j) (x + 28) else 0) else mo_AI μ (x + 28 + r_off j) i)
      rw [(k0.2.2.1 _).2.1, (g (x + 28 + r_off j) (by omega) (by have := ho j; omega)).2.2.2.1]
    · show (if r_off j = 0 then (if i = 0 then mo_L μ' (768 + j) (x + 28) else 0) else mo_AL μ' (x + 28 + r_off j) i) = (if r_off j = 0 then (if i = 0 then mo_L μ (768 + j) (x + 28) else 0) else mo_AL μ (x + 28 + r_off j) i)
      rw [(k0.2.2.1 _).2.2, (g (x + 28 + r_off j) (by omega) (by have := ho j; omega)).2.2.2.2]
theorem ex_sm {μ μ' : mo_Mem} {A A' : mo_A} {a e : Nat} (h : cl_ex μ A a e) (h1 : mo_C μ' a = mo_C μ a) (h2 : ∀ k, mo_I μ' k a = mo_I μ k a ∧ mo_L μ' k a = mo_L μ k a) (a1 : A'.1 1 e = A.1 1 e) (a2 : A'.2 2 e = A.2 2 e) (a3 : A'.1 3 e = A.1 3 e) (a4 : A'.1 4 e = A.1 4 e) : cl_ex μ' A' a e := by
  obtain ⟨b1, b2, b3, b4, b5⟩ := h
  exact ⟨h1.trans b1, by rw [(h2 _).1, a1]; exact b2, by rw [(h2 _).2, a2]; exact b3, by rw [(h2 _).1, a3]; exact b4, by rw [(h2 _).1, a4]; exact b5⟩
/-- a class whose cells did not change -/
theorem ty_sm {x c : Nat} {μ μ' : mo_Mem} {A A' : mo_A} {G G' : c_G} (h : cl_ty x μ A G c) (hT : gT G' c = gT G c) (hTp : ∀ p, a_par A c = some p → gT G' p = gT G p) (hV : gV G' c = gV G c) (hK : gK G' (5 * c) = gK G (5 * c)) (hK2 : ∀ k, k < 4 → A.1 11 (5 * c + 1 + k) ≠ 0 → gK G' (5 * c + 1 + k) = gK G (5 * c + 1 + k)) (hX : mo_X μ ≤ mo_X μ') (h1 : ∀ j, j ≤ 4 → mo_C μ' (gT G c + j) = mo_C μ (gT G c + j) ∧ mo_N μ' (gT G c + j) = mo_N μ (gT G c + j)) (h2 : ∀ k, mo_I μ' k (gT G c) = mo_I μ k (gT G c) ∧ mo_R μ' k (gT G c) = mo_R μ k (gT G c)) (h3 : mo_AI μ' (gT G c + 1) = mo_AI μ (gT G c + 1)) (h4 : mo_AR μ' (gT G c + 4) = mo_AR μ (gT G c + 4)) (a6 : A'.1 6 c = A.1 6 c) (a7 : A'.1 7 c = A.1 7 c) (a8 : A'.1 8 c = A.1 8 c) (a9 : A'.1 9 c = A.1 9 c) (a10 : ∀ k, k < 4 → A'.1 10 (4 * c + k) = A.1 10 (4 * c + k)) (a11 : ∀ k, k < 4 → A'.1 11 (5 * c + 1 + k) = A.1 11 (5 * c + 1 + k)) : cl_ty x μ' A' G' c := by
  obtain ⟨b1, b2, b3, b4, b5, b6, b7, b8, b9, b10, b11, b12, b13, b14, b15, b16, b17, b18, b19⟩ := h
  have ep : a_par A' c = a_par A c := by unfold a_par; rw [a6]
  unfold cl_ty
  rw [hT, hV, hK]
  refine ⟨(h1 0 (by decide)).1.trans b1, (h2 _).1.trans b2, ?_, (h2 _).1.trans b4, by rw [(h2 _).1, a7]; exact b5, by rw [(h2 _).1, a8]; exact b6, (h2 _).2.trans b7, (h1 1 (by decide)).1.trans b8, (h1 1 (by decide)).2.trans b9, fun k hk => by rw [h3, a10 k hk]; exact b10 k hk, (h2 _).2.trans b11, b12, (h2 _).2.trans b13, (h1 4 (by decide)).1.trans b14, (h1 4 (by decide)).2.trans b15, fun k hk => ?_, by rw [(h2 _).1, a9]; exact b17, by omega, b19⟩
  · rw [(h2 _).2, b3, ep]
    cases hp : a_par A c with
    | none => rfl
    | some p => rw [Option.map_some, Option.map_some, hTp p hp]
  · rw [h4, a11 k hk, b16 k hk]
    by_cases q : A.1 11 (5 * c + 1 + k) = 0
    · rw [if_pos q, if_pos q]
    · rw [if_neg q, if_neg q, hK2 k hk q]
theorem cd_sm {x m : Nat} {μ μ' : mo_Mem} {A A' : mo_A} {G G' : c_G} (h : cl_cd x μ A G m) (hK : gK G' m = gK G m) (hX : mo_X μ ≤ mo_X μ') (hC : ∀ a, a < mo_X μ → mo_C μ' a = mo_C μ a ∧ mo_N μ' a = mo_N μ a) (h2 : ∀ k, k ≠ 648 → ∀ a, x + 60 ≤ a → a < mo_X μ → mo_I μ' k a = mo_I μ k a) (h2' : ∀ k, mo_R μ' k (gK G m) = mo_R μ k (gK G m)) (h3 : mo_AR μ' (gK G m + 1) = mo_AR μ (gK G m + 1)) (a11 : A'.1 11 m = A.1 11 m) (a12 : A'.1 12 m = A.1 12 m) (a13 : A'.1 13 m = A.1 13 m) (a14 : ∀ i, i < 8 → A'.1 14 (8 * m + i) = A.1 14 (8 * m + i) ∧ A'.1 15 (8 * m + i) = A.1 15 (8 * m + i) ∧ A'.1 16 (8 * m + i) = A.1 16 (8 * m + i)) : cl_cd x μ' A' G' m := by
  obtain ⟨b1, b2, b3, b4, b5, b6, b7, b8, b9, b10⟩ := h
  unfold cl_cd
  rw [hK, a11, a12, a13]
  refine ⟨(hC _ (by omega)).1.trans b1, (h2 _ (by decide) _ b8 (by omega)).trans b2, fun q => (h2 _ (by decide) _ b8 (by omega)).trans (b3 q), (h2' _).trans b4, (hC _ (by omega)).1.trans b5, (hC _ (by omega)).2.trans b6, (h2 _ (by decide) _ b8 (by omega)).trans b7, b8, by omega, fun na i q1 q2 q3 => ?_⟩
  obtain ⟨y, y1, y2, y3, y4, y5, y6, y7⟩ := b10 na i q1 q2 q3
  obtain ⟨e1, e2, e3⟩ := a14 i (by omega)
  exact ⟨y, by rw [h3]; exact y1, y2, by omega, (hC _ y3).1.trans y4, by rw [h2 _ (by decide) _ y2 y3, e1]; exact y5, by rw [h2 _ (by decide) _ y2 y3, e2]; exact y6, by rw [h2 _ (by decide) _ y2 y3, e3]; exact y7⟩
