/-- A' is A but for the fields of l -/
def a_x (l : List Nat) (A A' : mo_A) : Prop := ∀ j, j ∉ l → A'.1 j = A.1 j ∧ A'.2 j = A.2 j
theorem ax_rf (l : List Nat) (A : mo_A) : a_x l A A := fun _ _ => ⟨rfl, rfl⟩
theorem ax_I {l : List Nat} {A X : mo_A} {j i : Nat} {v : Int32} (hj : j ∈ l) (h : a_x l A X) : a_x l A (a_I X j i v) := by
  intro k hk
  refine ⟨?_, (h k hk).2⟩
  rw [← (h k hk).1]
  funext n
  rw [a_I_1, if_neg (fun q => hk (by rw [q.1]; exact hj))]
theorem ax_L {l : List Nat} {A X : mo_A} {j i : Nat} {v : Int64} (hj : j ∈ l) (h : a_x l A X) : a_x l A (a_L X j i v) := by
  intro k hk
  refine ⟨(h k hk).1, ?_⟩
  rw [← (h k hk).2]
  funext n
  rw [a_L_2, if_neg (fun q => hk (by rw [q.1]; exact hj))]
theorem ax_push {l : List Nat} {A X : mo_A} {f : Nat} {w x p c : Int32} {g : Int64} (hl : ∀ j, j ∈ [27, 28, 29, 30, 31, 32, 34, 35] → j ∈ l) (h : a_x l A X) : a_x l A (a_push X f w x p c g) := by
  unfold a_push
  exact ax_I (hl _ (by decide)) (ax_I (hl _ (by decide)) (ax_L (hl _ (by decide)) (ax_I (hl _ (by decide)) (ax_I (hl _ (by decide)) (ax_I (hl _ (by decide)) (ax_I (hl _ (by decide)) (ax_I (hl _ (by decide)) h)))))))
theorem ax_tr {l : List Nat} {A A' A'' : mo_A} (h : a_x l A A') (g : a_x l A' A'') : a_x l A A'' := fun j hj => ⟨(g j hj).1.trans (h j hj).1, (g j hj).2.trans (h j hj).2⟩
/-- the frames below F are the same -/
def a_u (F : Nat) (A A' : mo_A) : Prop := ∀ i, i < F → (∀ j, 28 ≤ j → j ≤ 35 → A'.1 j i = A.1 j i ∧ A'.2 j i = A.2 j i) ∧ A'.2 44 i = A.2 44 i
theorem au_rf (F : Nat) (A : mo_A) : a_u F A A := fun _ _ => ⟨fun _ _ _ => ⟨rfl, rfl⟩, rfl⟩
theorem au_I {F : Nat} {A X : mo_A} {j i : Nat} {v : Int32} (hj : j < 28 ∨ 35 < j ∨ F ≤ i) (h : a_u F A X) : a_u F A (a_I X j i v) := by
  intro n hn
  refine ⟨fun k h1 h2 => ⟨?_, ((h n hn).1 k h1 h2).2⟩, (h n hn).2⟩
  rw [a_I_1, if_neg (by omega)]
  exact ((h n hn).1 k h1 h2).1
theorem au_L {F : Nat} {A X : mo_A} {j i : Nat} {v : Int64} (hj : j < 28 ∨ (35 < j ∧ j ≠ 44) ∨ F ≤ i) (h : a_u F A X) : a_u F A (a_L X j i v) := by
  intro n hn
  refine ⟨fun k h1 h2 => ⟨((h n hn).1 k h1 h2).1, ?_⟩, ?_⟩
  · rw [a_L_2, if_neg (by omega)]
    exact ((h n hn).1 k h1 h2).2
  · rw [a_L_2, if_neg (by omega)]
    exact (h n hn).2
theorem au_push {F : Nat} {A X : mo_A} {f : Nat} {w x p c : Int32} {g : Int64} (hf : F ≤ f) (h : a_u F A X) : a_u F A (a_push X f w x p c g) := by
  unfold a_push
  exact au_I (by omega) (au_I (by omega) (au_L (by omega) (au_I (by omega) (au_I (by omega) (au_I (by omega) (au_I (by omega) (au_I (by omega) h)))))))
theorem au_tr {F : Nat} {A A' A'' : mo_A} (h : a_u F A A') (g : a_u F A' A'') : a_u F A A'' := fun i hi => ⟨fun j h1 h2 => ⟨((g i hi).1 j h1 h2).1.trans ((h i hi).1 j h1 h2).1, ((g i hi).1 j h1 h2).2.trans ((h i hi).1 j h1 h2).2⟩, (g i hi).2.trans (h i hi).2⟩
def a_sk : List Nat := [27, 28, 29, 30, 31, 32, 33, 34, 35, 36, 44]
/-- the memory's side of what is kept -/
def c_km (x u P : Nat) (μ μ' : mo_Mem) : Prop := cl_k x μ μ' ∧ mo_X μ' = mo_X μ ∧ mo_S μ' = mo_S μ ∧ (∀ i, i < u → mo_R μ' 192 (x + 16 + i) = mo_R μ 192 (x + 16 + i) ∧ mo_R μ' 193 (x + 16 + i) = mo_R μ 193 (x + 16 + i) ∧ mo_L μ' 194 (x + 16 + i) = mo_L μ 194 (x + 16 + i)) ∧ (∀ j, j < P → mo_AR μ' (x + 12) j = mo_AR μ (x + 12) j ∧ mo_AI μ' (x + 13) j = mo_AI μ (x + 13) j ∧ mo_AL μ' (x + 14) j = mo_AL μ (x + 14) j)
theorem km_rf (x u P : Nat) (μ : mo_Mem) : c_km x u P μ μ := ⟨cl_k_rf x μ, rfl, rfl, fun _ _ => ⟨rfl, rfl, rfl⟩, fun _ _ => ⟨rfl, rfl, rfl⟩⟩
theorem km_tr {x u P : Nat} {μ μ' μ'' : mo_Mem} (h : c_km x u P μ μ') (g : c_km x u P μ' μ'') : c_km x u P μ μ'' := ⟨cl_k_tr h.1 g.1, g.2.1.trans h.2.1, g.2.2.1.trans h.2.2.1, fun i hi => ⟨(g.2.2.2.1 i hi).1.trans (h.2.2.2.1 i hi).1, (g.2.2.2.1 i hi).2.1.trans (h.2.2.2.1 i hi).2.1, (g.2.2.2.1 i hi).2.2.trans (h.2.2.2.1 i hi).2.2⟩, fun i hi => ⟨(g.2.2.2.2 i hi).1.trans (h.2.2.2.2 i hi).1, (g.2.2.2.2 i hi).2.1.trans (h.2.2.2.2 i hi).2.1, (g.2.2.2.2 i hi).2.2.trans (h.2.2.2.2 i hi).2.2⟩⟩
theorem km_I {x u P : Nat} {μ μ' : mo_Mem} {k a : Nat} {v : Int32} (h : c_km x u P μ μ') (h1 : ¬ cl_pk k) (h2 : a ≠ x + 28) : c_km x u P μ (mo_wI μ' k a v) := ⟨cl_k_I h.1 (fun _ => h1) h2, h.2.1, h.2.2.1, h.2.2.2.1, h.2.2.2.2⟩
theorem km_AI {x u P : Nat} {μ μ' : mo_Mem} {a i : Nat} {v : Int32} (h : c_km x u P μ μ') (h1 : a = x + 7 ∨ a = x + 8 ∨ (a = x + 13 ∧ P ≤ i)) : c_km x u P μ (mo_wAI μ' a i v) := by
  refine ⟨cl_k_AI h.1 (fun _ => by omega), h.2.1, h.2.2.1, h.2.2.2.1, fun j hj => ⟨(h.2.2.2.2 j hj).1, ?_, (h.2.2.2.2 j hj).2.2⟩⟩
  rw [mo_AI_wAI, mo_u_a, if_neg (by omega)]; exact (h.2.2.2.2 j hj).2.1
theorem km_AL {x u P : Nat} {μ μ' : mo_Mem} {a i : Nat} {v : Int64} (h : c_km x u P μ μ') (h1 : a < x + 28 ∨ x + 60 ≤ a) (h2 : a = x + 14 → P ≤ i) : c_km x u P μ (mo_wAL μ' a i v) := by
  refine ⟨cl_k_AL h.1 h1, h.2.1, h.2.2.1, h.2.2.2.1, fun j hj => ⟨(h.2.2.2.2 j hj).1, (h.2.2.2.2 j hj).2.1, ?_⟩⟩
  rw [mo_AL_wAL, mo_u_a, if_neg (fun q => by have := h2 q.1.symm; omega)]; exact (h.2.2.2.2 j hj).2.2
theorem km_AR {x u P : Nat} {μ μ' : mo_Mem} {i : Nat} {v : Option Nat} (h : c_km x u P μ μ') (h1 : P ≤ i) : c_km x u P μ (mo_wAR μ' (x + 12) i v) := by
  refine ⟨cl_k_AR h.1 (fun _ => Or.inr rfl), h.2.1, h.2.2.1, h.2.2.2.1, fun j hj => ⟨?_, (h.2.2.2.2 j hj).2.1, (h.2.2.2.2 j hj).2.2⟩⟩
  rw [mo_AR_wAR, mo_u_a, if_neg (by omega)]; exact (h.2.2.2.2 j hj).1
theorem km_R {x u P : Nat} {μ μ' : mo_Mem} {k i : Nat} {v : Option Nat} (h : c_km x u P μ μ') (hk : k = 192 ∨ k = 193) (h1 : u ≤ i) : c_km x u P μ (mo_wR μ' k (x + 16 + i) v) := by
  refine ⟨cl_k_R h.1 (fun _ => hk), h.2.1, h.2.2.1, fun j hj => ⟨?_, ?_, (h.2.2.2.1 j hj).2.2⟩, h.2.2.2.2⟩
  · rw [mo_R_wR, mo_u_a, if_neg (by omega)]; exact (h.2.2.2.1 j hj).1
  · rw [mo_R_wR, mo_u_a, if_neg (by omega)]; exact (h.2.2.2.1 j hj).2.1
theorem km_L {x u P : Nat} {μ μ' : mo_Mem} {i : Nat} {v : Int64} (h : c_km x u P μ μ') (h1 : u ≤ i) (h2 : i < 12) : c_km x u P μ (mo_wL μ' 194 (x + 16 + i) v) := by
  refine ⟨cl_k_L h.1 (fun _ q => by unfold cl_pk at q; omega) (by omega) (by omega), h.2.1, h.2.2.1, fun j hj => ⟨(h.2.2.2.1 j hj).1, (h.2.2.2.1 j hj).2.1, ?_⟩, h.2.2.2.2⟩
  rw [mo_L_wL, mo_u_a, if_neg (by omega)]; exact (h.2.2.2.1 j hj).2.2
theorem kp_x {x u P F : Nat} {μ μ' : mo_Mem} {A A' : mo_A} {O : Nat → Nat} {no b b' : Nat} {l : List Nat} (hm : c_km x u P μ μ') (hu : a_u F A A') (hx : a_x l A A') (h18 : 18 ∉ l) (h19 : 19 ∉ l) (h26 : 26 ∉ l) (hb : b ≤ b') : c_kp x u P F μ A O no b μ' A' O no b' := ⟨hm.1, Nat.le_refl _, hb, fun o _ => ⟨rfl, by rw [(hx 18 h18).1], by rw [(hx 19 h19).1]⟩, fun _ h1 h2 => by omega, hm.2.2.2.1, hm.2.2.2.2, hu, by rw [hm.2.1]; exact Nat.le_refl _, by rw [hm.2.2.1]; exact Nat.le_refl _, by rw [(hx 26 h26).2]⟩
theorem tc_k {x : Nat} {B : mo_A} {G : c_G} {O : Nat → Nat} {μ μ' : mo_Mem} {A A' : mo_A} {o c : Nat} (h : c_tc x B G O μ A o c) (g : cl_k x μ μ') (h1 : mo_AR μ' (x + 10) o = mo_AR μ (x + 10) o) (h2 : mo_I μ' 580 (O o) = mo_I μ 580 (O o)) (h3 : mo_AL μ' (O o + 1) = mo_AL μ (O o + 1)) (h4 : mo_AL μ' (O o + 2) = mo_AL μ (O o + 2)) (a1 : A'.1 18 o = A.1 18 o) (a2 : A'.1 19 o = A.1 19 o) (a3 : A'.2 20 = A.2 20) (a4 : A'.2 21 = A.2 21) : c_tc x B G O μ' A' o c := by
  obtain ⟨k1, k2, k3, k4, k5, k6, k7, k8, k9⟩ := g
  obtain ⟨t1, t2, t3, t4, t5, t6, t7, t8, t9, t10, t11, t12, t13, t14, t15, t16⟩ := h
  have p : cl_pk 576 := Or.inr (Or.inr (Or.inr rfl))
  exact ⟨t1, a1.trans t2, h1.trans t3, t4, by omega, (k2 _ (by omega)).1.trans t6, (k4 _ _ (by omega) p).1.trans t7, (k3 _ _ (by omega) (by decide) (by decide)).trans t8, (k3 _ _ (by omega) (by decide) (by decide)).trans t9, (k3 _ _ (by omega) (by decide) (by decide)).trans t10, (k2 _ (by omega)).1.trans t11, (k2 _ (by omega)).2.trans t12, (k2 _ (by omega)).1.trans t13, (k2 _ (by omega)).2.trans t14, by rw [h2, a2]; exact t15, by rw [h3, h4, a3, a4]; exact t16⟩
theorem lg_k {x : Nat} {μ μ' : mo_Mem} {A A' : mo_A} (h : c_lg x μ A) (h1 : mo_I μ' 259 (x + 5) = mo_I μ 259 (x + 5)) (h2 : mo_AL μ' (x + 6) = mo_AL μ (x + 6)) (h3 : mo_AI μ' (x + 7) = mo_AI μ (x + 7)) (h4 : mo_AI μ' (x + 8) = mo_AI μ (x + 8)) (a1 : A'.1 22 = A.1 22) (a2 : A'.2 23 = A.2 23) (a3 : A'.1 24 = A.1 24) (a4 : A'.1 25 = A.1 25) : c_lg x μ' A' := by
  unfold c_lg at h ⊢
  rw [h1, h2, h3, h4, a1, a2, a3, a4]
  exact h
theorem lk_x {B A A' : mo_A} {l : List Nat} (h : a_lk B A) (hx : a_x l A A') (hl : ∀ j, j ≤ 16 → j ∉ l) : a_lk B A' := fun j hj => ⟨(hx j (hl j hj)).1.trans (h j hj).1, (hx j (hl j hj)).2.trans (h j hj).2⟩
/-- steps that leave things and log alone -/
theorem dy_c {x u P F u' P' F' b b' q q' no : Nat} {B : mo_A} {G : c_G} {O : Nat → Nat} {μ μ' : mo_Mem} {A A' : mo_A} {l : List Nat} (h : c_dy x B G u P F μ A O no b q) (g : cl_k x μ μ') (hx : a_x l A A') (hl : ∀ j, j ≤ 26 → j ∉ l)
  (m1 : mo_I μ' 324 (x + 1) = mo_I μ 324 (x + 1)) (m2 : mo_I μ' 259 (x + 5) = mo_I μ 259 (x + 5)) (m3 : mo_AL μ' (x + 6) = mo_AL μ (x + 6)) (m4 : mo_AI μ' (x + 7) = mo_AI μ (x + 7)) (m5 : mo_AI μ' (x + 8) = mo_AI μ (x + 8)) (m6 : mo_AR μ' (x + 10) = mo_AR μ (x + 10)) (m7 : ∀ a, x + 60 ≤ a → mo_I μ' 580 a = mo_I μ 580 a ∧ mo_AL μ' a = mo_AL μ a)
  (c1 : mo_I μ' 327 (x + 1) = nI u' ∧ A'.1 38 0 = nI u' ∧ u' ≤ 12 ∧ mo_I μ' 387 (x + 11) = nI P' ∧ P' ≤ b' ∧ A'.1 27 0 = nI F' ∧ mo_I μ' 512 (x + 9) = nI b' ∧ A'.1 40 0 = nI b' ∧ b' ≤ 300 ∧ mo_I μ' 513 (x + 9) = A'.1 41 0 ∧ mo_I μ' 514 (x + 9) = A'.1 42 0 ∧ mo_I μ' 515 (x + 9) = A'.1 43 0 ∧ mo_I μ' 516 (x + 9) = nI q' ∧ A'.1 39 0 = nI q' ∧ q' ≤ 5 ∧ mo_I μ' 517 (x + 9) = A'.1 37 0 ∧ (A'.1 37 0 ≠ 8 → q' ≤ 4)) : c_dy x B G u' P' F' μ' A' O no b' q' := by
  obtain ⟨d1, d2, d3, d4, d5, d6, d7, d8, d9, d10, d11, d12, d13, d14, d15, d16, d17, d18, d19, d20, d21, d22, d23, d24, d25⟩ := h
  obtain ⟨c1, c2, c3, c4, c5, c6, c7, c8, c9, c10, c11, c12, c13, c14, c15, c16, c17⟩ := c1
  have e : ∀ j, j ≤ 26 → A'.1 j = A.1 j ∧ A'.2 j = A.2 j := fun j hj => hx j (hl j hj)
  refine ⟨lk_x d1 hx (fun j hj => hl j (by omega)), m1.trans d2, by rw [(e 17 (by decide)).1]; exact d3, d4, c1, c2, c3, c4, c5, c6, c7, c8, c9, c10, c11, c12, c13, c14, c15, c16, c17, by rw [g.2.2.2.2.2.2.2.2, (e 26 (by decide)).2]; exact d22, lg_k d23 m2 m3 m4 m5 (e 22 (by decide)).1 (e 23 (by decide)).2 (e 24 (by decide)).1 (e 25 (by decide)).1, fun o ho => ?_, ?_⟩
  · obtain ⟨c, t⟩ := d24 o ho
    have t4 := t.2.2.2.1
    exact ⟨c, tc_k t g (by rw [m6]) (m7 _ t4).1 (m7 _ (by omega)).2 (m7 _ (by omega)).2 (by rw [(e 18 (by decide)).1]) (by rw [(e 19 (by decide)).1]) (e 20 (by decide)).2 (e 21 (by decide)).2⟩
  · unfold c_fz
    rw [(e 20 (by decide)).2, (e 21 (by decide)).2]
    exact d25
