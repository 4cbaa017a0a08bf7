/-- where the plan lies: how many exps and classes, the addresses of exps, classes and codes, the levels -/
abbrev c_G : Type := Nat × Nat × (Nat → Nat) × (Nat → Nat) × (Nat → Nat) × (Nat → Nat)
def gne (G : c_G) : Nat := G.1
def gnc (G : c_G) : Nat := G.2.1
def gE (G : c_G) : Nat → Nat := G.2.2.1
def gT (G : c_G) : Nat → Nat := G.2.2.2.1
def gK (G : c_G) : Nat → Nat := G.2.2.2.2.1
def gV (G : c_G) : Nat → Nat := G.2.2.2.2.2
/-- an exp's number, or none -/
def a_en (ne : Nat) (v : Int32) : Prop := v = -1 ∨ ∃ e, e < ne ∧ v = nI e
def a_xp (A : mo_A) (nc e : Nat) : Prop := ∃ s, s ≤ 10 ∧ A.1 1 e = nI s ∧ (4 ≤ s → ∃ a, a < e ∧ A.1 3 e = nI a) ∧ (4 ≤ s → s ≠ 7 → s ≠ 8 → ∃ b, b < e ∧ A.1 4 e = nI b) ∧ (s = 2 → ∃ k, k < 3 ∧ A.2 2 e = lN k) ∧ (s = 3 ∨ s = 7 ∨ s = 8 → ∃ k, k < 4 ∧ A.2 2 e = lN k) ∧ (s = 9 → ∃ c, c < nc ∧ A.2 2 e = lN c)
def a_cp (A : mo_A) (ne c : Nat) : Prop := (∃ k, k ≤ 3 ∧ A.1 7 c = nI k) ∧ (∃ k, k ≤ 4 ∧ A.1 8 c = nI k) ∧ a_en ne (A.1 9 c) ∧ ∀ k, k < 4 → a_en ne (A.1 10 (4 * c + k))
def a_mp (A : mo_A) (ne m : Nat) : Prop := (A.1 11 m = 0 ∨ A.1 11 m = 1 ∨ A.1 11 m = 2) ∧ (A.1 11 m ≠ 0 → a_en ne (A.1 12 m)) ∧ ∃ na, na ≤ 8 ∧ A.1 13 m = nI na ∧ ∀ i, i < na → (A.1 14 (8 * m + i) = 0 ∧ (∃ k, k < 4 ∧ A.1 15 (8 * m + i) = nI k) ∨ A.1 14 (8 * m + i) = 1 ∨ A.1 14 (8 * m + i) = 2) ∧ ∃ e, e < ne ∧ A.1 16 (8 * m + i) = nI e
def a_ok (A : mo_A) (ne nc : Nat) : Prop := ne ≤ 60 ∧ nc ≤ 8 ∧ A.1 0 0 = nI ne ∧ A.1 5 0 = nI nc ∧ a_pw A nc ∧ (∀ e, e < ne → a_xp A nc e) ∧ (∀ c, c < nc → a_cp A ne c) ∧ (∀ m, m < 5 * nc → a_mp A ne m) ∧ (∀ m, 5 * nc ≤ m → m < 40 → A.1 11 m = 0 ∧ A.1 13 m = 0)
def cl_ex (μ : mo_Mem) (A : mo_A) (a e : Nat) : Prop := mo_C μ a = 3 ∧ mo_I μ 128 a = A.1 1 e ∧ mo_L μ 129 a = A.2 2 e ∧ mo_I μ 130 a = A.1 3 e ∧ mo_I μ 131 a = A.1 4 e
def cl_ty (x : Nat) (μ : mo_Mem) (A : mo_A) (G : c_G) (c : Nat) : Prop := mo_C μ (gT G c) = 11 ∧ mo_I μ 640 (gT G c) = nI c ∧ mo_R μ 641 (gT G c) = (a_par A c).map (gT G) ∧ mo_I μ 642 (gT G c) = nI (gV G c) ∧ mo_I μ 643 (gT G c) = A.1 7 c ∧ mo_I μ 644 (gT G c) = A.1 8 c ∧ mo_R μ 645 (gT G c) = some (gT G c + 1) ∧ mo_C μ (gT G c + 1) = 20 ∧ mo_N μ (gT G c + 1) = 4 ∧ (∀ k, k < 4 → mo_AI μ (gT G c + 1) k = A.1 10 (4 * c + k)) ∧ mo_R μ 646 (gT G c) = some (gT G c + 2) ∧ gK G (5 * c) = gT G c + 2 ∧ mo_R μ 647 (gT G c) = some (gT G c + 4) ∧ mo_C μ (gT G c + 4) = 31 ∧ mo_N μ (gT G c + 4) = 4 ∧ (∀ k, k < 4 → mo_AR μ (gT G c + 4) k = if A.1 11 (5 * c + 1 + k) = 0 then none else some (gK G (5 * c + 1 + k))) ∧ mo_I μ 648 (gT G c) = A.1 9 c ∧ gT G c + 4 < mo_X μ ∧ x + 60 ≤ gT G c
def cl_cd (x : Nat) (μ : mo_Mem) (A : mo_A) (G : c_G) (m : Nat) : Prop := mo_C μ (gK G m) = 2 ∧ mo_I μ 64 (gK G m) = (if A.1 11 m = 2 then 1 else 0) ∧ (A.1 11 m ≠ 0 → mo_I μ 65 (gK G m) = A.1 12 m) ∧ mo_R μ 66 (gK G m) = some (gK G m + 1) ∧ mo_C μ (gK G m + 1) = 30 ∧ mo_N μ (gK G m + 1) = 8 ∧ mo_I μ 67 (gK G m) = A.1 13 m ∧ x + 60 ≤ gK G m ∧ gK G m + 1 < mo_X μ ∧ ∀ na i, A.1 13 m = nI na → na ≤ 8 → i < na → ∃ y, mo_AR μ (gK G m + 1) i = some y ∧ x + 60 ≤ y ∧ y < mo_X μ ∧ mo_C μ y = 1 ∧ mo_I μ 0 y = A.1 14 (8 * m + i) ∧ mo_I μ 1 y = A.1 15 (8 * m + i) ∧ mo_I μ 2 y = A.1 16 (8 * m + i)
def a_pm (A : mo_A) (m : Nat) : Prop := m % 5 = 0 ∨ A.1 11 m ≠ 0
/-- the plan stands in the memory -/
def cl_pl (x : Nat) (μ : mo_Mem) (A : mo_A) (G : c_G) : Prop := mo_I μ 450 (x + 2) = nI (gne G) ∧ mo_I μ 451 (x + 2) = nI (gnc G) ∧ (∀ e, e < gne G → mo_AR μ (x + 3) e = some (gE G e) ∧ x + 60 ≤ gE G e ∧ gE G e < mo_X μ ∧ cl_ex μ A (gE G e) e) ∧ (∀ c, c < gnc G → mo_AR μ (x + 4) c = some (gT G c) ∧ cl_ty x μ A G c) ∧ (∀ m, m < 5 * gnc G → a_pm A m → cl_cd x μ A G m) ∧ (∀ m m', m < 5 * gnc G → m' < 5 * gnc G → a_pm A m → a_pm A m' → gK G m = gK G m' → m = m') ∧ (∀ c p, c < gnc G → a_par A c = some p → gV G c = gV G p + 1) ∧ (∀ c, c < gnc G → gV G c ≤ c ∧ gV G c < 8)
/-- what stands while a run goes on -/
def c_st (x : Nat) (B : mo_A) (G : c_G) (μ : mo_Mem) : Prop := cl_sh x μ ∧ x + 60 ≤ mo_X μ ∧ a_ok B (gne G) (gnc G) ∧ cl_pl x μ B G
theorem cl_ex_k {x : Nat} {μ μ' : mo_Mem} {A : mo_A} {a e : Nat} (h : cl_ex μ A a e) (ha : a < mo_X μ) (g : cl_k x μ μ') : cl_ex μ' A a e := by
  obtain ⟨k1, k2, k3, k4, k5, k6, k7, k8, k9⟩ := g
  obtain ⟨h1, h2, h3, h4, h5⟩ := h
  have p : ∀ k, k < 192 → cl_pk k := fun k q => Or.inl q
  exact ⟨(k2 a ha).1.trans h1, (k4 _ a ha (p _ (by decide))).1.trans h2, (k4 _ a ha (p _ (by decide))).2.trans h3, (k4 _ a ha (p _ (by decide))).1.trans h4, (k4 _ a ha (p _ (by decide))).1.trans h5⟩
theorem cl_ty_k {x : Nat} {μ μ' : mo_Mem} {A : mo_A} {G : c_G} {c : Nat} (h : cl_ty x μ A G c) (g : cl_k x μ μ') : cl_ty x μ' A G c := by
  obtain ⟨k1, k2, k3, k4, k5, k6, k7, k8, k9⟩ := g
  obtain ⟨h1, h2, h3, h4, h5, h6, h7, h8, h9, h10, h11, h12, h13, h14, h15, h16, h17, h18, h19⟩ := h
  have p : ∀ k, 640 ≤ k → k < 704 → cl_pk k := fun k q s => Or.inr (Or.inr (Or.inl ⟨q, s⟩))
  have i : ∀ k, 640 ≤ k → k < 704 → mo_I μ' k (gT G c) = mo_I μ k (gT G c) := fun k q s => (k4 k _ (by omega) (p k q s)).1
  have rr : ∀ k, k ≠ 192 → k ≠ 193 → mo_R μ' k (gT G c) = mo_R μ k (gT G c) := fun k q s => k3 k _ (by omega) q s
  have cc : ∀ j, j ≤ 4 → mo_C μ' (gT G c + j) = mo_C μ (gT G c + j) ∧ mo_N μ' (gT G c + j) = mo_N μ (gT G c + j) := fun j q => k2 _ (by omega)
  refine ⟨(cc 0 (by decide)).1.trans h1, (i _ (by decide) (by decide)).trans h2, (rr _ (by decide) (by decide)).trans h3, (i _ (by decide) (by decide)).trans h4, (i _ (by decide) (by decide)).trans h5, (i _ (by decide) (by decide)).trans h6, (rr _ (by decide) (by decide)).trans h7, (cc 1 (by decide)).1.trans h8, (cc 1 (by decide)).2.trans h9, fun k q => ?_, (rr _ (by decide) (by decide)).trans h11, h12, (rr _ (by decide) (by decide)).trans h13, (cc 4 (by decide)).1.trans h14, (cc 4 (by decide)).2.trans h15, fun k q => ?_, (i _ (by decide) (by decide)).trans h17, by omega, h19⟩
  · rw [k6 _ (by omega) (by omega) (by omega) (by omega)]; exact h10 k q
  · rw [k5 _ (by omega) (by omega) (by omega)]; exact h16 k q
theorem cl_cd_k {x : Nat} {μ μ' : mo_Mem} {A : mo_A} {G : c_G} {m : Nat} (h : cl_cd x μ A G m) (g : cl_k x μ μ') : cl_cd x μ' A G m := by
  obtain ⟨k1, k2, k3, k4, k5, k6, k7, k8, k9⟩ := g
  obtain ⟨h1, h2, h3, h4, h5, h6, h7, h8, h9, h10⟩ := h
  have p : ∀ k, k < 192 → cl_pk k := fun k q => Or.inl q
  have i : ∀ k, k < 192 → mo_I μ' k (gK G m) = mo_I μ k (gK G m) := fun k q => (k4 k _ (by omega) (p k q)).1
  refine ⟨(k2 _ (by omega)).1.trans h1, (i _ (by decide)).trans h2, fun q => (i _ (by decide)).trans (h3 q), (k3 _ _ (by omega) (by decide) (by decide)).trans h4, (k2 _ (by omega)).1.trans h5, (k2 _ (by omega)).2.trans h6, (i _ (by decide)).trans h7, h8, by omega, fun na j q1 q2 q3 => ?_⟩
  obtain ⟨y, y1, y2, y3, y4, y5, y6, y7⟩ := h10 na j q1 q2 q3
  exact ⟨y, by rw [k5 _ (by omega) (by omega) (by omega)]; exact y1, y2, by omega, (k2 _ y3).1.trans y4, (k4 _ y y3 (p _ (by decide))).1.trans y5, (k4 _ y y3 (p _ (by decide))).1.trans y6, (k4 _ y y3 (p _ (by decide))).1.trans y7⟩
theorem cl_pl_k {x : Nat} {μ μ' : mo_Mem} {A : mo_A} {G : c_G} (h : cl_pl x μ A G) (hx : x + 60 ≤ mo_X μ) (g : cl_k x μ μ') : cl_pl x μ' A G := by
  have g' := g
  obtain ⟨k1, k2, k3, k4, k5, k6, k7, k8, k9⟩ := g'
  obtain ⟨h1, h2, h3, h4, h5, h6, h7, h8⟩ := h
  have p : ∀ k, 448 ≤ k → k < 512 → cl_pk k := fun k q s => Or.inr (Or.inl ⟨q, s⟩)
  refine ⟨(k4 _ _ (by omega) (p _ (by decide) (by decide))).1.trans h1, (k4 _ _ (by omega) (p _ (by decide) (by decide))).1.trans h2, fun e q => ?_, fun c q => ?_, fun m q s => cl_cd_k (h5 m q s) g, h6, h7, h8⟩
  · obtain ⟨a1, a2, a3, a4⟩ := h3 e q
    exact ⟨by rw [k5 _ (by omega) (by omega) (by omega)]; exact a1, a2, by omega, cl_ex_k a4 a3 g⟩
  · obtain ⟨a1, a2⟩ := h4 c q
    exact ⟨by rw [k5 _ (by omega) (by omega) (by omega)]; exact a1, cl_ty_k a2 g⟩
theorem c_st_k {x : Nat} {B : mo_A} {G : c_G} {μ μ' : mo_Mem} (h : c_st x B G μ) (g : cl_k x μ μ') : c_st x B G μ' := ⟨cl_sh_k h.1 h.2.1 g, Nat.le_trans h.2.1 g.1, h.2.2.1, cl_pl_k h.2.2.2 h.2.1 g⟩
/-- a thing -/
def c_tc (x : Nat) (B : mo_A) (G : c_G) (O : Nat → Nat) (μ : mo_Mem) (A : mo_A) (o c : Nat) : Prop := c < gnc G ∧ A.1 18 o = nI c ∧ mo_AR μ (x + 10) o = some (O o) ∧ x + 60 ≤ O o ∧ O o + 2 < mo_X μ ∧ mo_C μ (O o) = 10 ∧ mo_I μ 576 (O o) = nI o ∧ mo_R μ 577 (O o) = some (gT G c) ∧ mo_R μ 578 (O o) = some (O o + 1) ∧ mo_R μ 579 (O o) = some (O o + 2) ∧ mo_C μ (O o + 1) = 21 ∧ mo_N μ (O o + 1) = 3 * (gV G c + 1) ∧ mo_C μ (O o + 2) = 21 ∧ mo_N μ (O o + 2) = 4 * (gV G c + 1) ∧ mo_I μ 580 (O o) = (if A.1 19 o = 1 then 1 else 0) ∧ (∀ h, a_bel B 8 c h = true → (∀ k, k < 3 → mo_AL μ (O o + 1) (3 * gV G h + k) = A.2 20 (24 * o + 3 * h + k)) ∧ (∀ k, k < 4 → mo_AL μ (O o + 2) (4 * gV G h + k) = A.2 21 (32 * o + 4 * h + k)))
def c_th (x : Nat) (B : mo_A) (G : c_G) (O : Nat → Nat) (μ : mo_Mem) (A : mo_A) (o : Nat) : Prop := ∃ c, c_tc x B G O μ A o c
def a_lk (B A : mo_A) : Prop := ∀ j, j ≤ 16 → A.1 j = B.1 j ∧ A.2 j = B.2 j
def c_lg (x : Nat) (μ : mo_Mem) (A : mo_A) : Prop := ∃ nl, nl ≤ 200 ∧ mo_I μ 259 (x + 5) = nI nl ∧ A.1 22 0 = nI nl ∧ (∀ i, i < 200 → mo_AL μ (x + 6) i = A.2 23 i ∧ mo_AI μ (x + 7) i = A.1 24 i ∧ mo_AI μ (x + 8) i = A.1 25 i)
def c_fz (A : mo_A) (no : Nat) : Prop := ∀ o, no ≤ o → o < 100 → (∀ i, i < 24 → A.2 20 (24 * o + i) = 0) ∧ (∀ i, i < 32 → A.2 21 (32 * o + i) = 0)
/-- the class's state and the reference's: u codes under way, P exps wait, F frames, b exps begun, q failures -/
def c_dy (x : Nat) (B : mo_A) (G : c_G) (u P F : Nat) (μ : mo_Mem) (A : mo_A) (O : Nat → Nat) (no b q : Nat) : Prop := a_lk B A ∧ mo_I μ 324 (x + 1) = nI no ∧ A.1 17 0 = nI no ∧ no ≤ 100 ∧ mo_I μ 327 (x + 1) = nI u ∧ A.1 38 0 = nI u ∧ u ≤ 12 ∧ mo_I μ 387 (x + 11) = nI P ∧ P ≤ b ∧ A.1 27 0 = nI F ∧ mo_I μ 512 (x + 9) = nI b ∧ A.1 40 0 = nI b ∧ b ≤ 300 ∧ mo_I μ 513 (x + 9) = A.1 41 0 ∧ mo_I μ 514 (x + 9) = A.1 42 0 ∧ mo_I μ 515 (x + 9) = A.1 43 0 ∧ mo_I μ 516 (x + 9) = nI q ∧ A.1 39 0 = nI q ∧ q ≤ 5 ∧ mo_I μ 517 (x + 9) = A.1 37 0 ∧ (A.1 37 0 ≠ 8 → q ≤ 4) ∧ mo_L μ 706 x = A.2 26 0 ∧ c_lg x μ A ∧ (∀ o, o < no → c_th x B G O μ A o) ∧ c_fz A no
/-- what is kept below u codes, P waiting exps, F frames, and of things -/
def c_kp (x u P F : Nat) (μ : mo_Mem) (A : mo_A) (O : Nat → Nat) (no b : Nat) (μ' : mo_Mem) (A' : mo_A) (O' : Nat → Nat) (no' b' : Nat) : Prop := cl_k x μ μ' ∧ no ≤ no' ∧ b ≤ b' ∧ (∀ o, o < no → O' o = O o ∧ A'.1 18 o = A.1 18 o ∧ A'.1 19 o = A.1 19 o) ∧ (∀ o, no ≤ o → o < no' → A'.1 19 o = 1 ∨ A'.1 19 o = 2) ∧ (∀ i, i < u → mo_R μ' 192 (x + 16 + i) = mo_R μ 192 (x + 16 + i) ∧ mo_R μ' 193 (x + 16 + i) = mo_R μ 193 (x + 16 + i) ∧ mo_L μ' 194 (x + 16 + i) = mo_L μ 194 (x + 16 + i)) ∧ (∀ j, j < P → mo_AR μ' (x + 12) j = mo_AR μ (x + 12) j ∧ mo_AI μ' (x + 13) j = mo_AI μ (x + 13) j ∧ mo_AL μ' (x + 14) j = mo_AL μ (x + 14) j) ∧ (∀ i, i < F → (∀ j, 28 ≤ j → j ≤ 35 → A'.1 j i = A.1 j i ∧ A'.2 j i = A.2 j i) ∧ A'.2 44 i = A.2 44 i) ∧ mo_X μ' + 3 * no ≤ mo_X μ + 3 * no' ∧ mo_S μ' + 100 * no ≤ mo_S μ + 100 * no' ∧ A'.2 26 0 = A.2 26 0
theorem c_kp_rf (x u P F : Nat) (μ : mo_Mem) (A : mo_A) (O : Nat → Nat) (no b : Nat) : c_kp x u P F μ A O no b μ A O no b := ⟨cl_k_rf x μ, Nat.le_refl _, Nat.le_refl _, fun _ _ => ⟨rfl, rfl, rfl⟩, fun _ h1 h2 => by omega, fun _ _ => ⟨rfl, rfl, rfl⟩, fun _ _ => ⟨rfl, rfl, rfl⟩, fun _ _ => ⟨fun _ _ _ => ⟨rfl, rfl⟩, rfl⟩, Nat.le_refl _, Nat.le_refl _, rfl⟩
theorem c_kp_tr {x u P F u' P' F' : Nat} {μ μ' μ'' : mo_Mem} {A A' A'' : mo_A} {O O' O'' : Nat → Nat} {no no' no'' b b' b'' : Nat} (h : c_kp x u P F μ A O no b μ' A' O' no' b') (g : c_kp x u' P' F' μ' A' O' no' b' μ'' A'' O'' no'' b'') (hu : u ≤ u') (hP : P ≤ P') (hF : F ≤ F') : c_kp x u P F μ A O no b μ'' A'' O'' no'' b'' := by
  obtain ⟨a1, a2, a3, a4, a5, a6, a7, a8, a9, a10, a11⟩ := h
  obtain ⟨b1, b2, b3, b4, b5, b6, b7, b8, b9, b10, b11⟩ := g
  refine ⟨cl_k_tr a1 b1, by omega, by omega, fun o q => ?_, fun o q s => ?_, fun i q => ?_, fun j q => ?_, fun i q => ?_, by omega, by omega, b11.trans a11⟩
  · obtain ⟨c1, c2, c3⟩ := a4 o q
    obtain ⟨d1, d2, d3⟩ := b4 o (by omega)
    exact ⟨d1.trans c1, d2.trans c2, d3.trans c3⟩
  · by_cases hh : o < no'
    · rw [(b4 o hh).2.2]; exact a5 o q hh
    · exact b5 o (by omega) s
  · obtain ⟨c1, c2, c3⟩ := a6 i q
    obtain ⟨d1, d2, d3⟩ := b6 i (by omega)
    exact ⟨d1.trans c1, d2.trans c2, d3.trans c3⟩
  · obtain ⟨c1, c2, c3⟩ := a7 j q
    obtain ⟨d1, d2, d3⟩ := b7 j (by omega)
    exact ⟨d1.trans c1, d2.trans c2, d3.trans c3⟩
  · obtain ⟨c1, c2⟩ := a8 i q
    obtain ⟨d1, d2⟩ := b8 i (by omega)
    exact ⟨fun j s t => ⟨(d1 j s t).1.trans (c1 j s t).1, (d1 j s t).2.trans (c1 j s t).2⟩, d2.trans c2⟩
theorem c_kp_le {x u P F u' P' F' : Nat} {μ μ' : mo_Mem} {A A' : mo_A} {O O' : Nat → Nat} {no no' b b' : Nat} (h : c_kp x u' P' F' μ A O no b μ' A' O' no' b') (hu : u ≤ u') (hP : P ≤ P') (hF : F ≤ F') : c_kp x u P F μ A O no b μ' A' O' no' b' := c_kp_tr (c_kp_rf x u P F μ A O no b) h hu hP hF
/-- steps of the reference lead from A to A' -/
def a_rc (r : Nat) (A A' : mo_A) : Prop := ∀ P : mo_A → Prop, P A' → (∀ (B B' : mo_A) (f : Nat), B.1 27 0 = nI (f + 1) → f < 399 → r_S r B B' → P B' → P B) → P A
theorem a_rc_rf (r : Nat) (A : mo_A) : a_rc r A A := fun _ h _ => h
theorem a_rc_tr {r : Nat} {A A' A'' : mo_A} (h : a_rc r A A') (g : a_rc r A' A'') : a_rc r A A'' := fun P p s => h P (g P p s) s
theorem a_rc_st {r f : Nat} {A A' : mo_A} (hf : A.1 27 0 = nI (f + 1)) (hl : f < 399) (h : r_S r A A') : a_rc r A A' := fun _ p s => s A A' f hf hl h p
