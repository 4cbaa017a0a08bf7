theorem lk_bel {B B' : mo_A} (h : a_lk B B') (y : Nat) : ∀ n c, a_bel B' n c y = a_bel B n c y := by
  intro n
  induction n with
  | zero => intro c; rfl
  | succ n ih =>
    intro c
    unfold a_bel
    rw [lk_par h]
    split
    · rfl
    · cases a_par B c with
      | none => rfl
      | some p => exact ih p
theorem lk_rf (A : mo_A) : a_lk A A := fun _ _ => ⟨rfl, rfl⟩
theorem lk_sy {B A : mo_A} (h : a_lk B A) : a_lk A B := fun j hj => ⟨(h j hj).1.symm, (h j hj).2.symm⟩
theorem lk_tr {B A C : mo_A} (h : a_lk B A) (g : a_lk A C) : a_lk B C := fun j hj => ⟨(g j hj).1.trans (h j hj).1, (g j hj).2.trans (h j hj).2⟩
theorem st_lk {x : Nat} {B B' : mo_A} {G : c_G} {μ : mo_Mem} (hl : a_lk B B') (h : c_st x B G μ) : c_st x B' G μ := by
  have e0 := (hl 0 (by decide)).1
  have e1 := (hl 1 (by decide)).1
  have e2 := (hl 2 (by decide)).2
  have e3 := (hl 3 (by decide)).1
  have e4 := (hl 4 (by decide)).1
  have e5 := (hl 5 (by decide)).1
  have e6 := (hl 6 (by decide)).1
  have e7 := (hl 7 (by decide)).1
  have e8 := (hl 8 (by decide)).1
  have e9 := (hl 9 (by decide)).1
  have e10 := (hl 10 (by decide)).1
  have e11 := (hl 11 (by decide)).1
  have e12 := (hl 12 (by decide)).1
  have e13 := (hl 13 (by decide)).1
  have e14 := (hl 14 (by decide)).1
  have e15 := (hl 15 (by decide)).1
  have e16 := (hl 16 (by decide)).1
  have ep : ∀ c, a_par B' c = a_par B c := lk_par hl
  unfold c_st a_ok cl_pl at h ⊢
  unfold a_pw a_xp a_cp a_mp cl_ex cl_ty cl_cd a_pm at h ⊢
  simp only [e0, e1, e2, e3, e4, e5, e6, e7, e8, e9, e10, e11, e12, e13, e14, e15, e16, ep]
  exact h
theorem dy_lk {x u P F no b q : Nat} {B B' A : mo_A} {G : c_G} {O : Nat → Nat} {μ : mo_Mem} (hl : a_lk B B') (h : c_dy x B G u P F μ A O no b q) : c_dy x B' G u P F μ A O no b q := by
  obtain ⟨d1, d2, d3, d4, d5, d6, d7, d8, d9, d10, d11, d12, d13, d14, d15, d16, d17, d18, d19, d20, d21, d22, d23, d24, d25⟩ := h
  refine ⟨lk_tr (lk_sy hl) d1, d2, d3, d4, d5, d6, d7, d8, d9, d10, d11, d12, d13, d14, d15, d16, d17, d18, d19, d20, d21, d22, d23, fun o ho => ?_, d25⟩
  obtain ⟨c, t1, t2, t3, t4, t5, t6, t7, t8, t9, t10, t11, t12, t13, t14, t15, t16⟩ := d24 o ho
  exact ⟨c, t1, t2, t3, t4, t5, t6, t7, t8, t9, t10, t11, t12, t13, t14, t15, fun h' hb' => t16 h' (by rw [← lk_bel hl]; exact hb')⟩
theorem st_fc {x : Nat} {B : mo_A} {G : c_G} {μ μ' : mo_Mem} (h : c_st x B G μ) (g : r_fc (x + 28) μ μ') : c_st x B G μ' := by
  obtain ⟨g1, g2, g3, g4, g5, g6, g7, g8⟩ := g
  obtain ⟨h1, h2, h3, h4⟩ := h
  have i : ∀ k a, a ≠ x + 28 → mo_I μ' k a = mo_I μ k a := fun k a ha => (g7 k a ha).1
  have l : ∀ k a, a ≠ x + 28 → mo_L μ' k a = mo_L μ k a := fun k a ha => (g7 k a ha).2
  refine ⟨?_, by rw [g5]; exact h2, h3, ?_⟩
  · unfold cl_sh cl_sf at h1 ⊢
    rw [g1, g2, g3, g4]
    exact h1
  · obtain ⟨a1, a2, a3, a4, a5, a6, a7, a8⟩ := h4
    refine ⟨(i _ _ (by omega)).trans a1, (i _ _ (by omega)).trans a2, fun e he => ?_, fun c hc => ?_, fun m hm hp => ?_, a6, a7, a8⟩
    · obtain ⟨b1, b2, b3, b4, b5, b6, b7, b8⟩ := a3 e he
      exact ⟨by rw [g4]; exact b1, b2, by rw [g5]; exact b3, by rw [g1]; exact b4, (i _ _ (by omega)).trans b5, (l _ _ (by omega)).trans b6, (i _ _ (by omega)).trans b7, (i _ _ (by omega)).trans b8⟩
    · obtain ⟨b0, b1, b2, b3, b4, b5, b6, b7, b8, b9, b10, b11, b12, b13, b14, b15, b16, b17, b18, b19⟩ := a4 c hc
      exact ⟨by rw [g4]; exact b0, by rw [g1]; exact b1, (i _ _ (by omega)).trans b2, by rw [g3]; exact b3, (i _ _ (by omega)).trans b4, (i _ _ (by omega)).trans b5, (i _ _ (by omega)).trans b6, by rw [g3]; exact b7, by rw [g1]; exact b8, by rw [g2]; exact b9, fun k hk => by rw [(g8 _ (by omega)).1]; exact b10 k hk, by rw [g3]; exact b11, b12, by rw [g3]; exact b13, by rw [g1]; exact b14, by rw [g2]; exact b15, by rw [g4]; exact b16, (i _ _ (by omega)).trans b17, by rw [g5]; exact b18, b19⟩
    · obtain ⟨b1, b2, b3, b4, b5, b6, b7, b8, b9, b10⟩ := a5 m hm hp
      refine ⟨by rw [g1]; exact b1, (i _ _ (by omega)).trans b2, fun q => (i _ _ (by omega)).trans (b3 q), by rw [g3]; exact b4, by rw [g1]; exact b5, by rw [g2]; exact b6, (i _ _ (by omega)).trans b7, b8, by rw [g5]; exact b9, fun na j q1 q2 q3 => ?_⟩
      obtain ⟨y, y1, y2, y3, y4, y5, y6, y7⟩ := b10 na j q1 q2 q3
      exact ⟨y, by rw [g4]; exact y1, y2, by rw [g5]; exact y3, by rw [g1]; exact y4, (i _ _ (by omega)).trans y5, (i _ _ (by omega)).trans y6, (i _ _ (by omega)).trans y7⟩
theorem dy_fc {x u P F no b q : Nat} {B A : mo_A} {G : c_G} {O : Nat → Nat} {μ μ' : mo_Mem} (h : c_dy x B G u P F μ A O no b q) (g : r_fc (x + 28) μ μ') : c_dy x B G u P F μ' A O no b q := by
  obtain ⟨g1, g2, g3, g4, g5, g6, g7, g8⟩ := g
  have i : ∀ k a, a ≠ x + 28 → mo_I μ' k a = mo_I μ k a := fun k a ha => (g7 k a ha).1
  have l : ∀ k a, a ≠ x + 28 → mo_L μ' k a = mo_L μ k a := fun k a ha => (g7 k a ha).2
  obtain ⟨d1, d2, d3, d4, d5, d6, d7, d8, d9, d10, d11, d12, d13, d14, d15, d16, d17, d18, d19, d20, d21, d22, d23, d24, d25⟩ := h
  refine ⟨d1, (i _ _ (by omega)).trans d2, d3, d4, (i _ _ (by omega)).trans d5, d6, d7, (i _ _ (by omega)).trans d8, d9, d10, (i _ _ (by omega)).trans d11, d12, d13, (i _ _ (by omega)).trans d14, (i _ _ (by omega)).trans d15, (i _ _ (by omega)).trans d16, (i _ _ (by omega)).trans d17, d18, d19, (i _ _ (by omega)).trans d20, d21, (l _ _ (by omega)).trans d22, ?_, fun o ho => ?_, d25⟩
  · exact lg_k d23 (i _ _ (by omega)) (g8 _ (by omega)).2 (g8 _ (by omega)).1 (g8 _ (by omega)).1 rfl rfl rfl rfl
  · obtain ⟨c, t1, t2, t3, t4, t5, t6, t7, t8, t9, t10, t11, t12, t13, t14, t15, t16⟩ := d24 o ho
    exact ⟨c, t1, t2, by rw [g4]; exact t3, t4, by rw [g5]; exact t5, by rw [g1]; exact t6, (i _ _ (by omega)).trans t7, by rw [g3]; exact t8, by rw [g3]; exact t9, by rw [g3]; exact t10, by rw [g1]; exact t11, by rw [g2]; exact t12, by rw [g1]; exact t13, by rw [g2]; exact t14, (i _ _ (by omega)).trans t15, by rw [(g8 _ (by omega)).2, (g8 _ (by omega)).2]; exact t16⟩
/-- the invariant between calls: k calls were made -/
def c_iv (x s0 k : Nat) (μ : mo_Mem) : Prop := ∃ A G O no b q, c_st x A G μ ∧ c_dy x A G 0 0 0 μ A O no b q ∧ r_at (x + 28) μ A ∧ (∀ o, o < no → A.1 19 o = 1 ∨ A.1 19 o = 2) ∧ mo_X μ ≤ x + 60 + 8 * k + 3 * no ∧ mo_S μ ≤ s0 + 100 * k + 100 * no
/-- the script is left alone -/
def c_sc (bs : Nat) (μ μ' : mo_Mem) : Prop := mo_C μ' bs = mo_C μ bs ∧ mo_N μ' bs = mo_N μ bs ∧ mo_AI μ' bs = mo_AI μ bs ∧ (∀ a, a < mo_X μ → mo_C μ' a = mo_C μ a) ∧ mo_X μ ≤ mo_X μ'
theorem sc_rf (bs : Nat) (μ : mo_Mem) : c_sc bs μ μ := ⟨rfl, rfl, rfl, fun _ _ => rfl, Nat.le_refl _⟩
theorem sc_tr {bs : Nat} {μ μ' μ'' : mo_Mem} (h : c_sc bs μ μ') (g : c_sc bs μ' μ'') : c_sc bs μ μ'' := ⟨g.1.trans h.1, g.2.1.trans h.2.1, g.2.2.1.trans h.2.2.1, fun a ha => (g.2.2.2.1 a (Nat.lt_of_lt_of_le ha h.2.2.2.2)).trans (h.2.2.2.1 a ha), Nat.le_trans h.2.2.2.2 g.2.2.2.2⟩
theorem sc_fc {bs x : Nat} {μ μ' : mo_Mem} (h : r_fc (x + 28) μ μ') (hb : bs < x) : c_sc bs μ μ' := ⟨by rw [h.1], by rw [h.2.1], (h.2.2.2.2.2.2.2 bs (by omega)).1, fun a _ => by rw [h.1], by rw [h.2.2.2.2.1]; exact Nat.le_refl _⟩
theorem sc_k {bs x : Nat} {μ μ' : mo_Mem} (h : cl_k x μ μ') (hb : bs < x) (hX : x + 60 ≤ mo_X μ) : c_sc bs μ μ' := ⟨(h.2.1 bs (by omega)).1, (h.2.1 bs (by omega)).2, h.2.2.2.2.2.1 bs (by omega) (by omega) (by omega) (by omega), fun a ha => (h.2.1 a ha).1, h.1⟩
/-- both are called, and answer alike -/
def c_qI (x D m1 m2 bs : Nat) (as : List Value) (μ : mo_Mem) (Q : mo_Mem → Prop) : Prop := mo_M D m1 (.ref x :: as) μ (fun r1 μ1 => ∃ v, r1 = some (.int v) ∧ c_sc bs μ μ1 ∧ mo_M D m2 (.ref (x + 28) :: as) μ1 (fun r2 μ2 => r2 = some (.int v) ∧ Q μ2))
def c_qL (x D m1 m2 bs : Nat) (as : List Value) (μ : mo_Mem) (Q : mo_Mem → Prop) : Prop := mo_M D m1 (.ref x :: as) μ (fun r1 μ1 => ∃ v, r1 = some (.long v) ∧ c_sc bs μ μ1 ∧ mo_M D m2 (.ref (x + 28) :: as) μ1 (fun r2 μ2 => r2 = some (.long v) ∧ Q μ2))
theorem iv_up {x s0 k : Nat} {μ : mo_Mem} (h : c_iv x s0 k μ) : c_iv x s0 (k + 1) μ := by
  obtain ⟨A, G, O, no, b, q, h1, h2, h3, h4, h5, h6⟩ := h
  exact ⟨A, G, O, no, b, q, h1, h2, h3, h4, by omega, by omega⟩
theorem O_result {x s0 k d bs : Nat} {μ : mo_Mem} {Q : mo_Mem → Prop} (hiv : c_iv x s0 k μ) (hb : bs < x) (hQ : ∀ μ', c_iv x s0 (k + 1) μ' → c_sc bs μ μ' → Q μ') : c_qL x (d + 200) 73 114 bs [] μ Q := by
  have hiv0 := hiv; obtain ⟨A, G, O, no, b, q, hs, hd, hr, hst, hX, hS⟩ := hiv0; have fin : Q μ := hQ μ (iv_up hiv) (sc_rf _ _); have hno := hd.2.2.1; have hno1 := hd.2.2.2.1; obtain ⟨nl, l1, l2, l3, l4⟩ := hd.2.2.2.2.2.2.2.2.2.2.2.2.2.2.2.2.2.2.2.2.2.2.1; have hne := hs.2.2.1.2.2.1; have hnc := hs.2.2.1.2.2.2.1; have hnc8 := hs.2.2.1.2.1; have hpw := hs.2.2.1.2.2.2.2.1
  unfold c_qL
  rw [C_result (d := d + 199) hs hd]
  refine ⟨_, rfl, sc_rf _ _, ?_⟩
  rw [R_result (d := d + 199) hr]
  exact ⟨rfl, fin⟩
theorem O_told {x s0 k d bs : Nat} {μ : mo_Mem} {Q : mo_Mem → Prop} (hiv : c_iv x s0 k μ) (hb : bs < x) (hQ : ∀ μ', c_iv x s0 (k + 1) μ' → c_sc bs μ μ' → Q μ') (i w : Int32) : c_qI x (d + 200) 74 115 bs [.int i, .int w] μ Q := by
  have hiv0 := hiv; obtain ⟨A, G, O, no, b, q, hs, hd, hr, hst, hX, hS⟩ := hiv0; have fin : Q μ := hQ μ (iv_up hiv) (sc_rf _ _); have hno := hd.2.2.1; have hno1 := hd.2.2.2.1; obtain ⟨nl, l1, l2, l3, l4⟩ := hd.2.2.2.2.2.2.2.2.2.2.2.2.2.2.2.2.2.2.2.2.2.2.1; have hne := hs.2.2.1.2.2.1; have hnc := hs.2.2.1.2.2.2.1; have hnc8 := hs.2.2.1.2.1; have hpw := hs.2.2.1.2.2.2.2.1
  unfold c_qI
  by_cases hi : vp_in i no
  · obtain ⟨k, hk, rfl⟩ := vp_ex (by omega) hi
    rw [C_told (d := d + 198) hs hd hk (hst k hk)]
    refine ⟨_, rfl, sc_rf _ _, ?_⟩
    rw [R_told (d := d + 199) hr hno hno1 hk]
    exact ⟨rfl, fin⟩
  · rw [C_toldX (d := d + 198) hs hd hi]
    refine ⟨_, rfl, sc_rf _ _, ?_⟩
    rw [R_toldX (d := d + 199) hr hno hno1 hi]
    exact ⟨rfl, fin⟩
theorem O_logged {x s0 k d bs : Nat} {μ : mo_Mem} {Q : mo_Mem → Prop} (hiv : c_iv x s0 k μ) (hb : bs < x) (hQ : ∀ μ', c_iv x s0 (k + 1) μ' → c_sc bs μ μ' → Q μ') (i : Int32) : c_qL x (d + 200) 79 122 bs [.int i] μ Q := by
  have hiv0 := hiv; obtain ⟨A, G, O, no, b, q, hs, hd, hr, hst, hX, hS⟩ := hiv0; have fin : Q μ := hQ μ (iv_up hiv) (sc_rf _ _); have hno := hd.2.2.1; have hno1 := hd.2.2.2.1; obtain ⟨nl, l1, l2, l3, l4⟩ := hd.2.2.2.2.2.2.2.2.2.2.2.2.2.2.2.2.2.2.2.2.2.2.1; have hne := hs.2.2.1.2.2.1; have hnc := hs.2.2.1.2.2.2.1; have hnc8 := hs.2.2.1.2.1; have hpw := hs.2.2.1.2.2.2.2.1
  unfold c_qL
  by_cases hi : vp_in i nl
  · obtain ⟨k, hk, rfl⟩ := vp_ex (by omega) hi
    rw [C_logged (d := d + 198) hs hd l3 l1 hk]
    refine ⟨_, rfl, sc_rf _ _, ?_⟩
    rw [R_logged (d := d + 199) hr l3 l1 hk]
    exact ⟨rfl, fin⟩
  · rw [C_loggedX (d := d + 198) hs hd l3 l1 hi]
    refine ⟨_, rfl, sc_rf _ _, ?_⟩
    rw [R_loggedX (d := d + 199) hr l3 l1 hi]
    exact ⟨rfl, fin⟩
theorem O_logOf {x s0 k d bs : Nat} {μ : mo_Mem} {Q : mo_Mem → Prop} (hiv : c_iv x s0 k μ) (hb : bs < x) (hQ : ∀ μ', c_iv x s0 (k + 1) μ' → c_sc bs μ μ' → Q μ') (i w : Int32) : c_qI x (d + 200) 80 123 bs [.int i, .int w] μ Q := by
  have hiv0 := hiv; obtain ⟨A, G, O, no, b, q, hs, hd, hr, hst, hX, hS⟩ := hiv0; have fin : Q μ := hQ μ (iv_up hiv) (sc_rf _ _); have hno := hd.2.2.1; have hno1 := hd.2.2.2.1; obtain ⟨nl, l1, l2, l3, l4⟩ := hd.2.2.2.2.2.2.2.2.2.2.2.2.2.2.2.2.2.2.2.2.2.2.1; have hne := hs.2.2.1.2.2.1; have hnc := hs.2.2.1.2.2.2.1; have hnc8 := hs.2.2.1.2.1; have hpw := hs.2.2.1.2.2.2.2.1
  unfold c_qI
  by_cases hi : vp_in i nl
  · obtain ⟨k, hk, rfl⟩ := vp_ex (by omega) hi
    rw [C_logOf (d := d + 198) hs hd l3 l1 hk]
    refine ⟨_, rfl, sc_rf _ _, ?_⟩
    rw [R_logOf (d := d + 199) hr l3 l1 hk]
    exact ⟨rfl, fin⟩
  · rw [C_logOfX (d := d + 198) hs hd l3 l1 hi]
    refine ⟨_, rfl, sc_rf _ _, ?_⟩
    rw [R_logOfX (d := d + 199) hr l3 l1 hi]
    exact ⟨rfl, fin⟩
theorem O_count {x s0 k d bs : Nat} {μ : mo_Mem} {Q : mo_Mem → Prop} (hiv : c_iv x s0 k μ) (hb : bs < x) (hQ : ∀ μ', c_iv x s0 (k + 1) μ' → c_sc bs μ μ' → Q μ') (i : Int32) : c_qI x (d + 200) 81 124 bs [.int i] μ Q := by
  have hiv0 := hiv; obtain ⟨A, G, O, no, b, q, hs, hd, hr, hst, hX, hS⟩ := hiv0; have fin : Q μ := hQ μ (iv_up hiv) (sc_rf _ _); have hno := hd.2.2.1; have hno1 := hd.2.2.2.1; obtain ⟨nl, l1, l2, l3, l4⟩ := hd.2.2.2.2.2.2.2.2.2.2.2.2.2.2.2.2.2.2.2.2.2.2.1; have hne := hs.2.2.1.2.2.1; have hnc := hs.2.2.1.2.2.2.1; have hnc8 := hs.2.2.1.2.1; have hpw := hs.2.2.1.2.2.2.2.1
  unfold c_qI
  by_cases hi : vp_in i 8
  · obtain ⟨k, hk, rfl⟩ := vp_ex (by decide) hi
    rw [C_count (d := d + 199) hs hd hk]
    refine ⟨_, rfl, sc_rf _ _, ?_⟩
    rw [R_count (d := d + 199) hr hk]
    exact ⟨rfl, fin⟩
  · rw [C_countX (d := d + 199) hs hd hi]
    refine ⟨_, rfl, sc_rf _ _, ?_⟩
    rw [R_countX (d := d + 199) hr hi]
    exact ⟨rfl, fin⟩
