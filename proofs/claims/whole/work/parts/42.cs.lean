/-- the code at hand: the class's frame w tells what the reference's frame f tells -/
def c_fr (x : Nat) (B : mo_A) (G : c_G) (w f : Nat) (μ : mo_Mem) (A : mo_A) (O : Nat → Nat) (no c o : Nat) : Prop := mo_R μ 192 (x + 16 + w) = some (gT G c) ∧ mo_R μ 193 (x + 16 + w) = some (O o) ∧ mo_L μ 194 (x + 16 + w) = A.2 34 f ∧ A.1 31 f = nI c ∧ A.1 32 f = nI o ∧ c < gnc G ∧ o < no ∧ w < 12 ∧ ∃ c0, A.1 18 o = nI c0 ∧ c0 < gnc G ∧ a_bel B 8 c0 c = true
theorem fr_k {x w f u P F no no' b b' c o : Nat} {B : mo_A} {G : c_G} {μ μ' : mo_Mem} {A A' : mo_A} {O O' : Nat → Nat} (h : c_fr x B G w f μ A O no c o) (k : c_kp x u P F μ A O no b μ' A' O' no' b') (hw : w < u) (hf : f < F) : c_fr x B G w f μ' A' O' no' c o := by
  obtain ⟨h1, h2, h3, h4, h5, h6, h7, h8, c0, h9, h10, h11⟩ := h
  obtain ⟨k1, k2, k3, k4, k5, k6, k7, k8, k9, k10, k11⟩ := k
  obtain ⟨r1, r2, r3⟩ := k6 w hw
  obtain ⟨s1, s2⟩ := k8 f hf
  obtain ⟨o1, o2, o3⟩ := k4 o h7
  exact ⟨r1.trans h1, by rw [r2, h2, o1], by rw [r3, h3, (s1 34 (by decide) (by decide)).2], (s1 31 (by decide) (by decide)).1.trans h4, (s1 32 (by decide) (by decide)).1.trans h5, h6, by omega, h8, c0, o2.trans h9, h10, h11⟩
def c_top (x : Nat) (G : c_G) (P f e : Nat) (st : Int32) (μ : mo_Mem) (A : mo_A) : Prop := A.1 28 f = 0 ∧ A.1 29 f = nI e ∧ A.1 30 f = st ∧ mo_AR μ (x + 12) P = some (gE G e) ∧ mo_AI μ (x + 13) P = st
theorem top_k {x f e u P P' F no no' b b' : Nat} {G : c_G} {st : Int32} {μ μ' : mo_Mem} {A A' : mo_A} {O O' : Nat → Nat} (h : c_top x G P f e st μ A) (k : c_kp x u P' F μ A O no b μ' A' O' no' b') (hP : P < P') (hf : f < F) : c_top x G P f e st μ' A' := by
  obtain ⟨h1, h2, h3, h4, h5⟩ := h
  obtain ⟨k1, k2, k3, k4, k5, k6, k7, k8, k9, k10, k11⟩ := k
  obtain ⟨r1, r2, r3⟩ := k7 P hP
  obtain ⟨s1, s2⟩ := k8 f hf
  exact ⟨(s1 28 (by decide) (by decide)).1.trans h1, (s1 29 (by decide) (by decide)).1.trans h2, (s1 30 (by decide) (by decide)).1.trans h3, r1.trans h4, r2.trans h5⟩
/-- how work's loop goes on -/
def c_K (x : Nat) (B : mo_A) (G : c_G) (w P f d : Nat) (Q : mo_P) (e0 : Int32) (fl T : Nat) (μ : mo_Mem) (A : mo_A) (O : Nat → Nat) (no b : Nat) : Prop := ∀ v t' μ' A' O' no' b' q', c_dy x B G (w + 1) P f μ' A' O' no' b' q' → a_rc (x + 28) A A' → c_kp x (w + 1) P f μ A O no b μ' A' O' no' b' → (A'.1 37 0 = 0 → v = A'.2 36 0) → t' + 3 * (300 - b') ≤ T → c_hd d Q x w e0 fl t' v μ'
theorem K_tr {x w P f d fl T : Nat} {B : mo_A} {G : c_G} {Q : mo_P} {e0 : Int32} {μ μ2 : mo_Mem} {A A2 : mo_A} {O O2 : Nat → Nat} {no no2 b b2 : Nat} (hK : c_K x B G w P f d Q e0 fl T μ A O no b) (hr : a_rc (x + 28) A A2) (hk : c_kp x (w + 1) P f μ A O no b μ2 A2 O2 no2 b2) {T2 : Nat} (hT : T2 ≤ T) : c_K x B G w P f d Q e0 fl T2 μ2 A2 O2 no2 b2 := fun v t' μ' A' O' no' b' q' h1 h2 h3 h4 h5 => hK v t' μ' A' O' no' b' q' h1 (a_rc_tr hr h2) (c_kp_tr hk h3 (Nat.le_refl _) (Nat.le_refl _) (Nat.le_refl _)) h4 (by omega)
/-- an exp that was just begun is brought to its end -/
def c_EV (x : Nat) (B : mo_A) (G : c_G) (w d : Nat) (Q : mo_P) (e0 : Int32) (fl e : Nat) : Prop := ∀ μ A O no P f b q c o t v0, c_st x B G μ → c_dy x B G (w + 1) (P + 1) (f + 1) μ A O no b q → A.1 37 0 = 0 → c_fr x B G w f μ A O no c o → c_top x G P f e 0 μ A → fl ≤ P → f ≤ P + 2 * (w + 1) → t + 3 * (300 - b) + 3 ≤ 1200 → c_K x B G w P f d Q e0 fl (t + 3 * (300 - b) + 3) μ A O no b → c_hd d Q x w e0 fl t v0 μ
theorem push_rd (X : mo_A) (f : Nat) (w x p c : Int32) (g : Int64) : (a_push X f w x p c g).1 28 f = w ∧ (a_push X f w x p c g).1 29 f = x ∧ (a_push X f w x p c g).1 30 f = 0 ∧ (a_push X f w x p c g).1 31 f = c ∧ (a_push X f w x p c g).1 32 f = p ∧ (a_push X f w x p c g).2 34 f = g ∧ (a_push X f w x p c g).1 35 f = 0 ∧ (a_push X f w x p c g).1 27 0 = nI (f + 1) := by
  refine ⟨?_, ?_, ?_, ?_, ?_, ?_, ?_, ?_⟩ <;> simp only [a_push, a_I_1, a_I_2, a_L_1, a_L_2, Nat.reduceEqDiff, false_and, and_self, if_true, if_false]
theorem ev_begin {x w D d' P f b q c o t a no fl : Nat} {B : mo_A} {G : c_G} {Q : mo_P} {e0 : Int32} {μ : mo_Mem} {A A1 : mo_A} {O : Nat → Nat} (ih : c_EV x B G w D Q e0 fl a) (ha : a < gne G) (hs : c_st x B G μ) (hd : c_dy x B G (w + 1) (P + 1) (f + 1) μ A O no b q) (h0 : A.1 37 0 = 0) (hfr : c_fr x B G w f μ A O no c o) (hfl : fl ≤ P) (hF : f ≤ P + 2 * (w + 1)) (hw : a_wk A b a f A1) (vv : Int64) (ht : t + 3 * (300 - b) ≤ 1200) (hK : ∀ v t' μ' A' O' no' b' q', c_dy x B G (w + 1) (P + 1) (f + 1) μ' A' O' no' b' q' → a_rc (x + 28) A1 A' → c_kp x (w + 1) (P + 1) (f + 1) μ A O no b μ' A' O' no' b' → (A'.1 37 0 = 0 → v = A'.2 36 0) → t' + 3 * (300 - b') ≤ t + 3 * (300 - b) → c_hd D Q x w e0 fl t' v μ') : mo_M (d' + 3) 28 [.ref (x + 1), .int (nI a)] μ (fun r μ' => r = none ∧ c_hd D Q x w e0 fl t vv μ') := by
  have hb := hd.2.2.2.2.2.2.2.2.2.2.1
  have hP := hd.2.2.2.2.2.2.2.1
  have hPb := hd.2.2.2.2.2.2.2.2.1
  have hF27 := hd.2.2.2.2.2.2.2.2.2.1
  obtain ⟨x1, x2, x3, x4⟩ := hs.2.2.2.2.2.1 a ha
  rcases hw with ⟨hb3, rfl⟩ | ⟨hb3, rfl⟩
  · rw [L_begin hs.1.1 hs.2.2.2.1 hs.2.2.1.1 ha x1 x4.1 hP (by omega) hb hb3]
    refine ⟨rfl, ?_⟩
    have km := km_bg x (w + 1) (P + 1) μ b (gE G a)
    have hx : a_x (40 :: a_sk) A (a_push (a_I A 40 0 (nI (b + 1))) (f + 1) 0 (nI a) (A.1 32 f) (A.1 31 f) (A.2 34 f)) := ax_push (by decide) (ax_I (by decide) (ax_rf _ _))
    have hu : a_u (f + 1) A (a_push (a_I A 40 0 (nI (b + 1))) (f + 1) 0 (nI a) (A.1 32 f) (A.1 31 f) (A.2 34 f)) := au_push (Nat.le_refl _) (au_I (by omega) (au_rf _ _))
    obtain ⟨p1, p2, p3, p4, p5, p6, p7, p8⟩ := push_rd (a_I A 40 0 (nI (b + 1))) (f + 1) 0 (nI a) (A.1 32 f) (A.1 31 f) (A.2 34 f)
    have hkp : c_kp x (w + 1) (P + 1) (f + 1) μ A O no b (m_bg x μ (P + 1) b (gE G a)) (a_push (a_I A 40 0 (nI (b + 1))) (f + 1) 0 (nI a) (A.1 32 f) (A.1 31 f) (A.2 34 f)) O no (b + 1) := kp_x km hu hx (by decide) (by decide) (by decide) (by omega)
    have hd2 := dy_bg (a := gE G a) (by omega) hb3 hd hx p8 (by simp only [a_push, a_I_1, a_I_2, a_L_1, a_L_2, Nat.reduceEqDiff, false_and, and_self, if_true, if_false])
    obtain ⟨g1, g2, g3, g4, g5, g6, g7, g8, c0, g9, g10, g11⟩ := fr_k hfr hkp (Nat.lt_succ_self _) (Nat.lt_succ_self _)
    refine ih _ _ O no (P + 1) (f + 1) (b + 1) q c o t vv (c_st_k hs km.1) hd2 (by rw [(hx 37 (by decide)).1]; exact h0) ⟨g1, g2, ?_, ?_, ?_, g6, g7, g8, c0, g9, g10, g11⟩ ⟨p1, p2, p3, ?_, ?_⟩ (by omega) (by omega) (by omega) ?_
    · rw [g3, p6, (hu f (Nat.lt_succ_self _)).1 34 (by decide) (by decide) |>.2]
    · rw [p4]; exact hfr.2.2.2.1
    · rw [p5]; exact hfr.2.2.2.2.1
    · simp only [m_bg, mo_ME, mo_u_a, Nat.add_left_cancel_iff, Nat.reduceEqDiff, and_self, if_true]
    · simp only [m_bg, mo_ME, mo_u_a, Nat.add_left_cancel_iff, Nat.reduceEqDiff, and_self, if_true]
    · intro v t' μ' A' O' no' b' q' k1 k2 k3 k4 k5
      exact hK v t' μ' A' O' no' b' q' k1 k2 (c_kp_tr hkp k3 (Nat.le_refl _) (Nat.le_refl _) (Nat.le_refl _)) k4 (by omega)
  · subst hb3
    rw [L_beginS hs.1.1 hs.2.2.2.1 hs.2.2.1.1 ha x1 hb]
    refine ⟨rfl, ?_⟩
    have hx : a_x (37 :: a_sk) A (a_I A 37 0 8) := ax_I (by decide) (ax_rf _ _)
    refine hK vv t _ (a_I A 37 0 8) O no 300 q (dy_sp hd hx (by rw [a_I_n (by decide)]; exact hF27) (by rw [a_I_1, if_pos ⟨rfl, rfl⟩])) (a_rc_rf _ _) (kp_x (km_sp _ _ _ _ _) (au_I (by omega) (au_rf _ _)) hx (by decide) (by decide) (by decide) (Nat.le_refl _)) (fun h => ?_) (Nat.le_refl _)
    rw [a_I_1, if_pos ⟨rfl, rfl⟩] at h
    exact absurd h (by decide)
