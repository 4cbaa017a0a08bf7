theorem ev_pop {x w d P f b q t no fl T e : Nat} {B : mo_A} {G : c_G} {Q : mo_P} {e0 : Int32} {μ : mo_Mem} {A : mo_A} {O : Nat → Nat} {st : Int32} {v : Int64} (hs : c_st x B G μ) (hd : c_dy x B G (w + 1) (P + 1) (f + 1) μ A O no b q) (he : e < gne G) (htop : c_top x G P f e st μ A) (hw : w < 12) (hfl : fl ≤ P) (hF : f ≤ P + 2 * (w + 1)) (hT : T ≤ 1200) (ht : t + 1 + 3 * (300 - b) ≤ T) (hK : c_K x B G w P f (d + 6) Q e0 fl T μ A O no b) (hfy : A.1 37 0 ≠ 0) (hp : ¬ B.1 1 e = 10 ∨ ¬ st = 1 ∨ A.1 37 0 = 8) : c_hd (d + 6) Q x w e0 fl t v μ := by
  have hd0 := hd; obtain ⟨d1, d2, d3, d4, d5, d6, d7, d8, d9, d10, d11, d12, d13, d14, d15, d16, d17, d18, d19, d20, d21, d22, d23, d24, d25⟩ := hd0; have he60 : e < 60 := Nat.lt_of_lt_of_le he hs.2.2.1.1; obtain ⟨z1, z2, z3, z4, z5⟩ := htop; obtain ⟨x1, x2, x3, x4⟩ := hs.2.2.2.2.2.1 e he
  obtain ⟨s, s1, s2, -⟩ := hs.2.2.1.2.2.2.2.2.1 e he
  have lk1 := (d1 1 (by decide)).1
  refine hd_unw hs.1 d8 (by omega) hfl (by omega) (by rw [d20]; exact hfy) ?_
  rw [L_unwP (fr := 0) hs.1.1 (by omega) z4 x4.1 (x4.2.1.trans s2) s1 ?_]
  · have hx : a_x a_sk A (a_I A 27 0 (nI f)) := ax_I (by decide) (ax_rf _ _)
    have hf0 : (a_I A 27 0 (nI f)).1 27 0 = nI f := by rw [a_I_1, if_pos ⟨rfl, rfl⟩]
    refine ⟨rfl, hK v (t + 1) _ _ O no b q (dy_pp (by omega) hd hx hf0) (a_rc_st d10 (by omega) (S_pU d10 (by omega) hfy z1 z2 he60 ?_)) (kp_x (km_pp _ _ _ _ _) (au_I (by omega) (au_rf _ _)) hx (by decide) (by decide) (by decide) (Nat.le_refl _)) (fun h => ?_) (by omega)⟩
    · rw [lk1, z3]; exact hp
    · rw [a_I_n (by decide)] at h; exact absurd h hfy
  · rcases hp with q | q | q
    · refine Or.inl (fun hh => q ?_)
      rw [s2, hh]; rfl
    · exact Or.inr (Or.inl (by rw [z5]; exact q))
    · exact Or.inr (Or.inr (by rw [d20]; exact q))
theorem fin_v {x w d P f b q t no fl T e : Nat} {B : mo_A} {G : c_G} {Q : mo_P} {e0 : Int32} {μ : mo_Mem} {A : mo_A} {O : Nat → Nat} {st : Int32} (hs : c_st x B G μ) (hd : c_dy x B G (w + 1) (P + 1) (f + 1) μ A O no b q) (he : e < gne G) (htop : c_top x G P f e st μ A) (hw : w < 12) (hfl : fl ≤ P) (hF : f ≤ P + 2 * (w + 1)) (hT : T ≤ 1200) (ht : t + 1 + 3 * (300 - b) ≤ T) (hK : c_K x B G w P f (d + 6) Q e0 fl T μ A O no b) {v' : Int64} {z : Int32} (hS : r_S (x + 28) A (a_I (a_L (a_I A 30 f z) 36 0 v') 27 0 (nI f))) : c_hd (d + 6) Q x w e0 fl (t + 1) v' (mo_wI μ 387 (x + 11) (nI P)) := by
  have hd0 := hd; obtain ⟨d1, d2, d3, d4, d5, d6, d7, d8, d9, d10, d11, d12, d13, d14, d15, d16, d17, d18, d19, d20, d21, d22, d23, d24, d25⟩ := hd0; have he60 : e < 60 := Nat.lt_of_lt_of_le he hs.2.2.1.1; obtain ⟨z1, z2, z3, z4, z5⟩ := htop; obtain ⟨x1, x2, x3, x4⟩ := hs.2.2.2.2.2.1 e he
  have hx : a_x a_sk A (a_I (a_L (a_I A 30 f z) 36 0 v') 27 0 (nI f)) := ax_I (by decide) (ax_L (by decide) (ax_I (by decide) (ax_rf _ _)))
  exact hK v' (t + 1) _ _ O no b q (dy_pp (by omega) hd hx (by rw [a_I_1, if_pos ⟨rfl, rfl⟩])) (a_rc_st d10 (by omega) hS) (kp_x (km_I (km_rf _ _ _ _) (by unfold cl_pk; omega) (by omega)) (au_I (by omega) (au_L (by omega) (au_I (by omega) (au_rf _ _)))) hx (by decide) (by decide) (by decide) (Nat.le_refl _)) (fun _ => by rw [a_I_2, a_L_2, if_pos ⟨rfl, rfl⟩]) (by omega)
theorem fin_t {x w d P f b q t no fl T e : Nat} {B : mo_A} {G : c_G} {Q : mo_P} {e0 : Int32} {μ : mo_Mem} {A : mo_A} {O : Nat → Nat} {st : Int32} (hs : c_st x B G μ) (hd : c_dy x B G (w + 1) (P + 1) (f + 1) μ A O no b q) (he : e < gne G) (htop : c_top x G P f e st μ A) (hw : w < 12) (hfl : fl ≤ P) (hF : f ≤ P + 2 * (w + 1)) (hT : T ≤ 1200) (ht : t + 1 + 3 * (300 - b) ≤ T) (hK : c_K x B G w P f (d + 6) Q e0 fl T μ A O no b) {z : Int32} (hS : r_S (x + 28) A (a_I (a_I A 30 f z) 27 0 (nI f))) : c_hd (d + 6) Q x w e0 fl (t + 1) (A.2 36 0) (mo_wI μ 387 (x + 11) (nI P)) := by
  have hd0 := hd; obtain ⟨d1, d2, d3, d4, d5, d6, d7, d8, d9, d10, d11, d12, d13, d14, d15, d16, d17, d18, d19, d20, d21, d22, d23, d24, d25⟩ := hd0; have he60 : e < 60 := Nat.lt_of_lt_of_le he hs.2.2.1.1; obtain ⟨z1, z2, z3, z4, z5⟩ := htop; obtain ⟨x1, x2, x3, x4⟩ := hs.2.2.2.2.2.1 e he
  have hx : a_x a_sk A (a_I (a_I A 30 f z) 27 0 (nI f)) := ax_I (by decide) (ax_I (by decide) (ax_rf _ _))
  exact hK _ (t + 1) _ _ O no b q (dy_pp (by omega) hd hx (by rw [a_I_1, if_pos ⟨rfl, rfl⟩])) (a_rc_st d10 (by omega) hS) (kp_x (km_I (km_rf _ _ _ _) (by unfold cl_pk; omega) (by omega)) (au_I (by omega) (au_I (by omega) (au_rf _ _))) hx (by decide) (by decide) (by decide) (Nat.le_refl _)) (fun _ => rfl) (by omega)
theorem fin_f {x w d P f b q t no fl T e : Nat} {B : mo_A} {G : c_G} {Q : mo_P} {e0 : Int32} {μ : mo_Mem} {A : mo_A} {O : Nat → Nat} {st : Int32} (hs : c_st x B G μ) (hd : c_dy x B G (w + 1) (P + 1) (f + 1) μ A O no b q) (he : e < gne G) (htop : c_top x G P f e st μ A) (hw : w < 12) (hfl : fl ≤ P) (hF : f ≤ P + 2 * (w + 1)) (hT : T ≤ 1200) (ht : t + 1 + 3 * (300 - b) ≤ T) (hK : c_K x B G w P f (d + 6) Q e0 fl T μ A O no b) {v' : Int64} {z wf : Int32} (h0 : A.1 37 0 = 0) (hwf : wf ≠ 0) (hn : ¬ B.1 1 e = 10) (hS : r_S (x + 28) A (a_fl (a_I A 30 f z) q wf)) : c_hd (d + 6) Q x w e0 fl (t + 1) v' (m_fl x (mo_wI μ 387 (x + 11) (nI P)) q wf) := by
  have hd0 := hd; obtain ⟨d1, d2, d3, d4, d5, d6, d7, d8, d9, d10, d11, d12, d13, d14, d15, d16, d17, d18, d19, d20, d21, d22, d23, d24, d25⟩ := hd0; have he60 : e < 60 := Nat.lt_of_lt_of_le he hs.2.2.1.1; obtain ⟨z1, z2, z3, z4, z5⟩ := htop; obtain ⟨x1, x2, x3, x4⟩ := hs.2.2.2.2.2.1 e he
  have hx1 : a_x a_sk A (a_I A 30 f z) := ax_I (by decide) (ax_rf _ _)
  have hd1 := dy_pp (P' := P) (by omega) hd hx1 (by rw [a_I_n (by decide)]; exact d10)
  have h01 : (a_I A 30 f z).1 37 0 = 0 := by rw [a_I_n (by decide)]; exact h0
  have h271 : (a_I A 30 f z).1 27 0 = nI (f + 1) := by rw [a_I_n (by decide)]; exact d10
  obtain ⟨hq4, hd2⟩ := dy_fl (w := wf) hd1 h01 h271
  have hx2 := fl_x (a_I A 30 f z) q wf
  have hu2 := fl_u f (a_I A 30 f z) q wf
  have h37 := fl_37 (a_I A 30 f z) q hwf
  have h27 : (a_fl (a_I A 30 f z) q wf).1 27 0 = nI (f + 1) := by rw [fl_27]; exact h271
  have hu3 := fl_u (f + 1) (a_I A 30 f z) q wf f (Nat.lt_succ_self _)
  have hx3 : a_x a_sk (a_fl (a_I A 30 f z) q wf) (a_I (a_fl (a_I A 30 f z) q wf) 27 0 (nI f)) := ax_I (by decide) (ax_rf _ _)
  have hd3 := dy_stk hd2 hx3 (F' := f) (by rw [a_I_1, if_pos ⟨rfl, rfl⟩])
  have hp := S_pU (r := x + 28) (f := f) (e := e) h27 (by omega) h37 (by rw [(hu3.1 28 (by decide) (by decide)).1, a_I_n (by decide)]; exact z1) (by rw [(hu3.1 29 (by decide) (by decide)).1, a_I_n (by decide)]; exact z2) he60 (Or.inl (by rw [(hx2 1 (by decide)).1, (hx1 1 (by decide)).1, (d1 1 (by decide)).1]; exact hn))
  have hxx : a_x (37 :: 39 :: a_sk) A (a_I (a_fl (a_I A 30 f z) q wf) 27 0 (nI f)) := ax_I (by decide) (ax_tr (ax_I (by decide) (ax_rf _ _)) hx2)
  exact hK v' (t + 1) _ _ O no b (q + 1) hd3 (a_rc_tr (a_rc_st d10 (by omega) hS) (a_rc_st h27 (by omega) hp)) (kp_x (km_tr (km_pp x (w + 1) P μ (nI P)) (km_fl x (w + 1) P _ q wf)) (au_I (by omega) (au_tr (au_I (by omega) (au_rf _ _)) hu2)) hxx (by decide) (by decide) (by decide) (Nat.le_refl _)) (fun h => absurd (by rw [a_I_n (by decide)] at h; exact h) h37) (by omega)
