theorem m_fl_rd (x : Nat) (μ : mo_Mem) (q : Nat) (w : Int32) : mo_AR (m_fl x μ q w) = mo_AR μ ∧ mo_AL (m_fl x μ q w) = mo_AL μ ∧ mo_R (m_fl x μ q w) = mo_R μ ∧ mo_C (m_fl x μ q w) = mo_C μ ∧ ∀ a, mo_I (m_fl x μ q w) 580 a = mo_I μ 580 a := by
  unfold m_fl
  split <;> simp only [mo_ME, mo_u_a, Nat.reduceEqDiff, false_and, if_false, implies_true, and_self]
theorem ev_f0 {x w d P f b q t no fl T e c o : Nat} {B : mo_A} {G : c_G} {Q : mo_P} {e0 : Int32} {μ : mo_Mem} {A : mo_A} {O : Nat → Nat} {v : Int64} (hs : c_st x B G μ) (hd : c_dy x B G (w + 1) (P + 1) (f + 1) μ A O no b q) (he : e < gne G) (htop : c_top x G P f e 0 μ A) (hw : w < 12) (hfl : fl ≤ P) (hF : f ≤ P + 2 * (w + 1)) (hT : T ≤ 1200) (ht : t + 1 + 3 * (300 - b) ≤ T) (hK : c_K x B G w P f (d + 6) Q e0 fl T μ A O no b) (h0 : A.1 37 0 = 0) (hfr : c_fr x B G w f μ A O no c o) (hB : B.1 1 e = 0) : c_hd (d + 6) Q x w e0 fl t v μ := by
  have hd0 := hd; obtain ⟨d1, d2, d3, d4, d5, d6, d7, d8, d9, d10, d11, d12, d13, d14, d15, d16, d17, d18, d19, d20, d21, d22, d23, d24, d25⟩ := hd0; have he60 : e < 60 := Nat.lt_of_lt_of_le he hs.2.2.1.1; have htop0 := htop; obtain ⟨z1, z2, z3, z4, z5⟩ := htop0; obtain ⟨x1, x2, x3, x4⟩ := hs.2.2.2.2.2.1 e he; have hs1 : c_st x B G (mo_wI μ 387 (x + 11) (nI P)) := c_st_k hs (km_pp x 0 0 μ (nI P)).1; obtain ⟨y1, y2, y3, y4⟩ := hs1.2.2.2.2.2.1 e he; have hd1 := dy_pp (P' := P) (by omega) hd (ax_rf a_sk A) d10; obtain ⟨r1, r2, r3, r4, r5, r6, r7, r8, c0, r9, r10, r11⟩ := hfr; have hn8 := hs.2.2.1.2.1; have ht1 := c_th_c hn8 (hd1.2.2.2.2.2.2.2.2.2.2.2.2.2.2.2.2.2.2.2.2.2.2.2.1 o r7) r9 r10; have hC4 := (hs1.1.2 w hw).2; have hq4 : q ≤ 4 := d21 (by rw [h0]; decide)
  refine hd_adv hs.1 hw d8 (by omega) hfl (by omega) (by rw [d20]; exact h0) ?_
  refine L_advF0 (s := 0) hs.1.1 (by omega) z4 x4.1 (x4.2.1.trans hB) (by decide) (by decide) z5 v _ ?_
  rw [L_fin0 y4.1 y4.2.2.1 (y4.2.1.trans hB)]
  have := S_num (r := x + 28) d10 (by omega) h0 z1 z2 he60 (by rw [(d1 1 (by decide)).1]; exact hB)
  rw [(d1 2 (by decide)).2] at this
  exact ⟨_, rfl, _, rfl, fin_v hs hd he htop hw hfl hF hT ht hK this⟩
theorem ev_f1 {x w d P f b q t no fl T e c o : Nat} {B : mo_A} {G : c_G} {Q : mo_P} {e0 : Int32} {μ : mo_Mem} {A : mo_A} {O : Nat → Nat} {v : Int64} (hs : c_st x B G μ) (hd : c_dy x B G (w + 1) (P + 1) (f + 1) μ A O no b q) (he : e < gne G) (htop : c_top x G P f e 0 μ A) (hw : w < 12) (hfl : fl ≤ P) (hF : f ≤ P + 2 * (w + 1)) (hT : T ≤ 1200) (ht : t + 1 + 3 * (300 - b) ≤ T) (hK : c_K x B G w P f (d + 6) Q e0 fl T μ A O no b) (h0 : A.1 37 0 = 0) (hfr : c_fr x B G w f μ A O no c o) (hB : B.1 1 e = 1) : c_hd (d + 6) Q x w e0 fl t v μ := by
  have hd0 := hd; obtain ⟨d1, d2, d3, d4, d5, d6, d7, d8, d9, d10, d11, d12, d13, d14, d15, d16, d17, d18, d19, d20, d21, d22, d23, d24, d25⟩ := hd0; have he60 : e < 60 := Nat.lt_of_lt_of_le he hs.2.2.1.1; have htop0 := htop; obtain ⟨z1, z2, z3, z4, z5⟩ := htop0; obtain ⟨x1, x2, x3, x4⟩ := hs.2.2.2.2.2.1 e he; have hs1 : c_st x B G (mo_wI μ 387 (x + 11) (nI P)) := c_st_k hs (km_pp x 0 0 μ (nI P)).1; obtain ⟨y1, y2, y3, y4⟩ := hs1.2.2.2.2.2.1 e he; have hd1 := dy_pp (P' := P) (by omega) hd (ax_rf a_sk A) d10; obtain ⟨r1, r2, r3, r4, r5, r6, r7, r8, c0, r9, r10, r11⟩ := hfr; have hn8 := hs.2.2.1.2.1; have ht1 := c_th_c hn8 (hd1.2.2.2.2.2.2.2.2.2.2.2.2.2.2.2.2.2.2.2.2.2.2.2.1 o r7) r9 r10; have hC4 := (hs1.1.2 w hw).2; have hq4 : q ≤ 4 := d21 (by rw [h0]; decide)
  refine hd_adv hs.1 hw d8 (by omega) hfl (by omega) (by rw [d20]; exact h0) ?_
  refine L_advF0 (s := 1) hs.1.1 (by omega) z4 x4.1 (x4.2.1.trans hB) (by decide) (by decide) z5 v _ ?_
  rw [L_fin1 y4.1 y4.2.2.1 (y4.2.1.trans hB) hC4]
  have := S_given (r := x + 28) d10 (by omega) h0 z1 z2 he60 (by rw [(d1 1 (by decide)).1]; exact hB)
  rw [← r3] at this
  exact ⟨_, rfl, _, rfl, fin_v hs hd he htop hw hfl hF hT ht hK this⟩
theorem ev_f2 {x w d P f b q t no fl T e c o : Nat} {B : mo_A} {G : c_G} {Q : mo_P} {e0 : Int32} {μ : mo_Mem} {A : mo_A} {O : Nat → Nat} {v : Int64} (hs : c_st x B G μ) (hd : c_dy x B G (w + 1) (P + 1) (f + 1) μ A O no b q) (he : e < gne G) (htop : c_top x G P f e 0 μ A) (hw : w < 12) (hfl : fl ≤ P) (hF : f ≤ P + 2 * (w + 1)) (hT : T ≤ 1200) (ht : t + 1 + 3 * (300 - b) ≤ T) (hK : c_K x B G w P f (d + 6) Q e0 fl T μ A O no b) (h0 : A.1 37 0 = 0) (hfr : c_fr x B G w f μ A O no c o) (hB : B.1 1 e = 2) {k : Nat} (hk : B.2 2 e = lN k) (hk3 : k < 3) : c_hd (d + 6) Q x w e0 fl t v μ := by
  have hd0 := hd; obtain ⟨d1, d2, d3, d4, d5, d6, d7, d8, d9, d10, d11, d12, d13, d14, d15, d16, d17, d18, d19, d20, d21, d22, d23, d24, d25⟩ := hd0; have he60 : e < 60 := Nat.lt_of_lt_of_le he hs.2.2.1.1; have htop0 := htop; obtain ⟨z1, z2, z3, z4, z5⟩ := htop0; obtain ⟨x1, x2, x3, x4⟩ := hs.2.2.2.2.2.1 e he; have hs1 : c_st x B G (mo_wI μ 387 (x + 11) (nI P)) := c_st_k hs (km_pp x 0 0 μ (nI P)).1; obtain ⟨y1, y2, y3, y4⟩ := hs1.2.2.2.2.2.1 e he; have hd1 := dy_pp (P' := P) (by omega) hd (ax_rf a_sk A) d10; obtain ⟨r1, r2, r3, r4, r5, r6, r7, r8, c0, r9, r10, r11⟩ := hfr; have hn8 := hs.2.2.1.2.1; have ht1 := c_th_c hn8 (hd1.2.2.2.2.2.2.2.2.2.2.2.2.2.2.2.2.2.2.2.2.2.2.2.1 o r7) r9 r10; have hC4 := (hs1.1.2 w hw).2; have hq4 : q ≤ 4 := d21 (by rw [h0]; decide)
  refine hd_adv hs.1 hw d8 (by omega) hfl (by omega) (by rw [d20]; exact h0) ?_
  refine L_advF0 (s := 2) hs.1.1 (by omega) z4 x4.1 (x4.2.1.trans hB) (by decide) (by decide) z5 v _ ?_
  refine L_finR hs1.1.1 y4.1 (y4.2.2.1.trans hk) (Or.inl ⟨y4.2.1.trans hB, rfl⟩) hC4 _ v _ ?_
  obtain ⟨⟨nk, n1, n2⟩, -⟩ := hs.2.2.1.2.2.2.2.2.2.1 c r6
  have hA1 : A.1 1 e = 2 := by rw [(d1 1 (by decide)).1]; exact hB
  have hA2 : A.2 2 e = lN k := by rw [(d1 2 (by decide)).2]; exact hk
  have hA7 : (A.1 7 c).toInt64 = lN nk := by rw [(d1 7 (by decide)).1, n2, nI_l (by omega)]
  by_cases hkn : k < nk
  · rw [L_rdCT (d := d) hs1 ht1 r6 hC4 r1 r2 r11 n2 (by omega) hkn]
    have hS := S_cap (r := x + 28) d10 (by omega) h0 z1 z2 he60 hA1 r4 (by omega) r5 (by omega) hA2 hk3 (by rw [hA7]; exact (lN_lt (by omega) (by omega)).2 hkn)
    rw [← (ht1.2.2.2.2.2.2.2.2.2.2.2.2.2.2.2 c r11).1 k hk3] at hS
    exact ⟨_, rfl, _, rfl, _, rfl, fin_v hs hd he htop hw hfl hF hT ht hK hS⟩
  · have hS := S_capF (r := x + 28) d10 (by omega) h0 z1 z2 he60 hA1 r4 (by omega) (by rw [hA2, hA7]; exact fun hh => hkn ((lN_lt (by omega) (by omega)).1 hh)) d18 hq4
    obtain ⟨m1, m2, m3, m4, m5⟩ := m_fl_rd x (mo_wI μ 387 (x + 11) (nI P)) q 2
    have km := km_fl x (w + 1) P (mo_wI μ 387 (x + 11) (nI P)) q 2
    rw [L_rdCF (d := d) hs1 ht1 r6 hC4 r1 r2 n2 (by omega) (by omega) (by omega) d17 hq4 (c_st_k hs1 km.1) (tc_k ht1 km.1 (by rw [m1]) (m5 _) (by rw [m2]) (by rw [m2]) rfl rfl rfl rfl) (by rw [m4]; exact hC4) (by rw [m3]; exact r1) (by rw [m3]; exact r2)]
    exact ⟨_, rfl, _, rfl, _, rfl, fin_f hs hd he htop hw hfl hF hT ht hK h0 (by decide) (by rw [hB]; decide) hS⟩
theorem ev_f3 {x w d P f b q t no fl T e c o : Nat} {B : mo_A} {G : c_G} {Q : mo_P} {e0 : Int32} {μ : mo_Mem} {A : mo_A} {O : Nat → Nat} {v : Int64} (hs : c_st x B G μ) (hd : c_dy x B G (w + 1) (P + 1) (f + 1) μ A O no b q) (he : e < gne G) (htop : c_top x G P f e 0 μ A) (hw : w < 12) (hfl : fl ≤ P) (hF : f ≤ P + 2 * (w + 1)) (hT : T ≤ 1200) (ht : t + 1 + 3 * (300 - b) ≤ T) (hK : c_K x B G w P f (d + 6) Q e0 fl T μ A O no b) (h0 : A.1 37 0 = 0) (hfr : c_fr x B G w f μ A O no c o) (hB : B.1 1 e = 3) {k : Nat} (hk : B.2 2 e = lN k) (hk3 : k < 4) : c_hd (d + 6) Q x w e0 fl t v μ := by
  have hd0 := hd; obtain ⟨d1, d2, d3, d4, d5, d6, d7, d8, d9, d10, d11, d12, d13, d14, d15, d16, d17, d18, d19, d20, d21, d22, d23, d24, d25⟩ := hd0; have he60 : e < 60 := Nat.lt_of_lt_of_le he hs.2.2.1.1; have htop0 := htop; obtain ⟨z1, z2, z3, z4, z5⟩ := htop0; obtain ⟨x1, x2, x3, x4⟩ := hs.2.2.2.2.2.1 e he; have hs1 : c_st x B G (mo_wI μ 387 (x + 11) (nI P)) := c_st_k hs (km_pp x 0 0 μ (nI P)).1; obtain ⟨y1, y2, y3, y4⟩ := hs1.2.2.2.2.2.1 e he; have hd1 := dy_pp (P' := P) (by omega) hd (ax_rf a_sk A) d10; obtain ⟨r1, r2, r3, r4, r5, r6, r7, r8, c0, r9, r10, r11⟩ := hfr; have hn8 := hs.2.2.1.2.1; have ht1 := c_th_c hn8 (hd1.2.2.2.2.2.2.2.2.2.2.2.2.2.2.2.2.2.2.2.2.2.2.2.1 o r7) r9 r10; have hC4 := (hs1.1.2 w hw).2; have hq4 : q ≤ 4 := d21 (by rw [h0]; decide)
  refine hd_adv hs.1 hw d8 (by omega) hfl (by omega) (by rw [d20]; exact h0) ?_
  refine L_advF0 (s := 3) hs.1.1 (by omega) z4 x4.1 (x4.2.1.trans hB) (by decide) (by decide) z5 v _ ?_
  refine L_finR hs1.1.1 y4.1 (y4.2.2.1.trans hk) (Or.inr ⟨y4.2.1.trans hB, rfl⟩) hC4 _ v _ ?_
  obtain ⟨-, ⟨nk, n1, n2⟩, -⟩ := hs.2.2.1.2.2.2.2.2.2.1 c r6
  have hA1 : A.1 1 e = 3 := by rw [(d1 1 (by decide)).1]; exact hB
  have hA2 : A.2 2 e = lN k := by rw [(d1 2 (by decide)).2]; exact hk
  have hA7 : (A.1 8 c).toInt64 = lN nk := by rw [(d1 8 (by decide)).1, n2, nI_l (by omega)]
  by_cases hkn : k < nk
  · rw [L_rdFT (d := d) hs1 ht1 r6 hC4 r1 r2 r11 n2 (by omega) hkn]
    have hS := S_fld (r := x + 28) d10 (by omega) h0 z1 z2 he60 hA1 r4 (by omega) r5 (by omega) hA2 hk3 (by rw [hA7]; exact (lN_lt (by omega) (by omega)).2 hkn)
    rw [← (ht1.2.2.2.2.2.2.2.2.2.2.2.2.2.2.2 c r11).2 k hk3] at hS
    exact ⟨_, rfl, _, rfl, _, rfl, fin_v hs hd he htop hw hfl hF hT ht hK hS⟩
  · have hS := S_fldF (r := x + 28) d10 (by omega) h0 z1 z2 he60 hA1 r4 (by omega) (by rw [hA2, hA7]; exact fun hh => hkn ((lN_lt (by omega) (by omega)).1 hh)) d18 hq4
    obtain ⟨m1, m2, m3, m4, m5⟩ := m_fl_rd x (mo_wI μ 387 (x + 11) (nI P)) q 2
    have km := km_fl x (w + 1) P (mo_wI μ 387 (x + 11) (nI P)) q 2
    rw [L_rdFF (d := d) hs1 ht1 r6 hC4 r1 r2 n2 (by omega) (by omega) (by omega) d17 hq4 (c_st_k hs1 km.1) (tc_k ht1 km.1 (by rw [m1]) (m5 _) (by rw [m2]) (by rw [m2]) rfl rfl rfl rfl) (by rw [m4]; exact hC4) (by rw [m3]; exact r1) (by rw [m3]; exact r2)]
    exact ⟨_, rfl, _, rfl, _, rfl, fin_f hs hd he htop hw hfl hF hT ht hK h0 (by decide) (by rw [hB]; decide) hS⟩
theorem ev_f4 {x w d P f b q t no fl T e c o : Nat} {B : mo_A} {G : c_G} {Q : mo_P} {e0 : Int32} {μ : mo_Mem} {A : mo_A} {O : Nat → Nat} {v : Int64} (hs : c_st x B G μ) (hd : c_dy x B G (w + 1) (P + 1) (f + 1) μ A O no b q) (he : e < gne G) (htop : c_top x G P f e 2 μ A) (hw : w < 12) (hfl : fl ≤ P) (hF : f ≤ P + 2 * (w + 1)) (hT : T ≤ 1200) (ht : t + 1 + 3 * (300 - b) ≤ T) (hK : c_K x B G w P f (d + 6) Q e0 fl T μ A O no b) (h0 : A.1 37 0 = 0) (hfr : c_fr x B G w f μ A O no c o) (hv : v = A.2 36 0) (h44 : mo_AL μ (x + 14) P = A.2 44 f) (hB : B.1 1 e = 4) : c_hd (d + 6) Q x w e0 fl t v μ := by
  have hd0 := hd; obtain ⟨d1, d2, d3, d4, d5, d6, d7, d8, d9, d10, d11, d12, d13, d14, d15, d16, d17, d18, d19, d20, d21, d22, d23, d24, d25⟩ := hd0; have he60 : e < 60 := Nat.lt_of_lt_of_le he hs.2.2.1.1; have htop0 := htop; obtain ⟨z1, z2, z3, z4, z5⟩ := htop0; obtain ⟨x1, x2, x3, x4⟩ := hs.2.2.2.2.2.1 e he; have hs1 : c_st x B G (mo_wI μ 387 (x + 11) (nI P)) := c_st_k hs (km_pp x 0 0 μ (nI P)).1; obtain ⟨y1, y2, y3, y4⟩ := hs1.2.2.2.2.2.1 e he; have hd1 := dy_pp (P' := P) (by omega) hd (ax_rf a_sk A) d10; obtain ⟨r1, r2, r3, r4, r5, r6, r7, r8, c0, r9, r10, r11⟩ := hfr; have hn8 := hs.2.2.1.2.1; have ht1 := c_th_c hn8 (hd1.2.2.2.2.2.2.2.2.2.2.2.2.2.2.2.2.2.2.2.2.2.2.2.1 o r7) r9 r10; have hC4 := (hs1.1.2 w hw).2; have hq4 : q ≤ 4 := d21 (by rw [h0]; decide)
  refine hd_adv hs.1 hw d8 (by omega) hfl (by omega) (by rw [d20]; exact h0) ?_
  refine L_advF2 (s := 4) hs.1.1 (by omega) z4 x4.1 (x4.2.1.trans hB) (by decide) z5 v _ ?_
  rw [L_fin4 y4.1 y4.2.2.1 (y4.2.1.trans hB), h44, hv]
  exact ⟨_, rfl, _, rfl, fin_v hs hd he htop hw hfl hF hT ht hK (S_c4 d10 (by omega) h0 z1 z2 he60 (by rw [(d1 1 (by decide)).1]; exact hB) z3)⟩
theorem ev_f5 {x w d P f b q t no fl T e c o : Nat} {B : mo_A} {G : c_G} {Q : mo_P} {e0 : Int32} {μ : mo_Mem} {A : mo_A} {O : Nat → Nat} {v : Int64} (hs : c_st x B G μ) (hd : c_dy x B G (w + 1) (P + 1) (f + 1) μ A O no b q) (he : e < gne G) (htop : c_top x G P f e 2 μ A) (hw : w < 12) (hfl : fl ≤ P) (hF : f ≤ P + 2 * (w + 1)) (hT : T ≤ 1200) (ht : t + 1 + 3 * (300 - b) ≤ T) (hK : c_K x B G w P f (d + 6) Q e0 fl T μ A O no b) (h0 : A.1 37 0 = 0) (hfr : c_fr x B G w f μ A O no c o) (hv : v = A.2 36 0) (h44 : mo_AL μ (x + 14) P = A.2 44 f) (hB : B.1 1 e = 5) : c_hd (d + 6) Q x w e0 fl t v μ := by
  have hd0 := hd; obtain ⟨d1, d2, d3, d4, d5, d6, d7, d8, d9, d10, d11, d12, d13, d14, d15, d16, d17, d18, d19, d20, d21, d22, d23, d24, d25⟩ := hd0; have he60 : e < 60 := Nat.lt_of_lt_of_le he hs.2.2.1.1; have htop0 := htop; obtain ⟨z1, z2, z3, z4, z5⟩ := htop0; obtain ⟨x1, x2, x3, x4⟩ := hs.2.2.2.2.2.1 e he; have hs1 : c_st x B G (mo_wI μ 387 (x + 11) (nI P)) := c_st_k hs (km_pp x 0 0 μ (nI P)).1; obtain ⟨y1, y2, y3, y4⟩ := hs1.2.2.2.2.2.1 e he; have hd1 := dy_pp (P' := P) (by omega) hd (ax_rf a_sk A) d10; obtain ⟨r1, r2, r3, r4, r5, r6, r7, r8, c0, r9, r10, r11⟩ := hfr; have hn8 := hs.2.2.1.2.1; have ht1 := c_th_c hn8 (hd1.2.2.2.2.2.2.2.2.2.2.2.2.2.2.2.2.2.2.2.2.2.2.2.1 o r7) r9 r10; have hC4 := (hs1.1.2 w hw).2; have hq4 : q ≤ 4 := d21 (by rw [h0]; decide)
  refine hd_adv hs.1 hw d8 (by omega) hfl (by omega) (by rw [d20]; exact h0) ?_
  refine L_advF2 (s := 5) hs.1.1 (by omega) z4 x4.1 (x4.2.1.trans hB) (by decide) z5 v _ ?_
  rw [L_fin5 y4.1 y4.2.2.1 (y4.2.1.trans hB), h44, hv]
  exact ⟨_, rfl, _, rfl, fin_v hs hd he htop hw hfl hF hT ht hK (S_c5 d10 (by omega) h0 z1 z2 he60 (by rw [(d1 1 (by decide)).1]; exact hB) z3)⟩
theorem ev_f6 {x w d P f b q t no fl T e c o : Nat} {B : mo_A} {G : c_G} {Q : mo_P} {e0 : Int32} {μ : mo_Mem} {A : mo_A} {O : Nat → Nat} {v : Int64} (hs : c_st x B G μ) (hd : c_dy x B G (w + 1) (P + 1) (f + 1) μ A O no b q) (he : e < gne G) (htop : c_top x G P f e 2 μ A) (hw : w < 12) (hfl : fl ≤ P) (hF : f ≤ P + 2 * (w + 1)) (hT : T ≤ 1200) (ht : t + 1 + 3 * (300 - b) ≤ T) (hK : c_K x B G w P f (d + 6) Q e0 fl T μ A O no b) (h0 : A.1 37 0 = 0) (hfr : c_fr x B G w f μ A O no c o) (hv : v = A.2 36 0) (h44 : mo_AL μ (x + 14) P = A.2 44 f) (hB : B.1 1 e = 6) : c_hd (d + 6) Q x w e0 fl t v μ := by
  have hd0 := hd; obtain ⟨d1, d2, d3, d4, d5, d6, d7, d8, d9, d10, d11, d12, d13, d14, d15, d16, d17, d18, d19, d20, d21, d22, d23, d24, d25⟩ := hd0; have he60 : e < 60 := Nat.lt_of_lt_of_le he hs.2.2.1.1; have htop0 := htop; obtain ⟨z1, z2, z3, z4, z5⟩ := htop0; obtain ⟨x1, x2, x3, x4⟩ := hs.2.2.2.2.2.1 e he; have hs1 : c_st x B G (mo_wI μ 387 (x + 11) (nI P)) := c_st_k hs (km_pp x 0 0 μ (nI P)).1; obtain ⟨y1, y2, y3, y4⟩ := hs1.2.2.2.2.2.1 e he; have hd1 := dy_pp (P' := P) (by omega) hd (ax_rf a_sk A) d10; obtain ⟨r1, r2, r3, r4, r5, r6, r7, r8, c0, r9, r10, r11⟩ := hfr; have hn8 := hs.2.2.1.2.1; have ht1 := c_th_c hn8 (hd1.2.2.2.2.2.2.2.2.2.2.2.2.2.2.2.2.2.2.2.2.2.2.2.1 o r7) r9 r10; have hC4 := (hs1.1.2 w hw).2; have hq4 : q ≤ 4 := d21 (by rw [h0]; decide)
  have hA1 : A.1 1 e = 6 := by rw [(d1 1 (by decide)).1]; exact hB
  refine hd_adv hs.1 hw d8 (by omega) hfl (by omega) (by rw [d20]; exact h0) ?_
  refine L_advF2 (s := 6) hs.1.1 (by omega) z4 x4.1 (x4.2.1.trans hB) (by decide) z5 v _ ?_
  refine L_fin6 y4.1 y4.2.2.1 hs1.1.1 (y4.2.1.trans hB) _ v _ ?_
  rw [h44, hv]
  by_cases hz : A.2 36 0 = 0
  · rw [L_divF (d := d + 2) hs1.1.1 hz d17 hq4]
    exact ⟨_, rfl, _, rfl, _, rfl, fin_f hs hd he htop hw hfl hF hT ht hK h0 (by decide) (by rw [hB]; decide) (S_c6F d10 (by omega) h0 z1 z2 he60 hA1 z3 hz d18 hq4)⟩
  · rw [L_divT hz]
    exact ⟨_, rfl, _, rfl, _, rfl, fin_v hs hd he htop hw hfl hF hT ht hK (S_c6 d10 (by omega) h0 z1 z2 he60 hA1 z3 hz)⟩
theorem ev_f10a {x w d P f b q t no fl T e c o : Nat} {B : mo_A} {G : c_G} {Q : mo_P} {e0 : Int32} {μ : mo_Mem} {A : mo_A} {O : Nat → Nat} {v : Int64} (hs : c_st x B G μ) (hd : c_dy x B G (w + 1) (P + 1) (f + 1) μ A O no b q) (he : e < gne G) (htop : c_top x G P f e 1 μ A) (hw : w < 12) (hfl : fl ≤ P) (hF : f ≤ P + 2 * (w + 1)) (hT : T ≤ 1200) (ht : t + 1 + 3 * (300 - b) ≤ T) (hK : c_K x B G w P f (d + 6) Q e0 fl T μ A O no b) (h0 : A.1 37 0 = 0) (hfr : c_fr x B G w f μ A O no c o) (hv : v = A.2 36 0) (hB : B.1 1 e = 10) : c_hd (d + 6) Q x w e0 fl t v μ := by
  have hd0 := hd; obtain ⟨d1, d2, d3, d4, d5, d6, d7, d8, d9, d10, d11, d12, d13, d14, d15, d16, d17, d18, d19, d20, d21, d22, d23, d24, d25⟩ := hd0; have he60 : e < 60 := Nat.lt_of_lt_of_le he hs.2.2.1.1; have htop0 := htop; obtain ⟨z1, z2, z3, z4, z5⟩ := htop0; obtain ⟨x1, x2, x3, x4⟩ := hs.2.2.2.2.2.1 e he; have hs1 : c_st x B G (mo_wI μ 387 (x + 11) (nI P)) := c_st_k hs (km_pp x 0 0 μ (nI P)).1; obtain ⟨y1, y2, y3, y4⟩ := hs1.2.2.2.2.2.1 e he; have hd1 := dy_pp (P' := P) (by omega) hd (ax_rf a_sk A) d10; obtain ⟨r1, r2, r3, r4, r5, r6, r7, r8, c0, r9, r10, r11⟩ := hfr; have hn8 := hs.2.2.1.2.1; have ht1 := c_th_c hn8 (hd1.2.2.2.2.2.2.2.2.2.2.2.2.2.2.2.2.2.2.2.2.2.2.2.1 o r7) r9 r10; have hC4 := (hs1.1.2 w hw).2; have hq4 : q ≤ 4 := d21 (by rw [h0]; decide)
  refine hd_adv hs.1 hw d8 (by omega) hfl (by omega) (by rw [d20]; exact h0) ?_
  refine L_advF1 (s := 10) hs.1.1 (by omega) z4 x4.1 (x4.2.1.trans hB) (by decide) (by decide) z5 v _ ?_
  rw [L_fin10 y4.1 y4.2.2.1 (y4.2.1.trans hB), hv]
  exact ⟨_, rfl, _, rfl, fin_t hs hd he htop hw hfl hF hT ht hK (S_t1 d10 (by omega) h0 z1 z2 he60 (by rw [(d1 1 (by decide)).1]; exact hB) z3)⟩
theorem ev_f10b {x w d P f b q t no fl T e c o : Nat} {B : mo_A} {G : c_G} {Q : mo_P} {e0 : Int32} {μ : mo_Mem} {A : mo_A} {O : Nat → Nat} {v : Int64} (hs : c_st x B G μ) (hd : c_dy x B G (w + 1) (P + 1) (f + 1) μ A O no b q) (he : e < gne G) (htop : c_top x G P f e 2 μ A) (hw : w < 12) (hfl : fl ≤ P) (hF : f ≤ P + 2 * (w + 1)) (hT : T ≤ 1200) (ht : t + 1 + 3 * (300 - b) ≤ T) (hK : c_K x B G w P f (d + 6) Q e0 fl T μ A O no b) (h0 : A.1 37 0 = 0) (hfr : c_fr x B G w f μ A O no c o) (hv : v = A.2 36 0) (hB : B.1 1 e = 10) : c_hd (d + 6) Q x w e0 fl t v μ := by
  have hd0 := hd; obtain ⟨d1, d2, d3, d4, d5, d6, d7, d8, d9, d10, d11, d12, d13, d14, d15, d16, d17, d18, d19, d20, d21, d22, d23, d24, d25⟩ := hd0; have he60 : e < 60 := Nat.lt_of_lt_of_le he hs.2.2.1.1; have htop0 := htop; obtain ⟨z1, z2, z3, z4, z5⟩ := htop0; obtain ⟨x1, x2, x3, x4⟩ := hs.2.2.2.2.2.1 e he; have hs1 : c_st x B G (mo_wI μ 387 (x + 11) (nI P)) := c_st_k hs (km_pp x 0 0 μ (nI P)).1; obtain ⟨y1, y2, y3, y4⟩ := hs1.2.2.2.2.2.1 e he; have hd1 := dy_pp (P' := P) (by omega) hd (ax_rf a_sk A) d10; obtain ⟨r1, r2, r3, r4, r5, r6, r7, r8, c0, r9, r10, r11⟩ := hfr; have hn8 := hs.2.2.1.2.1; have ht1 := c_th_c hn8 (hd1.2.2.2.2.2.2.2.2.2.2.2.2.2.2.2.2.2.2.2.2.2.2.2.1 o r7) r9 r10; have hC4 := (hs1.1.2 w hw).2; have hq4 : q ≤ 4 := d21 (by rw [h0]; decide)
  refine hd_adv hs.1 hw d8 (by omega) hfl (by omega) (by rw [d20]; exact h0) ?_
  refine L_advF2 (s := 10) hs.1.1 (by omega) z4 x4.1 (x4.2.1.trans hB) (by decide) z5 v _ ?_
  rw [L_fin10 y4.1 y4.2.2.1 (y4.2.1.trans hB), hv]
  exact ⟨_, rfl, _, rfl, fin_t hs hd he htop hw hfl hF hT ht hK (S_t2 d10 (by omega) h0 z1 z2 he60 (by rw [(d1 1 (by decide)).1]; exact hB) z3)⟩
theorem ev_f9 {x w d P f b q t no fl T e c o : Nat} {B : mo_A} {G : c_G} {Q : mo_P} {e0 : Int32} {μ : mo_Mem} {A : mo_A} {O : Nat → Nat} {v : Int64} (hs : c_st x B G μ) (hd : c_dy x B G (w + 1) (P + 1) (f + 1) μ A O no b q) (he : e < gne G) (htop : c_top x G P f e 2 μ A) (hw : w < 12) (hfl : fl ≤ P) (hF : f ≤ P + 2 * (w + 1)) (hT : T ≤ 1200) (ht : t + 1 + 3 * (300 - b) ≤ T) (hK : c_K x B G w P f (d + 6) Q e0 fl T μ A O no b) (h0 : A.1 37 0 = 0) (hfr : c_fr x B G w f μ A O no c o) (hv : v = A.2 36 0) (h44 : mo_AL μ (x + 14) P = A.2 44 f) (hB : B.1 1 e = 9) {k : Nat} (hk : B.2 2 e = lN k) (hkn : k < gnc G) (hFM : c_FM x B G (w + 1) (d + 4)) : c_hd (d + 6) Q x w e0 fl t v μ := by
  have hd0 := hd; obtain ⟨d1, d2, d3, d4, d5, d6, d7, d8, d9, d10, d11, d12, d13, d14, d15, d16, d17, d18, d19, d20, d21, d22, d23, d24, d25⟩ := hd0; have he60 : e < 60 := Nat.lt_of_lt_of_le he hs.2.2.1.1; have htop0 := htop; obtain ⟨z1, z2, z3, z4, z5⟩ := htop0; obtain ⟨x1, x2, x3, x4⟩ := hs.2.2.2.2.2.1 e he; have hs1 : c_st x B G (mo_wI μ 387 (x + 11) (nI P)) := c_st_k hs (km_pp x 0 0 μ (nI P)).1; obtain ⟨y1, y2, y3, y4⟩ := hs1.2.2.2.2.2.1 e he; have hd1 := dy_pp (P' := P) (by omega) hd (ax_rf a_sk A) d10; obtain ⟨r1, r2, r3, r4, r5, r6, r7, r8, c0, r9, r10, r11⟩ := hfr; have hn8 := hs.2.2.1.2.1; have ht1 := c_th_c hn8 (hd1.2.2.2.2.2.2.2.2.2.2.2.2.2.2.2.2.2.2.2.2.2.2.2.1 o r7) r9 r10; have hC4 := (hs1.1.2 w hw).2; have hq4 : q ≤ 4 := d21 (by rw [h0]; decide)
  refine hd_adv hs.1 hw d8 (by omega) hfl (by omega) (by rw [d20]; exact h0) ?_
  refine L_advF2 (s := 9) hs.1.1 (by omega) z4 x4.1 (x4.2.1.trans hB) (by decide) z5 v _ ?_
  refine L_fin9 hs1 y4.1 (y4.2.2.1.trans hk) (y4.2.1.trans hB) hkn _ v _ ?_
  rw [h44, hv]
  refine hFM _ A O no P f b q e k _ hs1 hd1 h0 he hB hk hkn z1 z2 z3 hF ?_
  intro v' μ' A' O' no' b' q' k1 k2 k3 k4
  exact ⟨_, rfl, _, rfl, _, rfl, hK v' (t + 1) μ' A' O' no' b' q' k1 k2 (c_kp_tr (kp_x (km_pp x (w + 1) P μ (nI P)) (au_rf _ _) (ax_rf a_sk _) (by decide) (by decide) (by decide) (Nat.le_refl _)) k3 (Nat.le_refl _) (Nat.le_refl _) (Nat.le_refl _)) k4 (by have := k3.2.2.1; omega)⟩
/-- a call's end -/
theorem fin_r {x w d P f b t no fl T e no' b' q' : Nat} {B : mo_A} {G : c_G} {Q : mo_P} {e0 : Int32} {μ μ' : mo_Mem} {A A' : mo_A} {O O' : Nat → Nat} {v : Int64} (he60 : e < 60) (hlt : f < 399) (ht : t + 1 + 3 * (300 - b) ≤ T) (hK : c_K x B G w P f (d + 6) Q e0 fl T μ A O no b) (k1 : c_dy x B G (w + 1) P (f + 1) μ' A' O' no' b' q') (k2 : a_rc (x + 28) A A') (k3 : c_kp x (w + 1) P f μ A O no b μ' A' O' no' b') (k4 : A'.1 37 0 = 0 → v = A'.2 36 0) (z1 : A'.1 28 f = 0) (z2 : A'.1 29 f = nI e) (z3 : A'.1 30 f = 2) (hB : A'.1 1 e = 7 ∨ A'.1 1 e = 8) : c_hd (d + 6) Q x w e0 fl (t + 1) v μ' := by
  have d10 := k1.2.2.2.2.2.2.2.2.2.1
  have hbb := k3.2.2.1
  by_cases h : A'.1 37 0 = 0
  · have hS : r_S (x + 28) A' (a_I (a_I A' 30 f 3) 27 0 (nI f)) := by
      rcases hB with q | q
      · exact S_d7 d10 hlt h z1 z2 he60 q z3
      · exact S_d8 d10 hlt h z1 z2 he60 q z3
    have hx : a_x a_sk A' (a_I (a_I A' 30 f 3) 27 0 (nI f)) := ax_I (by decide) (ax_I (by decide) (ax_rf _ _))
    exact hK v (t + 1) μ' _ O' no' b' q' (dy_stk k1 hx (by rw [a_I_1, if_pos ⟨rfl, rfl⟩])) (a_rc_tr k2 (a_rc_st d10 hlt hS)) (c_kp_tr k3 (kp_x (km_rf x (w + 1) P μ') (au_I (by omega) (au_I (by omega) (au_rf _ _))) hx (by decide) (by decide) (by decide) (Nat.le_refl _)) (Nat.le_refl _) (Nat.le_refl _) (Nat.le_refl _)) (fun _ => k4 h) (by omega)
  · have hS : r_S (x + 28) A' (a_I A' 27 0 (nI f)) := S_pU d10 hlt h z1 z2 he60 (Or.inl (by rcases hB with q | q <;> rw [q] <;> decide))
    have hx : a_x a_sk A' (a_I A' 27 0 (nI f)) := ax_I (by decide) (ax_rf _ _)
    exact hK v (t + 1) μ' _ O' no' b' q' (dy_stk k1 hx (by rw [a_I_1, if_pos ⟨rfl, rfl⟩])) (a_rc_tr k2 (a_rc_st d10 hlt hS)) (c_kp_tr k3 (kp_x (km_rf x (w + 1) P μ') (au_I (by omega) (au_rf _ _)) hx (by decide) (by decide) (by decide) (Nat.le_refl _)) (Nat.le_refl _) (Nat.le_refl _) (Nat.le_refl _)) (fun hh => absurd (by rw [a_I_n (by decide)] at hh; exact hh) h) (by omega)
theorem ev_f7 {x w d P f b q t no fl T e c o : Nat} {B : mo_A} {G : c_G} {Q : mo_P} {e0 : Int32} {μ : mo_Mem} {A : mo_A} {O : Nat → Nat} {v : Int64} (hs : c_st x B G μ) (hd : c_dy x B G (w + 1) (P + 1) (f + 1) μ A O no b q) (he : e < gne G) (htop : c_top x G P f e 1 μ A) (hw : w < 12) (hfl : fl ≤ P) (hF : f ≤ P + 2 * (w + 1)) (hT : T ≤ 1200) (ht : t + 1 + 3 * (300 - b) ≤ T) (hK : c_K x B G w P f (d + 6) Q e0 fl T μ A O no b) (h0 : A.1 37 0 = 0) (hfr : c_fr x B G w f μ A O no c o) (hv : v = A.2 36 0) (hB : B.1 1 e = 7) {nm : Nat} (hk : B.2 2 e = lN nm) (hnm : nm < 4) (hRM : c_RM x B G (w + 1) (d + 4)) : c_hd (d + 6) Q x w e0 fl t v μ := by
  have hd0 := hd; obtain ⟨d1, d2, d3, d4, d5, d6, d7, d8, d9, d10, d11, d12, d13, d14, d15, d16, d17, d18, d19, d20, d21, d22, d23, d24, d25⟩ := hd0; have he60 : e < 60 := Nat.lt_of_lt_of_le he hs.2.2.1.1; have htop0 := htop; obtain ⟨z1, z2, z3, z4, z5⟩ := htop0; obtain ⟨x1, x2, x3, x4⟩ := hs.2.2.2.2.2.1 e he; have hs1 : c_st x B G (mo_wI μ 387 (x + 11) (nI P)) := c_st_k hs (km_pp x 0 0 μ (nI P)).1; obtain ⟨y1, y2, y3, y4⟩ := hs1.2.2.2.2.2.1 e he; have hd1 := dy_pp (P' := P) (by omega) hd (ax_rf a_sk A) d10; obtain ⟨r1, r2, r3, r4, r5, r6, r7, r8, c0, r9, r10, r11⟩ := hfr; have hn8 := hs.2.2.1.2.1; have ht1 := c_th_c hn8 (hd1.2.2.2.2.2.2.2.2.2.2.2.2.2.2.2.2.2.2.2.2.2.2.2.1 o r7) r9 r10; have hC4 := (hs1.1.2 w hw).2; have hq4 : q ≤ 4 := d21 (by rw [h0]; decide)
  have hA1 : A.1 1 e = 7 := by rw [(d1 1 (by decide)).1]; exact hB
  have hA2 : A.2 2 e = lN nm := by rw [(d1 2 (by decide)).2]; exact hk
  have hpw := hs.2.2.1.2.2.2.2.1
  refine hd_adv hs.1 hw d8 (by omega) hfl (by omega) (by rw [d20]; exact h0) ?_
  refine L_advF1 (s := 7) hs.1.1 (by omega) z4 x4.1 (x4.2.1.trans hB) (by decide) (by decide) z5 v _ ?_
  refine L_fin7 hs1 y4.1 (y4.2.2.1.trans hk) hnm (y4.2.1.trans hB) hC4 r1 r2 r6 ht1 _ v _ ?_
  cases hcal : a_cal B c0 c nm with
  | none =>
    rw [Option.map_none, mo_rf_n, L_rm0 (d := d + 2) hs1.1.1 d17 hq4]
    exact ⟨_, rfl, _, rfl, _, rfl, fin_f hs hd he htop hw hfl hF hT ht hK h0 (by decide) (by rw [hB]; decide) (S_k7N d1 d10 (by omega) h0 z1 z2 he60 z3 r4 (by omega) hA2 hnm hA1 hpw hn8 r5 (by omega) r9 r10 d18 hq4 hcal)⟩
  | some k =>
    rw [Option.map_some, mo_rf_s]
    obtain ⟨A1, hA1, hS⟩ := S_k7U (r := x + 28) d1 d10 (by omega) h0 z1 z2 he60 z3 r4 (by omega) hA2 hnm hA1 hpw hn8 r5 (by omega) r9 r10 d6 d7 hcal
    have hx2 : a_x a_sk A (a_I A 30 f 2) := ax_I (by decide) (ax_rf _ _)
    have hk3 : k < gnc G ∧ B.1 11 (5 * k + 1 + nm) ≠ 0 ∧ a_bel B 8 c0 k = true := by
      unfold a_cal at hcal
      by_cases hop : B.1 11 (5 * c + 1 + nm) = 2
      · rw [if_pos hop] at hcal
        have hck : k = c := (Option.some.inj hcal).symm
        subst hck
        exact ⟨r6, by rw [hop]; decide, r11⟩
      · rw [if_neg hop] at hcal
        obtain ⟨n1, n2, n3⟩ := near_b hn8 hpw 8 c0 (by omega) (Nat.le_refl _) r10 hcal
        exact ⟨n3, by rw [n2]; decide, n1⟩
    obtain ⟨hkn, hopen, hbk⟩ := hk3
    refine hRM _ (a_I A 30 f 2) O no P (f + 1) b q k nm o v A1 _ hs1 (dy_stk hd1 hx2 (by rw [a_I_n (by decide)]; exact d10)) (by rw [a_I_n (by decide)]; exact h0) hkn hnm hopen r7 ⟨c0, by rw [a_I_n (by decide)]; exact r9, r10, hbk⟩ (by omega) (by rw [hv]; exact hA1) ?_
    intro v' μ' A' O' no' b' q' k1 k2 k3 k4; have hfk := k3.2.2.2.2.2.2.2.1 f (Nat.lt_succ_self _); exact ⟨_, rfl, _, rfl, _, rfl, fin_r (e := e) he60 (by omega) ht hK k1 (a_rc_tr (a_rc_st d10 (by omega) hS) k2) (c_kp_tr (kp_x (km_pp x (w + 1) P μ (nI P)) (au_I (by omega) (au_rf _ _)) hx2 (by decide) (by decide) (by decide) (Nat.le_refl _)) k3 (Nat.le_refl _) (Nat.le_refl _) (Nat.le_succ _)) k4 (by rw [(hfk.1 28 (by decide) (by decide)).1, a_I_n (by decide)]; exact z1) (by rw [(hfk.1 29 (by decide) (by decide)).1, a_I_n (by decide)]; exact z2) (by rw [(hfk.1 30 (by decide) (by decide)).1, a_I_1, if_pos ⟨rfl, rfl⟩]) (by rw [(k1.1 1 (by decide)).1, hB]; decide)⟩
theorem ev_f8 {x w d P f b q t no fl T e c o : Nat} {B : mo_A} {G : c_G} {Q : mo_P} {e0 : Int32} {μ : mo_Mem} {A : mo_A} {O : Nat → Nat} {v : Int64} (hs : c_st x B G μ) (hd : c_dy x B G (w + 1) (P + 1) (f + 1) μ A O no b q) (he : e < gne G) (htop : c_top x G P f e 1 μ A) (hw : w < 12) (hfl : fl ≤ P) (hF : f ≤ P + 2 * (w + 1)) (hT : T ≤ 1200) (ht : t + 1 + 3 * (300 - b) ≤ T) (hK : c_K x B G w P f (d + 6) Q e0 fl T μ A O no b) (h0 : A.1 37 0 = 0) (hfr : c_fr x B G w f μ A O no c o) (hv : v = A.2 36 0) (hB : B.1 1 e = 8) {nm : Nat} (hk : B.2 2 e = lN nm) (hnm : nm < 4) (hRM : c_RM x B G (w + 1) (d + 4)) : c_hd (d + 6) Q x w e0 fl t v μ := by
  have hd0 := hd; obtain ⟨d1, d2, d3, d4, d5, d6, d7, d8, d9, d10, d11, d12, d13, d14, d15, d16, d17, d18, d19, d20, d21, d22, d23, d24, d25⟩ := hd0; have he60 : e < 60 := Nat.lt_of_lt_of_le he hs.2.2.1.1; have htop0 := htop; obtain ⟨z1, z2, z3, z4, z5⟩ := htop0; obtain ⟨x1, x2, x3, x4⟩ := hs.2.2.2.2.2.1 e he; have hs1 : c_st x B G (mo_wI μ 387 (x + 11) (nI P)) := c_st_k hs (km_pp x 0 0 μ (nI P)).1; obtain ⟨y1, y2, y3, y4⟩ := hs1.2.2.2.2.2.1 e he; have hd1 := dy_pp (P' := P) (by omega) hd (ax_rf a_sk A) d10; obtain ⟨r1, r2, r3, r4, r5, r6, r7, r8, c0, r9, r10, r11⟩ := hfr; have hn8 := hs.2.2.1.2.1; have ht1 := c_th_c hn8 (hd1.2.2.2.2.2.2.2.2.2.2.2.2.2.2.2.2.2.2.2.2.2.2.2.1 o r7) r9 r10; have hC4 := (hs1.1.2 w hw).2; have hq4 : q ≤ 4 := d21 (by rw [h0]; decide)
  have hA1 : A.1 1 e = 8 := by rw [(d1 1 (by decide)).1]; exact hB
  have hA2 : A.2 2 e = lN nm := by rw [(d1 2 (by decide)).2]; exact hk
  have hpw := hs.2.2.1.2.2.2.2.1
  refine hd_adv hs.1 hw d8 (by omega) hfl (by omega) (by rw [d20]; exact h0) ?_
  refine L_advF1 (s := 8) hs.1.1 (by omega) z4 x4.1 (x4.2.1.trans hB) (by decide) (by decide) z5 v _ ?_
  refine L_fin8 hs1 y4.1 (y4.2.2.1.trans hk) hnm (y4.2.1.trans hB) hC4 r1 r2 r6 ht1 _ v _ ?_
  cases hcal : (a_par B c).bind (fun p => a_near B 8 p nm) with
  | none =>
    rw [Option.map_none, mo_rf_n, L_rm0 (d := d + 2) hs1.1.1 d17 hq4]
    exact ⟨_, rfl, _, rfl, _, rfl, fin_f hs hd he htop hw hfl hF hT ht hK h0 (by decide) (by rw [hB]; decide) (S_k8N d1 d10 (by omega) h0 z1 z2 he60 z3 r4 r6 hA2 hnm hA1 hpw hn8 d18 hq4 hcal)⟩
  | some k =>
    rw [Option.map_some, mo_rf_s]
    obtain ⟨A1, hA1, hS⟩ := S_k8U (r := x + 28) d1 d10 (by omega) h0 z1 z2 he60 z3 r4 r6 hA2 hnm hA1 hpw hn8 r5 d6 d7 hcal
    have hx2 : a_x a_sk A (a_I A 30 f 2) := ax_I (by decide) (ax_rf _ _)
    have hk3 : k < gnc G ∧ B.1 11 (5 * k + 1 + nm) ≠ 0 ∧ a_bel B 8 c0 k = true := by
      rcases a_par_c hn8 hpw r6 with ⟨q1, q2⟩ | ⟨p, q1, q2, q3⟩
      · rw [q2] at hcal; cases hcal
      · rw [q3, Option.bind_some] at hcal
        obtain ⟨n1, n2, n3⟩ := near_b hn8 hpw 8 p (by omega) (Nat.le_refl _) (by omega) hcal
        exact ⟨n3, by rw [n2]; decide, bel_t hn8 hpw n1 8 c0 (by omega) r10 (bel_p hn8 hpw q3 8 c0 (by omega) r10 r11)⟩
    obtain ⟨hkn, hopen, hbk⟩ := hk3
    refine hRM _ (a_I A 30 f 2) O no P (f + 1) b q k nm o v A1 _ hs1 (dy_stk hd1 hx2 (by rw [a_I_n (by decide)]; exact d10)) (by rw [a_I_n (by decide)]; exact h0) hkn hnm hopen r7 ⟨c0, by rw [a_I_n (by decide)]; exact r9, r10, hbk⟩ (by omega) (by rw [hv]; exact hA1) ?_
    intro v' μ' A' O' no' b' q' k1 k2 k3 k4; have hfk := k3.2.2.2.2.2.2.2.1 f (Nat.lt_succ_self _); exact ⟨_, rfl, _, rfl, _, rfl, fin_r (e := e) he60 (by omega) ht hK k1 (a_rc_tr (a_rc_st d10 (by omega) hS) k2) (c_kp_tr (kp_x (km_pp x (w + 1) P μ (nI P)) (au_I (by omega) (au_rf _ _)) hx2 (by decide) (by decide) (by decide) (Nat.le_refl _)) k3 (Nat.le_refl _) (Nat.le_refl _) (Nat.le_succ _)) k4 (by rw [(hfk.1 28 (by decide) (by decide)).1, a_I_n (by decide)]; exact z1) (by rw [(hfk.1 29 (by decide) (by decide)).1, a_I_n (by decide)]; exact z2) (by rw [(hfk.1 30 (by decide) (by decide)).1, a_I_1, if_pos ⟨rfl, rfl⟩]) (by rw [(k1.1 1 (by decide)).1, hB]; decide)⟩
