theorem ev_two {x w d P f b q t no fl T e c o s : Nat} {B : mo_A} {G : c_G} {Q : mo_P} {e0 : Int32} {μ : mo_Mem} {A : mo_A} {O : Nat → Nat} {v : Int64} (hs : c_st x B G μ) (hd : c_dy x B G (w + 1) (P + 1) (f + 1) μ A O no b q) (he : e < gne G) (htop : c_top x G P f e 2 μ A) (hw : w < 12) (hfl : fl ≤ P) (hF : f ≤ P + 2 * (w + 1)) (hT : T ≤ 1200) (ht : t + 1 + 3 * (300 - b) ≤ T) (hK : c_K x B G w P f (d + 6) Q e0 fl T μ A O no b) (hfr : c_fr x B G w f μ A O no c o) (hv : A.1 37 0 = 0 → v = A.2 36 0) (h44 : s ≠ 10 → mo_AL μ (x + 14) P = A.2 44 f) (hsB : B.1 1 e = nI s) (hs4 : s = 4 ∨ s = 5 ∨ s = 6 ∨ s = 9 ∨ s = 10) (s9 : s = 9 → ∃ k, k < gnc G ∧ B.2 2 e = lN k) (hFM : c_FM x B G (w + 1) (d + 4)) : c_hd (d + 6) Q x w e0 fl t v μ := by
  by_cases h0 : A.1 37 0 = 0
  · rcases hs4 with q | q | q | q | q <;> subst q
    · exact ev_f4 hs hd he htop hw hfl hF hT ht hK h0 hfr (hv h0) (h44 (by decide)) hsB
    · exact ev_f5 hs hd he htop hw hfl hF hT ht hK h0 hfr (hv h0) (h44 (by decide)) hsB
    · exact ev_f6 hs hd he htop hw hfl hF hT ht hK h0 hfr (hv h0) (h44 (by decide)) hsB
    · obtain ⟨k, k1, k2⟩ := s9 rfl
      exact ev_f9 hs hd he htop hw hfl hF hT ht hK h0 hfr (hv h0) (h44 (by decide)) hsB k2 k1 hFM
    · exact ev_f10b hs hd he htop hw hfl hF hT ht hK h0 hfr (hv h0) hsB
  · exact ev_pop hs hd he htop hw hfl hF hT ht hK h0 (Or.inr (Or.inl (by decide)))
theorem ev_all {x w d fl : Nat} {B : mo_A} {G : c_G} {Q : mo_P} {e0 : Int32} (hRM : c_RM x B G (w + 1) (d + 4)) (hFM : c_FM x B G (w + 1) (d + 4)) (hw : w < 12) : ∀ n e, e < n → e < gne G → c_EV x B G w (d + 6) Q e0 fl e := by
  intro n
  induction n with
  | zero => intro e he; omega
  | succ n ih =>
    intro e hnn hen μ A O no P f b q c o t v0 hs hd h0 hfr htop hfl hF ht hK
    obtain ⟨s, s10, s1, sa, sb, s2, s3, s9⟩ := hs.2.2.1.2.2.2.2.2.1 e hen
    have hd0 := hd; obtain ⟨d1, d2, d3, d4, d5, d6, d7, d8, d9, d10, d11, d12, d13, d14, d15, d16, d17, d18, d19, d20, d21, d22, d23, d24, d25⟩ := hd0; have he60 : e < 60 := Nat.lt_of_lt_of_le hen hs.2.2.1.1; have htop0 := htop; obtain ⟨z1, z2, z3, z4, z5⟩ := htop0; obtain ⟨x1, x2, x3, x4⟩ := hs.2.2.2.2.2.1 e hen
    by_cases h4 : 4 ≤ s
    · obtain ⟨a, ha, ha2⟩ := sa h4
      have hA1 : A.1 1 e = nI s := by rw [(d1 1 (by decide)).1]; exact s1
      obtain ⟨A1, hA1w, hS⟩ := S_aU (r := x + 28) d10 (by omega) h0 z1 z2 he60 h4 s10 hA1 z3 d12 d13 (a := a) (by rw [(d1 3 (by decide)).1]; exact ha2)
      refine hd_adv hs.1 hw d8 (by omega) hfl (by omega) (by rw [d20]; exact h0) ?_
      refine L_advA (s := s) hs.1.1 (by omega) z4 x4.1 (x4.2.1.trans s1) s10 h4 z5 (x4.2.2.2.1.trans ha2) v0 _ ?_
      have hx1 : a_x a_sk A (a_I A 30 f 1) := ax_I (by decide) (ax_rf _ _)
      have km1 := km_sg x (w + 1) P μ 1
      have kp1 : c_kp x (w + 1) P f μ A O no b (mo_wAI μ (x + 13) P 1) (a_I A 30 f 1) O no b := kp_x km1 (au_I (by omega) (au_rf _ _)) hx1 (by decide) (by decide) (by decide) (Nat.le_refl _)
      have hs1 := c_st_k hs km1.1
      have hd1 := dy_sg (v := 1) P hd hx1 (F' := f + 1) (by rw [a_I_n (by decide)]; exact d10)
      have hfr1 : c_fr x B G w f (mo_wAI μ (x + 13) P 1) (a_I A 30 f 1) O no c o := by
        obtain ⟨r1, r2, r3, r4, r5, r6, r7, r8, c0, r9, r10, r11⟩ := hfr
        exact ⟨r1, r2, r3, by rw [a_I_n (by decide)]; exact r4, by rw [a_I_n (by decide)]; exact r5, r6, r7, r8, c0, by rw [a_I_n (by decide)]; exact r9, r10, r11⟩
      have htop1 : c_top x G P f e 1 (mo_wAI μ (x + 13) P 1) (a_I A 30 f 1) := ⟨by rw [a_I_n (by decide)]; exact z1, by rw [a_I_n (by decide)]; exact z2, by rw [a_I_1, if_pos ⟨rfl, rfl⟩], z4, by simp only [mo_ME, mo_u_a, and_self, if_true]⟩
      refine mo_M_post _ _ _ _ _ _ (fun r μ' hh => ⟨hh.1, 0, rfl, hh.2⟩) (ev_begin (d' := d + 2) (t := t + 1) (ih a (by omega) (by omega)) (by omega) hs1 hd1 (by rw [a_I_n (by decide)]; exact h0) hfr1 hfl hF hA1w 0 (by omega) ?_)
      intro v' t' μ' A' O' no' b' q' k1 k2 k3 k4 k5
      have htop' := top_k htop1 k3 (Nat.lt_succ_self _) (Nat.lt_succ_self _)
      have hfr' := fr_k hfr1 k3 (Nat.lt_succ_self _) (Nat.lt_succ_self _)
      have hs' := c_st_k hs1 k3.1
      have hr := a_rc_tr (a_rc_st d10 (by omega) hS) k2
      have hkp := c_kp_tr kp1 k3 (Nat.le_refl _) (Nat.le_succ _) (Nat.le_succ _)
      have hK' := K_tr hK hr hkp (Nat.le_refl _)
      have hbb := k3.2.2.1
      clear hd hfr htop hs d2 d3 d5 d6 d8 d10 d11 d12 d14 d15 d16 d17 d18 d20 d21 d22 d23 d24 d25 x1 x4 z1 z2 z3 z4 z5
      have hd := k1
      obtain ⟨d1', d2, d3, d4', d5, d6, d7', d8, d9', d10, d11, d12, d13', d14, d15, d16, d17, d18, d19', d20, d21, d22, d23, d24, d25⟩ := k1
      have htop0 := htop'
      obtain ⟨z1, z2, z3, z4, z5⟩ := htop0
      obtain ⟨x1, x2', x3', x4⟩ := hs'.2.2.2.2.2.1 e hen
      by_cases hfy : A'.1 37 0 = 0
      · by_cases h7 : s = 7
        · subst h7
          obtain ⟨nm, nm1, nm2⟩ := s3 (Or.inr (Or.inl rfl))
          exact ev_f7 hs' hd hen htop' hw hfl hF (by omega) (by omega) hK' hfy hfr' (k4 hfy) s1 nm2 nm1 hRM
        · by_cases h8 : s = 8
          · subst h8
            obtain ⟨nm, nm1, nm2⟩ := s3 (Or.inr (Or.inr rfl))
            exact ev_f8 hs' hd hen htop' hw hfl hF (by omega) (by omega) hK' hfy hfr' (k4 hfy) s1 nm2 nm1 hRM
          · by_cases h10 : s = 10
            · subst h10
              exact ev_f10a hs' hd hen htop' hw hfl hF (by omega) (by omega) hK' hfy hfr' (k4 hfy) s1
            · obtain ⟨a2, ha3, ha4⟩ := sb h4 h7 h8
              obtain ⟨A2, hA2w, hS2⟩ := S_bU (r := x + 28) (s := s) d10 (by omega) hfy z1 z2 he60 (by omega) (by rw [(d1' 1 (by decide)).1]; exact s1) z3 d12 d13' (a := a2) (by rw [(d1' 4 (by decide)).1]; exact ha4)
              refine hd_adv hs'.1 hw d8 (by omega) hfl (by omega) (by rw [d20]; exact hfy) ?_
              refine L_advB (s := s) hs'.1.1 (by omega) z4 x4.1 (x4.2.1.trans s1) s10 ⟨h4, h7, h8⟩ h10 z5 (x4.2.2.2.2.trans ha4) v' _ ?_
              have hx2 : a_x a_sk A' (a_L (a_I A' 30 f 2) 44 f (A'.2 36 0)) := ax_L (by decide) (ax_I (by decide) (ax_rf _ _))
              have km2 := km_tr (km_sg x (w + 1) P μ' 2) (km_fi x (w + 1) P (mo_wAI μ' (x + 13) P 2) v')
              have kp2 : c_kp x (w + 1) P f μ' A' O' no' b' (mo_wAL (mo_wAI μ' (x + 13) P 2) (x + 14) P v') (a_L (a_I A' 30 f 2) 44 f (A'.2 36 0)) O' no' b' := kp_x km2 (au_L (by omega) (au_I (by omega) (au_rf _ _))) hx2 (by decide) (by decide) (by decide) (Nat.le_refl _)
              have hs2 := c_st_k hs' km2.1
              have hx2a : a_x a_sk A' (a_I A' 30 f 2) := ax_I (by decide) (ax_rf _ _)
              have hd2a := dy_sg (v := 2) P hd hx2a (F' := f + 1) (by rw [a_I_n (by decide)]; exact d10)
              have hd2 := dy_fi (v := v') P hd2a (A' := a_L (a_I A' 30 f 2) 44 f (A'.2 36 0)) (ax_L (by decide) (ax_rf _ _)) (F' := f + 1) (by rw [a_L_1, a_I_n (by decide)]; exact d10)
              have hfr2 : c_fr x B G w f (mo_wAL (mo_wAI μ' (x + 13) P 2) (x + 14) P v') (a_L (a_I A' 30 f 2) 44 f (A'.2 36 0)) O' no' c o := by
                obtain ⟨r1, r2, r3, r4, r5, r6, r7, r8, c0, r9, r10, r11⟩ := hfr'
                exact ⟨r1, r2, by rw [a_L_2, if_neg (by omega)]; exact r3, by rw [a_L_1, a_I_n (by decide)]; exact r4, by rw [a_L_1, a_I_n (by decide)]; exact r5, r6, r7, r8, c0, by rw [a_L_1, a_I_n (by decide)]; exact r9, r10, r11⟩
              have htop2 : c_top x G P f e 2 (mo_wAL (mo_wAI μ' (x + 13) P 2) (x + 14) P v') (a_L (a_I A' 30 f 2) 44 f (A'.2 36 0)) := ⟨by rw [a_L_1, a_I_n (by decide)]; exact z1, by rw [a_L_1, a_I_n (by decide)]; exact z2, by rw [a_L_1, a_I_1, if_pos ⟨rfl, rfl⟩], z4, by simp only [mo_ME, mo_u_a, and_self, if_true]⟩
              refine mo_M_post _ _ _ _ _ _ (fun r μ' hh => ⟨hh.1, 0, rfl, hh.2⟩) (ev_begin (d' := d + 2) (t := t' + 1) (ih a2 (by omega) (by omega)) (by omega) hs2 hd2 (by rw [a_L_1, a_I_n (by decide)]; exact hfy) hfr2 hfl hF hA2w 0 (by omega) ?_)
              intro v3 t3 μ3 A3 O3 no3 b3 q3 m1 m2 m3 m4 m5
              have hb3 := m3.2.2.1
              refine ev_two (s := s) (T := t + 3 * (300 - b) + 3) (c_st_k hs2 m3.1) m1 hen (top_k htop2 m3 (Nat.lt_succ_self _) (Nat.lt_succ_self _)) hw hfl hF (by omega) (by omega) (K_tr hK' (a_rc_tr (a_rc_st d10 (by omega) hS2) m2) (c_kp_tr kp2 m3 (Nat.le_refl _) (Nat.le_succ _) (Nat.le_succ _)) (Nat.le_refl _)) (fr_k hfr2 m3 (Nat.lt_succ_self _) (Nat.lt_succ_self _)) m4 (fun _ => ?_) s1 (by omega) s9 hFM
              rw [(m3.2.2.2.2.2.2.1 P (Nat.lt_succ_self _)).2.2, (m3.2.2.2.2.2.2.2.1 f (Nat.lt_succ_self _)).2, a_L_2, if_pos ⟨rfl, rfl⟩, ← k4 hfy]
              simp only [mo_ME, mo_u_a, and_self, if_true]
      · by_cases htry : s = 10 ∧ A'.1 37 0 ≠ 8
        · obtain ⟨h10, h8⟩ := htry
          subst h10
          obtain ⟨a2, ha3, ha4⟩ := sb h4 (by decide) (by decide)
          obtain ⟨tk, htk⟩ := i_ex (A'.1 43 0)
          have hA1' : A'.1 1 e = 10 := by rw [(d1' 1 (by decide)).1]; exact s1
          obtain ⟨A2, hA2w, hS2⟩ := S_tU (r := x + 28) d10 (by omega) hfy z1 z2 he60 hA1' z3 h8 htk d12 d13' (a := a2) (by rw [(d1' 4 (by decide)).1]; exact ha4)
          refine hd_unw hs'.1 d8 (by omega) hfl (by omega) (by rw [d20]; exact hfy) ?_
          refine L_unwT hs'.1.1 (by omega) z4 x4.1 (x4.2.1.trans s1) z5 (by rw [d20]; exact h8) (d16.trans htk) (x4.2.2.2.2.trans ha4) _ ?_
          have hxa : a_x (37 :: 43 :: a_sk) A' (a_I (a_I A' 37 0 0) 43 0 (nI (tk + 1))) := ax_I (by decide) (ax_I (by decide) (ax_rf _ _))
          have hda := dy_tk h8 htk hd hxa (F' := f + 1) (by rw [a_I_n (by decide), a_I_n (by decide)]; exact d10) (by rw [a_I_n (by decide), a_I_1, if_pos ⟨rfl, rfl⟩]) (by rw [a_I_1, if_pos ⟨rfl, rfl⟩])
          have hx2 : a_x (37 :: 43 :: a_sk) A' (a_I (a_I (a_I A' 37 0 0) 43 0 (nI (tk + 1))) 30 f 2) := ax_I (by decide) hxa
          have hd2 := dy_sg (v := 2) P hda (A' := a_I (a_I (a_I A' 37 0 0) 43 0 (nI (tk + 1))) 30 f 2) (ax_I (by decide) (ax_rf _ _)) (F' := f + 1) (by rw [a_I_n (by decide), a_I_n (by decide), a_I_n (by decide)]; exact d10)
          have km2 := km_tr (km_tk x (w + 1) P μ' (nI (tk + 1))) (km_sg x (w + 1) P (mo_wI (mo_wI μ' 517 (x + 9) 0) 515 (x + 9) (nI (tk + 1))) 2)
          have kp2 : c_kp x (w + 1) P f μ' A' O' no' b' (mo_wAI (mo_wI (mo_wI μ' 517 (x + 9) 0) 515 (x + 9) (nI (tk + 1))) (x + 13) P 2) (a_I (a_I (a_I A' 37 0 0) 43 0 (nI (tk + 1))) 30 f 2) O' no' b' := kp_x km2 (au_I (by omega) (au_I (by omega) (au_I (by omega) (au_rf _ _)))) hx2 (by decide) (by decide) (by decide) (Nat.le_refl _)
          have hs2 := c_st_k hs' km2.1
          have hfr2 : c_fr x B G w f (mo_wAI (mo_wI (mo_wI μ' 517 (x + 9) 0) 515 (x + 9) (nI (tk + 1))) (x + 13) P 2) (a_I (a_I (a_I A' 37 0 0) 43 0 (nI (tk + 1))) 30 f 2) O' no' c o := by
            obtain ⟨r1, r2, r3, r4, r5, r6, r7, r8, c0, r9, r10, r11⟩ := hfr'
            exact ⟨r1, r2, r3, by rw [a_I_n (by decide), a_I_n (by decide), a_I_n (by decide)]; exact r4, by rw [a_I_n (by decide), a_I_n (by decide), a_I_n (by decide)]; exact r5, r6, r7, r8, c0, by rw [a_I_n (by decide), a_I_n (by decide), a_I_n (by decide)]; exact r9, r10, r11⟩
          have htop2 : c_top x G P f e 2 (mo_wAI (mo_wI (mo_wI μ' 517 (x + 9) 0) 515 (x + 9) (nI (tk + 1))) (x + 13) P 2) (a_I (a_I (a_I A' 37 0 0) 43 0 (nI (tk + 1))) 30 f 2) := ⟨by rw [a_I_n (by decide), a_I_n (by decide), a_I_n (by decide)]; exact z1, by rw [a_I_n (by decide), a_I_n (by decide), a_I_n (by decide)]; exact z2, by rw [a_I_1, if_pos ⟨rfl, rfl⟩], z4, by simp only [mo_ME, mo_u_a, and_self, if_true]⟩
          have h02 : (a_I (a_I (a_I A' 37 0 0) 43 0 (nI (tk + 1))) 30 f 2).1 37 0 = 0 := by rw [a_I_n (by decide), a_I_n (by decide), a_I_1, if_pos ⟨rfl, rfl⟩]
          refine mo_M_post _ _ _ _ _ _ (fun r μ'' hh => ⟨hh.1, rfl, hh.2⟩) (ev_begin (d' := d + 2) (t := t' + 1) (ih a2 (by omega) (by omega)) (by omega) hs2 hd2 h02 hfr2 hfl hF hA2w v' (by omega) ?_)
          intro v3 t3 μ3 A3 O3 no3 b3 q3 m1 m2 m3 m4 m5
          have hb3 := m3.2.2.1
          exact ev_two (s := 10) (T := t + 3 * (300 - b) + 3) (c_st_k hs2 m3.1) m1 hen (top_k htop2 m3 (Nat.lt_succ_self _) (Nat.lt_succ_self _)) hw hfl hF (by omega) (by omega) (K_tr hK' (a_rc_tr (a_rc_st d10 (by omega) hS2) m2) (c_kp_tr kp2 m3 (Nat.le_refl _) (Nat.le_succ _) (Nat.le_succ _)) (Nat.le_refl _)) (fr_k hfr2 m3 (Nat.lt_succ_self _) (Nat.lt_succ_self _)) m4 (fun h => absurd rfl h) s1 (by omega) s9 hFM
        · refine ev_pop hs' hd hen htop' hw hfl hF (by omega) (by omega) hK' hfy ?_
          by_cases h10 : s = 10
          · refine Or.inr (Or.inr ?_)
            by_cases h8 : A'.1 37 0 = 8
            · exact h8
            · exact absurd ⟨h10, h8⟩ htry
          · refine Or.inl (fun hh => h10 ?_)
            rw [s1] at hh
            exact (nI_inj (b := 10) (by omega) (by decide)).mp hh
    · have hc : s = 0 ∨ s = 1 ∨ s = 2 ∨ s = 3 := by omega
      rcases hc with q | q | q | q <;> subst q
      · exact ev_f0 hs hd hen htop hw hfl hF (by omega) (by omega) hK h0 hfr s1
      · exact ev_f1 hs hd hen htop hw hfl hF (by omega) (by omega) hK h0 hfr s1
      · obtain ⟨k, k1, k2⟩ := s2 rfl
        exact ev_f2 hs hd hen htop hw hfl hF (by omega) (by omega) hK h0 hfr s1 k2 k1
      · obtain ⟨k, k1, k2⟩ := s3 (Or.inl rfl)
        exact ev_f3 hs hd hen htop hw hfl hF (by omega) (by omega) hK h0 hfr s1 k2 k1
