/-- an exp is worked out for the code at hand -/
def c_W (x : Nat) (B : mo_A) (G : c_G) (w D : Nat) : Prop := ∀ μ A O no P f b q c o e A1 Q, c_st x B G μ → c_dy x B G (w + 1) P (f + 1) μ A O no b q → A.1 37 0 = 0 → c_fr x B G w f μ A O no c o → e < gne G → f + 1 ≤ P + 2 * (w + 1) → a_wk A b e f A1 → (∀ v μ' A' O' no' b' q', c_dy x B G (w + 1) P (f + 1) μ' A' O' no' b' q' → a_rc (x + 28) A1 A' → c_kp x (w + 1) P (f + 1) μ A O no b μ' A' O' no' b' → (A'.1 37 0 = 0 → v = A'.2 36 0) → Q (some (.long v)) μ') → mo_M D 27 [.ref (x + 1), .int (nI e), .ref (x + 16 + w)] μ Q
theorem w_all {x w d : Nat} {B : mo_A} {G : c_G} (hRM : c_RM x B G (w + 1) (d + 4)) (hFM : c_FM x B G (w + 1) (d + 4)) (hw : w < 12) : c_W x B G w (d + 7) := by
  intro μ A O no P f b q c o e A1 Q hs hd h0 hfr he hF hwk hK
  have hb := hd.2.2.2.2.2.2.2.2.2.2.1
  have hb300 := hd.2.2.2.2.2.2.2.2.2.2.2.2.1
  have hP := hd.2.2.2.2.2.2.2.1
  have hPb := hd.2.2.2.2.2.2.2.2.1
  have hF27 := hd.2.2.2.2.2.2.2.2.2.1
  obtain ⟨x1, x2, x3, x4⟩ := hs.2.2.2.2.2.1 e he
  refine L_work hs.1.1 hP ?_
  rcases hwk with ⟨hb3, rfl⟩ | ⟨hb3, rfl⟩
  · rw [L_begin (d := d + 3) hs.1.1 hs.2.2.2.1 hs.2.2.1.1 he x1 x4.1 hP (by omega) hb hb3]
    refine ⟨rfl, ?_⟩
    have km := km_bg x (w + 1) P μ b (gE G e)
    have hx : a_x (40 :: a_sk) A (a_push (a_I A 40 0 (nI (b + 1))) (f + 1) 0 (nI e) (A.1 32 f) (A.1 31 f) (A.2 34 f)) := ax_push (by decide) (ax_I (by decide) (ax_rf _ _))
    have hu : a_u (f + 1) A (a_push (a_I A 40 0 (nI (b + 1))) (f + 1) 0 (nI e) (A.1 32 f) (A.1 31 f) (A.2 34 f)) := au_push (Nat.le_refl _) (au_I (by omega) (au_rf _ _))
    obtain ⟨p1, p2, p3, p4, p5, p6, p7, p8⟩ := push_rd (a_I A 40 0 (nI (b + 1))) (f + 1) 0 (nI e) (A.1 32 f) (A.1 31 f) (A.2 34 f)
    have hkp : c_kp x (w + 1) P (f + 1) μ A O no b (m_bg x μ P b (gE G e)) (a_push (a_I A 40 0 (nI (b + 1))) (f + 1) 0 (nI e) (A.1 32 f) (A.1 31 f) (A.2 34 f)) O no (b + 1) := kp_x km hu hx (by decide) (by decide) (by decide) (by omega)
    have hd2 := dy_bg (a := gE G e) (by omega) hb3 hd hx p8 (by simp only [a_push, a_I_1, a_I_2, a_L_1, a_L_2, Nat.reduceEqDiff, false_and, and_self, if_true, if_false])
    obtain ⟨g1, g2, g3, g4, g5, g6, g7, g8, c0, g9, g10, g11⟩ := fr_k hfr hkp (Nat.lt_succ_self _) (Nat.lt_succ_self _)
    have hs2 := c_st_k hs km.1
    refine ev_all hRM hFM hw (e + 1) e (Nat.lt_succ_self _) he _ _ O no P (f + 1) (b + 1) q c o 0 0 hs2 hd2 (by rw [(hx 37 (by decide)).1]; exact h0) ⟨g1, g2, ?_, ?_, ?_, g6, g7, g8, c0, g9, g10, g11⟩ ⟨p1, p2, p3, ?_, ?_⟩ (Nat.le_refl _) (by omega) (by omega) ?_
    · rw [g3, p6, (hu f (Nat.lt_succ_self _)).1 34 (by decide) (by decide) |>.2]
    · rw [p4]; exact hfr.2.2.2.1
    · rw [p5]; exact hfr.2.2.2.2.1
    · simp only [m_bg, mo_ME, mo_u_a, Nat.add_left_cancel_iff, Nat.reduceEqDiff, and_self, if_true]
    · simp only [m_bg, mo_ME, mo_u_a, Nat.add_left_cancel_iff, Nat.reduceEqDiff, and_self, if_true]
    · intro v t' μ' A' O' no' b' q' k1 k2 k3 k4 k5
      rw [hd_end (cl_sh_k hs2.1 hs2.2.1 k3.1).1 k1.2.2.2.2.2.2.2.1 (by omega)]
      exact hK v μ' A' O' no' b' q' k1 k2 (c_kp_tr hkp k3 (Nat.le_refl _) (Nat.le_refl _) (Nat.le_refl _)) k4
  · subst hb3
    rw [L_beginS (d := d + 3) hs.1.1 hs.2.2.2.1 hs.2.2.1.1 he x1 hb]
    refine ⟨rfl, ?_⟩
    have hx : a_x (37 :: a_sk) A (a_I A 37 0 8) := ax_I (by decide) (ax_rf _ _)
    have hd2 := dy_sp hd hx (F' := f + 1) (by rw [a_I_n (by decide)]; exact hF27) (by rw [a_I_1, if_pos ⟨rfl, rfl⟩])
    rw [hd_end (c_st_k hs (km_sp x 0 0 μ 8).1).1.1 hd2.2.2.2.2.2.2.2.1 (by decide)]
    refine hK 0 _ (a_I A 37 0 8) O no 300 q hd2 (a_rc_rf _ _) (kp_x (km_sp _ _ _ _ _) (au_I (by omega) (au_rf _ _)) hx (by decide) (by decide) (by decide) (Nat.le_refl _)) (fun h => ?_)
    rw [a_I_1, if_pos ⟨rfl, rfl⟩] at h
    exact absurd h (by decide)
