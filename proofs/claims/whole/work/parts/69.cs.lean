/-- the reference's place after an exp more -/
theorem r_rx {r : Nat} {μ : mo_Mem} {A : mo_A} (h : r_at r μ A) (ne : Nat) (s : Int32) (n : Int64) (a b : Int32) : r_at r (m_rx r μ ne s n a b) (a_ex A ne s n a b) ∧ r_fc r μ (m_rx r μ ne s n a b) := by
  unfold m_rx a_ex
  refine ⟨⟨r_sh_c h.1 (by simp only [mo_ME]) (by simp only [mo_ME]) (by simp only [mo_ME]), ?_⟩, ?_⟩
  · simp only [r_VW, h.2]
  · exact r_fc_I (r_fc_AI (by decide) (r_fc_AI (by decide) (r_fc_AL (by decide) (r_fc_AI (by decide) (r_fc_rf _ _)))))
theorem sc_dm {bs x : Nat} {μ μ' : mo_Mem} (h : c_dm x μ μ') (hb : bs < x) (hX : x + 60 ≤ mo_X μ) : c_sc bs μ μ' := ⟨(h.2.2.2.2.1 bs (by omega)).1, (h.2.2.2.2.1 bs (by omega)).2, (h.2.2.1 bs (by omega)).2, fun a ha => (h.2.2.2.2.1 a ha).1, h.1⟩
theorem O_exp {x s0 k d bs : Nat} {μ : mo_Mem} {Q : mo_Mem → Prop} (hiv : c_iv x s0 k μ) (hb : bs < x) (hQ : ∀ μ', c_iv x s0 (k + 1) μ' → c_sc bs μ μ' → Q μ') (s : Int32) (n : Int64) (a b' : Int32) : c_qI x (d + 200) 65 88 bs [.int s, .long n, .int a, .int b'] μ Q := by
  have hiv0 := hiv; obtain ⟨A, G, O, no, b, q, hs, hd, hr, hst, hX, hS⟩ := hiv0; have fin : Q μ := hQ μ (iv_up hiv) (sc_rf _ _); have hno := hd.2.2.1; have hno1 := hd.2.2.2.1; obtain ⟨nl, l1, l2, l3, l4⟩ := hd.2.2.2.2.2.2.2.2.2.2.2.2.2.2.2.2.2.2.2.2.2.2.1; have hne := hs.2.2.1.2.2.1; have hnc := hs.2.2.1.2.2.2.1; have hnc8 := hs.2.2.1.2.1; have hpw := hs.2.2.1.2.2.2.2.1
  unfold c_qI
  by_cases hs11 : vp_in s 11
  · obtain ⟨sn, hsn, rfl⟩ := vp_ex (by decide) hs11
    obtain ⟨c1, c2, c3, c4⟩ := C_exp (d := d + 195) hs hsn n a b' (fun r1 μ1 => ∃ v, r1 = some (.int v) ∧ c_sc bs μ μ1 ∧ mo_M (d + 200) 88 (.ref (x + 28) :: [.int (nI sn), .long n, .int a, .int b']) μ1 (fun r2 μ2 => r2 = some (.int v) ∧ Q μ2))
    by_cases hU : a_eu sn (gne G) (gnc G) n a b'
    · by_cases hO : a_eo sn n
      · by_cases h60 : gne G < 60
        · rw [c4 hU hO h60]
          refine ⟨_, rfl, sc_dm (ex_dm hs.2.1 (gne G) (nI sn) n a b') hb hs.2.1, ?_⟩
          have hr1 := r_ot hr (ex_ot hs.2.1 (gne G) (nI sn) n a b')
          rw [(R_exp (d := d + 198) hr1 hne hs.2.2.1.1 hnc hnc8 hsn n a b' _).2.2.2 hU hO h60]
          refine ⟨rfl, ?_⟩
          obtain ⟨hr2, hfc⟩ := r_rx hr1 (gne G) (nI sn) n a b'
          obtain ⟨e1, e2, -⟩ := exA A (gne G) (nI sn) n a b'
          have hst1 := ex_st hs hsn h60 hU hO
          have ep : ∀ c, a_par (a_ex A (gne G) (nI sn) n a b') c = a_par A c := fun c => by unfold a_par; rw [e1 6 (by decide) (by decide) (by decide) (by decide)]
          have eb : ∀ h k c, a_bel (a_ex A (gne G) (nI sn) n a b') k c h = a_bel A k c h := by
            intro h k
            induction k with
            | zero => intro c; rfl
            | succ k ih =>
              intro c
              unfold a_bel
              rw [ep]
              split
              · rfl
              · cases a_par A c with
                | none => rfl
                | some p => exact ih p
          have hdy := dy_pl (A' := a_ex A (gne G) (nI sn) n a b') (G' := g_ex G (mo_X μ)) hnc8 hpw hd (ex_dm hs.2.1 (gne G) (nI sn) n a b') (fun j hj => ⟨e1 j (by omega) (by omega) (by omega) (by omega), e2 j (by omega)⟩) (fun c hc => ⟨hc, rfl, rfl⟩) (fun c hc h => eb h 8 c)
          refine hQ _ ⟨_, g_ex G (mo_X μ), O, no, b, q, st_fc hst1 hfc, dy_fc hdy hfc, hr2, fun o ho => by rw [e1 19 (by decide) (by decide) (by decide) (by decide)]; exact hst o ho, ?_, ?_⟩ (sc_tr (sc_dm (ex_dm hs.2.1 (gne G) (nI sn) n a b') hb hs.2.1) (sc_fc hfc hb))
          · rw [hfc.2.2.2.2.1]; simp only [m_ex, mo_ME]; omega
          · rw [hfc.2.2.2.2.2.1]; simp only [m_ex, mo_ME]; omega
        · have h6 : gne G = 60 := by have := hs.2.2.1.1; omega
          rw [c3 hU hO h6]
          refine ⟨_, rfl, sc_rf _ _, ?_⟩
          rw [(R_exp (d := d + 198) hr hne hs.2.2.1.1 hnc hnc8 hsn n a b' _).2.2.1 hU hO h6]
          exact ⟨rfl, fin⟩
      · rw [c2 hU hO]
        refine ⟨_, rfl, sc_rf _ _, ?_⟩
        rw [(R_exp (d := d + 198) hr hne hs.2.2.1.1 hnc hnc8 hsn n a b' _).2.1 hU hO]
        exact ⟨rfl, fin⟩
    · rw [c1 hU]
      refine ⟨_, rfl, sc_rf _ _, ?_⟩
      rw [(R_exp (d := d + 198) hr hne hs.2.2.1.1 hnc hnc8 hsn n a b' _).1 hU]
      exact ⟨rfl, fin⟩
  · rw [C_expS (d := d + 198) hs11]
    refine ⟨_, rfl, sc_rf _ _, ?_⟩
    rw [R_expS (d := d + 199) hs11]
    exact ⟨rfl, fin⟩
