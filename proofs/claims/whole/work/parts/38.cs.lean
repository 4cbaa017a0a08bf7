theorem dy_fs {x u P F b q no F' o c h0 k : Nat} {B : mo_A} {G : c_G} {O : Nat → Nat} {μ : mo_Mem} {A A' : mo_A} {v : Int64} (hs : c_st x B G μ) (h : c_dy x B G u P F μ A O no b q) (ho : o < no) (ht : c_tc x B G O μ A o c) (hb : a_bel B 8 c h0 = true) (hk : k < 4) (hx : a_x (21 :: a_sk) A A') (hv : ∀ i, A'.2 21 i = if i = 32 * o + 4 * h0 + k then v else A.2 21 i) (hF : A'.1 27 0 = nI F') : c_dy x B G u P F' (mo_wAL μ (O o + 2) (4 * gV G h0 + k) v) A' O no b q := by
  obtain ⟨d1, d2, d3, d4, d5, d6, d7, d8, d9, d10, d11, d12, d13, d14, d15, d16, d17, d18, d19, d20, d21, d22, d23, d24, d25⟩ := h
  have t0 := ht
  obtain ⟨t1, t2, t3, t4, t5, t6, t7, t8, t9, t10, t11, t12, t13, t14, t15, t16⟩ := t0
  have e : ∀ j, j ∉ 21 :: a_sk → A'.1 j = A.1 j ∧ A'.2 j = A.2 j := hx
  have hn8 := hs.2.2.1.2.1
  have hpw := hs.2.2.1.2.2.2.2.1
  have hV := hs.2.2.2.2.2.2.2.2.2.1
  have hb0 := (bel_V hn8 hpw hV 8 c (by omega) t1 hb).1
  have i37 := (e 37 (by decide)).1
  refine ⟨fun j hj => ?_, d2, by rw [(e 17 (by decide)).1]; exact d3, d4, d5, by rw [(e 38 (by decide)).1]; exact d6, d7, d8, d9, hF, d11, by rw [(e 40 (by decide)).1]; exact d12, d13, by rw [(e 41 (by decide)).1]; exact d14, by rw [(e 42 (by decide)).1]; exact d15, by rw [(e 43 (by decide)).1]; exact d16, d17, by rw [(e 39 (by decide)).1]; exact d18, d19, by rw [i37]; exact d20, by rw [i37]; exact d21, by rw [(e 26 (by decide)).2]; exact d22, ?_, fun o' ho' => ?_, ?_⟩
  · have e1 : j ∉ 21 :: a_sk := by simp [a_sk]; omega
    exact ⟨(e j e1).1.trans (d1 j hj).1, (e j e1).2.trans (d1 j hj).2⟩
  · exact lg_k d23 rfl (by rw [mo_AL_wAL, u_ne (by omega)]) rfl rfl (e 22 (by decide)).1 (e 23 (by decide)).2 (e 24 (by decide)).1 (e 25 (by decide)).1
  · obtain ⟨c', t'⟩ := d24 o' ho'
    obtain ⟨s1, s2, s3, s4, s5, s6, s7, s8, s9, s10, s11, s12, s13, s14, s15, s16⟩ := t'
    have hcc : ∀ h', a_bel B 8 c' h' = true → h' ≤ c' := fun h' q => (bel_V hn8 hpw hV 8 c' (by omega) s1 q).1
    refine ⟨c', s1, by rw [(e 18 (by decide)).1]; exact s2, s3, s4, s5, s6, s7, s8, s9, s10, s11, s12, s13, s14, by rw [(e 19 (by decide)).1]; exact s15, fun h' hb' => ?_⟩
    have f20 : ∀ k', k' < 3 → mo_AL (mo_wAL μ (O o + 2) (4 * gV G h0 + k) v) (O o' + 1) (3 * gV G h' + k') = A'.2 20 (24 * o' + 3 * h' + k') := by
      intro k' hk'
      have hne : O o' + 1 ≠ O o + 2 := by
        intro q
        by_cases hoo : o' = o
        · subst hoo; omega
        · have : O o' = O o + 1 := by omega
          rw [this] at s6
          exact absurd s6 (by rw [t11]; decide)
      rw [mo_AL_wAL, u_ne hne, (e 20 (by decide)).2]
      exact (s16 h' hb').1 k' hk'
    have f21 : ∀ k', k' < 4 → mo_AL (mo_wAL μ (O o + 2) (4 * gV G h0 + k) v) (O o' + 2) (4 * gV G h' + k') = A'.2 21 (32 * o' + 4 * h' + k') := by
      intro k' hk'
      have hh := hcc h' hb'
      rw [hv]
      by_cases hoo : o' = o
      · subst hoo
        have hce : c' = c := by
          rw [t2, nI_inj (by omega) (by omega)] at s2
          exact s2.symm
        subst hce
        rw [mo_AL_wAL, mo_u_a]
        by_cases hq : h' = h0 ∧ k' = k
        · obtain ⟨rfl, rfl⟩ := hq
          rw [if_pos ⟨rfl, rfl⟩, if_pos rfl]
        · have hn1 : ¬ (4 * gV G h' + k' = 4 * gV G h0 + k) := by
            intro q
            have hvv : gV G h' = gV G h0 := by omega
            exact hq ⟨bel_u hn8 hpw hV hvv 8 c' (by omega) t1 hb' hb, by omega⟩
          rw [if_neg (fun q => hn1 q.2), if_neg (by omega)]
          exact (s16 h' hb').2 k' hk'
      · have hne : O o' + 2 ≠ O o + 2 := by
          intro q
          have q1 : O o' = O o := by omega
          rw [q1, t7, nI_inj (by omega) (by omega)] at s7
          exact hoo s7.symm
        rw [mo_AL_wAL, u_ne hne, if_neg (by omega)]
        exact (s16 h' hb').2 k' hk'
    exact ⟨f20, f21⟩
  · intro o' ho' ho2
    have := d25 o' ho' ho2
    refine ⟨fun i hi => ?_, fun i hi => ?_⟩
    · first | (rw [hv, if_neg (by omega)]; exact this.1 i hi) | (rw [(e 20 (by decide)).2]; exact this.1 i hi)
    · first | (rw [hv, if_neg (by omega)]; exact this.2 i hi) | (rw [(e 21 (by decide)).2]; exact this.2 i hi)
theorem dy_cs {x u P F b q no F' o c h0 k : Nat} {B : mo_A} {G : c_G} {O : Nat → Nat} {μ : mo_Mem} {A A' : mo_A} {v : Int64} (hs : c_st x B G μ) (h : c_dy x B G u P F μ A O no b q) (ho : o < no) (ht : c_tc x B G O μ A o c) (hb : a_bel B 8 c h0 = true) (hk : k < 3) (hx : a_x (20 :: a_sk) A A') (hv : ∀ i, A'.2 20 i = if i = 24 * o + 3 * h0 + k then v else A.2 20 i) (hF : A'.1 27 0 = nI F') : c_dy x B G u P F' (mo_wAL μ (O o + 1) (3 * gV G h0 + k) v) A' O no b q := by
  obtain ⟨d1, d2, d3, d4, d5, d6, d7, d8, d9, d10, d11, d12, d13, d14, d15, d16, d17, d18, d19, d20, d21, d22, d23, d24, d25⟩ := h
  have t0 := ht
  obtain ⟨t1, t2, t3, t4, t5, t6, t7, t8, t9, t10, t11, t12, t13, t14, t15, t16⟩ := t0
  have e : ∀ j, j ∉ 20 :: a_sk → A'.1 j = A.1 j ∧ A'.2 j = A.2 j := hx
  have hn8 := hs.2.2.1.2.1
  have hpw := hs.2.2.1.2.2.2.2.1
  have hV := hs.2.2.2.2.2.2.2.2.2.1
  have hb0 := (bel_V hn8 hpw hV 8 c (by omega) t1 hb).1
  have i37 := (e 37 (by decide)).1
  refine ⟨fun j hj => ?_, d2, by rw [(e 17 (by decide)).1]; exact d3, d4, d5, by rw [(e 38 (by decide)).1]; exact d6, d7, d8, d9, hF, d11, by rw [(e 40 (by decide)).1]; exact d12, d13, by rw [(e 41 (by decide)).1]; exact d14, by rw [(e 42 (by decide)).1]; exact d15, by rw [(e 43 (by decide)).1]; exact d16, d17, by rw [(e 39 (by decide)).1]; exact d18, d19, by rw [i37]; exact d20, by rw [i37]; exact d21, by rw [(e 26 (by decide)).2]; exact d22, ?_, fun o' ho' => ?_, ?_⟩
  · have e1 : j ∉ 20 :: a_sk := by simp [a_sk]; omega
    exact ⟨(e j e1).1.trans (d1 j hj).1, (e j e1).2.trans (d1 j hj).2⟩
  · exact lg_k d23 rfl (by rw [mo_AL_wAL, u_ne (by omega)]) rfl rfl (e 22 (by decide)).1 (e 23 (by decide)).2 (e 24 (by decide)).1 (e 25 (by decide)).1
  · obtain ⟨c', t'⟩ := d24 o' ho'
    obtain ⟨s1, s2, s3, s4, s5, s6, s7, s8, s9, s10, s11, s12, s13, s14, s15, s16⟩ := t'
    have hcc : ∀ h', a_bel B 8 c' h' = true → h' ≤ c' := fun h' q => (bel_V hn8 hpw hV 8 c' (by omega) s1 q).1
    refine ⟨c', s1, by rw [(e 18 (by decide)).1]; exact s2, s3, s4, s5, s6, s7, s8, s9, s10, s11, s12, s13, s14, by rw [(e 19 (by decide)).1]; exact s15, fun h' hb' => ?_⟩
    have f21 : ∀ k', k' < 4 → mo_AL (mo_wAL μ (O o + 1) (3 * gV G h0 + k) v) (O o' + 2) (4 * gV G h' + k') = A'.2 21 (32 * o' + 4 * h' + k') := by
      intro k' hk'
      have hne : O o' + 2 ≠ O o + 1 := by
        intro q
        by_cases hoo : o' = o
        · subst hoo; omega
        · have : O o = O o' + 1 := by omega
          rw [this] at t6
          exact absurd t6 (by rw [s11]; decide)
      rw [mo_AL_wAL, u_ne hne, (e 21 (by decide)).2]
      exact (s16 h' hb').2 k' hk'
    have f20 : ∀ k', k' < 3 → mo_AL (mo_wAL μ (O o + 1) (3 * gV G h0 + k) v) (O o' + 1) (3 * gV G h' + k') = A'.2 20 (24 * o' + 3 * h' + k') := by
      intro k' hk'
      have hh := hcc h' hb'
      rw [hv]
      by_cases hoo : o' = o
      · subst hoo
        have hce : c' = c := by
          rw [t2, nI_inj (by omega) (by omega)] at s2
          exact s2.symm
        subst hce
        rw [mo_AL_wAL, mo_u_a]
        by_cases hq : h' = h0 ∧ k' = k
        · obtain ⟨rfl, rfl⟩ := hq
          rw [if_pos ⟨rfl, rfl⟩, if_pos rfl]
        · have hn1 : ¬ (3 * gV G h' + k' = 3 * gV G h0 + k) := by
            intro q
            have hvv : gV G h' = gV G h0 := by omega
            exact hq ⟨bel_u hn8 hpw hV hvv 8 c' (by omega) t1 hb' hb, by omega⟩
          rw [if_neg (fun q => hn1 q.2), if_neg (by omega)]
          exact (s16 h' hb').1 k' hk'
      · have hne : O o' + 1 ≠ O o + 1 := by
          intro q
          have q1 : O o' = O o := by omega
          rw [q1, t7, nI_inj (by omega) (by omega)] at s7
          exact hoo s7.symm
        rw [mo_AL_wAL, u_ne hne, if_neg (by omega)]
        exact (s16 h' hb').1 k' hk'
    exact ⟨f20, f21⟩
  · intro o' ho' ho2
    have := d25 o' ho' ho2
    refine ⟨fun i hi => ?_, fun i hi => ?_⟩
    · first | (rw [hv, if_neg (by omega)]; exact this.1 i hi) | (rw [(e 20 (by decide)).2]; exact this.1 i hi)
    · first | (rw [hv, if_neg (by omega)]; exact this.2 i hi) | (rw [(e 21 (by decide)).2]; exact this.2 i hi)
theorem dy_lg {x u P F b q no F' nl : Nat} {B : mo_A} {G : c_G} {O : Nat → Nat} {μ : mo_Mem} {A A' : mo_A} {v : Int64} {c o : Int32} (h : c_dy x B G u P F μ A O no b q) (hl : A.1 22 0 = nI nl) (hl2 : nl < 200) (hx : a_x (22 :: 23 :: 24 :: 25 :: a_sk) A A') (h22 : A'.1 22 0 = nI (nl + 1)) (h23 : ∀ i, A'.2 23 i = if i = nl then v else A.2 23 i) (h24 : ∀ i, A'.1 24 i = if i = nl then c else A.1 24 i) (h25 : ∀ i, A'.1 25 i = if i = nl then o else A.1 25 i) (hF : A'.1 27 0 = nI F') : c_dy x B G u P F' (mo_wI (mo_wAI (mo_wAI (mo_wAL μ (x + 6) nl v) (x + 7) nl c) (x + 8) nl o) 259 (x + 5) (nI (nl + 1))) A' O no b q := by
  obtain ⟨d1, d2, d3, d4, d5, d6, d7, d8, d9, d10, d11, d12, d13, d14, d15, d16, d17, d18, d19, d20, d21, d22, d23, d24, d25⟩ := h
  have e : ∀ j, j ∉ 22 :: 23 :: 24 :: 25 :: a_sk → A'.1 j = A.1 j ∧ A'.2 j = A.2 j := hx
  have i37 := (e 37 (by decide)).1
  have mi : ∀ k a, k ≠ 259 → mo_I (mo_wI (mo_wAI (mo_wAI (mo_wAL μ (x + 6) nl v) (x + 7) nl c) (x + 8) nl o) 259 (x + 5) (nI (nl + 1))) k a = mo_I μ k a := fun k a hk => by
    simp only [mo_ME, mo_u_a]
    rw [if_neg (fun q => hk q.1)]
  refine ⟨fun j hj => ?_, (mi _ _ (by decide)).trans d2, by rw [(e 17 (by decide)).1]; exact d3, d4, (mi _ _ (by decide)).trans d5, by rw [(e 38 (by decide)).1]; exact d6, d7, (mi _ _ (by decide)).trans d8, d9, hF, (mi _ _ (by decide)).trans d11, by rw [(e 40 (by decide)).1]; exact d12, d13, by rw [(e 41 (by decide)).1, mi _ _ (by decide)]; exact d14, by rw [(e 42 (by decide)).1, mi _ _ (by decide)]; exact d15, by rw [(e 43 (by decide)).1, mi _ _ (by decide)]; exact d16, (mi _ _ (by decide)).trans d17, by rw [(e 39 (by decide)).1]; exact d18, d19, by rw [i37, mi _ _ (by decide)]; exact d20, by rw [i37]; exact d21, by rw [(e 26 (by decide)).2]; exact d22, ?_, fun o' ho' => ?_, ?_⟩
  · have e1 : j ∉ 22 :: 23 :: 24 :: 25 :: a_sk := by simp [a_sk]; omega
    exact ⟨(e j e1).1.trans (d1 j hj).1, (e j e1).2.trans (d1 j hj).2⟩
  · obtain ⟨n', n1, n2, n3, n4⟩ := d23
    rw [hl, nI_inj (by omega) (by omega)] at n3
    subst n3
    refine ⟨nl + 1, by omega, by simp only [mo_ME, mo_u_a, eq_self_iff_true, and_true, if_true], h22, fun i hi => ?_⟩
    obtain ⟨p1, p2, p3⟩ := n4 i hi
    simp only [mo_ME, mo_u_a, Nat.add_left_cancel_iff, Nat.reduceEqDiff, true_and, false_and, if_false, h23, h24, h25, p1, p2, p3, and_self]
  · obtain ⟨c', t'⟩ := d24 o' ho'
    have t4 := t'.2.2.2.1
    refine ⟨c', tc_k t' (km_lg x u P μ nl v c o (nI (nl + 1))).1 rfl (mi _ _ (by decide)) ?_ ?_ (by rw [(e 18 (by decide)).1]) (by rw [(e 19 (by decide)).1]) (e 20 (by decide)).2 (e 21 (by decide)).2⟩
    · simp only [mo_ME]; rw [u_ne (by omega)]
    · simp only [mo_ME]; rw [u_ne (by omega)]
  · unfold c_fz
    rw [(e 20 (by decide)).2, (e 21 (by decide)).2]
    exact d25
theorem dy_md {x u P F b q no F' o : Nat} {B : mo_A} {G : c_G} {O : Nat → Nat} {μ : mo_Mem} {A A' : mo_A} {s v : Int32} (h : c_dy x B G u P F μ A O no b q) (ho : o < no) (hv : v = if s = 1 then 1 else 0) (hx : a_x (19 :: a_sk) A A') (h19 : ∀ i, i < no → A'.1 19 i = if i = o then s else A.1 19 i) (hF : A'.1 27 0 = nI F') : c_dy x B G u P F' (mo_wI μ 580 (O o) v) A' O no b q := by
  obtain ⟨d1, d2, d3, d4, d5, d6, d7, d8, d9, d10, d11, d12, d13, d14, d15, d16, d17, d18, d19, d20, d21, d22, d23, d24, d25⟩ := h
  have e : ∀ j, j ∉ 19 :: a_sk → A'.1 j = A.1 j ∧ A'.2 j = A.2 j := hx
  have i37 := (e 37 (by decide)).1
  have mi : ∀ k a, k ≠ 580 → mo_I (mo_wI μ 580 (O o) v) k a = mo_I μ k a := fun k a hk => by
    simp only [mo_ME, mo_u_a]
    rw [if_neg (fun q => hk q.1)]
  have hO : x + 60 ≤ O o := by obtain ⟨c, t⟩ := d24 o ho; exact t.2.2.2.1
  refine ⟨fun j hj => ?_, (mi _ _ (by decide)).trans d2, by rw [(e 17 (by decide)).1]; exact d3, d4, (mi _ _ (by decide)).trans d5, by rw [(e 38 (by decide)).1]; exact d6, d7, (mi _ _ (by decide)).trans d8, d9, hF, (mi _ _ (by decide)).trans d11, by rw [(e 40 (by decide)).1]; exact d12, d13, by rw [(e 41 (by decide)).1, mi _ _ (by decide)]; exact d14, by rw [(e 42 (by decide)).1, mi _ _ (by decide)]; exact d15, by rw [(e 43 (by decide)).1, mi _ _ (by decide)]; exact d16, (mi _ _ (by decide)).trans d17, by rw [(e 39 (by decide)).1]; exact d18, d19, by rw [i37, mi _ _ (by decide)]; exact d20, by rw [i37]; exact d21, by rw [(e 26 (by decide)).2]; exact d22, ?_, fun o' ho' => ?_, ?_⟩
  · have e1 : j ∉ 19 :: a_sk := by simp [a_sk]; omega
    exact ⟨(e j e1).1.trans (d1 j hj).1, (e j e1).2.trans (d1 j hj).2⟩
  · exact lg_k d23 (mi _ _ (by decide)) rfl rfl rfl (e 22 (by decide)).1 (e 23 (by decide)).2 (e 24 (by decide)).1 (e 25 (by decide)).1
  · obtain ⟨c', t'⟩ := d24 o' ho'
    by_cases hoo : o' = o
    · subst hoo
      have t0 := t'
      obtain ⟨t1, t2, t3, t4, t5, t6, t7, t8, t9, t10, t11, t12, t13, t14, t15, t16⟩ := t0
      refine ⟨c', t1, by rw [(e 18 (by decide)).1]; exact t2, t3, t4, t5, t6, (mi _ _ (by decide)).trans t7, t8, t9, t10, t11, t12, t13, t14, ?_, ?_⟩
      · rw [h19 o' ho', if_pos rfl]; simp only [mo_ME, mo_u_a, eq_self_iff_true, and_true, if_true]; exact hv
      · rw [(e 20 (by decide)).2, (e 21 (by decide)).2]; exact t16
    · refine ⟨c', tc_k t' (km_md x u P μ hO v).1 rfl ?_ rfl rfl (by rw [(e 18 (by decide)).1]) (by rw [h19 o' ho', if_neg hoo]) (e 20 (by decide)).2 (e 21 (by decide)).2⟩
      obtain ⟨c, t⟩ := d24 o ho
      have t7 := t.2.2.2.2.2.2.1
      have t7' := t'.2.2.2.2.2.2.1
      simp only [mo_ME, mo_u_a]
      rw [if_neg (fun q => hoo (by rw [q.2, t7, nI_inj (by omega) (by omega)] at t7'; exact t7'.symm))]
  · unfold c_fz
    rw [(e 20 (by decide)).2, (e 21 (by decide)).2]
    exact d25
/-- the reference alone marks an object that is not made -/
theorem dy_sm {x u P F b q no F' o : Nat} {B : mo_A} {G : c_G} {O : Nat → Nat} {μ : mo_Mem} {A A' : mo_A} {s : Int32} (h : c_dy x B G u P F μ A O no b q) (ho : o < no) (h1 : A.1 19 o ≠ 1) (h2 : s ≠ 1) (hx : a_x (19 :: a_sk) A A') (h19 : ∀ i, i < no → A'.1 19 i = if i = o then s else A.1 19 i) (hF : A'.1 27 0 = nI F') : c_dy x B G u P F' μ A' O no b q := by
  obtain ⟨d1, d2, d3, d4, d5, d6, d7, d8, d9, d10, d11, d12, d13, d14, d15, d16, d17, d18, d19, d20, d21, d22, d23, d24, d25⟩ := h
  have e : ∀ j, j ∉ 19 :: a_sk → A'.1 j = A.1 j ∧ A'.2 j = A.2 j := hx
  have i37 := (e 37 (by decide)).1
  refine ⟨fun j hj => ?_, d2, by rw [(e 17 (by decide)).1]; exact d3, d4, d5, by rw [(e 38 (by decide)).1]; exact d6, d7, d8, d9, hF, d11, by rw [(e 40 (by decide)).1]; exact d12, d13, by rw [(e 41 (by decide)).1]; exact d14, by rw [(e 42 (by decide)).1]; exact d15, by rw [(e 43 (by decide)).1]; exact d16, d17, by rw [(e 39 (by decide)).1]; exact d18, d19, by rw [i37]; exact d20, by rw [i37]; exact d21, by rw [(e 26 (by decide)).2]; exact d22, ?_, fun o' ho' => ?_, ?_⟩
  · have e1 : j ∉ 19 :: a_sk := by simp [a_sk]; omega
    exact ⟨(e j e1).1.trans (d1 j hj).1, (e j e1).2.trans (d1 j hj).2⟩
  · exact lg_k d23 rfl rfl rfl rfl (e 22 (by decide)).1 (e 23 (by decide)).2 (e 24 (by decide)).1 (e 25 (by decide)).1
  · obtain ⟨c', t'⟩ := d24 o' ho'
    obtain ⟨t1, t2, t3, t4, t5, t6, t7, t8, t9, t10, t11, t12, t13, t14, t15, t16⟩ := t'
    refine ⟨c', t1, by rw [(e 18 (by decide)).1]; exact t2, t3, t4, t5, t6, t7, t8, t9, t10, t11, t12, t13, t14, ?_, by rw [(e 20 (by decide)).2, (e 21 (by decide)).2]; exact t16⟩
    rw [h19 o' ho']
    by_cases hoo : o' = o
    · subst hoo
      rw [if_pos rfl, if_neg h2]; rw [if_neg h1] at t15; exact t15
    · rw [if_neg hoo]; exact t15
  · unfold c_fz
    rw [(e 20 (by decide)).2, (e 21 (by decide)).2]
    exact d25
