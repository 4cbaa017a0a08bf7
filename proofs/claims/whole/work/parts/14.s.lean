set_option maxRecDepth 100000 in
theorem mo_objw : Cond.instanceMethod Lib.objectInit ∈ lw_tbl ∧ Cond.code Lib.objectInit ⟨#[0xb1]⟩ 1 none ∈ lw_tbl := by decide +kernel
section MoS
variable {p : Program} {l : Launch} {e : Env} {R : Room} {s : State} {m : MethodId} {args : Array Value} {below : List Frame} {meth : Method} {c : Code} {Q : State → Prop} {D : va_G} {CA : Nat → ClassId} {S b : Nat} {scr : Cell} {n0 s0 n1 s1 mi : Nat}
set_option maxHeartbeats 4000000 in
theorem mo_stepW (Cx : mo_Cx p R s m args meth c D CA scr mi n0 s0 n1 s1) (hmi : mi ≤ 126) {cal : mo_Cal} {ret : mo_P} (hcal : ∀ mj vs μ P, mj < 126 → cal mj vs μ P → ∃ v μ', P v μ' ∧ mo_calOK l D CA S b scr R mj vs μ v μ') (hret : mo_RetOK p l e R s m args below meth c Q D CA S b scr n0 s0 n1 s1 mi ret) (t : mo_St)
    (h : mo_s1 cal ret (mo_XW p l e R s m args below meth c Q D CA S b scr n0 s0 n1 s1 (mo_ml mi)) mi t) : mo_XW p l e R s m args below meth c Q D CA S b scr n0 s0 n1 s1 (mo_ml mi) t := by
  obtain ⟨pc, ls, st, μ⟩ := t
  unfold mo_s1 at h
  dsimp only at h
  cases hT : mo_T mi pc with
  | none => rw [hT] at h; exact h.elim
  | some en =>
    rw [hT] at h
    obtain ⟨i, r1, r2, r3, r4⟩ := en
    dsimp only at h
    have hok := mo_ok_all mi pc hmi _ hT
    unfold mo_okE at hok
    rw [Bool.and_eq_true] at hok
    obtain ⟨hd, hL⟩ := hok
    have hd := of_decide_eq_true hd
    dsimp only at hd hL
    have hx := Cx.1
    have hb := Cx.2.1
    have hown := Cx.2.2.2.1
    have hts := Cx.2.2.2.2.1
    have hK := Cx.2.2.2.2.2.1
    have hbd : ∀ {P : Prop} {x y : mo_St}, x.2.2.2 = μ → y.2.2.2 = μ → (P → mo_XW p l e R s m args below meth c Q D CA S b scr n0 s0 n1 s1 (mo_ml mi) x) → (¬ P → mo_XW p l e R s m args below meth c Q D CA S b scr n0 s0 n1 s1 (mo_ml mi) y) → mo_X μ ≤ n1 ∧ mo_S μ ≤ s1 := by
      intro P x y ex ey h1 h2
      by_cases q : P
      · rw [← ex]; exact (h1 q).1
      · rw [← ey]; exact (h2 q).1
    cases i with
    | iconst n =>
      exact ⟨h.2.1, fun a1 a2 a3 H locs lr hr hl hq => lv_iconst hx hb hd rfl (h.2.2 a1 a2 a3 H locs lr hr hl hq)⟩
    | bipush n =>
      exact ⟨h.2.1, fun a1 a2 a3 H locs lr hr hl hq => lv_bipush hx hb hd rfl (h.2.2 a1 a2 a3 H locs lr hr hl hq)⟩
    | sipush n =>
      exact ⟨h.2.1, fun a1 a2 a3 H locs lr hr hl hq => lv_sipush hx hb hd rfl (h.2.2 a1 a2 a3 H locs lr hr hl hq)⟩
    | lconst n =>
      exact ⟨h.2.1, fun a1 a2 a3 H locs lr hr hl hq => lv_lconst hx hb hd rfl (h.2.2 a1 a2 a3 H locs lr hr hl hq)⟩
    | aconst_null =>
      exact ⟨h.2.1, fun a1 a2 a3 H locs lr hr hl hq => lv_null hx hb hd (h.2.2 a1 a2 a3 H locs lr hr hl hq)⟩
    | ldc2_w k =>
      exact ⟨h.2.1, fun a1 a2 a3 H locs lr hr hl hq => lv_ldc2 hx hb hown (hts _ (mo_ws_at (of_decide_eq_true hL) rfl)) hd (h.2.2 a1 a2 a3 H locs lr hr hl hq)⟩
    | iload_n j =>
      obtain ⟨x, hx1, hX⟩ := mo_d_ldI h
      exact ⟨hX.1, fun a1 a2 a3 H locs lr hr hl hq => lv_iload_n hx hb hd rfl (mo_lsR.at hl hx1) (hX.2 a1 a2 a3 H locs lr hr hl hq)⟩
    | iload j =>
      obtain ⟨x, hx1, hX⟩ := mo_d_ldI h
      exact ⟨hX.1, fun a1 a2 a3 H locs lr hr hl hq => lv_iload hx hb hd (mo_lsR.at hl hx1) (hX.2 a1 a2 a3 H locs lr hr hl hq)⟩
    | lload_n j =>
      obtain ⟨x, hx1, hX⟩ := mo_d_ldL h
      exact ⟨hX.1, fun a1 a2 a3 H locs lr hr hl hq => lv_lload_n hx hb hd rfl (mo_lsR.at hl hx1) (hX.2 a1 a2 a3 H locs lr hr hl hq)⟩
    | lload j =>
      obtain ⟨x, hx1, hX⟩ := mo_d_ldL h
      exact ⟨hX.1, fun a1 a2 a3 H locs lr hr hl hq => lv_lload hx hb hd (mo_lsR.at hl hx1) (hX.2 a1 a2 a3 H locs lr hr hl hq)⟩
    | aload_n j =>
      obtain ⟨x, hx1, hv, hX⟩ := mo_d_ldA h
      rcases hv with rfl | ⟨a, rfl⟩
      · exact ⟨hX.1, fun a1 a2 a3 H locs lr hr hl hq => lv_aload_nN hx hb hd rfl (mo_lsR.at hl hx1) (hX.2 a1 a2 a3 H locs lr hr hl hq)⟩
      · exact ⟨hX.1, fun a1 a2 a3 H locs lr hr hl hq => lv_aload_n hx hb hd rfl (mo_lsR.at hl hx1) (hX.2 a1 a2 a3 H locs lr hr hl hq)⟩
    | aload j =>
      obtain ⟨x, hx1, hv, hX⟩ := mo_d_ldA h
      rcases hv with rfl | ⟨a, rfl⟩
      · exact ⟨hX.1, fun a1 a2 a3 H locs lr hr hl hq => lv_aloadN hx hb hd (mo_lsR.at hl hx1) (hX.2 a1 a2 a3 H locs lr hr hl hq)⟩
      · exact ⟨hX.1, fun a1 a2 a3 H locs lr hr hl hq => lv_aload hx hb hd (mo_lsR.at hl hx1) (hX.2 a1 a2 a3 H locs lr hr hl hq)⟩
    | istore_n j =>
      obtain ⟨x, st1, rfl, hi, hX⟩ := mo_d_sI h
      exact ⟨hX.1, fun a1 a2 a3 H locs lr hr hl hq => lv_istore_n hx hb hd rfl hl hi rfl (fun lr' hl' => hX.2 a1 a2 ((mo_st_len _ _ _).trans a3) H locs lr' hr (mo_lsR.st hl') hq)⟩
    | istore j =>
      obtain ⟨x, st1, rfl, hi, hX⟩ := mo_d_sI h
      exact ⟨hX.1, fun a1 a2 a3 H locs lr hr hl hq => lv_istore hx hb hd hl hi rfl (fun lr' hl' => hX.2 a1 a2 ((mo_st_len _ _ _).trans a3) H locs lr' hr (mo_lsR.st hl') hq)⟩
    | lstore_n j =>
      obtain ⟨x, st1, rfl, hi, hX⟩ := mo_d_sL h
      exact ⟨hX.1, fun a1 a2 a3 H locs lr hr hl hq => lv_lstore_n hx hb hd rfl hl hi rfl (fun lr' hl' => hX.2 a1 a2 ((mo_st2_len _ _ _).trans a3) H locs lr' hr (mo_lsR.st2 hl') hq)⟩
    | lstore j =>
      obtain ⟨x, st1, rfl, hi, hX⟩ := mo_d_sL h
      exact ⟨hX.1, fun a1 a2 a3 H locs lr hr hl hq => lv_lstore hx hb hd hl hi rfl (fun lr' hl' => hX.2 a1 a2 ((mo_st2_len _ _ _).trans a3) H locs lr' hr (mo_lsR.st2 hl') hq)⟩
    | astore_n j =>
      obtain ⟨x, st1, rfl, ⟨hv, hi⟩, hX⟩ := mo_d_sA h
      rcases hv with rfl | ⟨a, rfl⟩
      · exact ⟨hX.1, fun a1 a2 a3 H locs lr hr hl hq => lv_astore_nN hx hb hd rfl hl hi rfl (fun lr' hl' => hX.2 a1 a2 ((mo_st_len _ _ _).trans a3) H locs lr' hr (mo_lsR.st hl') hq)⟩
      · exact ⟨hX.1, fun a1 a2 a3 H locs lr hr hl hq => lv_astore_n hx hb hd rfl hl hi rfl (fun lr' hl' => hX.2 a1 a2 ((mo_st_len _ _ _).trans a3) H locs lr' hr (mo_lsR.st hl') hq)⟩
    | astore j =>
      obtain ⟨x, st1, rfl, ⟨hv, hi⟩, hX⟩ := mo_d_sA h
      rcases hv with rfl | ⟨a, rfl⟩
      · exact ⟨hX.1, fun a1 a2 a3 H locs lr hr hl hq => lv_astoreN hx hb hd hl hi rfl (fun lr' hl' => hX.2 a1 a2 ((mo_st_len _ _ _).trans a3) H locs lr' hr (mo_lsR.st hl') hq)⟩
      · exact ⟨hX.1, fun a1 a2 a3 H locs lr hr hl hq => lv_astore hx hb hd hl hi rfl (fun lr' hl' => hX.2 a1 a2 ((mo_st_len _ _ _).trans a3) H locs lr' hr (mo_lsR.st hl') hq)⟩
    | iinc j n =>
      obtain ⟨x, hx1, hX⟩ := mo_d_inc h
      obtain ⟨k, hk⟩ := mo_lsR.k hx1
      exact ⟨hX.1, fun a1 a2 a3 H locs lr hr hl hq => lv_iinc hx hb hd hl hk rfl (List.getElem?_eq_some_iff.mp hx1).1 rfl (fun lr' hl' => hX.2 a1 a2 ((mo_st_len _ _ _).trans a3) H locs lr' hr (mo_lsR.st hl') hq)⟩
    | iadd =>
      obtain ⟨x, y, st1, rfl, hX⟩ := mo_d_ii h
      exact ⟨hX.1, fun a1 a2 a3 H locs lr hr hl hq => lv_iadd hx hb hd (hX.2 a1 a2 a3 H locs lr hr hl hq)⟩
    | isub =>
      obtain ⟨x, y, st1, rfl, hX⟩ := mo_d_ii h
      exact ⟨hX.1, fun a1 a2 a3 H locs lr hr hl hq => lv_isub hx hb hd (hX.2 a1 a2 a3 H locs lr hr hl hq)⟩
    | imul =>
      obtain ⟨x, y, st1, rfl, hX⟩ := mo_d_ii h
      exact ⟨hX.1, fun a1 a2 a3 H locs lr hr hl hq => lv_imul hx hb hd (hX.2 a1 a2 a3 H locs lr hr hl hq)⟩
    | iand =>
      obtain ⟨x, y, st1, rfl, hX⟩ := mo_d_ii h
      exact ⟨hX.1, fun a1 a2 a3 H locs lr hr hl hq => lv_iand hx hb hd (hX.2 a1 a2 a3 H locs lr hr hl hq)⟩
    | idiv =>
      obtain ⟨x, y, st1, rfl, hy, hX⟩ := mo_d_id h
      exact ⟨hX.1, fun a1 a2 a3 H locs lr hr hl hq => lv_idiv hx hb hd hy (hX.2 a1 a2 a3 H locs lr hr hl hq)⟩
    | irem =>
      obtain ⟨x, y, st1, rfl, hy, hX⟩ := mo_d_id h
      exact ⟨hX.1, fun a1 a2 a3 H locs lr hr hl hq => lv_irem hx hb hd hy (hX.2 a1 a2 a3 H locs lr hr hl hq)⟩
    | ladd =>
      obtain ⟨x, y, st1, rfl, hX⟩ := mo_d_ll h
      exact ⟨hX.1, fun a1 a2 a3 H locs lr hr hl hq => lv_ladd hx hb hd (hX.2 a1 a2 a3 H locs lr hr hl hq)⟩
    | lsub =>
      obtain ⟨x, y, st1, rfl, hX⟩ := mo_d_ll h
      exact ⟨hX.1, fun a1 a2 a3 H locs lr hr hl hq => lv_lsub hx hb hd (hX.2 a1 a2 a3 H locs lr hr hl hq)⟩
    | land =>
      obtain ⟨x, y, st1, rfl, hX⟩ := mo_d_ll h
      exact ⟨hX.1, fun a1 a2 a3 H locs lr hr hl hq => lv_land hx hb hd (hX.2 a1 a2 a3 H locs lr hr hl hq)⟩
    | lor =>
      obtain ⟨x, y, st1, rfl, hX⟩ := mo_d_ll h
      exact ⟨hX.1, fun a1 a2 a3 H locs lr hr hl hq => lv_lor hx hb hd (hX.2 a1 a2 a3 H locs lr hr hl hq)⟩
    | ldiv =>
      obtain ⟨x, y, st1, rfl, hy, hX⟩ := mo_d_ld h
      exact ⟨hX.1, fun a1 a2 a3 H locs lr hr hl hq => lv_ldiv hx hb hd hy (hX.2 a1 a2 a3 H locs lr hr hl hq)⟩
    | lshl =>
      obtain ⟨x, y, st1, rfl, hX⟩ := mo_d_shl h
      exact ⟨hX.1, fun a1 a2 a3 H locs lr hr hl hq => lv_lshl hx hb hd rfl (hX.2 a1 a2 a3 H locs lr hr hl hq)⟩
    | lcmp =>
      obtain ⟨x, y, st1, rfl, hX⟩ := mo_d_cmp h
      exact ⟨hX.1, fun a1 a2 a3 H locs lr hr hl hq => W.lcmp hx hb hd (hX.2 a1 a2 a3 H locs lr hr hl hq)⟩
    | i2l =>
      obtain ⟨x, st1, rfl, hX⟩ := mo_d_i2l h
      exact ⟨hX.1, fun a1 a2 a3 H locs lr hr hl hq => lv_i2l hx hb hd rfl (hX.2 a1 a2 a3 H locs lr hr hl hq)⟩
    | l2i =>
      obtain ⟨x, st1, rfl, hX⟩ := mo_d_l2i h
      exact ⟨hX.1, fun a1 a2 a3 H locs lr hr hl hq => lv_l2i hx hb hd rfl (hX.2 a1 a2 a3 H locs lr hr hl hq)⟩
    | dup =>
      obtain ⟨x, st1, rfl, hv, hX⟩ := mo_d_dup h
      exact ⟨hX.1, fun a1 a2 a3 H locs lr hr hl hq => lv_dup hx hb hd hv (hX.2 a1 a2 a3 H locs lr hr hl hq)⟩
    | dup2 =>
      obtain ⟨x, y, st1, rfl, ⟨hv, hw⟩, hX⟩ := mo_d_dup2 h
      exact ⟨hX.1, fun a1 a2 a3 H locs lr hr hl hq => lv_dup2_11 hx hb hd hv hw (hX.2 a1 a2 a3 H locs lr hr hl hq)⟩
    | pop =>
      obtain ⟨x, st1, rfl, hv, hX⟩ := mo_d_pop h
      exact ⟨hX.1, fun a1 a2 a3 H locs lr hr hl hq => lv_pop hx hb hd hv (hX.2 a1 a2 a3 H locs lr hr hl hq)⟩
    | ifCond cd f =>
      have ht := of_decide_eq_true hL
      obtain ⟨x, st1, rfl, h1, h2⟩ := mo_d_if h
      refine ⟨hbd rfl rfl h1 h2, fun a1 a2 a3 H locs lr hr hl hq => ?_⟩
      cases cd with
      | eq => exact lv_if_eq hx hb hd ht (fun q => (h1 q).2 a1 a2 a3 H locs lr hr hl hq) (fun q => (h2 q).2 a1 a2 a3 H locs lr hr hl hq)
      | ne => exact lv_if_ne hx hb hd ht (fun q => (h1 q).2 a1 a2 a3 H locs lr hr hl hq) (fun q => (h2 (fun r => r q)).2 a1 a2 a3 H locs lr hr hl hq)
      | lt => exact lv_if_lt hx hb hd ht (fun q => (h1 q).2 a1 a2 a3 H locs lr hr hl hq) (fun q => (h2 q).2 a1 a2 a3 H locs lr hr hl hq)
      | ge => exact lv_if_ge hx hb hd ht (fun q => (h1 q).2 a1 a2 a3 H locs lr hr hl hq) (fun q => (h2 q).2 a1 a2 a3 H locs lr hr hl hq)
      | gt => exact lv_if_gt hx hb hd ht (fun q => (h1 q).2 a1 a2 a3 H locs lr hr hl hq) (fun q => (h2 q).2 a1 a2 a3 H locs lr hr hl hq)
      | le => exact lv_if_le hx hb hd ht (fun q => (h1 q).2 a1 a2 a3 H locs lr hr hl hq) (fun q => (h2 q).2 a1 a2 a3 H locs lr hr hl hq)
    | if_icmp cd f =>
      have ht := of_decide_eq_true hL
      obtain ⟨x, y, st1, rfl, h1, h2⟩ := mo_d_icmp h
      refine ⟨hbd rfl rfl h1 h2, fun a1 a2 a3 H locs lr hr hl hq => ?_⟩
      cases cd with
      | eq => exact lv_icmp_eq hx hb hd ht (fun q => (h1 q).2 a1 a2 a3 H locs lr hr hl hq) (fun q => (h2 q).2 a1 a2 a3 H locs lr hr hl hq)
      | ne => exact lv_icmp_ne hx hb hd ht (fun q => (h1 q).2 a1 a2 a3 H locs lr hr hl hq) (fun q => (h2 (fun r => r q)).2 a1 a2 a3 H locs lr hr hl hq)
      | lt => exact lv_icmp_lt hx hb hd ht (fun q => (h1 q).2 a1 a2 a3 H locs lr hr hl hq) (fun q => (h2 q).2 a1 a2 a3 H locs lr hr hl hq)
      | ge => exact lv_icmp_ge hx hb hd ht (fun q => (h1 q).2 a1 a2 a3 H locs lr hr hl hq) (fun q => (h2 q).2 a1 a2 a3 H locs lr hr hl hq)
      | gt => exact lv_icmp_gt hx hb hd ht (fun q => (h1 q).2 a1 a2 a3 H locs lr hr hl hq) (fun q => (h2 q).2 a1 a2 a3 H locs lr hr hl hq)
      | le => exact lv_icmp_le hx hb hd ht (fun q => (h1 q).2 a1 a2 a3 H locs lr hr hl hq) (fun q => (h2 q).2 a1 a2 a3 H locs lr hr hl hq)
    | if_acmp cd f =>
      cases cd with
      | eq => exact False.elim h.1
      | ne =>
        have ht := of_decide_eq_true hL
        obtain ⟨v, w, st1, rfl, ⟨hv, hw⟩, h1, h2⟩ := mo_d_acmpne h
        refine ⟨hbd rfl rfl h1 h2, fun a1 a2 a3 H locs lr hr hl hq => ?_⟩
        have hv' : v = va_rf (mo_rv v) := by rcases hv with rfl | ⟨a, rfl⟩ <;> rfl
        have hw' : w = va_rf (mo_rv w) := by rcases hw with rfl | ⟨a, rfl⟩ <;> rfl
        show W p l e R s m args below meth c H locs _ _ Q (F0 m pc lr (v :: w :: st1))
        rw [hv', hw']
        exact lv_acmp_ne hx hb hd ht (fun q => (h1 q).2 a1 a2 a3 H locs lr hr hl hq) (fun q => (h2 (fun r => r q)).2 a1 a2 a3 H locs lr hr hl hq)
    | ifnull f =>
      have ht := of_decide_eq_true hL
      obtain ⟨v, st1, rfl, hv, h1, h2⟩ := mo_d_nul h
      refine ⟨hbd rfl rfl h1 h2, fun a1 a2 a3 H locs lr hr hl hq => ?_⟩
      rcases hv with rfl | ⟨a, rfl⟩
      · exact lv_ifnullN hx hb hd ht ((h1 rfl).2 a1 a2 a3 H locs lr hr hl hq)
      · exact lv_ifnull hx hb hd ((h2 (fun q => by cases q)).2 a1 a2 a3 H locs lr hr hl hq)
    | ifnonnull f =>
      have ht := of_decide_eq_true hL
      obtain ⟨v, st1, rfl, hv, h1, h2⟩ := mo_d_nul h
      refine ⟨hbd rfl rfl h1 h2, fun a1 a2 a3 H locs lr hr hl hq => ?_⟩
      rcases hv with rfl | ⟨a, rfl⟩
      · exact lv_ifnonnullN hx hb hd ((h1 rfl).2 a1 a2 a3 H locs lr hr hl hq)
      · exact lv_ifnonnull hx hb hd ht ((h2 (fun q => by cases q)).2 a1 a2 a3 H locs lr hr hl hq)
    | goto f =>
      exact ⟨h.2.1, fun a1 a2 a3 H locs lr hr hl hq => lv_goto hx hb hd (of_decide_eq_true hL) (h.2.2 a1 a2 a3 H locs lr hr hl hq)⟩
    | tableswitch d lo hi os =>
      obtain ⟨x, st1, rfl, hX⟩ := mo_d_sw h
      refine ⟨hX.1, fun a1 a2 a3 H locs lr hr hl hq => ?_⟩
      have hL : (decide (0 ≤ (pc : Int) + d) && decide (((hi - lo).toNat + 1) = os.size) && os.all (fun f => decide (0 ≤ (pc : Int) + f))) = true := hL
      simp only [Bool.and_eq_true, decide_eq_true_eq, Array.all_eq_true] at hL
      obtain ⟨⟨g1, g2⟩, g3⟩ := hL
      by_cases hout : x.toInt < lo ∨ hi < x.toInt
      · have ht : mo_tsw pc d lo hi os x = ((pc : Int) + d).toNat := by simp [mo_tsw, hout]
        refine lv_tableOut (tgt := ((pc : Int) + d).toNat) hx hb hd hout (by omega) ?_
        have := hX.2 a1 a2 a3 H locs lr hr hl hq
        rw [ht] at this
        exact this
      · have hi1 : (x.toInt - lo).toNat < os.size := by omega
        have ho : os[(x.toInt - lo).toNat]? = some os[(x.toInt - lo).toNat] := Array.getElem?_eq_getElem hi1
        have ht : mo_tsw pc d lo hi os x = ((pc : Int) + os[(x.toInt - lo).toNat]).toNat := by simp [mo_tsw, hout, ho]
        have hge := g3 _ hi1
        refine lv_tableIn (tgt := ((pc : Int) + os[(x.toInt - lo).toNat]).toNat) hx hb hd (fun q => hout (Or.inl q)) (fun q => hout (Or.inr q)) ho (by omega) ?_
        have := hX.2 a1 a2 a3 H locs lr hr hl hq
        rw [ht] at this
        exact this
    | getfield k =>
      obtain ⟨a, st1, rfl, hC, hX⟩ := mo_d_get h
      exact ⟨hX.1, fun a1 a2 a3 H locs lr hr hl hq => mo_getW Cx hd hL hr hC (hX.2 a1 a2 a3 H locs lr hr hl hq)⟩
    | putfield k =>
      exact mo_v_putf Cx hd hL h
    | iaload =>
      have hL := of_decide_eq_true hL
      obtain ⟨k, a, st1, rfl, ⟨hC, hin⟩, hX⟩ := mo_d_iald h
      refine ⟨hX.1, fun a1 a2 a3 H locs lr hr hl hq => ?_⟩
      have hr : mo_rel D CA S b scr μ H := hr
      have hlt : k.toNatClampNeg < mo_N μ a := Nat.not_le.mp fun q => hin (Or.inr q)
      rcases hL with rfl | rfl
      · obtain ⟨g1, g2⟩ := hr.2.2.2.2.2.2.2 a hC
        have ha : a = b := by
          rcases hr.2.2.2.2.1 a (by omega) with q | q
          · exact q.2
          · exact absurd hC q.1
        subst ha
        exact W.iald (v := .int (mo_AI μ a k.toNatClampNeg)) hx hb hr.2.2.2.1 hK.2.2.1 hK.2.2.2 (by rw [g1]; exact hin) (g2 _ hlt) rfl rfl hd (hX.2 a1 a2 a3 H locs lr hr hl hq)
      · obtain ⟨g1, g2⟩ := hr.2.2.2.2.2.2.1 a (by omega)
        rw [hC] at g2
        exact W.iald (v := .int (mo_AI μ a k.toNatClampNeg)) hx hb g2 ((hK.2.1 20 _ rfl).1 _ _) (fun q => by cases q) (by rw [arrV_size]; exact hin) (by rw [arrV_read _ _ hlt, mo_el_int (Or.inl hC)]) rfl rfl hd (hX.2 a1 a2 a3 H locs lr hr hl hq)
    | baload =>
      obtain ⟨k, a, st1, rfl, ⟨hC, hin⟩, hX⟩ := mo_d_iald h
      refine ⟨hX.1, fun a1 a2 a3 H locs lr hr hl hq => ?_⟩
      have hr : mo_rel D CA S b scr μ H := hr
      have hlt : k.toNatClampNeg < mo_N μ a := Nat.not_le.mp fun q => hin (Or.inr q)
      obtain ⟨g1, g2⟩ := hr.2.2.2.2.2.2.1 a (by omega)
      rw [hC] at g2
      exact W.zald (v := .int (mo_AI μ a k.toNatClampNeg)) hx hb g2 ((hK.2.1 22 _ rfl).1 _ _) (fun q => by cases q) (by rw [arrV_size]; exact hin) (by rw [arrV_read _ _ hlt, mo_el_int (Or.inr hC)]) rfl rfl hd (hX.2 a1 a2 a3 H locs lr hr hl hq)
    | laload =>
      obtain ⟨k, a, st1, rfl, ⟨hC, hin⟩, hX⟩ := mo_d_lald h
      refine ⟨hX.1, fun a1 a2 a3 H locs lr hr hl hq => ?_⟩
      have hr : mo_rel D CA S b scr μ H := hr
      have hlt : k.toNatClampNeg < mo_N μ a := Nat.not_le.mp fun q => hin (Or.inr q)
      obtain ⟨g1, g2⟩ := hr.2.2.2.2.2.2.1 a (by omega)
      rw [hC] at g2
      exact W.lald (v := .long (mo_AL μ a k.toNatClampNeg)) hx hb g2 ((hK.2.1 21 _ rfl).1 _ _) (fun q => by cases q) (by rw [arrV_size]; exact hin) (by rw [arrV_read _ _ hlt]; simp [mo_el, hC]) rfl rfl hd (hX.2 a1 a2 a3 H locs lr hr hl hq)
    | aaload =>
      obtain ⟨k, a, st1, rfl, ⟨hC, hin⟩, hX⟩ := mo_d_aald h
      refine ⟨hX.1, fun a1 a2 a3 H locs lr hr hl hq => ?_⟩
      have hr : mo_rel D CA S b scr μ H := hr
      have hlt : k.toNatClampNeg < mo_N μ a := Nat.not_le.mp fun q => hin (Or.inr q)
      obtain ⟨g1, g2⟩ := hr.2.2.2.2.2.2.1 a (by omega)
      obtain ⟨ty, hty⟩ := Option.isSome_iff_exists.mp g1
      obtain ⟨RC, T, N, rfl, hcl⟩ := mo_aty_obj hty hC
      exact W.aald (v := va_rf (mo_AR μ a k.toNatClampNeg)) (ty := .object RC) hx hb g2 ((hK.2.1 _ _ hty).1 _ _) rfl (fun q => by cases q) (by rw [arrV_size]; exact hin) (by rw [arrV_read _ _ hlt]; simp [mo_el, hC]; omega) rfl rfl hd (hX.2 a1 a2 a3 H locs lr hr hl hq)
    | iastore =>
      obtain ⟨x, k, a, st1, rfl, ⟨hC, hin⟩, hX⟩ := mo_d_iast h
      exact mo_v_iast Cx hd hC hin hX
    | bastore =>
      obtain ⟨x, k, a, st1, rfl, ⟨hC, hin, h01⟩, hX⟩ := mo_d_zast h
      exact mo_v_zast Cx hd hC hin h01 hX
    | lastore =>
      obtain ⟨x, k, a, st1, rfl, ⟨hC, hin⟩, hX⟩ := mo_d_last h
      exact mo_v_last Cx hd hC hin hX
    | aastore =>
      obtain ⟨v, k, a, st1, rfl, ⟨hC, hin, hv, hvc⟩, hX⟩ := mo_d_aast h
      exact mo_v_aast Cx hd hC hin hv hvc hX
    | arraylength =>
      obtain ⟨a, st1, rfl, hC, hX⟩ := mo_d_alen h
      refine ⟨hX.1, fun a1 a2 a3 H locs lr hr hl hq => ?_⟩
      have hr : mo_rel D CA S b scr μ H := hr
      by_cases h19 : mo_C μ a = 19
      · obtain ⟨g1, g2⟩ := hr.2.2.2.2.2.2.2 a h19
        have ha : a = b := by
          rcases hr.2.2.2.2.1 a (by omega) with q | q
          · exact q.2
          · exact absurd h19 q.1
        subst ha
        exact W.alen (n := Int32.ofNat (mo_N μ a)) hx hb hr.2.2.2.1 hK.2.2.1 (by rw [g1]) rfl rfl hd (hX.2 a1 a2 a3 H locs lr hr hl hq)
      · obtain ⟨g1, g2⟩ := hr.2.2.2.2.2.2.1 a (by omega)
        obtain ⟨ty, hty⟩ := Option.isSome_iff_exists.mp g1
        exact W.alen (n := Int32.ofNat (mo_N μ a)) hx hb g2 ((hK.2.1 _ _ hty).1 _ _) (by rw [arrV_size]) rfl rfl hd (hX.2 a1 a2 a3 H locs lr hr hl hq)
    | new k =>
      obtain ⟨ci, RC, T, rfl, hc, hlk⟩ := mo_okL_new hL
      have hlt := mo_cl_lt hc
      obtain ⟨g1, g2, g3, g4, g5, g6, g7⟩ := mo_cls_ok ci RC T r2 hc
      have hKn := hK.1 ci _ hc
      refine mo_v_new Cx (by omega) (by omega) (fun H locs lr cells slots hr hc1 hs1 kk => ?_) h.2
      refine W.newcK hx hb hown (hts _ (mo_ws_at hlk rfl)) (hts _ (mo_ws g5 rfl)) (hts _ (mo_ws g6 rfl)) rfl hd hc1 hs1 hKn.2.1 hr.1 fun H1 kC hkC e1 z1 o1 => ?_
      refine kk H1 (fun ci' RC' T' N' q1 q2 => ?_) (fun q => by omega) z1 o1
      have : ci' = ci := by omega
      subst this
      cases hc.symm.trans q2
      exact (u_born (mo_cty ci') hts (mo_ws_u g1) hKn hkC e1 g2).to (fun j hj => mo_def (g4 j hj).2 _ _ _ _ _)
    | newarray at0 =>
      obtain ⟨n, st1, rfl, ⟨hn, hle⟩, hX⟩ := mo_d_newa h
      have hL : (decide (some (newarray.typeOf at0) = mo_aty r1) && decide (r1 = 20 ∨ r1 = 21 ∨ r1 = 22)) = true := hL
      simp only [Bool.and_eq_true, decide_eq_true_eq] at hL
      obtain ⟨hty, h123⟩ := hL
      have harr : (Cond.arrayClass (newarray.typeOf at0)) ∈ lw_tbl ∧ componentBytes (newarray.typeOf at0) ≤ 8 ∧ (va_RA s (CA r1) (newarray.typeOf at0) → s.vm.findClass ("[" ++ (newarray.typeOf at0).toString) = some (CA r1)) ∧ (fun _ : Nat => defaultValue (newarray.typeOf at0)) = mo_el (mo_new μ r1 n.toNatClampNeg n.toNatClampNeg) (mo_X μ) := by
        rcases h123 with rfl | rfl | rfl
        · have : newarray.typeOf at0 = .int := Option.some.inj hty
          rw [this]
          exact ⟨mo_arrw.1, by decide, fun q => q, by funext j; simp [mo_el, mo_C_new, mo_AI_new, mo_v, mo_y, defaultValue]⟩
        · have : newarray.typeOf at0 = .long := Option.some.inj hty
          rw [this]
          exact ⟨mo_arrw.2.1, by decide, fun q => q, by funext j; simp [mo_el, mo_C_new, mo_AL_new, mo_v, mo_y, defaultValue]⟩
        · have : newarray.typeOf at0 = .boolean := Option.some.inj hty
          rw [this]
          exact ⟨mo_arrw.2.2, by decide, fun q => q, by funext j; simp [mo_el, mo_C_new, mo_AI_new, mo_v, mo_y, defaultValue]⟩
      obtain ⟨w1, w2, w3, w4⟩ := harr
      refine mo_v_new Cx (by omega) (by omega) (fun H locs lr cells slots hr hc1 hs1 kk => ?_) hX
      refine va_newaK hx hb (hts _ (mo_ws w1 rfl)) rfl hd rfl hn rfl (Nat.le_trans (Nat.mul_le_mul hle w2) (by decide)) hc1 hs1 hr.1 fun H1 cA e1 z1 o1 hAr hNm => ?_
      have hcA : cA = CA r1 := Option.some.inj (hNm.symm.trans (w3 (hK.2.1 _ _ hty.symm).2))
      subst hcA
      rw [w4] at e1
      exact kk H1 (fun ci' RC' T' N' q1 q2 => by have := mo_cl_lt q2; omega) (fun _ => ⟨by rw [← hty]; rfl, e1⟩) z1 o1
    | anewarray k =>
      obtain ⟨n, st1, rfl, ⟨hn, hle⟩, hX⟩ := mo_d_newa h
      have hL : (decide (30 ≤ r1) && decide (mo_aty r1 = some (.object (mo_at (r1 - 30)).1)) && decide (lw_tbl[r4]? = some (Cond.classLink (mo_own mi) k (mo_at (r1 - 30)).1))) = true := hL
      simp only [Bool.and_eq_true, decide_eq_true_eq] at hL
      obtain ⟨⟨h30, hty⟩, hlk⟩ := hL
      obtain ⟨RC, T, N, hRC, hcl⟩ := mo_aty_obj hty h30
      have hRC : (mo_at (r1 - 30)).1 = RC := FieldType.object.inj hRC
      rw [hRC] at hty hlk
      have hlt := mo_cl_lt hcl
      have hov : Cond.arrayOver (.object RC) ∈ lw_tbl := by
        have q := List.all_eq_true.mp mo_overw (r1 - 30) (List.mem_range.mpr hlt)
        rw [show 30 + (r1 - 30) = r1 by omega, hty] at q
        exact of_decide_eq_true q
      refine mo_v_new Cx (by omega) (by omega) (fun H locs lr cells slots hr hc1 hs1 kk => ?_) hX
      refine W.anew hx hb hown (hts _ (mo_ws_at hlk rfl)) (hts _ (mo_ws hov rfl)) rfl hd rfl hn (by omega) hc1 hs1 fun cA kA comp f1 f2 f3 f4 => ?_
      obtain ⟨kA', comp', k1, k2, k3, k4⟩ := (hK.2.1 _ _ hty).2
      have hcA : cA = CA r1 := Option.some.inj (f1.symm.trans k4)
      subst hcA
      rw [hr.1]
      refine kk _ (fun ci' RC' T' N' q1 q2 => by have := mo_cl_lt q2; omega) (fun _ => ⟨by rw [hty]; rfl, ?_⟩) (by rw [Array.size_push, hr.1]) (fun q hq => by rw [Array.getElem?_push, if_neg (by rw [hr.1]; omega)])
      rw [← hr.1, Array.getElem?_push_size, arrV_new]
      congr 2
      funext j
      have : mo_C (mo_new μ r1 n.toNatClampNeg n.toNatClampNeg) (mo_X μ) = r1 := by simp [mo_C_new, mo_v]
      rw [hr.1]
      simp only [mo_el, this, mo_AR_new, mo_y, if_true]
      rw [if_neg (by omega), if_pos h30]
      rfl
    | invokevirtual k =>
      have hL : (decide (r1 < 126) && mo_lk mi k r1 r4 && decide (r2 = mo_na r1) && decide (r3 = mo_ctag r1) && !mo_isSt r1 && decide ((mo_Y r1).name ≠ "<init>")) = true := hL
      simp only [Bool.and_eq_true, decide_eq_true_eq, Bool.not_eq_true'] at hL
      obtain ⟨⟨⟨⟨⟨hmj, hlk⟩, hn⟩, hct⟩, hist⟩, hnm⟩ := hL
      obtain ⟨a, rest, hdr, ⟨hC, hcat⟩, hcl⟩ := mo_d_invV h
      obtain ⟨v, μ1, hX, hM⟩ := hcal _ _ _ _ hmj hcl
      refine ⟨⟨by show mo_X μ ≤ n1; have := hM.1; have := hX.1.1; dsimp only at this; omega, by show mo_S μ ≤ s1; have := hM.2.1; have := hX.1.2; dsimp only at this; omega⟩, fun a1 a2 a3 H locs lr hr hl hq => ?_⟩
      have a1 : n0 ≤ mo_X μ := a1
      have a2 : s0 ≤ mo_S μ := a2
      have b1 : mo_X μ1 ≤ n1 := hX.1.1
      have b2 : mo_S μ1 ≤ s1 := hX.1.2
      have m1 := hM.1
      have m2 := hM.2.1
      have hc1 := Cx.2.2.2.2.2.2.2.1
      have hc2 := Cx.2.2.2.2.2.2.2.2.1
      have hsz : lr.size = mo_ml mi := hl.1.trans a3
      have kk : ∀ (H' : Heap) (L : List Loc), mo_rel D CA S b scr μ1 H' → (∀ q ∈ L, S ≤ q.base) → W p l e R s m args below meth c H' (locs ++ L) (mo_X μ - n0 + (mo_X μ1 - mo_X μ)) (mo_S μ - s0 + (mo_S μ1 - mo_S μ)) Q (F0 m (pc + 3) lr (v.toList ++ rest)) := by
        intro H' L hr' hL'
        have := hX.2 (by show n0 ≤ mo_X μ1; omega) (by show s0 ≤ mo_S μ1; omega) a3 H' (locs ++ L) lr hr' hl (fun q hq' => (List.mem_append.mp hq').elim (hq q) (hL' q))
        rw [show mo_X μ - n0 + (mo_X μ1 - mo_X μ) = mo_X μ1 - n0 by omega, show mo_S μ - s0 + (mo_S μ1 - mo_S μ) = mo_S μ1 - s0 by omega]
        exact this
      have hfit : mo_X μ - n0 + (mo_X μ1 - mo_X μ) ≤ R.cells ∧ mo_S μ - s0 + (mo_S μ1 - mo_S μ) ≤ R.slots := by omega
      show W p l e R s m args below meth c H locs (mo_X μ - n0) (mo_S μ - s0) Q (F0 m pc lr st)
      have hst : st = ((st.take r2).reverse).reverse ++ .ref a :: rest := by rw [List.reverse_reverse, ← hdr, List.take_append_drop]
      have hlen : ((st.take r2).reverse).length = mo_na r1 := by
        have := congrArg List.length hdr
        simp at this
        rw [List.length_reverse, List.length_take, ← hn]
        omega
      rw [hst]
      exact mo_callV Cx hmj hlk hist hnm hlen hd hr (by rw [hC, hct]) hcat hsz hM hfit kk
    | invokespecial k =>
      have hL : (if r1 = 999 then decide (lw_tbl[r4]? = some (Cond.methodLink (mo_own mi) k Lib.objectInit)) else decide (r1 < 126) && mo_lk mi k r1 r4 && decide (r2 = mo_na r1) && !mo_isSt r1 && decide ((mo_Y r1).name = "<init>") && decide (mo_rt r1 = none)) = true := hL
      have h : mo_den cal ret (mo_XW p l e R s m args below meth c Q D CA S b scr n0 s0 n1 s1 (mo_ml mi)) (mo_sp r1 r2 (pc + 3) ls st μ) := h
      unfold mo_sp at h
      by_cases h999 : r1 = 999
      · rw [if_pos h999] at hL
        rw [decide_eq_true h999] at h
        obtain ⟨a, rest, rfl, hcat, hX⟩ := mo_d_invO h
        refine ⟨hX.1, fun a1 a2 a3 H locs lr hr hl hq => ?_⟩
        have h2 := Cx.2.2.2.2.2.2.2.2.2
        refine W.objInit hx hb hown (hts _ (mo_ws_at (of_decide_eq_true hL) rfl)) (hts _ (mo_ws mo_objw.1 rfl)) (hts _ (mo_ws mo_objw.2 rfl)) rfl (hl.1.trans (a3.trans Cx.2.2.1.symm)) rfl hd h2.1 ?_ (hX.2 a1 a2 a3 H locs lr hr hl hq)
        have := lv_room (m := m) (pc := pc) (ls := lr) (rest := rest) hcat
        have h3 : (rest.map fun v => v.category).sum ≤ 8 := hcat
        show 2 * 0 + (rest.map fun v => v.category).sum + 12 ≤ R.locals
        omega
      · rw [if_neg h999] at hL
        rw [decide_eq_false h999] at h
        simp only [Bool.and_eq_true, decide_eq_true_eq, Bool.not_eq_true'] at hL
        obtain ⟨⟨⟨⟨⟨hmj, hlk⟩, hn⟩, hist⟩, hnm⟩, hrt⟩ := hL
        obtain ⟨a, rest, hdr, hcat, hcl⟩ := mo_d_invI h
        obtain ⟨v, μ1, hX, hM⟩ := hcal _ _ _ _ hmj hcl
        refine ⟨⟨by show mo_X μ ≤ n1; have := hM.1; have := hX.1.1; dsimp only at this; omega, by show mo_S μ ≤ s1; have := hM.2.1; have := hX.1.2; dsimp only at this; omega⟩, fun a1 a2 a3 H locs lr hr hl hq => ?_⟩
        have a1 : n0 ≤ mo_X μ := a1
        have a2 : s0 ≤ mo_S μ := a2
        have b1 : mo_X μ1 ≤ n1 := hX.1.1
        have b2 : mo_S μ1 ≤ s1 := hX.1.2
        have m1 := hM.1
        have m2 := hM.2.1
        have hc1 := Cx.2.2.2.2.2.2.2.1
        have hc2 := Cx.2.2.2.2.2.2.2.2.1
        have hsz : lr.size = mo_ml mi := hl.1.trans a3
        have kk : ∀ (H' : Heap) (L : List Loc), mo_rel D CA S b scr μ1 H' → (∀ q ∈ L, S ≤ q.base) → W p l e R s m args below meth c H' (locs ++ L) (mo_X μ - n0 + (mo_X μ1 - mo_X μ)) (mo_S μ - s0 + (mo_S μ1 - mo_S μ)) Q (F0 m (pc + 3) lr (v.toList ++ rest)) := by
          intro H' L hr' hL'
          have := hX.2 (by show n0 ≤ mo_X μ1; omega) (by show s0 ≤ mo_S μ1; omega) a3 H' (locs ++ L) lr hr' hl (fun q hq' => (List.mem_append.mp hq').elim (hq q) (hL' q))
          rw [show mo_X μ - n0 + (mo_X μ1 - mo_X μ) = mo_X μ1 - n0 by omega, show mo_S μ - s0 + (mo_S μ1 - mo_S μ) = mo_S μ1 - s0 by omega]
          exact this
        have hfit : mo_X μ - n0 + (mo_X μ1 - mo_X μ) ≤ R.cells ∧ mo_S μ - s0 + (mo_S μ1 - mo_S μ) ≤ R.slots := by omega
        show W p l e R s m args below meth c H locs (mo_X μ - n0) (mo_S μ - s0) Q (F0 m pc lr st)
        have hst : st = ((st.take r2).reverse).reverse ++ .ref a :: rest := by rw [List.reverse_reverse, ← hdr, List.take_append_drop]
        have hlen : ((st.take r2).reverse).length = mo_na r1 := by
          have := congrArg List.length hdr
          simp at this
          rw [List.length_reverse, List.length_take, ← hn]
          omega
        rw [hst]
        exact mo_callI Cx hmj hlk hist hnm hrt hlen hd hr hcat hsz hM hfit kk
    | invokestatic k =>
      have hL : (decide (r1 < 126) && mo_lk mi k r1 r4 && decide (r2 = mo_na r1) && mo_isSt r1) = true := hL
      simp only [Bool.and_eq_true, decide_eq_true_eq] at hL
      obtain ⟨⟨⟨hmj, hlk⟩, hn⟩, hist⟩ := hL
      obtain ⟨⟨hlen0, hcat⟩, hcl⟩ : (r2 ≤ st.length ∧ mo_cat (st.drop r2) ≤ 8) ∧ cal r1 ((st.take r2).reverse) μ (fun v μ' => mo_XW p l e R s m args below meth c Q D CA S b scr n0 s0 n1 s1 (mo_ml mi) (pc + 3, ls, v.toList ++ st.drop r2, μ')) := h
      obtain ⟨rest, hrest⟩ : ∃ rest, rest = st.drop r2 := ⟨_, rfl⟩
      rw [← hrest] at hcat hcl
      obtain ⟨v, μ1, hX, hM⟩ := hcal _ _ _ _ hmj hcl
      refine ⟨⟨by show mo_X μ ≤ n1; have := hM.1; have := hX.1.1; dsimp only at this; omega, by show mo_S μ ≤ s1; have := hM.2.1; have := hX.1.2; dsimp only at this; omega⟩, fun a1 a2 a3 H locs lr hr hl hq => ?_⟩
      have a1 : n0 ≤ mo_X μ := a1
      have a2 : s0 ≤ mo_S μ := a2
      have b1 : mo_X μ1 ≤ n1 := hX.1.1
      have b2 : mo_S μ1 ≤ s1 := hX.1.2
      have m1 := hM.1
      have m2 := hM.2.1
      have hc1 := Cx.2.2.2.2.2.2.2.1
      have hc2 := Cx.2.2.2.2.2.2.2.2.1
      have hsz : lr.size = mo_ml mi := hl.1.trans a3
      have kk : ∀ (H' : Heap) (L : List Loc), mo_rel D CA S b scr μ1 H' → (∀ q ∈ L, S ≤ q.base) → W p l e R s m args below meth c H' (locs ++ L) (mo_X μ - n0 + (mo_X μ1 - mo_X μ)) (mo_S μ - s0 + (mo_S μ1 - mo_S μ)) Q (F0 m (pc + 3) lr (v.toList ++ rest)) := by
        intro H' L hr' hL'
        have := hX.2 (by show n0 ≤ mo_X μ1; omega) (by show s0 ≤ mo_S μ1; omega) a3 H' (locs ++ L) lr hr' hl (fun q hq' => (List.mem_append.mp hq').elim (hq q) (hL' q))
        rw [show mo_X μ - n0 + (mo_X μ1 - mo_X μ) = mo_X μ1 - n0 by omega, show mo_S μ - s0 + (mo_S μ1 - mo_S μ) = mo_S μ1 - s0 by omega]
        exact this
      have hfit : mo_X μ - n0 + (mo_X μ1 - mo_X μ) ≤ R.cells ∧ mo_S μ - s0 + (mo_S μ1 - mo_S μ) ≤ R.slots := by omega
      show W p l e R s m args below meth c H locs (mo_X μ - n0) (mo_S μ - s0) Q (F0 m pc lr st)
      have hst : st = ((st.take r2).reverse).reverse ++ rest := by rw [List.reverse_reverse, hrest, List.take_append_drop]
      have hlen : ((st.take r2).reverse).length = mo_na r1 := by
        rw [List.length_reverse, List.length_take, ← hn]
        omega
      rw [hst]
      exact mo_callS Cx hmj hlk hist hlen hd hr hcat hsz hM hfit kk
    | ireturn =>
      have hL := of_decide_eq_true hL
      obtain ⟨x, rfl, h01, hrr⟩ := mo_d_iret h
      refine ⟨hret.1 _ _ hrr, fun a1 a2 a3 H locs lr hr hl hq => hret.2 _ _ _ _ _ _ _ _ hrr a1 a2 hr hq hd (Or.inl ⟨rfl, x, rfl, rfl, ?_⟩)⟩
      rcases hL with q | q
      · exact Or.inl q.1
      · exact Or.inr ⟨q.1, h01 q.2⟩
    | lreturn =>
      obtain ⟨x, rfl, hrr⟩ := mo_d_lret h
      exact ⟨hret.1 _ _ hrr, fun a1 a2 a3 H locs lr hr hl hq => hret.2 _ _ _ _ _ _ _ _ hrr a1 a2 hr hq hd (Or.inr (Or.inl ⟨rfl, of_decide_eq_true hL, x, rfl, rfl⟩))⟩
    | areturn =>
      obtain ⟨x, rfl, hv, hrr⟩ := mo_d_aret h
      have hL : (match mo_rt mi with
          | some (.object _) => true
          | _ => false) = true := hL
      refine ⟨hret.1 _ _ hrr, fun a1 a2 a3 H locs lr hr hl hq => hret.2 _ _ _ _ _ _ _ _ hrr a1 a2 hr hq hd (Or.inr (Or.inr (Or.inl ⟨rfl, ?_, x, rfl, rfl, hv⟩)))⟩
      split at hL
      · rename_i nm hnm
        exact ⟨nm, hnm⟩
      · cases hL
    | return_ =>
      obtain ⟨rfl, hrr⟩ := mo_d_vret h
      exact ⟨hret.1 _ _ hrr, fun a1 a2 a3 H locs lr hr hl hq => hret.2 _ _ _ _ _ _ _ _ hrr a1 a2 hr hq hd (Or.inr (Or.inr (Or.inr ⟨rfl, of_decide_eq_true hL, rfl, rfl⟩)))⟩
    | _ =>
      exact False.elim h.1
end MoS
