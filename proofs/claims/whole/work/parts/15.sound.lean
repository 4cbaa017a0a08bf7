/-! the counts grow -/
def mo_grow (μ : mo_Mem) (o : mo_O) : Prop := match o.2 with
  | .inl s => mo_X μ ≤ mo_X s.2.2.2 ∧ mo_S μ ≤ mo_S s.2.2.2
  | .inr (.inl b) => b.2.1.2.2.2 = μ ∧ b.2.2.2.2.2 = μ
  | .inr (.inr (.inl c)) => c.1 < 126 ∧ c.2.2.1 = μ
  | .inr (.inr (.inr r)) => r.2 = μ
theorem mo_le2 (μ : mo_Mem) : mo_X μ ≤ mo_X μ ∧ mo_S μ ≤ mo_S μ := ⟨Nat.le_refl _, Nat.le_refl _⟩
theorem mo_gr_bad (μ : mo_Mem) : mo_grow μ (mo_bad μ) := rfl
theorem mo_gr_ldI (np i : Nat) (ls : mo_LV) (st : List Value) (μ : mo_Mem) : mo_grow μ (mo_ldI np i ls st μ) := by
  unfold mo_ldI
  split
  · exact mo_le2 μ
  · exact mo_gr_bad μ
theorem mo_gr_ldL (np i : Nat) (ls : mo_LV) (st : List Value) (μ : mo_Mem) : mo_grow μ (mo_ldL np i ls st μ) := by
  unfold mo_ldL
  split
  · exact mo_le2 μ
  · exact mo_gr_bad μ
theorem mo_gr_ldA (np i : Nat) (ls : mo_LV) (st : List Value) (μ : mo_Mem) : mo_grow μ (mo_ldA np i ls st μ) := by
  unfold mo_ldA
  split
  · exact mo_le2 μ
  · exact mo_gr_bad μ
theorem mo_gr_sI (np i : Nat) (ls : mo_LV) (st : List Value) (μ : mo_Mem) : mo_grow μ (mo_sI np i ls st μ) := by
  unfold mo_sI
  split
  · exact mo_le2 μ
  · exact mo_gr_bad μ
theorem mo_gr_sL (np i : Nat) (ls : mo_LV) (st : List Value) (μ : mo_Mem) : mo_grow μ (mo_sL np i ls st μ) := by
  unfold mo_sL
  split
  · exact mo_le2 μ
  · exact mo_gr_bad μ
theorem mo_gr_sA (np i : Nat) (ls : mo_LV) (st : List Value) (μ : mo_Mem) : mo_grow μ (mo_sA np i ls st μ) := by
  unfold mo_sA
  split
  · exact mo_le2 μ
  · exact mo_gr_bad μ
theorem mo_gr_inc (np i : Nat) (n : Int) (ls : mo_LV) (st : List Value) (μ : mo_Mem) : mo_grow μ (mo_inc np i n ls st μ) := by
  unfold mo_inc
  split
  · exact mo_le2 μ
  · exact mo_gr_bad μ
theorem mo_gr_ii (f : Int32 → Int32 → Int32) (np : Nat) (ls : mo_LV) (st : List Value) (μ : mo_Mem) : mo_grow μ (mo_ii f np ls st μ) := by
  unfold mo_ii
  split
  · exact mo_le2 μ
  · exact mo_gr_bad μ
theorem mo_gr_id (f : Int32 → Int32 → Int32) (np : Nat) (ls : mo_LV) (st : List Value) (μ : mo_Mem) : mo_grow μ (mo_id f np ls st μ) := by
  unfold mo_id
  split
  · exact mo_le2 μ
  · exact mo_gr_bad μ
theorem mo_gr_ll (f : Int64 → Int64 → Int64) (np : Nat) (ls : mo_LV) (st : List Value) (μ : mo_Mem) : mo_grow μ (mo_ll f np ls st μ) := by
  unfold mo_ll
  split
  · exact mo_le2 μ
  · exact mo_gr_bad μ
theorem mo_gr_ld (f : Int64 → Int64 → Int64) (np : Nat) (ls : mo_LV) (st : List Value) (μ : mo_Mem) : mo_grow μ (mo_ld f np ls st μ) := by
  unfold mo_ld
  split
  · exact mo_le2 μ
  · exact mo_gr_bad μ
theorem mo_gr_shl (np : Nat) (ls : mo_LV) (st : List Value) (μ : mo_Mem) : mo_grow μ (mo_shl np ls st μ) := by
  unfold mo_shl
  split
  · exact mo_le2 μ
  · exact mo_gr_bad μ
theorem mo_gr_cmp (np : Nat) (ls : mo_LV) (st : List Value) (μ : mo_Mem) : mo_grow μ (mo_cmp np ls st μ) := by
  unfold mo_cmp
  split
  · exact mo_le2 μ
  · exact mo_gr_bad μ
theorem mo_gr_i2l (np : Nat) (ls : mo_LV) (st : List Value) (μ : mo_Mem) : mo_grow μ (mo_i2l np ls st μ) := by
  unfold mo_i2l
  split
  · exact mo_le2 μ
  · exact mo_gr_bad μ
theorem mo_gr_l2i (np : Nat) (ls : mo_LV) (st : List Value) (μ : mo_Mem) : mo_grow μ (mo_l2i np ls st μ) := by
  unfold mo_l2i
  split
  · exact mo_le2 μ
  · exact mo_gr_bad μ
theorem mo_gr_dup (np : Nat) (ls : mo_LV) (st : List Value) (μ : mo_Mem) : mo_grow μ (mo_dup np ls st μ) := by
  unfold mo_dup
  split
  · exact mo_le2 μ
  · exact mo_gr_bad μ
theorem mo_gr_dup2 (np : Nat) (ls : mo_LV) (st : List Value) (μ : mo_Mem) : mo_grow μ (mo_dup2 np ls st μ) := by
  unfold mo_dup2
  split
  · exact mo_le2 μ
  · exact mo_gr_bad μ
theorem mo_gr_pop (np : Nat) (ls : mo_LV) (st : List Value) (μ : mo_Mem) : mo_grow μ (mo_pop np ls st μ) := by
  unfold mo_pop
  split
  · exact mo_le2 μ
  · exact mo_gr_bad μ
theorem mo_gr_lald (np : Nat) (ls : mo_LV) (st : List Value) (μ : mo_Mem) : mo_grow μ (mo_lald np ls st μ) := by
  unfold mo_lald
  split
  · exact mo_le2 μ
  · exact mo_gr_bad μ
theorem mo_gr_aald (np : Nat) (ls : mo_LV) (st : List Value) (μ : mo_Mem) : mo_grow μ (mo_aald np ls st μ) := by
  unfold mo_aald
  split
  · exact mo_le2 μ
  · exact mo_gr_bad μ
theorem mo_gr_iast (np : Nat) (ls : mo_LV) (st : List Value) (μ : mo_Mem) : mo_grow μ (mo_iast np ls st μ) := by
  unfold mo_iast
  split
  · exact mo_le2 μ
  · exact mo_gr_bad μ
theorem mo_gr_zast (np : Nat) (ls : mo_LV) (st : List Value) (μ : mo_Mem) : mo_grow μ (mo_zast np ls st μ) := by
  unfold mo_zast
  split
  · exact mo_le2 μ
  · exact mo_gr_bad μ
theorem mo_gr_last (np : Nat) (ls : mo_LV) (st : List Value) (μ : mo_Mem) : mo_grow μ (mo_last np ls st μ) := by
  unfold mo_last
  split
  · exact mo_le2 μ
  · exact mo_gr_bad μ
theorem mo_gr_aast (np : Nat) (ls : mo_LV) (st : List Value) (μ : mo_Mem) : mo_grow μ (mo_aast np ls st μ) := by
  unfold mo_aast
  split
  · exact mo_le2 μ
  · exact mo_gr_bad μ
theorem mo_gr_alen (np : Nat) (ls : mo_LV) (st : List Value) (μ : mo_Mem) : mo_grow μ (mo_alen np ls st μ) := by
  unfold mo_alen
  split
  · exact mo_le2 μ
  · exact mo_gr_bad μ
theorem mo_gr_invO (np : Nat) (ls : mo_LV) (st : List Value) (μ : mo_Mem) : mo_grow μ (mo_invO np ls st μ) := by
  unfold mo_invO
  split
  · exact mo_le2 μ
  · exact mo_gr_bad μ
theorem mo_gr_if (c : Jvm.ClassFile.Cond) (tgt : Nat) (np : Nat) (ls : mo_LV) (st : List Value) (μ : mo_Mem) : mo_grow μ (mo_if c tgt np ls st μ) := by
  unfold mo_if
  split
  · exact ⟨rfl, rfl⟩
  · exact mo_gr_bad μ
theorem mo_gr_icmp (c : Jvm.ClassFile.Cond) (tgt : Nat) (np : Nat) (ls : mo_LV) (st : List Value) (μ : mo_Mem) : mo_grow μ (mo_icmp c tgt np ls st μ) := by
  unfold mo_icmp
  split
  · exact ⟨rfl, rfl⟩
  · exact mo_gr_bad μ
theorem mo_gr_acmpne (tgt : Nat) (np : Nat) (ls : mo_LV) (st : List Value) (μ : mo_Mem) : mo_grow μ (mo_acmpne tgt np ls st μ) := by
  unfold mo_acmpne
  split
  · exact ⟨rfl, rfl⟩
  · exact mo_gr_bad μ
theorem mo_gr_nul (tn tr : Nat) (ls : mo_LV) (st : List Value) (μ : mo_Mem) : mo_grow μ (mo_nul tn tr ls st μ) := by
  unfold mo_nul
  split
  · exact ⟨rfl, rfl⟩
  · exact mo_gr_bad μ
theorem mo_gr_get (tag key kd : Nat) (np : Nat) (ls : mo_LV) (st : List Value) (μ : mo_Mem) : mo_grow μ (mo_get tag key kd np ls st μ) := by
  unfold mo_get
  split
  · exact mo_le2 μ
  · exact mo_gr_bad μ
theorem mo_gr_putI (tag key : Nat) (np : Nat) (ls : mo_LV) (st : List Value) (μ : mo_Mem) : mo_grow μ (mo_putI tag key np ls st μ) := by
  unfold mo_putI
  split
  · exact mo_le2 μ
  · exact mo_gr_bad μ
theorem mo_gr_putZ (tag key : Nat) (np : Nat) (ls : mo_LV) (st : List Value) (μ : mo_Mem) : mo_grow μ (mo_putZ tag key np ls st μ) := by
  unfold mo_putZ
  split
  · exact mo_le2 μ
  · exact mo_gr_bad μ
theorem mo_gr_putL (tag key : Nat) (np : Nat) (ls : mo_LV) (st : List Value) (μ : mo_Mem) : mo_grow μ (mo_putL tag key np ls st μ) := by
  unfold mo_putL
  split
  · exact mo_le2 μ
  · exact mo_gr_bad μ
theorem mo_gr_putR (tag key : Nat) (np : Nat) (ls : mo_LV) (st : List Value) (μ : mo_Mem) : mo_grow μ (mo_putR tag key np ls st μ) := by
  unfold mo_putR
  split
  · exact mo_le2 μ
  · exact mo_gr_bad μ
theorem mo_gr_put (tag key kd : Nat) (np : Nat) (ls : mo_LV) (st : List Value) (μ : mo_Mem) : mo_grow μ (mo_put tag key kd np ls st μ) := by
  unfold mo_put
  split
  · exact mo_gr_putI _ _ _ _ _ _
  · exact mo_gr_putL _ _ _ _ _ _
  · exact mo_gr_putR _ _ _ _ _ _
  · exact mo_gr_putZ _ _ _ _ _ _
theorem mo_gr_iald (tag : Nat) (np : Nat) (ls : mo_LV) (st : List Value) (μ : mo_Mem) : mo_grow μ (mo_iald tag np ls st μ) := by
  unfold mo_iald
  split
  · exact mo_le2 μ
  · exact mo_gr_bad μ
theorem mo_gr_newa (tag : Nat) (np : Nat) (ls : mo_LV) (st : List Value) (μ : mo_Mem) : mo_grow μ (mo_newa tag np ls st μ) := by
  unfold mo_newa
  split
  · exact ⟨Nat.le_succ _, Nat.le_add_right _ _⟩
  · exact mo_gr_bad μ
theorem mo_gr_invV (mj n tag : Nat) (h : mj < 126) (np : Nat) (ls : mo_LV) (st : List Value) (μ : mo_Mem) : mo_grow μ (mo_invV mj n tag np ls st μ) := by
  unfold mo_invV
  split
  · exact ⟨h, rfl⟩
  · exact mo_gr_bad μ
theorem mo_gr_invI (mj n : Nat) (h : mj < 126) (np : Nat) (ls : mo_LV) (st : List Value) (μ : mo_Mem) : mo_grow μ (mo_invI mj n np ls st μ) := by
  unfold mo_invI
  split
  · exact ⟨h, rfl⟩
  · exact mo_gr_bad μ
theorem mo_gr_lret (st : List Value) (μ : mo_Mem) : mo_grow μ (mo_lret st μ) := by
  unfold mo_lret
  split
  · exact rfl
  · exact mo_gr_bad μ
theorem mo_gr_aret (st : List Value) (μ : mo_Mem) : mo_grow μ (mo_aret st μ) := by
  unfold mo_aret
  split
  · exact rfl
  · exact mo_gr_bad μ
theorem mo_gr_vret (st : List Value) (μ : mo_Mem) : mo_grow μ (mo_vret st μ) := by
  unfold mo_vret
  split
  · exact rfl
  · exact mo_gr_bad μ
theorem mo_gr_iret (z : Nat) (st : List Value) (μ : mo_Mem) : mo_grow μ (mo_iret z st μ) := by
  unfold mo_iret
  split
  · exact rfl
  · exact mo_gr_bad μ
theorem mo_gr_sw (np : Nat) (d lo hi : Int) (os : Array Int) (ls : mo_LV) (st : List Value) (μ : mo_Mem) : mo_grow μ (mo_sw np d lo hi os ls st μ) := by
  unfold mo_sw
  split
  · exact mo_le2 μ
  · exact mo_gr_bad μ
theorem mo_grows {mi pc r1 r2 r3 r4 : Nat} {i : Instr} (hm : mi ≤ 126) (hT : mo_T mi pc = some (i, r1, r2, r3, r4)) (ls : mo_LV) (st : List Value) (μ : mo_Mem) : mo_grow μ (mo_step i r1 r2 r3 pc ls st μ) := by
  have hok := mo_ok_all mi pc hm _ hT
  unfold mo_okE at hok
  rw [Bool.and_eq_true] at hok
  have hL := hok.2
  dsimp only at hL
  cases i with
  | iconst n => exact mo_le2 μ
  | bipush n => exact mo_le2 μ
  | sipush n => exact mo_le2 μ
  | lconst n => exact mo_le2 μ
  | aconst_null => exact mo_le2 μ
  | ldc2_w k => exact mo_le2 μ
  | goto f => exact mo_le2 μ
  | iload_n j => exact mo_gr_ldI _ _ _ _ _
  | iload j => exact mo_gr_ldI _ _ _ _ _
  | lload_n j => exact mo_gr_ldL _ _ _ _ _
  | lload j => exact mo_gr_ldL _ _ _ _ _
  | aload_n j => exact mo_gr_ldA _ _ _ _ _
  | aload j => exact mo_gr_ldA _ _ _ _ _
  | istore_n j => exact mo_gr_sI _ _ _ _ _
  | istore j => exact mo_gr_sI _ _ _ _ _
  | lstore_n j => exact mo_gr_sL _ _ _ _ _
  | lstore j => exact mo_gr_sL _ _ _ _ _
  | astore_n j => exact mo_gr_sA _ _ _ _ _
  | astore j => exact mo_gr_sA _ _ _ _ _
  | iinc j n => exact mo_gr_inc _ _ _ _ _ _
  | iadd => exact mo_gr_ii _ _ _ _ _
  | isub => exact mo_gr_ii _ _ _ _ _
  | imul => exact mo_gr_ii _ _ _ _ _
  | iand => exact mo_gr_ii _ _ _ _ _
  | idiv => exact mo_gr_id _ _ _ _ _
  | irem => exact mo_gr_id _ _ _ _ _
  | ladd => exact mo_gr_ll _ _ _ _ _
  | lsub => exact mo_gr_ll _ _ _ _ _
  | land => exact mo_gr_ll _ _ _ _ _
  | lor => exact mo_gr_ll _ _ _ _ _
  | ldiv => exact mo_gr_ld _ _ _ _ _
  | lshl => exact mo_gr_shl _ _ _ _
  | lcmp => exact mo_gr_cmp _ _ _ _
  | i2l => exact mo_gr_i2l _ _ _ _
  | l2i => exact mo_gr_l2i _ _ _ _
  | dup => exact mo_gr_dup _ _ _ _
  | dup2 => exact mo_gr_dup2 _ _ _ _
  | pop => exact mo_gr_pop _ _ _ _
  | laload => exact mo_gr_lald _ _ _ _
  | aaload => exact mo_gr_aald _ _ _ _
  | iastore => exact mo_gr_iast _ _ _ _
  | bastore => exact mo_gr_zast _ _ _ _
  | lastore => exact mo_gr_last _ _ _ _
  | aastore => exact mo_gr_aast _ _ _ _
  | arraylength => exact mo_gr_alen _ _ _ _
  | ifCond cd f => exact mo_gr_if _ _ _ _ _ _
  | if_icmp cd f => exact mo_gr_icmp _ _ _ _ _ _
  | if_acmp cd f =>
    cases cd with
    | eq => exact mo_gr_bad μ
    | ne => exact mo_gr_acmpne _ _ _ _ _
  | ifnull f => exact mo_gr_nul _ _ _ _ _
  | ifnonnull f => exact mo_gr_nul _ _ _ _ _
  | tableswitch d lo hi os => exact mo_gr_sw _ _ _ _ _ _ _ _
  | getfield k => exact mo_gr_get _ _ _ _ _ _ _
  | putfield k => exact mo_gr_put _ _ _ _ _ _ _
  | iaload => exact mo_gr_iald _ _ _ _ _
  | baload => exact mo_gr_iald _ _ _ _ _
  | new k => exact ⟨Nat.le_succ _, Nat.le_add_right _ _⟩
  | newarray t => exact mo_gr_newa _ _ _ _ _
  | anewarray t => exact mo_gr_newa _ _ _ _ _
  | invokevirtual k =>
    have hL : (decide (r1 < 126) && mo_lk mi k r1 r4 && decide (r2 = mo_na r1) && decide (r3 = mo_ctag r1) && !mo_isSt r1 && decide ((mo_Y r1).name ≠ "<init>")) = true := hL
    simp only [Bool.and_eq_true, decide_eq_true_eq, Bool.not_eq_true'] at hL
    exact mo_gr_invV _ _ _ hL.1.1.1.1.1 _ _ _ _
  | invokespecial k =>
    have hL : (if r1 = 999 then decide (lw_tbl[r4]? = some (Cond.methodLink (mo_own mi) k Lib.objectInit)) else decide (r1 < 126) && mo_lk mi k r1 r4 && decide (r2 = mo_na r1) && !mo_isSt r1 && decide ((mo_Y r1).name = "<init>") && decide (mo_rt r1 = none)) = true := hL
    show mo_grow μ (mo_sp r1 r2 (pc + 3) ls st μ)
    unfold mo_sp
    by_cases h999 : r1 = 999
    · rw [decide_eq_true h999]
      exact mo_gr_invO _ _ _ _
    · rw [if_neg h999] at hL
      rw [decide_eq_false h999]
      simp only [Bool.and_eq_true, decide_eq_true_eq, Bool.not_eq_true'] at hL
      exact mo_gr_invI _ _ hL.1.1.1.1.1 _ _ _ _
  | invokestatic k =>
    have hL : (decide (r1 < 126) && mo_lk mi k r1 r4 && decide (r2 = mo_na r1) && mo_isSt r1) = true := hL
    simp only [Bool.and_eq_true, decide_eq_true_eq] at hL
    exact ⟨hL.1.1.1, rfl⟩
  | ireturn => exact mo_gr_iret _ _ _
  | lreturn => exact mo_gr_lret _ _
  | areturn => exact mo_gr_aret _ _
  | return_ => exact mo_gr_vret _ _
  | _ => exact mo_gr_bad μ
/-- what stands behind a call -/
theorem mo_entW {vs : List Value} {n : Nat} (h : (mo_ol vs).length ≤ n) : ∃ lr : Array Slot, (∀ m : MethodId, entryFrame m vs.toArray n = F0 m 0 lr []) ∧ mo_lsR lr (mo_ent n vs) ∧ (mo_ent n vs).length = n := by
  have e1 : ∀ vs : List Value, (mo_ol vs).length = (lg_sl vs).length := by
    intro vs
    induction vs with
    | nil => rfl
    | cons v t ih =>
      simp only [mo_ol, lg_sl, List.flatMap_cons, List.length_append] at ih ⊢
      rw [ih]
      congr 1
      by_cases hc : v.category = 2 <;> simp [hc]
  have hlen : (mo_ent n vs).length = n := by simp [mo_ent]; omega
  have hl : (lg_sl vs).length ≤ n := by rw [← e1]; exact h
  have hE := lv_entry vs hl
  refine ⟨(lg_sl vs ++ List.replicate (n - (lg_sl vs).length) Slot.unset).toArray, fun m => lg_entry_eq m vs n, ?_, hlen⟩
  refine ⟨by rw [hlen]; exact hE.1, hE.2.1, ?_⟩
  rintro ⟨i, v⟩ hq
  have hq := mo_asc_mem.mp hq
  have key : ∀ (vs : List Value) (i : Nat) (v : Value), (mo_ol vs)[i]? = some (some v) → (lg_sl vs)[i]? = some (.val v) := by
    intro vs
    induction vs with
    | nil => intro i v h; cases h
    | cons w t ih =>
      intro i v h
      by_cases hc : w.category = 2
      · have a1 : mo_ol (w :: t) = some w :: none :: mo_ol t := by simp [mo_ol, hc]
        have a2 : lg_sl (w :: t) = .val w :: .second :: lg_sl t := by simp [lg_sl, hc]
        rw [a1] at h
        rw [a2]
        match i, h with
        | 0, h => simp at h ⊢; exact h
        | 1, h => simp at h
        | i + 2, h => simp at h ⊢; exact ih i v h
      · have a1 : mo_ol (w :: t) = some w :: mo_ol t := by simp [mo_ol, hc]
        have a2 : lg_sl (w :: t) = .val w :: lg_sl t := by simp [lg_sl, hc]
        rw [a1] at h
        rw [a2]
        match i, h with
        | 0, h => simp at h ⊢; exact h
        | i + 1, h => simp at h ⊢; exact ih i v h
  unfold mo_ent at hq
  by_cases hi : i < (mo_ol vs).length
  · rw [List.getElem?_append_left hi] at hq
    have := key vs i v hq
    show (lg_sl vs ++ List.replicate (n - (lg_sl vs).length) Slot.unset).toArray[i]? = some (.val v)
    rw [List.getElem?_toArray, List.getElem?_append_left (by rw [← e1]; exact hi)]
    exact this
  · rw [List.getElem?_append_right (by omega), List.getElem?_replicate] at hq
    split at hq <;> cases hq
def mo_rm (d mc ms : Nat) : Room := { frames := d, cells := mc, slots := ms, locals := 45 * d }
/-- THE SMALL MACHINE TELLS THE TRUTH of every method -/
theorem mo_sound (l : Launch) (D : va_G) (CA : Nat → ClassId) (S b : Nat) (scr : Cell) (d : Nat) : ∀ mj, mj < 126 → ∀ vs μ v μ', mo_M d mj vs μ (fun w ν => w = v ∧ ν = μ') → mo_X μ ≤ mo_X μ' ∧ mo_S μ ≤ mo_S μ' ∧ mo_met l D CA S b scr (mo_rm d (mo_X μ' - mo_X μ) (mo_S μ' - mo_S μ)) mj vs μ v μ' := by
  induction d with
  | zero => intro mj _ vs μ v μ' h; exact h.elim
  | succ d ih =>
    intro mj hmj vs μ v μ' h
    obtain ⟨hol, hwp⟩ := h
    obtain ⟨⟨w1, w2, w3, w4, w5, w6, w7⟩, -⟩ := mo_okM_spec hmj
    have hmon : mo_X μ ≤ mo_X μ' ∧ mo_S μ ≤ mo_S μ' := by
      refine hwp (fun t => mo_X t.2.2.2 ≤ mo_X μ' ∧ mo_S t.2.2.2 ≤ mo_S μ') ?_
      rintro ⟨pc, ls, st, ν⟩ ht
      unfold mo_s1 at ht
      dsimp only at ht
      cases hT : mo_T mj pc with
      | none => rw [hT] at ht; exact ht.elim
      | some en =>
        rw [hT] at ht
        dsimp only at ht
        obtain ⟨i, r1, r2, r3, r4⟩ := en
        have hg := mo_grows (by omega) hT ls st ν
        dsimp only at ht
        have hstep : ∀ o : mo_O, mo_den (mo_M d) (fun w ν => w = v ∧ ν = μ') (fun t => mo_X t.2.2.2 ≤ mo_X μ' ∧ mo_S t.2.2.2 ≤ mo_S μ') o → mo_grow ν o → mo_X ν ≤ mo_X μ' ∧ mo_S ν ≤ mo_S μ' := by
          rintro ⟨p, n⟩ hden g
          have h2 := hden.2
          rcases n with s | bb | cc | r
          · have g : mo_X ν ≤ mo_X s.2.2.2 ∧ mo_S ν ≤ mo_S s.2.2.2 := g
            have h2 : mo_X s.2.2.2 ≤ mo_X μ' ∧ mo_S s.2.2.2 ≤ mo_S μ' := h2
            omega
          · have g : bb.2.1.2.2.2 = ν ∧ bb.2.2.2.2.2 = ν := g
            by_cases hb : bb.1
            · have := h2.1 hb
              dsimp only at this
              rw [g.1] at this
              exact this
            · have := h2.2 hb
              dsimp only at this
              rw [g.2] at this
              exact this
          · have g : cc.1 < 126 ∧ cc.2.2.1 = ν := g
            obtain ⟨v1, μ1, q1, q2⟩ := mo_M_det h2
            have q3 := ih cc.1 g.1 _ _ _ _ q2
            have q1 : mo_X μ1 ≤ mo_X μ' ∧ mo_S μ1 ≤ mo_S μ' := q1
            rw [g.2] at q3
            omega
          · have g : r.2 = ν := g
            have e2 : r.2 = μ' := h2.2
            rw [← g, e2]
            exact ⟨Nat.le_refl _, Nat.le_refl _⟩
        exact hstep _ ht hg
    refine ⟨hmon.1, hmon.2, ?_⟩
    unfold mo_met
    refine Met.ofW (cc := mo_B mj) (maxL := mo_ml mj) (ret := mo_rt mj) w6 rfl ?_
    intro p e s m args below meth c s₁ B hml hv
    obtain ⟨rfl, hrel, hK⟩ := hv
    have hts0 : ∀ w ∈ (Cond.code (mo_Y mj) (mo_B mj) (mo_ml mj) (mo_rt mj) :: mo_WS), w.before vs.toArray s = true := atoms_spec B.pre
    have hts : ∀ w ∈ mo_WS, w.before vs.toArray s = true := fun w hw => hts0 w (List.mem_cons_of_mem _ hw)
    have hown : s.vm.findClass (mo_own mj) = some m.cls := by rw [← w5]; exact findClass_of_methodNamed B.named
    have hnm : (mo_Y mj).name = "<init>" → meth.name = "<init>" := fun q => q ▸ (name_of_methodNamed B.named B.method).1
    obtain ⟨lr, hent, hls, hlen⟩ := mo_entW hol
    rw [hent m]
    have Cx : mo_Cx p (mo_rm (d + 1) (mo_X μ' - mo_X μ) (mo_S μ' - mo_S μ)) s m vs.toArray meth c D CA scr mj (mo_X μ) (mo_S μ) (mo_X μ') (mo_S μ') :=
      ⟨B.exec, B.bytes, hml, hown, hts, hK, hnm, Nat.le_refl _, Nat.le_refl _, by show 1 ≤ d + 1; omega, by show 20 ≤ 45 * (d + 1); omega⟩
    have hcal : ∀ mk us ν P, mk < 126 → mo_M d mk us ν P → ∃ w ν', P w ν' ∧ mo_calOK l D CA S b scr (mo_rm (d + 1) (mo_X μ' - mo_X μ) (mo_S μ' - mo_S μ)) mk us ν w ν' := by
      intro mk us ν P hmk hM
      obtain ⟨w, ν', q1, q2⟩ := mo_M_det hM
      obtain ⟨q3, q4, q5⟩ := ih mk hmk _ _ _ _ q2
      have := (mo_okM_spec hmk).1.2.2.2.2.2.2
      exact ⟨w, ν', q1, q3, q4, _, q5, rfl, rfl, by show d + 1 ≤ d + 1; omega, by show 8 + (mo_ml mk + 11) + 45 * d ≤ 45 * (d + 1); omega⟩
    have hret : mo_RetOK p l e (mo_rm (d + 1) (mo_X μ' - mo_X μ) (mo_S μ' - mo_S μ)) s m vs.toArray below meth c (MQ below (fun _ _ o t => o = .returned v ∧ mo_rel D CA S b scr μ' t.heap) vs.toArray s (mo_X μ' - mo_X μ) (mo_S μ' - mo_S μ) (fun q => S ≤ q)) D CA S b scr (mo_X μ) (mo_S μ) (mo_X μ') (mo_S μ') mj (fun w ν => w = v ∧ ν = μ') := by
      refine ⟨fun w ν q => by rw [q.2]; exact ⟨Nat.le_refl _, Nat.le_refl _⟩, ?_⟩
      rintro w ν pc lr st H locs i ⟨rfl, rfl⟩ _ _ hr hq hd hi
      have hlk : meth.locks = false := B.notSynchronized
      have hrt : meth.sig.returnType = mo_rt mj := B.returns
      rcases hi with ⟨rfl, x, rfl, rfl, hz⟩ | ⟨rfl, hz, x, rfl, rfl⟩ | ⟨rfl, ⟨nm, hz⟩, w, rfl, rfl, hv⟩ | ⟨rfl, hz, rfl, rfl⟩
      · rcases hz with hz | ⟨hz, h01⟩
        · exact W.iret B.exec B.bytes (hrt.trans hz) (fun t ht hW => ⟨rfl, by rw [ht]; exact hr⟩) hq hd hlk
        · exact W.zret B.exec B.bytes (hrt.trans hz) (mo_z01 h01) (fun t ht hW => ⟨rfl, by rw [ht]; exact hr⟩) hq hd hlk
      · exact W.lret B.exec B.bytes (hrt.trans hz) (fun t ht hW => ⟨rfl, by rw [ht]; exact hr⟩) hq hd hlk
      · exact W.aret B.exec B.bytes (hrt.trans hz) (Or.inl ⟨nm, rfl⟩) hv (fun t ht hW => ⟨rfl, by rw [ht]; exact hr⟩) hq hd hlk
      · exact W.vret B.exec B.bytes (hrt.trans hz) (fun t ht hW => ⟨rfl, by rw [ht]; exact hr⟩) hq hd hlk
    have hX := hwp _ (mo_stepW Cx (by omega) hcal hret)
    have := hX.2 (Nat.le_refl _) (Nat.le_refl _) hlen s.heap [] lr hrel hls (fun q hq => absurd hq List.not_mem_nil)
    dsimp only at this
    rw [Nat.sub_self, Nat.sub_self] at this
    exact this
