/-! The small machine's memory and the real heap. -/
def mo_el (μ : mo_Mem) (a j : Nat) : Value := if mo_C μ a = 21 then .long (mo_AL μ a j) else if 30 ≤ mo_C μ a then va_rf (mo_AR μ a j) else .int (mo_AI μ a j)
def mo_rel (D : va_G) (CA : Nat → ClassId) (S b : Nat) (scr : Cell) (μ : mo_Mem) (H : Heap) : Prop :=
  H.size = mo_X μ ∧ S ≤ mo_X μ ∧ b < S ∧ H[b]? = some scr ∧
  (∀ a, mo_C μ a ≠ 0 → (mo_C μ a = 19 ∧ a = b) ∨ (mo_C μ a ≠ 19 ∧ S ≤ a ∧ a < mo_X μ)) ∧
  (∀ a ci R T N, mo_C μ a = ci + 1 → mo_cl[ci]? = some (R, T, N) → t_OB a (D.1 ci) N (D.2 ci) H (fun j => mo_rd (mo_kd (T j).2.2.1) μ (64 * ci + j) a)) ∧
  (∀ a, 20 ≤ mo_C μ a → (mo_aty (mo_C μ a)).isSome = true ∧ H[a]? = some (arrV (CA (mo_C μ a)) (mo_N μ a) (mo_el μ a))) ∧
  (∀ a, mo_C μ a = 19 → scr.slots.size = mo_N μ a ∧ ∀ j, j < mo_N μ a → scr.slots[j]? = some (.int (mo_AI μ a j)))
def mo_KK (D : va_G) (CA : Nat → ClassId) (scr : Cell) (U : State) : Prop := (∀ (c : Nat) (q : vw_C), mo_cl[c]? = some q → u_Kn U q.1 q.2.1 q.2.2 (D.1 c) (D.2 c)) ∧ (∀ t ty, mo_aty t = some ty → ArrOfT U (CA t) ty ∧ va_RA U (CA t) ty) ∧ U.isArrayOf scr .int ∧ scr.vm ≠ .unknown
theorem mo_KK.moved {D : va_G} {CA : Nat → ClassId} {scr : Cell} {u U : State} (hvm : u.vm.Alike U.vm) (h : mo_KK D CA scr u) : mo_KK D CA scr U := ⟨fun c q hq => u_Kn_moved hvm (h.1 c q hq), fun t ty ht => ⟨arrOfT_moved hvm (h.2.1 t ty ht).1, (h.2.1 t ty ht).2.moved hvm⟩, State.isArrayOf_alike hvm h.2.2.1, h.2.2.2⟩
theorem mo_cl_lt {ci : Nat} {q : vw_C} (h : mo_cl[ci]? = some q) : ci < 13 := by
  have := (List.getElem?_eq_some_iff.mp h).1
  simpa [mo_cl] using this
theorem mo_rel_put {D : va_G} {CA : Nat → ClassId} {S b : Nat} {scr : Cell} {μ μ' : mo_Mem} {H H' : Heap} {a ci j : Nat} {R : String} {T : u_T} {N : Nat} {v : Value} (h : mo_rel D CA S b scr μ H) (hC : mo_C μ a = ci + 1) (hc : mo_cl[ci]? = some (R, T, N))
    (e1 : mo_C μ' = mo_C μ) (e2 : mo_N μ' = mo_N μ) (e3 : mo_AI μ' = mo_AI μ) (e4 : mo_AL μ' = mo_AL μ) (e5 : mo_AR μ' = mo_AR μ) (e6 : mo_X μ' = mo_X μ) (e7 : ∀ kd k' a', (k' ≠ 64 * ci + j ∨ a' ≠ a) → mo_rd kd μ' k' a' = mo_rd kd μ k' a') (e8 : mo_rd (mo_kd (T j).2.2.1) μ' (64 * ci + j) a = v)
    (hO : t_OB a (D.1 ci) N (D.2 ci) H' (updV (fun j => mo_rd (mo_kd (T j).2.2.1) μ (64 * ci + j) a) j v)) (hz : H'.size = H.size) (ho : ∀ q, q ≠ a → H'[q]? = H[q]?) : mo_rel D CA S b scr μ' H' := by
  obtain ⟨h1, h2, h3, h4, h5, h6, h7, h8⟩ := h
  have hlt := mo_cl_lt hc
  have hab : S ≤ a := by
    rcases h5 a (by omega) with q | q
    · omega
    · exact q.2.1
  have hel : ∀ a', mo_el μ' a' = mo_el μ a' := fun a' => by funext j; simp [mo_el, e1, e3, e4, e5]
  refine ⟨by rw [hz, e6, h1], by rw [e6]; exact h2, h3, by rw [ho b (by omega)]; exact h4, by rw [e1, e6]; exact h5, ?_, ?_, by rw [e1, e2, e3]; exact h8⟩
  · intro a' ci' R' T' N' hC' hc'
    rw [e1] at hC'
    by_cases ha : a' = a
    · subst ha
      have : ci' = ci := by omega
      subst this
      cases hc.symm.trans hc'
      refine hO.to (fun j' _ => ?_)
      unfold updV
      by_cases hj : j' = j
      · subst hj; rw [if_pos rfl]; exact e8.symm
      · rw [if_neg hj]; exact (e7 _ _ _ (Or.inl (by omega))).symm
    · exact ((h6 a' ci' R' T' N' hC' hc').kept (ho a' ha)).to (fun j' _ => (e7 _ _ _ (Or.inr ha)).symm)
  · intro a' hC'
    rw [e1] at hC' ⊢
    rw [e2, hel]
    have ha : a' ≠ a := fun q => by subst q; omega
    rw [ho a' ha]
    exact h7 a' hC'
theorem mo_rel_ast {D : va_G} {CA : Nat → ClassId} {S b : Nat} {scr : Cell} {μ μ' : mo_Mem} {H H' : Heap} {a i : Nat} {v : Value} (h : mo_rel D CA S b scr μ H) (hC : 20 ≤ mo_C μ a)
    (e1 : mo_C μ' = mo_C μ) (e2 : mo_N μ' = mo_N μ) (e3 : mo_I μ' = mo_I μ) (e4 : mo_L μ' = mo_L μ) (e5 : mo_R μ' = mo_R μ) (e6 : mo_X μ' = mo_X μ) (e7 : ∀ a', a' ≠ a → mo_AI μ' a' = mo_AI μ a' ∧ mo_el μ' a' = mo_el μ a') (e8 : mo_el μ' a = updV (mo_el μ a) i v)
    (hO : H'[a]? = some ((arrV (CA (mo_C μ a)) (mo_N μ a) (mo_el μ a)).setSlot i v)) (hz : H'.size = H.size) (ho : ∀ q, q ≠ a → H'[q]? = H[q]?) : mo_rel D CA S b scr μ' H' := by
  obtain ⟨h1, h2, h3, h4, h5, h6, h7, h8⟩ := h
  have hab : S ≤ a := by
    rcases h5 a (by omega) with q | q
    · omega
    · exact q.2.1
  refine ⟨by rw [hz, e6, h1], by rw [e6]; exact h2, h3, by rw [ho b (by omega)]; exact h4, by rw [e1, e6]; exact h5, ?_, ?_, ?_⟩
  · intro a' ci' R' T' N' hC' hc'
    rw [e1] at hC'
    have hlt := mo_cl_lt hc'
    have ha : a' ≠ a := fun q => by subst q; omega
    refine ((h6 a' ci' R' T' N' hC' hc').kept (ho a' ha)).to (fun j' _ => ?_)
    simp [mo_rd, e3, e4, e5]
  · intro a' hC'
    rw [e1] at hC' ⊢
    rw [e2]
    by_cases ha : a' = a
    · subst ha
      refine ⟨(h7 a' hC').1, ?_⟩
      rw [hO, arrV_store, e8]
    · rw [ho a' ha, (e7 a' ha).2]
      exact h7 a' hC'
  · intro a' hC'
    rw [e1] at hC'
    have ha : a' ≠ a := fun q => by subst q; omega
    rw [e2, (e7 a' ha).1]
    exact h8 a' hC'
theorem mo_rel_new {D : va_G} {CA : Nat → ClassId} {S b : Nat} {scr : Cell} {μ : mo_Mem} {H H' : Heap} {t ln n : Nat} (h : mo_rel D CA S b scr μ H) (h0 : t ≠ 0) (h19 : t ≠ 19)
    (hO : ∀ ci R T N, t = ci + 1 → mo_cl[ci]? = some (R, T, N) → t_OB (mo_X μ) (D.1 ci) N (D.2 ci) H' (fun j => mo_rd (mo_kd (T j).2.2.1) (mo_new μ t ln n) (64 * ci + j) (mo_X μ)))
    (hA : 20 ≤ t → (mo_aty t).isSome = true ∧ H'[mo_X μ]? = some (arrV (CA t) ln (mo_el (mo_new μ t ln n) (mo_X μ)))) (hz : H'.size = mo_X μ + 1) (ho : ∀ q, q < mo_X μ → H'[q]? = H[q]?) : mo_rel D CA S b scr (mo_new μ t ln n) H' := by
  obtain ⟨h1, h2, h3, h4, h5, h6, h7, h8⟩ := h
  have hlt : ∀ a, mo_C μ a ≠ 0 → a < mo_X μ := fun a q => by
    rcases h5 a q with r | r
    · omega
    · exact r.2.2
  have hCn : ∀ a, mo_C (mo_new μ t ln n) a = if a = mo_X μ then t else mo_C μ a := fun a => rfl
  have hrd : ∀ kd k a, a ≠ mo_X μ → mo_rd kd (mo_new μ t ln n) k a = mo_rd kd μ k a := fun kd k a q => by
    simp [mo_rd, mo_I_new, mo_L_new, mo_R_new, mo_z, q]
  have hel : ∀ a, a ≠ mo_X μ → mo_el (mo_new μ t ln n) a = mo_el μ a := fun a q => by
    funext j
    simp [mo_el, mo_C_new, mo_AI_new, mo_AL_new, mo_AR_new, mo_v, mo_y, q]
  refine ⟨hz, by show S ≤ mo_X μ + 1; omega, h3, by rw [ho b (by omega)]; exact h4, ?_, ?_, ?_, ?_⟩
  · intro a q
    rw [hCn] at q ⊢
    by_cases ha : a = mo_X μ
    · rw [if_pos ha]
      exact Or.inr ⟨h19, by omega, by show a < mo_X μ + 1; omega⟩
    · rw [if_neg ha] at q ⊢
      rcases h5 a q with r | r
      · exact Or.inl r
      · exact Or.inr ⟨r.1, r.2.1, by show a < mo_X μ + 1; omega⟩
  · intro a ci R T N hC hc
    rw [hCn] at hC
    by_cases ha : a = mo_X μ
    · rw [if_pos ha] at hC
      subst ha
      exact hO ci R T N hC hc
    · rw [if_neg ha] at hC
      refine ((h6 a ci R T N hC hc).kept (ho a (hlt a (by omega)))).to (fun j _ => (hrd _ _ _ ha).symm)
  · intro a hC
    rw [hCn] at hC ⊢
    by_cases ha : a = mo_X μ
    · rw [if_pos ha] at hC ⊢
      subst ha
      have hN : mo_N (mo_new μ t ln n) (mo_X μ) = ln := by simp [mo_N_new, mo_v]
      rw [hN]
      exact hA hC
    · rw [if_neg ha] at hC ⊢
      have hN : mo_N (mo_new μ t ln n) a = mo_N μ a := by simp [mo_N_new, mo_v, ha]
      rw [hN, hel a ha, ho a (hlt a (by omega))]
      exact h7 a hC
  · intro a hC
    rw [hCn] at hC
    by_cases ha : a = mo_X μ
    · rw [if_pos ha] at hC; exact absurd hC h19
    · rw [if_neg ha] at hC
      have hN : mo_N (mo_new μ t ln n) a = mo_N μ a := by simp [mo_N_new, mo_v, ha]
      have hI : mo_AI (mo_new μ t ln n) a = mo_AI μ a := by funext j; simp [mo_AI_new, mo_y, ha]
      rw [hN, hI]
      exact h8 a hC
/-! locals -/
def mo_asc (ls : mo_LV) : List (Nat × Value) := (List.range ls.length).filterMap (fun i => (ls[i]?).bind (fun o => o.map (fun v => (i, v))))
theorem mo_asc_mem {ls : mo_LV} {i : Nat} {v : Value} : (i, v) ∈ mo_asc ls ↔ ls[i]? = some (some v) := by
  unfold mo_asc
  rw [List.mem_filterMap]
  constructor
  · rintro ⟨j, hj, h⟩
    cases hl : ls[j]? with
    | none => rw [hl] at h; cases h
    | some o =>
      cases o with
      | none => rw [hl] at h; cases h
      | some w =>
        rw [hl] at h
        simp only [Option.bind_some, Option.map_some, Option.some.injEq, Prod.mk.injEq] at h
        obtain ⟨rfl, rfl⟩ := h
        exact hl
  · intro h
    refine ⟨i, List.mem_range.mpr ?_, by rw [h]; rfl⟩
    exact (List.getElem?_eq_some_iff.mp h).1
def mo_lsR (lr : Array Slot) (ls : mo_LV) : Prop := lv_has lr ls.length (mo_asc ls)
theorem mo_lsR.at {lr : Array Slot} {ls : mo_LV} (h : mo_lsR lr ls) {i : Nat} {v : Value} (hi : ls[i]? = some (some v)) : lr[i]? = some (.val v) := h.2.2 (i, v) (mo_asc_mem.mpr hi)
theorem mo_lsR.k {ls : mo_LV} {i : Nat} {v : Value} (hi : ls[i]? = some (some v)) : ∃ k : Nat, (mo_asc ls)[k]? = some (i, v) := List.getElem?_of_mem (mo_asc_mem.mpr hi)
theorem mo_st_len (ls : mo_LV) (i : Nat) (v : Value) : (mo_st ls i v).length = ls.length := by
  unfold mo_st
  split <;> simp
theorem mo_st2_len (ls : mo_LV) (i : Nat) (v : Value) : (mo_st2 ls i v).length = ls.length := by
  unfold mo_st2
  rw [List.length_set, mo_st_len]
theorem mo_st_at {ls : mo_LV} {i : Nat} {v : Value} {j : Nat} {w : Value} (h : (mo_st ls i v)[j]? = some (some w)) : (j = i ∧ w = v) ∨ (j ≠ i ∧ ls[j]? = some (some w) ∧ ¬ (j + 1 = i ∧ w.category = 2)) := by
  unfold mo_st at h
  by_cases hj : j = i
  · left
    subst hj
    rw [List.getElem?_set, if_pos rfl] at h
    rw [ite_eq_left_iff.mpr (fun q => by rw [if_neg q] at h; cases h)] at h
    exact ⟨rfl, (Option.some.inj (Option.some.inj h)).symm⟩
  · right
    rw [List.getElem?_set] at h
    rw [if_neg (Ne.symm hj)] at h
    by_cases hl : mo_lg ls i = true
    · rw [if_pos hl] at h
      rw [List.getElem?_set] at h
      by_cases hj2 : i - 1 = j
      · rw [if_pos hj2] at h
        split at h
        · cases h
        · cases h
      · rw [if_neg hj2] at h
        exact ⟨hj, h, fun q => hj2 (by omega)⟩
    · rw [if_neg hl] at h
      refine ⟨hj, h, fun q => hl ?_⟩
      obtain ⟨q1, q2⟩ := q
      subst q1
      rw [mo_lg_s, h]
      simp [q2]
theorem mo_lsR.st {lr' : Array Slot} {ls : mo_LV} {i : Nat} {v : Value} (h : lv_has lr' ls.length ((i, v) :: (mo_asc ls).filter (fun q => !(q.1 == i) && !(q.1 + 1 == i && q.2.category == 2)))) : mo_lsR lr' (mo_st ls i v) := by
  refine ⟨by rw [mo_st_len]; exact h.1, h.2.1, ?_⟩
  rintro ⟨j, w⟩ hq
  have hq := mo_asc_mem.mp hq
  refine h.2.2 (j, w) ?_
  rcases mo_st_at hq with ⟨rfl, rfl⟩ | ⟨h1, h2, h3⟩
  · exact List.mem_cons_self
  · refine List.mem_cons_of_mem _ (List.mem_filter.mpr ⟨mo_asc_mem.mpr h2, ?_⟩)
    simp only [Bool.and_eq_true, Bool.not_eq_true', beq_eq_false_iff_ne, Bool.and_eq_false_iff, ne_eq]
    refine ⟨h1, ?_⟩
    by_cases q : j + 1 = i
    · right; exact fun r => h3 ⟨q, r⟩
    · left; exact q
theorem mo_lsR.st2 {lr' : Array Slot} {ls : mo_LV} {i : Nat} {v : Value} (h : lv_has lr' ls.length ((i, v) :: (mo_asc ls).filter (fun q => !(q.1 == i) && (!(q.1 == i + 1) && !(q.1 + 1 == i && q.2.category == 2))))) : mo_lsR lr' (mo_st2 ls i v) := by
  refine ⟨by rw [mo_st2_len]; exact h.1, h.2.1, ?_⟩
  rintro ⟨j, w⟩ hq
  have hq := mo_asc_mem.mp hq
  refine h.2.2 (j, w) ?_
  unfold mo_st2 at hq
  rw [List.getElem?_set] at hq
  by_cases hj : i + 1 = j
  · rw [if_pos hj] at hq
    split at hq <;> cases hq
  · rw [if_neg hj] at hq
    rcases mo_st_at hq with ⟨rfl, rfl⟩ | ⟨h1, h2, h3⟩
    · exact List.mem_cons_self
    · refine List.mem_cons_of_mem _ (List.mem_filter.mpr ⟨mo_asc_mem.mpr h2, ?_⟩)
      simp only [Bool.and_eq_true, Bool.not_eq_true', beq_eq_false_iff_ne, Bool.and_eq_false_iff, ne_eq]
      refine ⟨h1, Ne.symm hj, ?_⟩
      by_cases q : j + 1 = i
      · right; exact fun r => h3 ⟨q, r⟩
      · left; exact q
theorem mo_lookup_mem {l : List (Nat × mo_E)} {pc : Nat} {e : mo_E} (h : l.lookup pc = some e) : (pc, e) ∈ l := by
  induction l with
  | nil => cases h
  | cons q l ih =>
    obtain ⟨k, e'⟩ := q
    rw [List.lookup_cons] at h
    by_cases hk : (pc == k) = true
    · rw [hk] at h
      simp only [Option.some.injEq] at h
      rw [beq_iff_eq] at hk
      subst hk; subst h
      exact List.mem_cons_self
    · simp only [hk] at h
      exact List.mem_cons_of_mem _ (ih h)
