section MoD
variable {cal : mo_Cal} {ret : mo_P} {X : mo_St → Prop} {np i : Nat} {ls : mo_LV} {st : List Value} {μ : mo_Mem}
theorem mo_d_ldI  (h : mo_den cal ret X (mo_ldI np i ls st μ)) : ∃ x, ls[i]? = some (some (.int x)) ∧ X (np, ls, .int x :: st, μ) := by
  unfold mo_ldI at h
  split at h
  · exact ⟨_, by assumption, h.2⟩
  · exact h.1.elim
theorem mo_d_ldL  (h : mo_den cal ret X (mo_ldL np i ls st μ)) : ∃ x, ls[i]? = some (some (.long x)) ∧ X (np, ls, .long x :: st, μ) := by
  unfold mo_ldL at h
  split at h
  · exact ⟨_, by assumption, h.2⟩
  · exact h.1.elim
theorem mo_d_ldA  (h : mo_den cal ret X (mo_ldA np i ls st μ)) : ∃ v, ls[i]? = some (some v) ∧ mo_isR v ∧ X (np, ls, v :: st, μ) := by
  unfold mo_ldA at h
  split at h
  · exact ⟨_, by assumption, h.1, h.2⟩
  · exact h.1.elim
theorem mo_d_sI  (h : mo_den cal ret X (mo_sI np i ls st μ)) : ∃ x st', st = .int x :: st' ∧ i < ls.length ∧ X (np, mo_st ls i (.int x), st', μ) := by
  unfold mo_sI at h
  split at h
  · exact ⟨_, _, rfl, h.1, h.2⟩
  · exact h.1.elim
theorem mo_d_sL  (h : mo_den cal ret X (mo_sL np i ls st μ)) : ∃ x st', st = .long x :: st' ∧ i + 1 < ls.length ∧ X (np, mo_st2 ls i (.long x), st', μ) := by
  unfold mo_sL at h
  split at h
  · exact ⟨_, _, rfl, h.1, h.2⟩
  · exact h.1.elim
theorem mo_d_sA  (h : mo_den cal ret X (mo_sA np i ls st μ)) : ∃ v st', st = v :: st' ∧ (mo_isR v ∧ i < ls.length) ∧ X (np, mo_st ls i v, st', μ) := by
  unfold mo_sA at h
  split at h
  · exact ⟨_, _, rfl, h.1, h.2⟩
  · exact h.1.elim
theorem mo_d_inc {n : Int} (h : mo_den cal ret X (mo_inc np i n ls st μ)) : ∃ x, ls[i]? = some (some (.int x)) ∧ X (np, mo_st ls i (.int (x + Int32.ofInt n)), st, μ) := by
  unfold mo_inc at h
  split at h
  · exact ⟨_, by assumption, h.2⟩
  · exact h.1.elim
theorem mo_d_ii {f : Int32 → Int32 → Int32} (h : mo_den cal ret X (mo_ii f np ls st μ)) : ∃ x y st', st = .int y :: .int x :: st' ∧ X (np, ls, .int (f x y) :: st', μ) := by
  unfold mo_ii at h
  split at h
  · exact ⟨_, _, _, rfl, h.2⟩
  · exact h.1.elim
theorem mo_d_id {f : Int32 → Int32 → Int32} (h : mo_den cal ret X (mo_id f np ls st μ)) : ∃ x y st', st = .int y :: .int x :: st' ∧ ¬ y = 0 ∧ X (np, ls, .int (f x y) :: st', μ) := by
  unfold mo_id at h
  split at h
  · exact ⟨_, _, _, rfl, h.1, h.2⟩
  · exact h.1.elim
theorem mo_d_ll {f : Int64 → Int64 → Int64} (h : mo_den cal ret X (mo_ll f np ls st μ)) : ∃ x y st', st = .long y :: .long x :: st' ∧ X (np, ls, .long (f x y) :: st', μ) := by
  unfold mo_ll at h
  split at h
  · exact ⟨_, _, _, rfl, h.2⟩
  · exact h.1.elim
theorem mo_d_ld {f : Int64 → Int64 → Int64} (h : mo_den cal ret X (mo_ld f np ls st μ)) : ∃ x y st', st = .long y :: .long x :: st' ∧ ¬ y = 0 ∧ X (np, ls, .long (f x y) :: st', μ) := by
  unfold mo_ld at h
  split at h
  · exact ⟨_, _, _, rfl, h.1, h.2⟩
  · exact h.1.elim
theorem mo_d_shl  (h : mo_den cal ret X (mo_shl np ls st μ)) : ∃ x y st', st = .int y :: .long x :: st' ∧ X (np, ls, .long (x <<< (y.toInt64 &&& 63)) :: st', μ) := by
  unfold mo_shl at h
  split at h
  · exact ⟨_, _, _, rfl, h.2⟩
  · exact h.1.elim
theorem mo_d_cmp  (h : mo_den cal ret X (mo_cmp np ls st μ)) : ∃ x y st', st = .long y :: .long x :: st' ∧ X (np, ls, .int (lg_cmp x y) :: st', μ) := by
  unfold mo_cmp at h
  split at h
  · exact ⟨_, _, _, rfl, h.2⟩
  · exact h.1.elim
theorem mo_d_i2l  (h : mo_den cal ret X (mo_i2l np ls st μ)) : ∃ x st', st = .int x :: st' ∧ X (np, ls, .long x.toInt64 :: st', μ) := by
  unfold mo_i2l at h
  split at h
  · exact ⟨_, _, rfl, h.2⟩
  · exact h.1.elim
theorem mo_d_l2i  (h : mo_den cal ret X (mo_l2i np ls st μ)) : ∃ x st', st = .long x :: st' ∧ X (np, ls, .int x.toInt32 :: st', μ) := by
  unfold mo_l2i at h
  split at h
  · exact ⟨_, _, rfl, h.2⟩
  · exact h.1.elim
theorem mo_d_dup  (h : mo_den cal ret X (mo_dup np ls st μ)) : ∃ v st', st = v :: st' ∧ v.category = 1 ∧ X (np, ls, v :: v :: st', μ) := by
  unfold mo_dup at h
  split at h
  · exact ⟨_, _, rfl, h.1, h.2⟩
  · exact h.1.elim
theorem mo_d_dup2  (h : mo_den cal ret X (mo_dup2 np ls st μ)) : ∃ v w st', st = v :: w :: st' ∧ (v.category = 1 ∧ w.category = 1) ∧ X (np, ls, v :: w :: v :: w :: st', μ) := by
  unfold mo_dup2 at h
  split at h
  · exact ⟨_, _, _, rfl, h.1, h.2⟩
  · exact h.1.elim
theorem mo_d_pop  (h : mo_den cal ret X (mo_pop np ls st μ)) : ∃ v st', st = v :: st' ∧ v.category = 1 ∧ X (np, ls, st', μ) := by
  unfold mo_pop at h
  split at h
  · exact ⟨_, _, rfl, h.1, h.2⟩
  · exact h.1.elim
theorem mo_d_if {c : Jvm.ClassFile.Cond} {tgt : Nat} (h : mo_den cal ret X (mo_if c tgt np ls st μ)) : ∃ x st', st = .int x :: st' ∧ (mo_cP c x 0 → X (tgt, ls, st', μ)) ∧ (¬ mo_cP c x 0 → X (np, ls, st', μ)) := by
  unfold mo_if at h
  split at h
  · exact ⟨_, _, rfl, h.2.1, h.2.2⟩
  · exact h.1.elim
theorem mo_d_icmp {c : Jvm.ClassFile.Cond} {tgt : Nat} (h : mo_den cal ret X (mo_icmp c tgt np ls st μ)) : ∃ x y st', st = .int y :: .int x :: st' ∧ (mo_cP c x y → X (tgt, ls, st', μ)) ∧ (¬ mo_cP c x y → X (np, ls, st', μ)) := by
  unfold mo_icmp at h
  split at h
  · exact ⟨_, _, _, rfl, h.2.1, h.2.2⟩
  · exact h.1.elim
theorem mo_d_acmpne {tgt : Nat} (h : mo_den cal ret X (mo_acmpne tgt np ls st μ)) : ∃ v w st', st = v :: w :: st' ∧ (mo_isR v ∧ mo_isR w) ∧ (¬ mo_rv w = mo_rv v → X (tgt, ls, st', μ)) ∧ (¬ ¬ mo_rv w = mo_rv v → X (np, ls, st', μ)) := by
  unfold mo_acmpne at h
  split at h
  · exact ⟨_, _, _, rfl, h.1, h.2.1, h.2.2⟩
  · exact h.1.elim
theorem mo_d_nul {tn tr : Nat} (h : mo_den cal ret X (mo_nul tn tr ls st μ)) : ∃ v st', st = v :: st' ∧ mo_isR v ∧ (mo_rv v = none → X (tn, ls, st', μ)) ∧ (¬ mo_rv v = none → X (tr, ls, st', μ)) := by
  unfold mo_nul at h
  split at h
  · exact ⟨_, _, rfl, h.1, h.2.1, h.2.2⟩
  · exact h.1.elim
theorem mo_d_get {tag key kd : Nat} (h : mo_den cal ret X (mo_get tag key kd np ls st μ)) : ∃ a st', st = .ref a :: st' ∧ mo_C μ a = tag ∧ X (np, ls, mo_rd kd μ key a :: st', μ) := by
  unfold mo_get at h
  split at h
  · exact ⟨_, _, rfl, h.1, h.2⟩
  · exact h.1.elim
theorem mo_d_putI {tag key : Nat} (h : mo_den cal ret X (mo_putI tag key np ls st μ)) : ∃ x a st', st = .int x :: .ref a :: st' ∧ mo_C μ a = tag ∧ X (np, ls, st', mo_wI μ key a x) := by
  unfold mo_putI at h
  split at h
  · exact ⟨_, _, _, rfl, h.1, h.2⟩
  · exact h.1.elim
theorem mo_d_putZ {tag key : Nat} (h : mo_den cal ret X (mo_putZ tag key np ls st μ)) : ∃ x a st', st = .int x :: .ref a :: st' ∧ (mo_C μ a = tag ∧ (x = 0 ∨ x = 1)) ∧ X (np, ls, st', mo_wI μ key a x) := by
  unfold mo_putZ at h
  split at h
  · exact ⟨_, _, _, rfl, h.1, h.2⟩
  · exact h.1.elim
theorem mo_d_putL {tag key : Nat} (h : mo_den cal ret X (mo_putL tag key np ls st μ)) : ∃ x a st', st = .long x :: .ref a :: st' ∧ mo_C μ a = tag ∧ X (np, ls, st', mo_wL μ key a x) := by
  unfold mo_putL at h
  split at h
  · exact ⟨_, _, _, rfl, h.1, h.2⟩
  · exact h.1.elim
theorem mo_d_putR {tag key : Nat} (h : mo_den cal ret X (mo_putR tag key np ls st μ)) : ∃ v a st', st = v :: .ref a :: st' ∧ (mo_C μ a = tag ∧ mo_isR v) ∧ X (np, ls, st', mo_wR μ key a (mo_rv v)) := by
  unfold mo_putR at h
  split at h
  · exact ⟨_, _, _, rfl, h.1, h.2⟩
  · exact h.1.elim
theorem mo_d_iald {tag : Nat} (h : mo_den cal ret X (mo_iald tag np ls st μ)) : ∃ k a st', st = .int k :: .ref a :: st' ∧ (mo_C μ a = tag ∧ vp_in k (mo_N μ a)) ∧ X (np, ls, .int (mo_AI μ a k.toNatClampNeg) :: st', μ) := by
  unfold mo_iald at h
  split at h
  · exact ⟨_, _, _, rfl, h.1, h.2⟩
  · exact h.1.elim
theorem mo_d_lald  (h : mo_den cal ret X (mo_lald np ls st μ)) : ∃ k a st', st = .int k :: .ref a :: st' ∧ (mo_C μ a = 21 ∧ vp_in k (mo_N μ a)) ∧ X (np, ls, .long (mo_AL μ a k.toNatClampNeg) :: st', μ) := by
  unfold mo_lald at h
  split at h
  · exact ⟨_, _, _, rfl, h.1, h.2⟩
  · exact h.1.elim
theorem mo_d_aald  (h : mo_den cal ret X (mo_aald np ls st μ)) : ∃ k a st', st = .int k :: .ref a :: st' ∧ (30 ≤ mo_C μ a ∧ vp_in k (mo_N μ a)) ∧ X (np, ls, va_rf (mo_AR μ a k.toNatClampNeg) :: st', μ) := by
  unfold mo_aald at h
  split at h
  · exact ⟨_, _, _, rfl, h.1, h.2⟩
  · exact h.1.elim
theorem mo_d_iast  (h : mo_den cal ret X (mo_iast np ls st μ)) : ∃ x k a st', st = .int x :: .int k :: .ref a :: st' ∧ (mo_C μ a = 20 ∧ vp_in k (mo_N μ a)) ∧ X (np, ls, st', mo_wAI μ a k.toNatClampNeg x) := by
  unfold mo_iast at h
  split at h
  · exact ⟨_, _, _, _, rfl, h.1, h.2⟩
  · exact h.1.elim
theorem mo_d_zast  (h : mo_den cal ret X (mo_zast np ls st μ)) : ∃ x k a st', st = .int x :: .int k :: .ref a :: st' ∧ (mo_C μ a = 22 ∧ vp_in k (mo_N μ a) ∧ (x = 0 ∨ x = 1)) ∧ X (np, ls, st', mo_wAI μ a k.toNatClampNeg x) := by
  unfold mo_zast at h
  split at h
  · exact ⟨_, _, _, _, rfl, h.1, h.2⟩
  · exact h.1.elim
theorem mo_d_last  (h : mo_den cal ret X (mo_last np ls st μ)) : ∃ x k a st', st = .long x :: .int k :: .ref a :: st' ∧ (mo_C μ a = 21 ∧ vp_in k (mo_N μ a)) ∧ X (np, ls, st', mo_wAL μ a k.toNatClampNeg x) := by
  unfold mo_last at h
  split at h
  · exact ⟨_, _, _, _, rfl, h.1, h.2⟩
  · exact h.1.elim
theorem mo_d_aast  (h : mo_den cal ret X (mo_aast np ls st μ)) : ∃ v k a st', st = v :: .int k :: .ref a :: st' ∧ (30 ≤ mo_C μ a ∧ vp_in k (mo_N μ a) ∧ mo_isR v ∧ ∀ q, mo_rv v = some q → mo_C μ q + 29 = mo_C μ a) ∧ X (np, ls, st', mo_wAR μ a k.toNatClampNeg (mo_rv v)) := by
  unfold mo_aast at h
  split at h
  · exact ⟨_, _, _, _, rfl, h.1, h.2⟩
  · exact h.1.elim
theorem mo_d_alen  (h : mo_den cal ret X (mo_alen np ls st μ)) : ∃ a st', st = .ref a :: st' ∧ 19 ≤ mo_C μ a ∧ X (np, ls, .int (Int32.ofNat (mo_N μ a)) :: st', μ) := by
  unfold mo_alen at h
  split at h
  · exact ⟨_, _, rfl, h.1, h.2⟩
  · exact h.1.elim
theorem mo_d_newa {tag : Nat} (h : mo_den cal ret X (mo_newa tag np ls st μ)) : ∃ n st', st = .int n :: st' ∧ (¬ n < 0 ∧ n.toNatClampNeg ≤ 5000) ∧ X (np, ls, .ref (mo_X μ) :: st', mo_new μ tag n.toNatClampNeg n.toNatClampNeg) := by
  unfold mo_newa at h
  split at h
  · exact ⟨_, _, rfl, h.1, h.2⟩
  · exact h.1.elim
theorem mo_d_invV {mj n tag : Nat} (h : mo_den cal ret X (mo_invV mj n tag np ls st μ)) : ∃ a rest, st.drop n = .ref a :: rest ∧ (mo_C μ a = tag ∧ mo_cat rest ≤ 8) ∧ cal mj (.ref a :: (st.take n).reverse) μ (fun v μ' => X (np, ls, v.toList ++ rest, μ')) := by
  unfold mo_invV at h
  split at h
  · exact ⟨_, _, by assumption, h.1, h.2⟩
  · exact h.1.elim
theorem mo_d_invI {mj n : Nat} (h : mo_den cal ret X (mo_invI mj n np ls st μ)) : ∃ a rest, st.drop n = .ref a :: rest ∧ mo_cat rest ≤ 8 ∧ cal mj (.ref a :: (st.take n).reverse) μ (fun v μ' => X (np, ls, v.toList ++ rest, μ')) := by
  unfold mo_invI at h
  split at h
  · exact ⟨_, _, by assumption, h.1, h.2⟩
  · exact h.1.elim
theorem mo_d_invO  (h : mo_den cal ret X (mo_invO np ls st μ)) : ∃ a rest, st = .ref a :: rest ∧ mo_cat rest ≤ 8 ∧ X (np, ls, rest, μ) := by
  unfold mo_invO at h
  split at h
  · exact ⟨_, _, rfl, h.1, h.2⟩
  · exact h.1.elim
theorem mo_d_iret {z : Nat} (h : mo_den cal ret X (mo_iret z st μ)) : ∃ x, st = [.int x] ∧ (z = 1 → (x = 0 ∨ x = 1)) ∧ ret (some (.int x)) μ := by
  unfold mo_iret at h
  split at h
  · exact ⟨_, rfl, h.1, h.2⟩
  · exact h.1.elim
theorem mo_d_lret  (h : mo_den cal ret X (mo_lret st μ)) : ∃ x, st = [.long x] ∧ ret (some (.long x)) μ := by
  unfold mo_lret at h
  split at h
  · exact ⟨_, rfl, h.2⟩
  · exact h.1.elim
theorem mo_d_aret  (h : mo_den cal ret X (mo_aret st μ)) : ∃ v, st = [v] ∧ mo_isR v ∧ ret (some v) μ := by
  unfold mo_aret at h
  split at h
  · exact ⟨_, rfl, h.1, h.2⟩
  · exact h.1.elim
theorem mo_d_vret  (h : mo_den cal ret X (mo_vret st μ)) : st = [] ∧ ret none μ := by
  unfold mo_vret at h
  split at h
  · exact ⟨rfl, h.2⟩
  · exact h.1.elim
theorem mo_d_sw {d lo hi : Int} {os : Array Int} (h : mo_den cal ret X (mo_sw np d lo hi os ls st μ)) : ∃ x st', st = .int x :: st' ∧ X (mo_tsw np d lo hi os x, ls, st', μ) := by
  unfold mo_sw at h
  split at h
  · exact ⟨_, _, rfl, h.2⟩
  · exact h.1.elim
end MoD
