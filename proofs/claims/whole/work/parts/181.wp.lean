theorem mo_wp_eq (d : Nat) (Q : mo_P) (mi : Nat) (s : mo_St) : mo_wp (mo_M d) Q mi s = mo_s1 (mo_M d) Q (mo_wp (mo_M d) Q mi) mi s := propext ⟨mo_wp_unfold, mo_wp_fold⟩
section MoWE
variable {d mi pc r1 r2 r3 r4 : Nat} {Q : mo_P} {i : Instr} {ls : mo_LV} {st : List Value} {μ : mo_Mem}
theorem W_o (hT : mo_T mi pc = some (i, r1, r2, r3, r4)) {o : mo_O} (hS : mo_step i r1 r2 r3 pc ls st μ = o) : mo_wp (mo_M d) Q mi (pc, ls, st, μ) = mo_den (mo_M d) Q (mo_wp (mo_M d) Q mi) o := by
  rw [mo_wp_eq]
  unfold mo_s1
  dsimp only
  rw [hT]
  dsimp only
  rw [hS]
theorem W_j {s : mo_St} (hT : mo_T mi pc = some (i, r1, r2, r3, r4)) (hS : mo_step i r1 r2 r3 pc ls st μ = mo_j s) : mo_wp (mo_M d) Q mi (pc, ls, st, μ) = mo_wp (mo_M d) Q mi s := by rw [W_o hT hS, mo_den_j]
theorem W_jp {p : Prop} {s : mo_St} (hT : mo_T mi pc = some (i, r1, r2, r3, r4)) (hS : mo_step i r1 r2 r3 pc ls st μ = mo_jp p s) : mo_wp (mo_M d) Q mi (pc, ls, st, μ) = (p ∧ mo_wp (mo_M d) Q mi s) := by rw [W_o hT hS, mo_den_jp]
theorem W_jt {p : Prop} {s : mo_St} (hT : mo_T mi pc = some (i, r1, r2, r3, r4)) (hS : mo_step i r1 r2 r3 pc ls st μ = mo_jp p s) (hp : p) : mo_wp (mo_M d) Q mi (pc, ls, st, μ) = mo_wp (mo_M d) Q mi s := by rw [W_jp hT hS]; simp [hp]
theorem W_jq {p q : Prop} {s : mo_St} (hT : mo_T mi pc = some (i, r1, r2, r3, r4)) (hS : mo_step i r1 r2 r3 pc ls st μ = mo_jp p s) (hp : p = q) : mo_wp (mo_M d) Q mi (pc, ls, st, μ) = (q ∧ mo_wp (mo_M d) Q mi s) := by rw [W_jp hT hS, hp]
theorem W_br {c : Prop} {s t : mo_St} (hT : mo_T mi pc = some (i, r1, r2, r3, r4)) (hS : mo_step i r1 r2 r3 pc ls st μ = mo_br c s t) : mo_wp (mo_M d) Q mi (pc, ls, st, μ) = ((c → mo_wp (mo_M d) Q mi s) ∧ (¬ c → mo_wp (mo_M d) Q mi t)) := by rw [W_o hT hS, mo_den_br]
theorem W_brt {p c c' : Prop} {s t : mo_St} (hT : mo_T mi pc = some (i, r1, r2, r3, r4)) (hS : mo_step i r1 r2 r3 pc ls st μ = mo_brp p c s t) (hp : p) (hc : c = c') : mo_wp (mo_M d) Q mi (pc, ls, st, μ) = ((c' → mo_wp (mo_M d) Q mi s) ∧ (¬ c' → mo_wp (mo_M d) Q mi t)) := by rw [W_o hT hS, mo_den_brp, hc]; simp [hp]
theorem W_b1 {p c : Prop} {s t : mo_St} (hT : mo_T mi pc = some (i, r1, r2, r3, r4)) (hS : mo_step i r1 r2 r3 pc ls st μ = mo_brp p c s t) (hp : p) (hc : c) : mo_wp (mo_M d) Q mi (pc, ls, st, μ) = mo_wp (mo_M d) Q mi s := by rw [W_o hT hS, mo_den_brp]; simp [hp, hc]
theorem W_b0 {p c : Prop} {s t : mo_St} (hT : mo_T mi pc = some (i, r1, r2, r3, r4)) (hS : mo_step i r1 r2 r3 pc ls st μ = mo_brp p c s t) (hp : p) (hc : ¬ c) : mo_wp (mo_M d) Q mi (pc, ls, st, μ) = mo_wp (mo_M d) Q mi t := by rw [W_o hT hS, mo_den_brp]; simp [hp, hc]
theorem W_brp {p c : Prop} {s t : mo_St} (hT : mo_T mi pc = some (i, r1, r2, r3, r4)) (hS : mo_step i r1 r2 r3 pc ls st μ = mo_brp p c s t) : mo_wp (mo_M d) Q mi (pc, ls, st, μ) = (p ∧ (c → mo_wp (mo_M d) Q mi s) ∧ (¬ c → mo_wp (mo_M d) Q mi t)) := by rw [W_o hT hS, mo_den_brp]
theorem W_rt {p : Prop} {v : Option Value} {ν : mo_Mem} (hT : mo_T mi pc = some (i, r1, r2, r3, r4)) (hS : mo_step i r1 r2 r3 pc ls st μ = mo_rt1 p v ν) (hp : p) : mo_wp (mo_M d) Q mi (pc, ls, st, μ) = Q v ν := by rw [W_o hT hS, mo_den_rt]; simp [hp]
theorem W_rp {p p' : Prop} {v : Option Value} {ν : mo_Mem} (hT : mo_T mi pc = some (i, r1, r2, r3, r4)) (hS : mo_step i r1 r2 r3 pc ls st μ = mo_rt1 p v ν) (hp : p = p') : mo_wp (mo_M d) Q mi (pc, ls, st, μ) = (p' ∧ Q v ν) := by rw [W_o hT hS, mo_den_rt, hp]
theorem W_cl {p : Prop} {mj np : Nat} {vs rest : List Value} {ν : mo_Mem} {ls' : mo_LV} (hT : mo_T mi pc = some (i, r1, r2, r3, r4)) (hS : mo_step i r1 r2 r3 pc ls st μ = mo_cll p (mj, vs, ν, np, ls', rest)) : mo_wp (mo_M d) Q mi (pc, ls, st, μ) = (p ∧ mo_M d mj vs ν (fun v μ' => mo_wp (mo_M d) Q mi (np, ls', v.toList ++ rest, μ'))) := by rw [W_o hT hS, mo_den_cl]
theorem W_cs {p : Prop} {p' : Prop} {mj np : Nat} {vs rest : List Value} {ν : mo_Mem} {ls' : mo_LV} (hT : mo_T mi pc = some (i, r1, r2, r3, r4)) (hS : mo_step i r1 r2 r3 pc ls st μ = mo_cll p (mj, vs, ν, np, ls', rest)) (hp : p = p') : mo_wp (mo_M d) Q mi (pc, ls, st, μ) = (p' ∧ mo_M d mj vs ν (fun v μ' => mo_wp (mo_M d) Q mi (np, ls', v.toList ++ rest, μ'))) := by rw [W_cl hT hS, hp]
end MoWE
theorem W_in (d mi : Nat) (vs : List Value) (μ : mo_Mem) (Q : mo_P) (h : (mo_ol vs).length ≤ mo_ml mi) {ls : mo_LV} (hl : mo_ent (mo_ml mi) vs = ls) : mo_M (d + 1) mi vs μ Q = mo_wp (mo_M d) Q mi (0, ls, [], μ) := by
  rw [← hl]
  exact propext ⟨fun q => q.2, fun q => ⟨h, q⟩⟩
theorem W_ent_f (r : Option Nat) (vs : List Value) : mo_ol (va_rf r :: vs) = some (va_rf r) :: mo_ol vs := by
  simp [mo_ol, mo_ct_f]
theorem mo_aa {x y : Nat} {b : Nat} {μ : mo_Mem} {i : Int32} {n : Nat} : (30 ≤ x ∧ vp_in i n ∧ mo_isR (.ref b) ∧ ∀ b', mo_rv (.ref b) = some b' → mo_C μ b' + 29 = x) = (30 ≤ x ∧ vp_in i n ∧ mo_C μ b + 29 = x) := by
  apply propext
  constructor
  · rintro ⟨h1, h2, -, h4⟩; exact ⟨h1, h2, h4 b rfl⟩
  · rintro ⟨h1, h2, h4⟩; exact ⟨h1, h2, Or.inr ⟨b, rfl⟩, fun b' q => by cases q; exact h4⟩
theorem mo_ir (a : Nat) : mo_isR (.ref a) := Or.inr ⟨a, rfl⟩
theorem mo_in' : mo_isR .null := Or.inl rfl
theorem mo_if' (r : Option Nat) : mo_isR (va_rf r) := by cases r; exact Or.inl rfl; exact Or.inr ⟨_, rfl⟩
theorem mo_rvn (r : Option Nat) : (mo_rv (va_rf r) = none) = (r = none) := by rw [mo_rv_f]
theorem mo_andL {p q : Prop} (h : p) : (p ∧ q) = q := by simp [h]
theorem mo_andT {p q : Prop} (h : q) : (p ∧ q) = p := by simp [h]
