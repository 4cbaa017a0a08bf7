theorem c_all {x : Nat} {B : mo_A} {G : c_G} : ∀ n u, u + n = 12 → ∀ D, 10 + 7 * n ≤ D → c_RM x B G u D ∧ c_FM x B G u D ∧ c_RK x B G u D := by
  intro n
  induction n with
  | zero =>
    intro u hu D hD
    have hu12 : ¬ u < 12 := by omega
    have hRK : ∀ D, c_RK x B G u D := by
      intro D μ A O no P F b q p o g c0 c1 c2 w np A1 Q _ _ _ h
      exact absurd h hu12
    refine ⟨?_, ?_, hRK D⟩
    · have := rm_all (x := x) (B := B) (G := G) (u := u) (d := D - 9) (fun h => absurd h hu12) (fun h => absurd h hu12)
      rw [show D - 9 + 9 = D by omega] at this
      exact this
    · have := fm_all (x := x) (B := B) (G := G) (u := u) (d := D - 10) (fun h => absurd h hu12)
      rw [show D - 10 + 10 = D by omega] at this
      exact this
  | succ n ih =>
    intro u hu D hD
    have hW : ∀ D, 10 + 7 * n + 3 ≤ D → c_W x B G u D := by
      intro D hD
      obtain ⟨h1, h2, -⟩ := ih (u + 1) (by omega) (D - 7 + 4) (by omega)
      have := w_all h1 h2 (by omega)
      rw [show D - 7 + 7 = D by omega] at this
      exact this
    have hRK : ∀ D, 10 + 7 * n + 5 ≤ D → c_RK x B G u D := by
      intro D hD
      have := rk_all (x := x) (B := B) (G := G) (u := u) (d := D - 10) (fun _ => hW _ (by omega)) (fun _ => (ih (u + 1) (by omega) (D - 10 + 8) (by omega)).2.2)
      rw [show D - 10 + 10 = D by omega] at this
      exact this
    refine ⟨?_, ?_, hRK D (by omega)⟩
    · have := rm_all (x := x) (B := B) (G := G) (u := u) (d := D - 9) (fun _ => hW _ (by omega)) (fun _ => hW _ (by omega))
      rw [show D - 9 + 9 = D by omega] at this
      exact this
    · have := fm_all (x := x) (B := B) (G := G) (u := u) (d := D - 10) (fun _ => hRK _ (by omega))
      rw [show D - 10 + 10 = D by omega] at this
      exact this
/-- what runs at the top keeps -/
theorem c_rm0 {x d : Nat} {B : mo_A} {G : c_G} : c_RM x B G 0 (d + 94) := (c_all 12 0 rfl (d + 94) (by omega)).1
theorem c_rk0 {x d : Nat} {B : mo_A} {G : c_G} : c_RK x B G 0 (d + 94) := (c_all 12 0 rfl (d + 94) (by omega)).2.2
