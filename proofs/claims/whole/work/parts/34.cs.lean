theorem bel_f {B : mo_A} {nc : Nat} (hn : nc ≤ 8) (hp : a_pw B nc) (h : Nat) : ∀ n m c, c < n → c < m → c < nc → a_bel B n c h = a_bel B m c h := by
  intro n
  induction n with
  | zero => intro m c hc; omega
  | succ n ih =>
    intro m c hc hm hcn
    cases m with
    | zero => omega
    | succ m =>
      unfold a_bel
      by_cases q : c = h
      · rw [if_pos q, if_pos q]
      · rw [if_neg q, if_neg q]
        rcases a_par_c hn hp hcn with ⟨q1, q2⟩ | ⟨p, q1, q2, q3⟩
        · rw [q2]
        · rw [q3]; exact ih m p (by omega) (by omega) (by omega)
theorem bel_s {B : mo_A} {nc : Nat} (hn : nc ≤ 8) (hp : a_pw B nc) {c h : Nat} (hc : c < nc) : a_bel B 8 c h = true ↔ c = h ∨ ∃ p, p < c ∧ a_par B c = some p ∧ a_bel B 8 p h = true := by
  have e : a_bel B 8 c h = if c = h then true else match a_par B c with | none => false | some p => a_bel B 7 p h := rfl
  rw [e]
  by_cases q : c = h
  · rw [if_pos q]; simp [q]
  · rw [if_neg q]
    rcases a_par_c hn hp hc with ⟨q1, q2⟩ | ⟨p, q1, q2, q3⟩
    · rw [q2]; simp [q]
    · rw [q3]
      constructor
      · intro t; exact Or.inr ⟨p, q1, rfl, by rw [bel_f hn hp h 8 7 p (by omega) (by omega) (by omega)]; exact t⟩
      · rintro (t | ⟨p', t1, t2, t3⟩)
        · exact absurd t q
        · cases t2; show a_bel B 7 p h = true; rw [bel_f hn hp h 7 8 p (by omega) (by omega) (by omega)]; exact t3
theorem bel_r {B : mo_A} (c : Nat) : a_bel B 8 c c = true := by
  have e : a_bel B 8 c c = if c = c then true else match a_par B c with | none => false | some p => a_bel B 7 p c := rfl
  rw [e, if_pos rfl]
theorem bel_V {B : mo_A} {nc : Nat} (hn : nc ≤ 8) (hp : a_pw B nc) {V : Nat → Nat} (hV : ∀ c p, c < nc → a_par B c = some p → V c = V p + 1) {h : Nat} : ∀ n c, c < n → c < nc → a_bel B 8 c h = true → h ≤ c ∧ V h ≤ V c ∧ (h ≠ c → V h < V c) := by
  intro n
  induction n with
  | zero => intro c hc; omega
  | succ n ih =>
    intro c hc hcn hb
    rcases (bel_s hn hp hcn).1 hb with q | ⟨p, q1, q2, q3⟩
    · subst q; exact ⟨Nat.le_refl _, Nat.le_refl _, fun w => absurd rfl w⟩
    · obtain ⟨i1, i2, i3⟩ := ih p (by omega) (by omega) q3
      have := hV c p hcn q2
      exact ⟨by omega, by omega, fun _ => by omega⟩
theorem bel_u {B : mo_A} {nc : Nat} (hn : nc ≤ 8) (hp : a_pw B nc) {V : Nat → Nat} (hV : ∀ c p, c < nc → a_par B c = some p → V c = V p + 1) {h h' : Nat} (hv : V h = V h') : ∀ n c, c < n → c < nc → a_bel B 8 c h = true → a_bel B 8 c h' = true → h = h' := by
  intro n
  induction n with
  | zero => intro c hc; omega
  | succ n ih =>
    intro c hc hcn hb hb'
    rcases (bel_s hn hp hcn).1 hb with q | ⟨p, q1, q2, q3⟩
    · rcases (bel_s hn hp hcn).1 hb' with q' | ⟨p', q1', q2', q3'⟩
      · exact q.symm.trans q'
      · obtain ⟨i1, i2, i3⟩ := bel_V hn hp hV 8 p' (by omega) (by omega) q3'
        have := hV c p' hcn q2'
        subst q; omega
    · rcases (bel_s hn hp hcn).1 hb' with q' | ⟨p', q1', q2', q3'⟩
      · obtain ⟨i1, i2, i3⟩ := bel_V hn hp hV 8 p (by omega) (by omega) q3
        have := hV c p hcn q2
        subst q'; omega
      · rw [q2] at q2'; cases q2'
        exact ih p (by omega) (by omega) q3 q3'
theorem bel_p {B : mo_A} {nc : Nat} (hn : nc ≤ 8) (hp : a_pw B nc) {h g : Nat} (hg : a_par B h = some g) : ∀ n c, c < n → c < nc → a_bel B 8 c h = true → a_bel B 8 c g = true := by
  intro n
  induction n with
  | zero => intro c hc; omega
  | succ n ih =>
    intro c hc hcn hb
    rcases (bel_s hn hp hcn).1 hb with q | ⟨p, q1, q2, q3⟩
    · subst q
      rcases a_par_c hn hp hcn with ⟨r1, r2⟩ | ⟨p, r1, r2, r3⟩
      · rw [r2] at hg; cases hg
      · rw [r3] at hg
        have hpg : g = p := (Option.some.inj hg).symm
        subst hpg
        exact (bel_s hn hp hcn).2 (Or.inr ⟨_, r1, r3, bel_r _⟩)
    · exact (bel_s hn hp hcn).2 (Or.inr ⟨p, q1, q2, ih p (by omega) (by omega) q3⟩)
theorem near_b {B : mo_A} {nc : Nat} (hn : nc ≤ 8) (hp : a_pw B nc) {nm k : Nat} : ∀ n c, c < n → n ≤ 8 → c < nc → a_near B n c nm = some k → a_bel B 8 c k = true ∧ B.1 11 (5 * k + 1 + nm) = 1 ∧ k < nc := by
  intro n
  induction n with
  | zero => intro c hc; omega
  | succ n ih =>
    intro c hc hn8 hcn he
    unfold a_near at he
    by_cases q : B.1 11 (5 * c + 1 + nm) = 1
    · rw [if_pos q] at he
      have hck : k = c := (Option.some.inj he).symm
      subst hck
      exact ⟨bel_r _, q, hcn⟩
    · rw [if_neg q] at he
      rcases a_par_c hn hp hcn with ⟨r1, r2⟩ | ⟨p, r1, r2, r3⟩
      · rw [r2] at he; cases he
      · rw [r3] at he
        obtain ⟨i1, i2, i3⟩ := ih p (by omega) (by omega) (by omega) he
        exact ⟨(bel_s hn hp hcn).2 (Or.inr ⟨p, r1, r3, i1⟩), i2, i3⟩
theorem bel_t {B : mo_A} {nc : Nat} (hn : nc ≤ 8) (hp : a_pw B nc) {h k : Nat} (hk : a_bel B 8 h k = true) : ∀ n c, c < n → c < nc → a_bel B 8 c h = true → a_bel B 8 c k = true := by
  intro n
  induction n with
  | zero => intro c hc; omega
  | succ n ih =>
    intro c hc hcn hb
    rcases (bel_s hn hp hcn).1 hb with q | ⟨p, q1, q2, q3⟩
    · subst q; exact hk
    · exact (bel_s hn hp hcn).2 (Or.inr ⟨p, q1, q2, ih p (by omega) (by omega) q3⟩)
/-- what is the plan's is the same where the plan is the same -/
theorem lk_par {B A : mo_A} (h : a_lk B A) (c : Nat) : a_par A c = a_par B c := by unfold a_par; rw [(h 6 (by decide)).1]
theorem lk_pw {B A : mo_A} (h : a_lk B A) {nc : Nat} (hp : a_pw B nc) : a_pw A nc := by
  intro c hc
  rw [(h 6 (by decide)).1]
  exact hp c hc
theorem lk_near {B A : mo_A} (h : a_lk B A) (nm : Nat) : ∀ n c, a_near A n c nm = a_near B n c nm := by
  intro n
  induction n with
  | zero => intro c; rfl
  | succ n ih =>
    intro c
    unfold a_near
    rw [lk_par h, (h 11 (by decide)).1]
    split
    · rfl
    · cases a_par B c with
      | none => rfl
      | some p => exact ih p
