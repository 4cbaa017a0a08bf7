/-! THE CLAIM OUT OF ONE WALK OF THE LAW'S BODY. Your part is whole_start (and what it stands on); all else here is the same for every law, but numbers. -/
def R_law : String := "MakerOrdersLaw"
def lw_P (b : Addr) (xs : List Int32) (args : Array Value) (s : State) : Prop := args = #[.ref b] ∧ s.IntsAt b xs ∧ xs.length ≤ 5120 ∧ (Jvm.Cond.and given_1 narrow_1).before args s = true
def lw_Q (_ : Array Value) (s : State) (o : Outcome) (t : State) : Prop := o = .returned (some (.int 1)) ∧ Framed s o t [] 600000 7302250
def lw_Z (below : List Frame) (a : Array Value) (s : State) : State → Prop := fun t => ∃ o, t.status = .running ∧ Ended t below o ∧ lw_Q a s o t
/-- the law's own end, with 1 on the stack, nothing written that was there before, its room as the claim has it -/
theorem lw_ret {p : Program} {l : Launch} {e : Env} {s : State} {m : MethodId} {below : List Frame} {meth : Method} {c : Code} {b : Nat} (hx : p.tables.exec = Jvm.exec) (hb : c.code = code) (hr : meth.sig.returnType = ret) (hlocks : meth.locks = false) {pc : Nat} {H : Heap} {ls : Array Slot} (hdg : decode code pc = .ok (.ireturn, 1)) : W p l e room_1 s m #[Value.ref b] below meth c H [] 600000 7302250 (lw_Z below #[Value.ref b] s) (F0 m pc ls [.int 1]) := by
  intro T hT X
  obtain ⟨fs, hret, hrun, hended, hW, hframe⟩ := X.leave (v := some (.int 1)) (hlocks := hlocks) (fun h => by rw [hr] at h; cases h)
  have hmeth' : T.vm.method? m = some meth := X.method'
  refine ⟨T.setFrames fs, ?_, .returned (some (.int 1)), hrun, hended, rfl, ⟨_, rfl⟩, hW, hframe⟩
  jvm_step X.here [X.here.top, hx, hb, hdg, hmeth', hr, ret, narrow_b1]
  (try refine ⟨rfl, ?_⟩); (try refine ⟨rfl, ?_⟩)
  first | (intro acts; rw [hret _ acts rfl rfl rfl]) | rw [hret _ _ rfl rfl rfl]
  exact Steps.refl _
/-- what holds at the law's entry: the machine, the code, the tables' words (any of lw_tbl by 'hts w (by decide +kernel)'), the script of L ints xs at the cell b, what the Statement gives of the start (any of its parts by flat_of_before) -/
def lw_At (p : Program) (s : State) (m : MethodId) (meth : Method) (c : Code) (b L : Nat) (xs : Nat → Int32) : Prop :=
  p.tables.exec = Jvm.exec ∧ c.code = code ∧ meth.sig.returnType = ret ∧ c.maxLocals = 4 ∧ s.vm.findClass R_law = some m.cls ∧ (∀ w ∈ lw_tbl, w.before #[Value.ref b] s = true) ∧ va_X b L xs s s.heap ∧ b < s.heap.size ∧ meth.locks = false ∧ (Jvm.Cond.and given_1 narrow_1).before #[Value.ref b] s = true

/-- the small machine's memory at the law's entry: the script alone -/
def mo_mem0 (S b L : Nat) (xs : Nat → Int32) : mo_Mem := (fun a => if a = b then 19 else 0, fun a => if a = b then L else 0, fun _ _ => 0, fun _ _ => 0, fun _ _ => none, fun a j => if a = b then xs j else 0, fun _ _ => 0, fun _ _ => none, S, 0)
theorem mo_K0 {s : State} {args : Array Value} (hts : ∀ w ∈ mo_WS, w.before args s = true) (hts0 : ∀ w ∈ lw_tbl, w.before args s = true) : ∃ (D : va_G) (CA : Nat → ClassId), ∀ scr : Cell, s.isArrayOf scr .int → scr.vm ≠ .unknown → mo_KK D CA scr s := by
  have h1 : ∀ ci : Nat, ∃ q : ClassId × (Nat → Nat), ∀ R T N, mo_cl[ci]? = some (R, T, N) → u_Kn s R T N q.1 q.2 := by
    intro ci
    cases hc : mo_cl[ci]? with
    | none => exact ⟨(0, fun _ => 0), fun R T N h => by cases h⟩
    | some q =>
      obtain ⟨R, T, N⟩ := q
      obtain ⟨g1, -, -, -, g5, -⟩ := mo_cls_ok ci R T N hc
      obtain ⟨cC, iS, h⟩ := u_known hts0 g1 (hts0 _ g5)
      exact ⟨(cC, iS), fun R' T' N' h' => by cases h'; exact h⟩
  have h2 : ∀ t : Nat, ∃ cA : ClassId, ∀ ty, mo_aty t = some ty → ArrOfT s cA ty ∧ va_RA s cA ty := by
    intro t
    cases ht : mo_aty t with
    | none => exact ⟨0, fun ty h => by cases h⟩
    | some ty =>
      by_cases h30 : 30 ≤ t
      · obtain ⟨RC, T, N, rfl, hcl⟩ := mo_aty_obj ht h30
        have hlt := mo_cl_lt hcl
        have hov : Cond.arrayOver (.object RC) ∈ lw_tbl := by
          have q := List.all_eq_true.mp mo_overw (t - 30) (List.mem_range.mpr hlt)
          rw [show 30 + (t - 30) = t by omega, ht] at q
          exact of_decide_eq_true q
        obtain ⟨comp, cA, k, q1, q2, q3, q4, q5⟩ := Cond.arrayOver_spec (hts0 _ hov)
        refine ⟨cA, fun ty h => ?_⟩
        cases h
        exact ⟨fun n z => ⟨fun k h => (by cases h), k, q3, comp, q4⟩, k, comp, q3, q4, q1, q5⟩
      · have hp : ty = .int ∨ ty = .long ∨ ty = .boolean := by
          unfold mo_aty at ht
          split at ht <;> first | omega | (cases ht; done) | (cases ht; simp)
        have harr : Cond.arrayClass ty ∈ lw_tbl := by
          rcases hp with rfl | rfl | rfl
          · exact mo_arrw.1
          · exact mo_arrw.2.1
          · exact mo_arrw.2.2
        obtain ⟨cA, kA, comp, q1, q2, q3⟩ := Cond.arrayClass_spec (hts0 _ harr)
        refine ⟨cA, fun ty' h => ?_⟩
        cases h
        refine ⟨fun n z => ⟨fun k h => (by cases h), kA, q2, comp, q3⟩, ?_⟩
        rcases hp with rfl | rfl | rfl <;> exact q1
  refine ⟨(fun c => (Classical.choose (h1 c)).1, fun c => (Classical.choose (h1 c)).2), fun t => Classical.choose (h2 t), fun scr hs1 hs2 => ⟨fun c q hq => Classical.choose_spec (h1 c) _ _ _ hq, fun t ty ht => Classical.choose_spec (h2 t) ty ht, hs1, hs2⟩⟩
set_option maxHeartbeats 1000000 in
theorem mo_start {p : Program} {e : Env} {s : State} {m : MethodId} {below : List Frame} {meth : Method} {c : Code} (l : Launch) {b L : Nat} {xs : Nat → Int32} (C0 : lw_At p s m meth c b L xs) (d : Nat) (hd : d ≤ 1800)
    (hwp : ∀ S, b < S → mo_wp (mo_M d) (fun v μ => v = some (.int 1) ∧ mo_X μ ≤ S + 600000 ∧ mo_S μ ≤ 7302250) 126 (0, [some (.ref b), none, none, none], [], mo_mem0 S b L xs)) :
    W p l e room_1 s m #[Value.ref b] below meth c s.heap [] 0 0 (lw_Z below #[Value.ref b] s) (entryFrame m ([Value.ref b] : List Value).toArray 4) := by
  obtain ⟨hx, hb, hr, hml, hown, hts0, hX, hbl, hlocks, -⟩ := C0
  have hts : ∀ w ∈ mo_WS, w.before #[Value.ref b] s = true := fun w hw => hts0 w (List.mem_filter.mp hw).1
  obtain ⟨D, CA, hK0⟩ := mo_K0 hts hts0
  obtain ⟨scr, x1, x2, x3, x4, x5⟩ := hX
  have hK := hK0 scr x2 x3
  obtain ⟨lr, hent, hls, hlen⟩ := mo_entW (vs := [.ref b]) (n := 4) (Nat.le_of_ble_eq_true rfl)
  rw [hent m]
  have Cx : mo_Cx p room_1 s m #[Value.ref b] meth c D CA scr 126 s.heap.size 0 (s.heap.size + 600000) 7302250 :=
    ⟨hx, hb, hml, hown, hts, hK, fun q => absurd q (by decide), by show s.heap.size + 600000 - s.heap.size ≤ 600000; omega, by show 7302250 - 0 ≤ 7302250; omega, by show 1 ≤ 2048; omega, by show 20 ≤ 84000; omega⟩
  have hcal : ∀ mk us ν P, mk < 126 → mo_M d mk us ν P → ∃ w ν', P w ν' ∧ mo_calOK l D CA s.heap.size b scr room_1 mk us ν w ν' := by
    intro mk us ν P hmk hM
    obtain ⟨w, ν', q1, q2⟩ := mo_M_det hM
    obtain ⟨q3, q4, q5⟩ := mo_sound l D CA s.heap.size b scr d mk hmk _ _ _ _ q2
    have := (mo_okM_spec hmk).1.2.2.2.2.2.2
    exact ⟨w, ν', q1, q3, q4, _, q5, rfl, rfl, by show d + 1 ≤ 2048; omega, by show 8 + (mo_ml mk + 11) + 45 * d ≤ 84000; omega⟩
  have hret : mo_RetOK p l e room_1 s m #[Value.ref b] below meth c (lw_Z below #[Value.ref b] s) D CA s.heap.size b scr s.heap.size 0 (s.heap.size + 600000) 7302250 126 (fun v μ => v = some (.int 1) ∧ mo_X μ ≤ s.heap.size + 600000 ∧ mo_S μ ≤ 7302250) := by
    refine ⟨fun w ν q => q.2, ?_⟩
    rintro w ν pc lr st H locs i ⟨rfl, q1, q2⟩ _ _ hr' hq hd hi
    rcases hi with ⟨rfl, x, hx1, rfl, hz⟩ | ⟨rfl, hz, x, hx1, rfl⟩ | ⟨rfl, ⟨nm, hz⟩, w, hx1, rfl, hv⟩ | ⟨rfl, hz, hx1, rfl⟩
    · cases hx1
      refine va_forget hq ?_
      refine W.widen (k := 600000) (n := 7302250) (by omega) (by omega) ?_
      exact lw_ret hx hb hr hlocks hd
    · cases hx1
    · cases hz
    · cases hx1
  have hX := hwp s.heap.size hbl _ (mo_stepW Cx (Nat.le_refl _) hcal hret)
  have hrel : mo_rel D CA s.heap.size b scr (mo_mem0 s.heap.size b L xs) s.heap := by
    refine ⟨rfl, Nat.le_refl _, hbl, x1, ?_, ?_, ?_, ?_⟩
    · intro a q
      have q : (if a = b then 19 else 0) ≠ 0 := q
      left
      show (if a = b then 19 else 0) = 19 ∧ a = b
      by_cases hab : a = b
      · simp [hab]
      · simp [hab] at q
    · intro a ci R T N q hc
      have q : (if a = b then 19 else 0) = ci + 1 := q
      have := mo_cl_lt hc
      split at q <;> omega
    · intro a q
      have q : 20 ≤ (if a = b then 19 else 0) := q
      split at q <;> omega
    · intro a q
      have q : (if a = b then 19 else 0) = 19 := q
      have hab : a = b := by
        by_cases hab : a = b
        · exact hab
        · simp [hab] at q
      subst hab
      refine ⟨by show scr.slots.size = if a = a then L else 0; simp [x4], fun j hj => ?_⟩
      have hj : j < (if a = a then L else 0) := hj
      simp at hj
      show scr.slots[j]? = some (.int (if a = a then xs j else 0))
      simp [x5 j hj]
  have := hX.2 (Nat.le_refl _) (Nat.le_refl _) hlen s.heap [] lr hrel hls (fun q hq => absurd hq List.not_mem_nil)
  dsimp only at this
  rw [show mo_X (mo_mem0 s.heap.size b L xs) - s.heap.size = 0 from Nat.sub_self _, show mo_S (mo_mem0 s.heap.size b L xs) - 0 = 0 from rfl] at this
  exact this
