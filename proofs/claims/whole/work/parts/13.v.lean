theorem mo_ok_all (mi pc : Nat) (hm : mi ≤ 126) (e : mo_E) (h : mo_T mi pc = some e) : mo_okE mi (pc, e) = true := by
  have hq := mo_lookup_mem h
  match mi, hm, hq with
  | 0, _, hq => exact List.all_eq_true.mp mo_k0 _ hq
  | 1, _, hq => exact List.all_eq_true.mp mo_k1 _ hq
  | 2, _, hq => exact List.all_eq_true.mp mo_k2 _ hq
  | 3, _, hq => exact List.all_eq_true.mp mo_k3 _ hq
  | 4, _, hq => exact List.all_eq_true.mp mo_k4 _ hq
  | 5, _, hq => exact List.all_eq_true.mp mo_k5 _ hq
  | 6, _, hq => exact List.all_eq_true.mp mo_k6 _ hq
  | 7, _, hq => exact List.all_eq_true.mp mo_k7 _ hq
  | 8, _, hq => exact List.all_eq_true.mp mo_k8 _ hq
  | 9, _, hq => exact List.all_eq_true.mp mo_k9 _ hq
  | 10, _, hq => exact List.all_eq_true.mp mo_k10 _ hq
  | 11, _, hq => exact List.all_eq_true.mp mo_k11 _ hq
  | 12, _, hq => exact List.all_eq_true.mp mo_k12 _ hq
  | 13, _, hq => exact List.all_eq_true.mp mo_k13 _ hq
  | 14, _, hq => exact List.all_eq_true.mp mo_k14 _ hq
  | 15, _, hq => exact List.all_eq_true.mp mo_k15 _ hq
  | 16, _, hq => exact List.all_eq_true.mp mo_k16 _ hq
  | 17, _, hq => exact List.all_eq_true.mp mo_k17 _ hq
  | 18, _, hq => exact List.all_eq_true.mp mo_k18 _ hq
  | 19, _, hq => exact List.all_eq_true.mp mo_k19 _ hq
  | 20, _, hq => exact List.all_eq_true.mp mo_k20 _ hq
  | 21, _, hq => exact List.all_eq_true.mp mo_k21 _ hq
  | 22, _, hq => exact List.all_eq_true.mp mo_k22 _ hq
  | 23, _, hq => exact List.all_eq_true.mp mo_k23 _ hq
  | 24, _, hq => exact List.all_eq_true.mp mo_k24 _ hq
  | 25, _, hq => exact List.all_eq_true.mp mo_k25 _ hq
  | 26, _, hq => exact List.all_eq_true.mp mo_k26 _ hq
  | 27, _, hq => exact List.all_eq_true.mp mo_k27 _ hq
  | 28, _, hq => exact List.all_eq_true.mp mo_k28 _ hq
  | 29, _, hq => exact List.all_eq_true.mp mo_k29 _ hq
  | 30, _, hq => exact List.all_eq_true.mp mo_k30 _ hq
  | 31, _, hq => exact List.all_eq_true.mp mo_k31 _ hq
  | 32, _, hq => exact List.all_eq_true.mp mo_k32 _ hq
  | 33, _, hq => exact List.all_eq_true.mp mo_k33 _ hq
  | 34, _, hq => exact List.all_eq_true.mp mo_k34 _ hq
  | 35, _, hq => exact List.all_eq_true.mp mo_k35 _ hq
  | 36, _, hq => exact List.all_eq_true.mp mo_k36 _ hq
  | 37, _, hq => exact List.all_eq_true.mp mo_k37 _ hq
  | 38, _, hq => exact List.all_eq_true.mp mo_k38 _ hq
  | 39, _, hq => exact List.all_eq_true.mp mo_k39 _ hq
  | 40, _, hq => exact List.all_eq_true.mp mo_k40 _ hq
  | 41, _, hq => exact List.all_eq_true.mp mo_k41 _ hq
  | 42, _, hq => exact List.all_eq_true.mp mo_k42 _ hq
  | 43, _, hq => exact List.all_eq_true.mp mo_k43 _ hq
  | 44, _, hq => exact List.all_eq_true.mp mo_k44 _ hq
  | 45, _, hq => exact List.all_eq_true.mp mo_k45 _ hq
  | 46, _, hq => exact List.all_eq_true.mp mo_k46 _ hq
  | 47, _, hq => exact List.all_eq_true.mp mo_k47 _ hq
  | 48, _, hq => exact List.all_eq_true.mp mo_k48 _ hq
  | 49, _, hq => exact List.all_eq_true.mp mo_k49 _ hq
  | 50, _, hq => exact List.all_eq_true.mp mo_k50 _ hq
  | 51, _, hq => exact List.all_eq_true.mp mo_k51 _ hq
  | 52, _, hq => exact List.all_eq_true.mp mo_k52 _ hq
  | 53, _, hq => exact List.all_eq_true.mp mo_k53 _ hq
  | 54, _, hq => exact List.all_eq_true.mp mo_k54 _ hq
  | 55, _, hq => exact List.all_eq_true.mp mo_k55 _ hq
  | 56, _, hq => exact List.all_eq_true.mp mo_k56 _ hq
  | 57, _, hq => exact List.all_eq_true.mp mo_k57 _ hq
  | 58, _, hq => exact List.all_eq_true.mp mo_k58 _ hq
  | 59, _, hq => exact List.all_eq_true.mp mo_k59 _ hq
  | 60, _, hq => exact List.all_eq_true.mp mo_k60 _ hq
  | 61, _, hq => exact List.all_eq_true.mp mo_k61 _ hq
  | 62, _, hq => exact List.all_eq_true.mp mo_k62 _ hq
  | 63, _, hq => exact List.all_eq_true.mp mo_k63 _ hq
  | 64, _, hq => exact List.all_eq_true.mp mo_k64 _ hq
  | 65, _, hq => exact List.all_eq_true.mp mo_k65 _ hq
  | 66, _, hq => exact List.all_eq_true.mp mo_k66 _ hq
  | 67, _, hq => exact List.all_eq_true.mp mo_k67 _ hq
  | 68, _, hq => exact List.all_eq_true.mp mo_k68 _ hq
  | 69, _, hq => exact List.all_eq_true.mp mo_k69 _ hq
  | 70, _, hq => exact List.all_eq_true.mp mo_k70 _ hq
  | 71, _, hq => exact List.all_eq_true.mp mo_k71 _ hq
  | 72, _, hq => exact List.all_eq_true.mp mo_k72 _ hq
  | 73, _, hq => exact List.all_eq_true.mp mo_k73 _ hq
  | 74, _, hq => exact List.all_eq_true.mp mo_k74 _ hq
  | 75, _, hq => exact List.all_eq_true.mp mo_k75 _ hq
  | 76, _, hq => exact List.all_eq_true.mp mo_k76 _ hq
  | 77, _, hq => exact List.all_eq_true.mp mo_k77 _ hq
  | 78, _, hq => exact List.all_eq_true.mp mo_k78 _ hq
  | 79, _, hq => exact List.all_eq_true.mp mo_k79 _ hq
  | 80, _, hq => exact List.all_eq_true.mp mo_k80 _ hq
  | 81, _, hq => exact List.all_eq_true.mp mo_k81 _ hq
  | 82, _, hq => exact List.all_eq_true.mp mo_k82 _ hq
  | 83, _, hq => exact List.all_eq_true.mp mo_k83 _ hq
  | 84, _, hq => exact List.all_eq_true.mp mo_k84 _ hq
  | 85, _, hq => exact List.all_eq_true.mp mo_k85 _ hq
  | 86, _, hq => exact List.all_eq_true.mp mo_k86 _ hq
  | 87, _, hq => exact List.all_eq_true.mp mo_k87 _ hq
  | 88, _, hq => exact List.all_eq_true.mp mo_k88 _ hq
  | 89, _, hq => exact List.all_eq_true.mp mo_k89 _ hq
  | 90, _, hq => exact List.all_eq_true.mp mo_k90 _ hq
  | 91, _, hq => exact List.all_eq_true.mp mo_k91 _ hq
  | 92, _, hq => exact List.all_eq_true.mp mo_k92 _ hq
  | 93, _, hq => exact List.all_eq_true.mp mo_k93 _ hq
  | 94, _, hq => exact List.all_eq_true.mp mo_k94 _ hq
  | 95, _, hq => exact List.all_eq_true.mp mo_k95 _ hq
  | 96, _, hq => exact List.all_eq_true.mp mo_k96 _ hq
  | 97, _, hq => exact List.all_eq_true.mp mo_k97 _ hq
  | 98, _, hq => exact List.all_eq_true.mp mo_k98 _ hq
  | 99, _, hq => exact List.all_eq_true.mp mo_k99 _ hq
  | 100, _, hq => exact List.all_eq_true.mp mo_k100 _ hq
  | 101, _, hq => exact List.all_eq_true.mp mo_k101 _ hq
  | 102, _, hq => exact List.all_eq_true.mp mo_k102 _ hq
  | 103, _, hq => exact List.all_eq_true.mp mo_k103 _ hq
  | 104, _, hq => exact List.all_eq_true.mp mo_k104 _ hq
  | 105, _, hq => exact List.all_eq_true.mp mo_k105 _ hq
  | 106, _, hq => exact List.all_eq_true.mp mo_k106 _ hq
  | 107, _, hq => exact List.all_eq_true.mp mo_k107 _ hq
  | 108, _, hq => exact List.all_eq_true.mp mo_k108 _ hq
  | 109, _, hq => exact List.all_eq_true.mp mo_k109 _ hq
  | 110, _, hq => exact List.all_eq_true.mp mo_k110 _ hq
  | 111, _, hq => exact List.all_eq_true.mp mo_k111 _ hq
  | 112, _, hq => exact List.all_eq_true.mp mo_k112 _ hq
  | 113, _, hq => exact List.all_eq_true.mp mo_k113 _ hq
  | 114, _, hq => exact List.all_eq_true.mp mo_k114 _ hq
  | 115, _, hq => exact List.all_eq_true.mp mo_k115 _ hq
  | 116, _, hq => exact List.all_eq_true.mp mo_k116 _ hq
  | 117, _, hq => exact List.all_eq_true.mp mo_k117 _ hq
  | 118, _, hq => exact List.all_eq_true.mp mo_k118 _ hq
  | 119, _, hq => exact List.all_eq_true.mp mo_k119 _ hq
  | 120, _, hq => exact List.all_eq_true.mp mo_k120 _ hq
  | 121, _, hq => exact List.all_eq_true.mp mo_k121 _ hq
  | 122, _, hq => exact List.all_eq_true.mp mo_k122 _ hq
  | 123, _, hq => exact List.all_eq_true.mp mo_k123 _ hq
  | 124, _, hq => exact List.all_eq_true.mp mo_k124 _ hq
  | 125, _, hq => exact List.all_eq_true.mp mo_k125 _ hq
  | 126, _, hq => exact List.all_eq_true.mp mo_k126 _ hq
  | k + 127, hm, _ => omega
set_option maxRecDepth 100000 in
theorem mo_arrw : Cond.arrayClass .int ∈ lw_tbl ∧ Cond.arrayClass .long ∈ lw_tbl ∧ Cond.arrayClass .boolean ∈ lw_tbl := by decide +kernel
set_option maxRecDepth 100000 in
theorem mo_overw : (List.range 13).all (fun ci => match mo_aty (30 + ci) with | some (.object C) => decide (Cond.arrayOver (.object C) ∈ lw_tbl) | _ => true) = true := by decide +kernel
theorem mo_z01 {x : Int32} (h : x = 0 ∨ x = 1) : narrow .boolean (.int x) = .int x := by
  rcases h with rfl | rfl <;> rfl
theorem mo_el_int {μ : mo_Mem} {a j : Nat} (h : mo_C μ a = 20 ∨ mo_C μ a = 22) : mo_el μ a j = .int (mo_AI μ a j) := by
  rcases h with h | h <;> simp [mo_el, h]
section MoV
variable {p : Program} {l : Launch} {e : Env} {R : Room} {s : State} {m : MethodId} {args : Array Value} {below : List Frame} {meth : Method} {c : Code} {Q : State → Prop} {D : va_G} {CA : Nat → ClassId} {S b : Nat} {scr : Cell} {n0 s0 n1 s1 mi : Nat}
def mo_RetOK (p : Program) (l : Launch) (e : Env) (R : Room) (s : State) (m : MethodId) (args : Array Value) (below : List Frame) (meth : Method) (c : Code) (Q : State → Prop) (D : va_G) (CA : Nat → ClassId) (S b : Nat) (scr : Cell) (n0 s0 n1 s1 mi : Nat) (ret : mo_P) : Prop :=
  (∀ v μ, ret v μ → mo_X μ ≤ n1 ∧ mo_S μ ≤ s1) ∧
  (∀ v μ pc lr st H locs i, ret v μ → n0 ≤ mo_X μ → s0 ≤ mo_S μ → mo_rel D CA S b scr μ H → (∀ q ∈ locs, S ≤ q.base) → decode (mo_B mi) pc = .ok (i, 1) →
    ((i = .ireturn ∧ ∃ x, v = some (.int x) ∧ st = [.int x] ∧ (mo_rt mi = some .int ∨ (mo_rt mi = some .boolean ∧ (x = 0 ∨ x = 1)))) ∨ (i = .lreturn ∧ mo_rt mi = some .long ∧ ∃ x, v = some (.long x) ∧ st = [.long x]) ∨ (i = .areturn ∧ (∃ nm, mo_rt mi = some (.object nm)) ∧ ∃ w, v = some w ∧ st = [w] ∧ mo_isR w) ∨ (i = .return_ ∧ mo_rt mi = none ∧ v = none ∧ st = [])) →
    W p l e R s m args below meth c H locs (mo_X μ - n0) (mo_S μ - s0) Q (F0 m pc lr st))
variable {pc : Nat} {ls : mo_LV} {st : List Value} {μ : mo_Mem}
theorem mo_v_put (Cx : mo_Cx p R s m args meth c D CA scr mi n0 s0 n1 s1) {k r1 r2 r3 r4 a : Nat} {v : Value} {μ' : mo_Mem} (hd : decode (mo_B mi) pc = .ok (.putfield k, 3)) (hok : mo_fl mi k r1 r2 r3 r4 true = true) (hC : mo_C μ a = r1)
    (hty : ∀ ty, mo_ktb r3 ty = true → narrow ty v = v ∧ fits ty v = true)
    (e1 : mo_C μ' = mo_C μ) (e2 : mo_N μ' = mo_N μ) (e3 : mo_AI μ' = mo_AI μ) (e4 : mo_AL μ' = mo_AL μ) (e5 : mo_AR μ' = mo_AR μ) (e6 : mo_X μ' = mo_X μ) (e9 : mo_S μ' = mo_S μ) (e7 : ∀ kd k' a', (k' ≠ r2 ∨ a' ≠ a) → mo_rd kd μ' k' a' = mo_rd kd μ k' a') (e8 : mo_rd r3 μ' r2 a = v)
    (h : mo_XW p l e R s m args below meth c Q D CA S b scr n0 s0 n1 s1 (mo_ml mi) (pc + 3, ls, st, μ')) : mo_XW p l e R s m args below meth c Q D CA S b scr n0 s0 n1 s1 (mo_ml mi) (pc, ls, v :: .ref a :: st, μ) := by
  obtain ⟨ci, RC, T, N, j, rfl, hc, rfl, hj, rfl, hl, hf⟩ := mo_fl_spec hok
  obtain ⟨hb, hw⟩ := h
  refine ⟨by show mo_X μ ≤ n1 ∧ mo_S μ ≤ s1; rw [← e6, ← e9]; exact hb, fun a1 a2 a3 H locs lr hr hl' hq => ?_⟩
  have hr : mo_rel D CA S b scr μ H := hr
  obtain ⟨g1, g2⟩ := hty _ ((mo_cls_ok ci RC T N hc).2.2.2.1 j hj).2
  refine mo_putW Cx hd hc hj hl (hf rfl) hr hC g1 g2 (fun H' x q1 q2 q3 => ?_)
  have hr' : mo_rel D CA S b scr μ' H' := mo_rel_put hr hC hc e1 e2 e3 e4 e5 e6 e7 e8 q1 q2 q3
  have hS : S ≤ a := by
    have hlt := mo_cl_lt hc
    rcases hr.2.2.2.2.1 a (by omega) with q | q
    · omega
    · exact q.2.1
  have := hw (by show n0 ≤ mo_X μ'; rw [e6]; exact a1) (by show s0 ≤ mo_S μ'; rw [e9]; exact a2) a3 H' (locs ++ [⟨a, x⟩]) lr hr' hl' (fun q hq' => by
    rcases List.mem_append.mp hq' with q' | q'
    · exact hq q q'
    · rw [List.mem_singleton.mp q']; exact hS)
  show W p l e R s m args below meth c H' (locs ++ [⟨a, x⟩]) (mo_X μ - n0) (mo_S μ - s0) Q (F0 m (pc + 3) lr st)
  rw [← e6, ← e9]
  exact this
theorem mo_v_ast (Cx : mo_Cx p R s m args meth c D CA scr mi n0 s0 n1 s1) {a i : Nat} {v : Value} {μ' : mo_Mem} {st1 : List Value}
    (hC : 20 ≤ mo_C μ a) (e1 : mo_C μ' = mo_C μ) (e2 : mo_N μ' = mo_N μ) (e3 : mo_I μ' = mo_I μ) (e4 : mo_L μ' = mo_L μ) (e5 : mo_R μ' = mo_R μ) (e6 : mo_X μ' = mo_X μ) (e9 : mo_S μ' = mo_S μ) (e7 : ∀ a', a' ≠ a → mo_AI μ' a' = mo_AI μ a' ∧ mo_el μ' a' = mo_el μ a') (e8 : mo_el μ' a = updV (mo_el μ a) i v)
    (row : ∀ (H : Heap) (locs : List Loc) (lr : Array Slot) (cells slots : Nat), mo_rel D CA S b scr μ H → (∀ H' : Heap, H'[a]? = some ((arrV (CA (mo_C μ a)) (mo_N μ a) (mo_el μ a)).setSlot i v) → H'.size = H.size → (∀ q, q ≠ a → H'[q]? = H[q]?) → W p l e R s m args below meth c H' (locs ++ [⟨a, i⟩]) cells slots Q (F0 m (pc + 1) lr st)) → W p l e R s m args below meth c H locs cells slots Q (F0 m pc lr st1))
    (h : mo_XW p l e R s m args below meth c Q D CA S b scr n0 s0 n1 s1 (mo_ml mi) (pc + 1, ls, st, μ')) : mo_XW p l e R s m args below meth c Q D CA S b scr n0 s0 n1 s1 (mo_ml mi) (pc, ls, st1, μ) := by
  obtain ⟨hb, hw⟩ := h
  refine ⟨by show mo_X μ ≤ n1 ∧ mo_S μ ≤ s1; rw [← e6, ← e9]; exact hb, fun a1 a2 a3 H locs lr hr hl' hq => ?_⟩
  have hr : mo_rel D CA S b scr μ H := hr
  refine row H locs lr _ _ hr (fun H' q1 q2 q3 => ?_)
  have hr' : mo_rel D CA S b scr μ' H' := mo_rel_ast hr hC e1 e2 e3 e4 e5 e6 e7 e8 q1 q2 q3
  have hS : S ≤ a := by
    rcases hr.2.2.2.2.1 a (by omega) with q | q
    · omega
    · exact q.2.1
  have := hw (by show n0 ≤ mo_X μ'; rw [e6]; exact a1) (by show s0 ≤ mo_S μ'; rw [e9]; exact a2) a3 H' (locs ++ [⟨a, i⟩]) lr hr' hl' (fun q hq' => by
    rcases List.mem_append.mp hq' with q' | q'
    · exact hq q q'
    · rw [List.mem_singleton.mp q']; exact hS)
  show W p l e R s m args below meth c H' (locs ++ [⟨a, i⟩]) (mo_X μ - n0) (mo_S μ - s0) Q (F0 m (pc + 1) lr st)
  rw [← e6, ← e9]
  exact this
/-- what a new cell leads to -/
theorem mo_v_new (Cx : mo_Cx p R s m args meth c D CA scr mi n0 s0 n1 s1) {t ln n np : Nat} {st1 st2 : List Value} (h0 : t ≠ 0) (h19 : t ≠ 19)
    (row : ∀ (H : Heap) (locs : List Loc) (lr : Array Slot) (cells slots : Nat), mo_rel D CA S b scr μ H → cells + 1 ≤ R.cells → slots + n ≤ R.slots → (∀ H' : Heap,
        (∀ ci RC T N, t = ci + 1 → mo_cl[ci]? = some (RC, T, N) → t_OB (mo_X μ) (D.1 ci) N (D.2 ci) H' (fun j => mo_rd (mo_kd (T j).2.2.1) (mo_new μ t ln n) (64 * ci + j) (mo_X μ))) →
        (20 ≤ t → (mo_aty t).isSome = true ∧ H'[mo_X μ]? = some (arrV (CA t) ln (mo_el (mo_new μ t ln n) (mo_X μ)))) → H'.size = mo_X μ + 1 → (∀ q, q < mo_X μ → H'[q]? = H[q]?) → W p l e R s m args below meth c H' locs (cells + 1) (slots + n) Q (F0 m np lr st2)) → W p l e R s m args below meth c H locs cells slots Q (F0 m pc lr st1))
    (h : mo_XW p l e R s m args below meth c Q D CA S b scr n0 s0 n1 s1 (mo_ml mi) (np, ls, st2, mo_new μ t ln n)) : mo_XW p l e R s m args below meth c Q D CA S b scr n0 s0 n1 s1 (mo_ml mi) (pc, ls, st1, μ) := by
  obtain ⟨hb, hw⟩ := h
  have hb : mo_X μ + 1 ≤ n1 ∧ mo_S μ + n ≤ s1 := hb
  obtain ⟨-, -, -, -, -, -, -, hc1, hc2, -⟩ := Cx
  refine ⟨by show mo_X μ ≤ n1 ∧ mo_S μ ≤ s1; omega, fun a1 a2 a3 H locs lr hr hl' hq => ?_⟩
  have hr : mo_rel D CA S b scr μ H := hr
  have a1 : n0 ≤ mo_X μ := a1
  have a2 : s0 ≤ mo_S μ := a2
  refine row H locs lr _ _ hr (by show mo_X μ - n0 + 1 ≤ _; omega) (by show mo_S μ - s0 + n ≤ _; omega) (fun H' q1 q2 q3 q4 => ?_)
  have hr' : mo_rel D CA S b scr (mo_new μ t ln n) H' := mo_rel_new hr h0 h19 q1 q2 q3 q4
  have := hw (by show n0 ≤ mo_X μ + 1; omega) (by show s0 ≤ mo_S μ + n; omega) a3 H' locs lr hr' hl' hq
  show W p l e R s m args below meth c H' locs (mo_X μ - n0 + 1) (mo_S μ - s0 + n) Q (F0 m np lr st2)
  rw [show mo_X μ - n0 + 1 = mo_X μ + 1 - n0 by omega, show mo_S μ - s0 + n = mo_S μ + n - s0 by omega]
  exact this

theorem mo_nor {p q : Prop} (h : ¬ p ∨ ¬ q) : ¬ (p ∧ q) := fun r => h.elim (fun x => x r.1) (fun x => x r.2)
theorem mo_v_putf (Cx : mo_Cx p R s m args meth c D CA scr mi n0 s0 n1 s1) {cal : mo_Cal} {ret : mo_P} {k r1 r2 r3 r4 : Nat} (hd : decode (mo_B mi) pc = .ok (.putfield k, 3)) (hL : mo_fl mi k r1 r2 r3 r4 true = true)
    (h : mo_den cal ret (mo_XW p l e R s m args below meth c Q D CA S b scr n0 s0 n1 s1 (mo_ml mi)) (mo_put r1 r2 r3 (pc + 3) ls st μ)) : mo_XW p l e R s m args below meth c Q D CA S b scr n0 s0 n1 s1 (mo_ml mi) (pc, ls, st, μ) := by
  unfold mo_put at h
  split at h
  · obtain ⟨x, a, st1, rfl, hC, hX⟩ := mo_d_putI h
    exact mo_v_put (μ' := mo_wI μ r2 a x) Cx hd hL hC (fun ty q => by cases ty <;> simp [mo_ktb] at q; exact ⟨rfl, rfl⟩) rfl rfl rfl rfl rfl rfl rfl (fun kd k' a' q => by simp [mo_rd, mo_I_wI, mo_L_wI, mo_R_wI, mo_u, mo_nor q]) (by simp [mo_rd, mo_I_wI, mo_u]) hX
  · obtain ⟨x, a, st1, rfl, hC, hX⟩ := mo_d_putL h
    exact mo_v_put (μ' := mo_wL μ r2 a x) Cx hd hL hC (fun ty q => by cases ty <;> simp [mo_ktb] at q; exact ⟨rfl, rfl⟩) rfl rfl rfl rfl rfl rfl rfl (fun kd k' a' q => by simp [mo_rd, mo_I_wL, mo_L_wL, mo_R_wL, mo_u, mo_nor q]) (by simp [mo_rd, mo_L_wL, mo_u]) hX
  · obtain ⟨v, a, st1, rfl, ⟨hC, hv⟩, hX⟩ := mo_d_putR h
    have hv' : va_rf (mo_rv v) = v := by rcases hv with rfl | ⟨a, rfl⟩ <;> rfl
    exact mo_v_put (μ' := mo_wR μ r2 a (mo_rv v)) Cx hd hL hC (fun ty q => by rcases hv with rfl | ⟨a', rfl⟩ <;> cases ty <;> simp [mo_ktb] at q <;> exact ⟨rfl, rfl⟩) rfl rfl rfl rfl rfl rfl rfl (fun kd k' a' q => by simp [mo_rd, mo_I_wR, mo_L_wR, mo_R_wR, mo_u, mo_nor q]) (by simp [mo_rd, mo_R_wR, mo_u, hv']) hX
  · obtain ⟨x, a, st1, rfl, ⟨hC, hv⟩, hX⟩ := mo_d_putZ h
    rename_i n1 n2 n3
    exact mo_v_put (μ' := mo_wI μ r2 a x) Cx hd hL hC (fun ty q => by cases ty <;> simp [mo_ktb] at q <;> first | exact absurd q n1 | exact absurd q n2 | exact absurd q n3 | (rcases hv with rfl | rfl <;> exact ⟨rfl, rfl⟩)) rfl rfl rfl rfl rfl rfl rfl (fun kd k' a' q => by simp [mo_rd, mo_I_wI, mo_L_wI, mo_R_wI, mo_u, mo_nor q]) (by unfold mo_rd; split <;> first | exact absurd rfl n1 | exact absurd rfl n2 | exact absurd rfl n3 | simp [mo_I_wI, mo_u]) hX
theorem mo_v_iast (Cx : mo_Cx p R s m args meth c D CA scr mi n0 s0 n1 s1) {a : Nat} {x k : Int32} (hd : decode (mo_B mi) pc = .ok (.iastore, 1)) (hC : mo_C μ a = 20) (hin : vp_in k (mo_N μ a))
    (hX : mo_XW p l e R s m args below meth c Q D CA S b scr n0 s0 n1 s1 (mo_ml mi) (pc + 1, ls, st, mo_wAI μ a k.toNatClampNeg x)) : mo_XW p l e R s m args below meth c Q D CA S b scr n0 s0 n1 s1 (mo_ml mi) (pc, ls, .int x :: .int k :: .ref a :: st, μ) := by
  refine mo_v_ast (μ' := mo_wAI μ a k.toNatClampNeg x) (a := a) Cx (v := .int x) (i := k.toNatClampNeg) (by omega) rfl rfl rfl rfl rfl rfl rfl (fun a' q => ⟨by funext j; simp [mo_AI_wAI, mo_u, q], by funext j; simp [mo_el, mo_C_wAI, mo_AI_wAI, mo_AL_wAI, mo_AR_wAI, mo_u, q]⟩) (by funext j; simp [mo_el, mo_C_wAI, mo_AI_wAI, mo_AL_wAI, mo_AR_wAI, mo_u, updV, hC]; split <;> rfl) (fun H locs lr cells slots hr kk => ?_) hX
  obtain ⟨g1, g2⟩ := hr.2.2.2.2.2.2.1 a (by omega)
  exact W.iast Cx.1 Cx.2.1 g2 (by rw [hC]; exact (Cx.2.2.2.2.2.1.2.1 20 _ rfl).1 _ _) (fun q => by cases q) (by rw [arrV_size]; exact hin) rfl rfl hd kk
theorem mo_v_zast (Cx : mo_Cx p R s m args meth c D CA scr mi n0 s0 n1 s1) {a : Nat} {x k : Int32} (hd : decode (mo_B mi) pc = .ok (.bastore, 1)) (hC : mo_C μ a = 22) (hin : vp_in k (mo_N μ a)) (h01 : x = 0 ∨ x = 1)
    (hX : mo_XW p l e R s m args below meth c Q D CA S b scr n0 s0 n1 s1 (mo_ml mi) (pc + 1, ls, st, mo_wAI μ a k.toNatClampNeg x)) : mo_XW p l e R s m args below meth c Q D CA S b scr n0 s0 n1 s1 (mo_ml mi) (pc, ls, .int x :: .int k :: .ref a :: st, μ) := by
  refine mo_v_ast (μ' := mo_wAI μ a k.toNatClampNeg x) (a := a) Cx (v := .int x) (i := k.toNatClampNeg) (by omega) rfl rfl rfl rfl rfl rfl rfl (fun a' q => ⟨by funext j; simp [mo_AI_wAI, mo_u, q], by funext j; simp [mo_el, mo_C_wAI, mo_AI_wAI, mo_AL_wAI, mo_AR_wAI, mo_u, q]⟩) (by funext j; simp [mo_el, mo_C_wAI, mo_AI_wAI, mo_AL_wAI, mo_AR_wAI, mo_u, updV, hC]; split <;> rfl) (fun H locs lr cells slots hr kk => ?_) hX
  obtain ⟨g1, g2⟩ := hr.2.2.2.2.2.2.1 a (by omega)
  exact W.zast Cx.1 Cx.2.1 g2 (by rw [hC]; exact (Cx.2.2.2.2.2.1.2.1 22 _ rfl).1 _ _) (fun q => by cases q) (by rw [arrV_size]; exact hin) rfl rfl hd (by rw [mo_z01 h01]; exact kk)
theorem mo_v_last (Cx : mo_Cx p R s m args meth c D CA scr mi n0 s0 n1 s1) {a : Nat} {x : Int64} {k : Int32} (hd : decode (mo_B mi) pc = .ok (.lastore, 1)) (hC : mo_C μ a = 21) (hin : vp_in k (mo_N μ a))
    (hX : mo_XW p l e R s m args below meth c Q D CA S b scr n0 s0 n1 s1 (mo_ml mi) (pc + 1, ls, st, mo_wAL μ a k.toNatClampNeg x)) : mo_XW p l e R s m args below meth c Q D CA S b scr n0 s0 n1 s1 (mo_ml mi) (pc, ls, .long x :: .int k :: .ref a :: st, μ) := by
  refine mo_v_ast (μ' := mo_wAL μ a k.toNatClampNeg x) (a := a) Cx (v := .long x) (i := k.toNatClampNeg) (by omega) rfl rfl rfl rfl rfl rfl rfl (fun a' q => ⟨rfl, by funext j; simp [mo_el, mo_C_wAL, mo_AI_wAL, mo_AL_wAL, mo_AR_wAL, mo_u, q]; try rfl⟩) (by funext j; simp [mo_el, mo_C_wAL, mo_AI_wAL, mo_AL_wAL, mo_AR_wAL, mo_u, updV, hC]; split <;> rfl) (fun H locs lr cells slots hr kk => ?_) hX
  obtain ⟨g1, g2⟩ := hr.2.2.2.2.2.2.1 a (by omega)
  exact W.last Cx.1 Cx.2.1 g2 (by rw [hC]; exact (Cx.2.2.2.2.2.1.2.1 21 _ rfl).1 _ _) (fun q => by cases q) (by rw [arrV_size]; exact hin) rfl rfl hd kk
theorem mo_v_aast (Cx : mo_Cx p R s m args meth c D CA scr mi n0 s0 n1 s1) {a : Nat} {v : Value} {k : Int32} (hd : decode (mo_B mi) pc = .ok (.aastore, 1)) (hC : 30 ≤ mo_C μ a) (hin : vp_in k (mo_N μ a)) (hv : mo_isR v) (hvc : ∀ q, mo_rv v = some q → mo_C μ q + 29 = mo_C μ a)
    (hX : mo_XW p l e R s m args below meth c Q D CA S b scr n0 s0 n1 s1 (mo_ml mi) (pc + 1, ls, st, mo_wAR μ a k.toNatClampNeg (mo_rv v))) : mo_XW p l e R s m args below meth c Q D CA S b scr n0 s0 n1 s1 (mo_ml mi) (pc, ls, v :: .int k :: .ref a :: st, μ) := by
  have hx := Cx.1
  have hb := Cx.2.1
  have hK := Cx.2.2.2.2.2.1
  refine mo_v_ast (μ' := mo_wAR μ a k.toNatClampNeg (mo_rv v)) (a := a) Cx (v := v) (i := k.toNatClampNeg) (by omega) rfl rfl rfl rfl rfl rfl rfl (fun a' q => ⟨rfl, by funext j; simp [mo_el, mo_C_wAR, mo_AI_wAR, mo_AL_wAR, mo_AR_wAR, mo_u, q]⟩) ?_ (fun H locs lr cells slots hr kk => ?_) hX
  · have hv' : va_rf (mo_rv v) = v := by rcases hv with rfl | ⟨a, rfl⟩ <;> rfl
    have h21 : mo_C μ a ≠ 21 := by omega
    funext j
    simp only [mo_el, mo_C_wAR, mo_AI_wAR, mo_AL_wAR, mo_AR_wAR, mo_u, updV, h21, if_false, hC, if_true, true_and]
    by_cases hj : j = k.toNatClampNeg
    · rw [if_pos hj, if_pos hj, hv']
    · rw [if_neg hj, if_neg hj]
  · obtain ⟨g1, g2⟩ := hr.2.2.2.2.2.2.1 a (by omega)
    obtain ⟨ty, hty⟩ := Option.isSome_iff_exists.mp g1
    obtain ⟨RC, T, N, rfl, hcl⟩ := mo_aty_obj hty hC
    have hlt : k.toNatClampNeg < mo_N μ a := Nat.not_le.mp fun q => hin (Or.inr q)
    rcases hv with rfl | ⟨y, rfl⟩
    · exact va_WaastN (C := RC) hx hb g2 ((hK.2.1 _ _ hty).1 _ _) (fun q => by cases q) (by rw [arrV_size]; exact hin) rfl rfl hd kk
    · have hCy : mo_C μ y = (mo_C μ a - 30) + 1 := by have := hvc y rfl; omega
      obtain ⟨cellV, q1, q2, q3, -⟩ := hr.2.2.2.2.2.1 y _ RC T N hCy hcl
      have hcls := (hK.1 _ _ hcl).2
      obtain ⟨kA, comp, k1, k2, k3, -⟩ := (hK.2.1 _ _ hty).2
      have hcomp : comp = D.1 (mo_C μ a - 30) := Option.some.inj (k3.symm.trans hcls.1)
      subst hcomp
      obtain ⟨kC, hkC, -⟩ := id hcls.2
      exact W.aast hx hb g2 (fun q h => by cases h) (fun h => by cases h) k1 k2 rfl hkC ⟨fun q => hin (Or.inl q), by rw [arrV_size]; exact hlt⟩ q1 (fun q h => by rw [q3] at h; cases h) (by rw [q2]; exact hkC) (by rw [q2]; exact va_assign hcls) rfl rfl hd kk
theorem mo_okL_new {k r1 r2 r3 r4 : Nat} (h : mo_okL mi pc (.new k) r1 r2 r3 r4 = true) : ∃ ci RC T, r1 = ci + 1 ∧ mo_cl[ci]? = some (RC, T, r2) ∧ lw_tbl[r4]? = some (Cond.classLink (mo_own mi) k RC) := by
  unfold mo_okL at h
  dsimp only at h
  split at h
  · cases h
  · rename_i ci
    split at h
    · rename_i RC T N hc
      simp only [Bool.and_eq_true, decide_eq_true_eq] at h
      obtain ⟨h1, h2⟩ := h
      subst h1
      exact ⟨ci, RC, T, rfl, hc, h2⟩
    · cases h
end MoV
