/-! The real machine does what the small one does: the pieces. -/
def mo_WS : List Cond := lw_tbl.filter mo_okW
theorem mo_ws {w : Cond} (h : w ∈ lw_tbl) (hk : mo_okW w = true) : w ∈ mo_WS := List.mem_filter.mpr ⟨h, hk⟩
theorem mo_ws_at {w : Cond} {i : Nat} (h : lw_tbl[i]? = some w) (hk : mo_okW w = true) : w ∈ mo_WS := mo_ws (List.mem_of_getElem? h) hk
theorem mo_ws_u {R : String} {T : u_T} {N : Nat} (h : ∀ w ∈ u_ws R T N, w ∈ lw_tbl) : ∀ w ∈ u_ws R T N, w ∈ mo_WS := by
  intro w hw
  refine mo_ws (h w hw) ?_
  obtain ⟨k, -, rfl⟩ := List.mem_map.mp hw
  unfold u_lay
  split <;> rfl
theorem mo_warm {w : Cond} (hk : mo_okW w = true) {args : Array Value} {s : State} (h : w.before args s = true) (a' : Array Value) (U : State) (hW : s.WarmedH U.vm) : w.before a' U = true := by
  unfold mo_okW at hk
  rw [Bool.or_eq_true] at hk
  rcases hk with hk | hk
  · exact word_at hW (good_of_word hk) h
  · split at hk
    · exact va_Nw.use rfl (va_Nw.warmM hW (va_Nw.of rfl h))
    · exact va_AO.use (va_AO.moved hW.alike (va_AO.of h))
    · cases hk
theorem mo_fl_spec {mi k r1 r2 r3 r4 : Nat} {w : Bool} (h : mo_fl mi k r1 r2 r3 r4 w = true) : ∃ ci R T N j, r1 = ci + 1 ∧ mo_cl[ci]? = some (R, T, N) ∧ r2 = 64 * ci + j ∧ j < N ∧ mo_kd (T j).2.2.1 = r3 ∧ lw_tbl[r4]? = some (Cond.fieldLink (mo_own mi) k R (T j).2.1 (T j).2.2.1) ∧ (w = true → (T j).2.2.2 = true → (mo_Y mi).name = "<init>" ∧ R = mo_own mi) := by
  unfold mo_fl at h
  split at h
  · cases h
  · rename_i ci
    split at h
    · rename_i R T N hc
      simp only [Bool.and_eq_true, decide_eq_true_eq, Bool.or_eq_true, Bool.not_eq_true'] at h
      obtain ⟨⟨⟨⟨h1, h2⟩, h3⟩, h4⟩, h5⟩ := h
      refine ⟨ci, R, T, N, r2 - 64 * ci, rfl, hc, by omega, h2, h3, h4, fun q1 q2 => ?_⟩
      rcases h5 with (h5 | h5) | h5
      · rw [q1] at h5; cases h5
      · rw [q2] at h5; cases h5
      · exact h5
    · cases h
theorem mo_okM_spec {mj : Nat} (h : mj < 126) : (Cond.code (mo_Y mj) (mo_B mj) (mo_ml mj) (mo_rt mj) ∈ mo_WS ∧ Cond.initialized (mo_Y mj).cls ∈ mo_WS ∧ ((mo_Y mj).cls ≠ "java/lang/invoke/MethodHandle" ∧ (mo_Y mj).cls ≠ "java/lang/invoke/VarHandle") ∧ (parseMethodDescriptor (mo_Y mj).desc).map (fun d => d.parameters.length) = some (mo_na mj) ∧ (mo_Y mj).cls = mo_own mj ∧ plainName (mo_Y mj).cls = true ∧ mo_ml mj ≤ 20) ∧ (mo_at (mo_ctag mj - 1)).1 = (mo_Y mj).cls ∧ 1 ≤ mo_ctag mj ∧
    (mo_isSt mj = true → Cond.static (mo_Y mj) ∈ mo_WS) ∧ (mo_isSt mj = false → Cond.instanceMethod (mo_Y mj) ∈ mo_WS) ∧ (mo_isSt mj = false → (mo_Y mj).name ≠ "<init>" → Cond.selects (mo_Y mj).cls (mo_Y mj) (mo_Y mj) ∈ mo_WS) := by
  have q := mo_okM_all mj h
  unfold mo_okM at q
  simp only [Bool.and_eq_true, decide_eq_true_eq] at q
  obtain ⟨⟨⟨⟨⟨⟨⟨⟨q2, q3⟩, q4⟩, q5⟩, q6⟩, q7⟩, q8⟩, q9⟩, q10⟩ := q
  refine ⟨⟨mo_ws (mo_codes mj h) rfl, mo_ws_at q2 rfl, q3, q4, q5, q6, q7⟩, q8, q9, ?_, ?_, ?_⟩
  · intro r
    rw [if_pos r] at q10
    exact mo_ws_at (of_decide_eq_true q10) rfl
  · intro r
    rw [if_neg (by rw [r]; decide)] at q10
    simp only [Bool.and_eq_true, decide_eq_true_eq] at q10
    exact mo_ws_at q10.1 rfl
  · intro r r2
    rw [if_neg (by rw [r]; decide)] at q10
    simp only [Bool.and_eq_true, Bool.or_eq_true, decide_eq_true_eq] at q10
    rcases q10.2 with q | q
    · exact absurd q r2
    · exact mo_ws_at q rfl
theorem mo_lk_spec {mi k mj r4 : Nat} (h : mo_lk mi k mj r4 = true) : Cond.methodLink (mo_own mi) k (mo_Y mj) ∈ mo_WS ∨ Cond.methodLinkNest (mo_own mi) k (mo_Y mj) "MakerOrders" ∈ mo_WS := by
  unfold mo_lk at h
  rw [Bool.or_eq_true] at h
  rcases h with h | h
  · exact Or.inl (mo_ws_at (of_decide_eq_true h) rfl)
  · exact Or.inr (mo_ws_at (of_decide_eq_true h) rfl)
theorem mo_def {kd : Nat} {ty : FieldType} (h : mo_ktb kd ty = true) (μ : mo_Mem) (t ln n key : Nat) : defaultValue ty = mo_rd kd (mo_new μ t ln n) key (mo_X μ) := by
  cases ty <;> simp [mo_ktb] at h <;> subst h <;> simp [mo_rd, defaultValue, mo_I_new, mo_L_new, mo_R_new, mo_z, va_rf]
theorem mo_aty_obj {t : Nat} {ty : FieldType} (h : mo_aty t = some ty) (ht : 30 ≤ t) : ∃ R T N, ty = .object R ∧ mo_cl[t - 30]? = some (R, T, N) := by
  unfold mo_aty at h
  split at h <;> first | omega | (cases h; exact ⟨_, _, _, rfl, rfl⟩) | cases h
set_option maxRecDepth 100000 in
theorem mo_clsne : (List.range 126).all (fun mj => decide ((mo_Y mj).cls ≠ "")) = true := by decide +kernel
section MoW
variable {p : Program} {l : Launch} {e : Env} {R : Room} {s : State} {m : MethodId} {args : Array Value} {below : List Frame} {meth : Method} {c : Code} {Q : State → Prop} {D : va_G} {CA : Nat → ClassId} {S b : Nat} {scr : Cell} {n0 s0 n1 s1 mi nL : Nat}
def mo_Cx (p : Program) (R : Room) (s : State) (m : MethodId) (args : Array Value) (meth : Method) (c : Code) (D : va_G) (CA : Nat → ClassId) (scr : Cell) (mi n0 s0 n1 s1 : Nat) : Prop :=
  p.tables.exec = Jvm.exec ∧ c.code = mo_B mi ∧ c.maxLocals = mo_ml mi ∧ s.vm.findClass (mo_own mi) = some m.cls ∧ (∀ w ∈ mo_WS, w.before args s = true) ∧ mo_KK D CA scr s ∧ ((mo_Y mi).name = "<init>" → meth.name = "<init>") ∧ n1 - n0 ≤ R.cells ∧ s1 - s0 ≤ R.slots ∧ 1 ≤ R.frames ∧ 20 ≤ R.locals
def mo_XW (p : Program) (l : Launch) (e : Env) (R : Room) (s : State) (m : MethodId) (args : Array Value) (below : List Frame) (meth : Method) (c : Code) (Q : State → Prop) (D : va_G) (CA : Nat → ClassId) (S b : Nat) (scr : Cell) (n0 s0 n1 s1 nL : Nat) (t : mo_St) : Prop :=
  (mo_X t.2.2.2 ≤ n1 ∧ mo_S t.2.2.2 ≤ s1) ∧ (n0 ≤ mo_X t.2.2.2 → s0 ≤ mo_S t.2.2.2 → t.2.1.length = nL → ∀ (H : Heap) (locs : List Loc) (lr : Array Slot), mo_rel D CA S b scr t.2.2.2 H → mo_lsR lr t.2.1 → (∀ q ∈ locs, S ≤ q.base) → W p l e R s m args below meth c H locs (mo_X t.2.2.2 - n0) (mo_S t.2.2.2 - s0) Q (F0 m t.1 lr t.2.2.1))
variable {H : Heap} {locs : List Loc} {lr : Array Slot} {cells slots : Nat} {rest : List Value} {μ : mo_Mem} {pc : Nat}
theorem mo_getW (Cx : mo_Cx p R s m args meth c D CA scr mi n0 s0 n1 s1) {k r1 r2 r3 r4 a : Nat} {w : Bool} (hd : decode (mo_B mi) pc = .ok (.getfield k, 3)) (hok : mo_fl mi k r1 r2 r3 r4 w = true) (hr : mo_rel D CA S b scr μ H) (hC : mo_C μ a = r1)
    (kk : W p l e R s m args below meth c H locs cells slots Q (F0 m (pc + 3) lr (mo_rd r3 μ r2 a :: rest))) : W p l e R s m args below meth c H locs cells slots Q (F0 m pc lr (.ref a :: rest)) := by
  obtain ⟨hx, hb, -, hown, hts, hK, -⟩ := Cx
  obtain ⟨ci, RC, T, N, j, rfl, hc, rfl, hj, rfl, hl, -⟩ := mo_fl_spec hok
  obtain ⟨hin, -, -, hT, -⟩ := mo_cls_ok ci RC T N hc
  obtain ⟨hS, hfc, kC, hkC, hkind⟩ := hK.1 ci _ hc
  obtain ⟨cf, kf, fi, f, hi, hsl⟩ := hS j hj
  obtain ⟨cell, q1, q2, q3, q4⟩ := hr.2.2.2.2.2.1 a ci RC T N hC hc
  have hst := (u_facts hfc hkC (u_lays hts (mo_ws_u hin) hj) hi).1
  have hi' : s.fieldFound? RC (T j).2.1 (T j).2.2.1 = some (cf, kf, fi, f) := by rw [← (hT j hj).1]; exact hi
  exact W.getf hx hb hown (hts _ (mo_ws_at hl rfl)) hi' hst q1 (by rw [q3]; exact fun h => by cases h) (by rw [hsl, q4 j hj]) rfl rfl hd kk
theorem mo_putW (Cx : mo_Cx p R s m args meth c D CA scr mi n0 s0 n1 s1) {k ci j r4 a N : Nat} {RC : String} {T : u_T} {v : Value} (hd : decode (mo_B mi) pc = .ok (.putfield k, 3)) (hc : mo_cl[ci]? = some (RC, T, N)) (hj : j < N) (hl : lw_tbl[r4]? = some (Cond.fieldLink (mo_own mi) k RC (T j).2.1 (T j).2.2.1)) (hf : (T j).2.2.2 = true → (mo_Y mi).name = "<init>" ∧ RC = mo_own mi) (hr : mo_rel D CA S b scr μ H) (hC : mo_C μ a = ci + 1) (hn : narrow (mo_cty ci j) v = v) (hfit : fits (mo_cty ci j) v = true)
    (kk : ∀ (H' : Heap) (x : Nat), t_OB a (D.1 ci) N (D.2 ci) H' (updV (fun j => mo_rd (mo_kd (T j).2.2.1) μ (64 * ci + j) a) j v) → H'.size = H.size → (∀ q, q ≠ a → H'[q]? = H[q]?) → W p l e R s m args below meth c H' (locs ++ [⟨a, x⟩]) cells slots Q (F0 m (pc + 3) lr rest)) : W p l e R s m args below meth c H locs cells slots Q (F0 m pc lr (v :: .ref a :: rest)) := by
  obtain ⟨hx, hb, -, hown, hts, hK, hnm, -⟩ := Cx
  obtain ⟨hin, hty, hap0, hT, -⟩ := mo_cls_ok ci RC T N hc
  have hin := mo_ws_u hin
  obtain ⟨hS, hfc, kC, hkC, hkind⟩ := hK.1 ci _ hc
  obtain ⟨cf, kf, fi, f, hi, hsl⟩ := hS j hj
  obtain ⟨cell, q1, q2, q3, q4⟩ := hr.2.2.2.2.2.1 a ci RC T N hC hc
  have hst := (u_facts hfc hkC (u_lays hts hin hj) hi).1
  have hi' : s.fieldFound? RC (T j).2.1 (T j).2.2.1 = some (cf, kf, fi, f) := by rw [← (hT j hj).1]; exact hi
  have hap : ∀ x y, x < N → y < N → x ≠ y → (D.2 ci) x ≠ (D.2 ci) y := by
    intro x y hx' hy' hne
    obtain ⟨_, _, _, fa, hia, ea⟩ := hS x hx'
    obtain ⟨_, _, _, fb, hib, eb⟩ := hS y hy'
    rw [← ea, ← eb]
    refine u_apart (u_lays hts hin hx') (u_lays hts hin hy') hia hib ?_
    rw [(State.fieldFound?_type hia (hty x hx')).1, (State.fieldFound?_type hib (hty y hy')).1]
    exact hap0 x hx' y hy' hne
  have hlay := hts _ (hin _ (u_in_lay hj))
  unfold u_lay at hlay
  have hsl' : f.slot < cell.slots.size := by rw [hsl]; exact k2_hasslot (q4 j hj)
  by_cases hfin : (T j).2.2.2 = true
  · rw [if_pos hfin] at hlay
    obtain ⟨g1, g2⟩ := hf hfin
    have hcf : m.cls = cf := by
      obtain ⟨_, _, c', _, _, _, -, -, hf', -, -, -, hown2, -⟩ := Cond.laysFinal_spec hlay
      have e1 : c' = cf := by have := hi.symm.trans hf'; simp at this; exact this.1.symm
      rw [(hT j hj).1, g2] at hown2
      rw [← e1]; exact Option.some.inj (hown.symm.trans hown2)
    have h6 := u_fits hfc hkC hkind (Or.inr hlay) hi (hty j hj) hn hfit
    refine W.putFinK hx hb hown (hts _ (mo_ws_at hl rfl)) hi' hst hcf (hnm g1) (by rw [q2]; exact h6) q1 q3 hsl' rfl rfl hd fun H' e1 e2 e3 => ?_
    exact kk H' _ ⟨cell.setSlot (D.2 ci j) v, by rw [hsl] at e1; exact e1, q2, q3, t_set q4 hap hj v⟩ e2 e3
  · rw [if_neg hfin] at hlay
    have h6 := u_store hfc hkC hkind hlay hi (hty j hj) hn hfit
    refine W.putK hx hb (f := f) ⟨hown, hts _ (mo_ws_at hl rfl), ⟨_, _, _, hi'⟩, hst⟩ (by rw [q2]; exact h6) q1 q3 hsl' rfl rfl hd fun H' e1 e2 e3 => ?_
    exact kk H' _ ⟨cell.setSlot (D.2 ci j) v, by rw [hsl] at e1; exact e1, q2, q3, t_set q4 hap hj v⟩ e2 e3
theorem mo_runW {mc ms : Nat} {g : JFrame} {Qa : State → Outcome → State → Prop} {free : Addr → Prop} (hr : va_Run p l e R s m args below meth c H locs cells slots mc ms g rest Qa free)
    (kk : ∀ (v : Option Value) (st₀ t : State) (L : List Loc), Qa st₀ (.returned v) t → (∀ q ∈ L, free q.base) → W p l e R s m args below meth c t.heap (locs ++ L) (cells + mc) (slots + ms) Q { g with pc := g.pc + 3, stack := v.toList ++ rest }) : W p l e R s m args below meth c H locs cells slots Q g := by
  intro T hT X
  obtain ⟨v, st₀, t, T', L, h0, X', hL, e1, e2, hq, st⟩ := hr T hT X
  obtain ⟨t2, a1, b1⟩ := kk v st₀ t L hq hL T' e1 X'
  exact ⟨t2, st t2 a1, b1⟩
/-- a method's contract at one start -/
def mo_met (l : Launch) (D : va_G) (CA : Nat → ClassId) (S b : Nat) (scr : Cell) (rm : Room) (mj : Nat) (vs : List Value) (μ : mo_Mem) (v : Option Value) (μ' : mo_Mem) : Prop :=
  Met l (mo_Y mj) (Cond.code (mo_Y mj) (mo_B mj) (mo_ml mj) (mo_rt mj) :: mo_WS) rm (va_Pc vs (fun U => mo_rel D CA S b scr μ U.heap ∧ mo_KK D CA scr U)) (fun _ _ o t => o = .returned v ∧ mo_rel D CA S b scr μ' t.heap) (mo_X μ' - mo_X μ) (mo_S μ' - mo_S μ) (fun q => S ≤ q)
/-- what a call owes its caller -/
def mo_calOK (l : Launch) (D : va_G) (CA : Nat → ClassId) (S b : Nat) (scr : Cell) (R : Room) (mj : Nat) (vs : List Value) (μ : mo_Mem) (v : Option Value) (μ' : mo_Mem) : Prop :=
  mo_X μ ≤ mo_X μ' ∧ mo_S μ ≤ mo_S μ' ∧ ∃ rm : Room, mo_met l D CA S b scr rm mj vs μ v μ' ∧ rm.cells = mo_X μ' - mo_X μ ∧ rm.slots = mo_S μ' - mo_S μ ∧ rm.frames + 1 ≤ R.frames ∧ 8 + (mo_ml mj + 11) + rm.locals ≤ R.locals
theorem mo_hws {mj : Nat} (h : mj < 126) (hts : ∀ w ∈ mo_WS, w.before args s = true) : ∀ w ∈ (Cond.code (mo_Y mj) (mo_B mj) (mo_ml mj) (mo_rt mj) :: mo_WS), ∀ (a' : Array Value) (U : State), s.WarmedH U.vm → w.before a' U = true := by
  intro w hw a' U hW
  have hw' : w ∈ mo_WS := by
    rcases List.mem_cons.mp hw with rfl | h2
    · exact (mo_okM_spec h).1.1
    · exact h2
  exact mo_warm (List.mem_filter.mp hw').2 (hts w hw') a' U hW
theorem mo_blind {vs : List Value} : FrameBlind (va_Pc vs (fun U => mo_rel D CA S b scr μ U.heap ∧ mo_KK D CA scr U)) :=
  fun a U g mk q => ⟨q.1, q.2.1, mo_KK.moved (u := U) (U := U.calling g mk a) (Vm.Alike.refl U.vm) q.2.2⟩
theorem mo_at_cl {t : Nat} {x : String} (h : (mo_at t).1 = x) (hx : x ≠ "") : ∃ T N, mo_cl[t]? = some (x, T, N) := by
  unfold mo_at at h
  split at h
  · rename_i RC T N hc
    subst h
    exact ⟨T, N, hc⟩
  · exact absurd h.symm hx
variable {v : Option Value} {μ' : mo_Mem} {mj k : Nat} {vs : List Value}
theorem mo_callV (Cx : mo_Cx p R s m args meth c D CA scr mi n0 s0 n1 s1) (hmj : mj < 126) {r4 a : Nat} {As : List Value} (hlk : mo_lk mi k mj r4 = true) (hst : mo_isSt mj = false) (hnm : (mo_Y mj).name ≠ "<init>") (hn : As.length = mo_na mj) (hd : decode (mo_B mi) pc = .ok (.invokevirtual k, 3)) (hr : mo_rel D CA S b scr μ H) (hC : mo_C μ a = mo_ctag mj) (hcat : mo_cat rest ≤ 8) (hsz : lr.size = mo_ml mi)
    (hM : mo_calOK l D CA S b scr R mj (.ref a :: As) μ v μ') (hf : cells + (mo_X μ' - mo_X μ) ≤ R.cells ∧ slots + (mo_S μ' - mo_S μ) ≤ R.slots)
    (kk : ∀ (H' : Heap) (L : List Loc), mo_rel D CA S b scr μ' H' → (∀ q ∈ L, S ≤ q.base) → W p l e R s m args below meth c H' (locs ++ L) (cells + (mo_X μ' - mo_X μ)) (slots + (mo_S μ' - mo_S μ)) Q (F0 m (pc + 3) lr (v.toList ++ rest))) : W p l e R s m args below meth c H locs cells slots Q (F0 m pc lr (As.reverse ++ .ref a :: rest)) := by
  obtain ⟨hx, hb, hml, hown, hts, hK, -⟩ := Cx
  obtain ⟨-, -, rm, hmet, hrc, hrs, hfr, hlo⟩ := hM
  obtain ⟨⟨w1, w2, w3, w4, w5, w6, w7⟩, w8, w9, -, w10, w11⟩ := mo_okM_spec hmj
  have hlen : ∀ sig, parseMethodDescriptor (mo_Y mj).desc = some sig → mo_na mj = sig.parameters.length := fun sig h => by
    rw [h] at w4
    exact (Option.some.inj w4).symm
  have hne : (mo_Y mj).cls ≠ "" := of_decide_eq_true (List.all_eq_true.mp mo_clsne mj (List.mem_range.mpr hmj))
  obtain ⟨T, N, hcl⟩ := mo_at_cl w8 hne
  obtain ⟨cell, q1, q2, q3, q4⟩ := hr.2.2.2.2.2.1 a (mo_ctag mj - 1) _ T N (by omega) hcl
  have hcB : ∃ cellB : Cell, H[a]? = some cellB ∧ cellB.vm.isStatics = false ∧ s.vm.findClass (mo_Y mj).cls = some cellB.cls := ⟨cell, q1, by rw [q3]; rfl, by rw [q2]; exact (hK.1 _ _ hcl).2.1⟩
  have hp : PreV s H (mo_Y mj).cls a (va_Pc (.ref a :: As) (fun U => mo_rel D CA S b scr μ U.heap ∧ mo_KK D CA scr U)) As := ⟨mo_blind, hcB, fun U hU hW => ⟨rfl, by rw [hU]; exact hr, mo_KK.moved hW.alike hK⟩⟩
  have hgo : va_Run p l e R s m args below meth c H locs cells slots (mo_X μ' - mo_X μ) (mo_S μ' - mo_S μ) (F0 m pc lr (As.reverse ++ .ref a :: rest)) rest (fun _ o t => o = .returned v ∧ mo_rel D CA S b scr μ' t.heap) (fun q => S ≤ q) := by
    rcases mo_lk_spec hlk with hl | hl
    · exact va_runV (Ts := mo_WS) (own := mo_own mi) (C := (mo_Y mj).cls) (n := mo_na mj) ⟨hx, hb, hml, hown, hts⟩ hmet ⟨⟨hrc, hrs, hfr, hlo, mo_hws hmj hts, List.mem_cons_self, hts _ w1, hts _ w2, w3, hlen, hts _ hl⟩, hts _ (w10 hst), hts _ (w11 hst hnm)⟩ hp rfl hn hsz rfl (lv_room hcat) hd hf
    · exact va_runVN (Ts := mo_WS) (own := mo_own mi) (C := (mo_Y mj).cls) (n := mo_na mj) (host := "MakerOrders") ⟨hx, hb, hml, hown, hts⟩ hmet ⟨⟨⟨hrc, hrs, hfr, hlo, mo_hws hmj hts, List.mem_cons_self⟩, hts _ w1, hts _ w2, w3, hlen, hts _ hl⟩, hts _ (w10 hst), hts _ (w11 hst hnm)⟩ hp rfl hn hsz rfl (lv_room hcat) hd hf
  refine mo_runW hgo (fun v' st₀ t L hq hL => ?_)
  obtain ⟨e1, e2⟩ := hq
  cases e1
  exact kk t.heap L e2 hL
theorem mo_callI (Cx : mo_Cx p R s m args meth c D CA scr mi n0 s0 n1 s1) (hmj : mj < 126) {r4 a : Nat} {As : List Value} (hlk : mo_lk mi k mj r4 = true) (hst : mo_isSt mj = false) (hnm : (mo_Y mj).name = "<init>") (hrt : mo_rt mj = none) (hn : As.length = mo_na mj) (hd : decode (mo_B mi) pc = .ok (.invokespecial k, 3)) (hr : mo_rel D CA S b scr μ H) (hcat : mo_cat rest ≤ 8) (hsz : lr.size = mo_ml mi)
    (hM : mo_calOK l D CA S b scr R mj (.ref a :: As) μ v μ') (hf : cells + (mo_X μ' - mo_X μ) ≤ R.cells ∧ slots + (mo_S μ' - mo_S μ) ≤ R.slots)
    (kk : ∀ (H' : Heap) (L : List Loc), mo_rel D CA S b scr μ' H' → (∀ q ∈ L, S ≤ q.base) → W p l e R s m args below meth c H' (locs ++ L) (cells + (mo_X μ' - mo_X μ)) (slots + (mo_S μ' - mo_S μ)) Q (F0 m (pc + 3) lr (v.toList ++ rest))) : W p l e R s m args below meth c H locs cells slots Q (F0 m pc lr (As.reverse ++ .ref a :: rest)) := by
  obtain ⟨hx, hb, hml, hown, hts, hK, -⟩ := Cx
  obtain ⟨-, -, rm, hmet, hrc, hrs, hfr, hlo⟩ := hM
  obtain ⟨⟨w1, w2, w3, w4, w5, w6, w7⟩, w8, w9, -, w10, w11⟩ := mo_okM_spec hmj
  have hlen : ∀ sig, parseMethodDescriptor (mo_Y mj).desc = some sig → mo_na mj = sig.parameters.length := fun sig h => by
    rw [h] at w4
    exact (Option.some.inj w4).symm
  have hws := mo_hws (args := args) (s := s) hmj hts
  unfold mo_met at hmet
  rw [hrt] at hmet w1 hws
  have hp : PreS s H (va_Pc (.ref a :: As) (fun U => mo_rel D CA S b scr μ U.heap ∧ mo_KK D CA scr U)) (.ref a :: As) := ⟨mo_blind, fun U hU hW => ⟨rfl, by rw [hU]; exact hr, mo_KK.moved hW.alike hK⟩⟩
  have hgo : va_Run p l e R s m args below meth c H locs cells slots (mo_X μ' - mo_X μ) (mo_S μ' - mo_S μ) (F0 m pc lr (As.reverse ++ .ref a :: rest)) rest (fun _ o t => o = .returned v ∧ mo_rel D CA S b scr μ' t.heap) (fun q => S ≤ q) := by
    rcases mo_lk_spec hlk with hl | hl
    · exact va_runI (Ts := mo_WS) (own := mo_own mi) (n := mo_na mj) ⟨hx, hb, hml, hown, hts⟩ hmet ⟨⟨hrc, hrs, hfr, hlo, hws, List.mem_cons_self, hts _ w1, hts _ w2, w3, hlen, hts _ hl⟩, hnm, hts _ (w10 hst)⟩ hp rfl hn hsz rfl (lv_room hcat) hd hf
    · exact va_runIN (Ts := mo_WS) (own := mo_own mi) (n := mo_na mj) (host := "MakerOrders") ⟨hx, hb, hml, hown, hts⟩ hmet ⟨⟨⟨hrc, hrs, hfr, hlo, hws, List.mem_cons_self⟩, hts _ w1, hts _ w2, w3, hlen, hts _ hl⟩, hnm, hts _ (w10 hst)⟩ hp rfl hn hsz rfl (lv_room hcat) hd hf
  refine mo_runW hgo (fun v' st₀ t L hq hL => ?_)
  obtain ⟨e1, e2⟩ := hq
  cases e1
  exact kk t.heap L e2 hL
theorem mo_callS (Cx : mo_Cx p R s m args meth c D CA scr mi n0 s0 n1 s1) (hmj : mj < 126) {r4 : Nat} {As : List Value} (hlk : mo_lk mi k mj r4 = true) (hst : mo_isSt mj = true) (hn : As.length = mo_na mj) (hd : decode (mo_B mi) pc = .ok (.invokestatic k, 3)) (hr : mo_rel D CA S b scr μ H) (hcat : mo_cat rest ≤ 8) (hsz : lr.size = mo_ml mi)
    (hM : mo_calOK l D CA S b scr R mj As μ v μ') (hf : cells + (mo_X μ' - mo_X μ) ≤ R.cells ∧ slots + (mo_S μ' - mo_S μ) ≤ R.slots)
    (kk : ∀ (H' : Heap) (L : List Loc), mo_rel D CA S b scr μ' H' → (∀ q ∈ L, S ≤ q.base) → W p l e R s m args below meth c H' (locs ++ L) (cells + (mo_X μ' - mo_X μ)) (slots + (mo_S μ' - mo_S μ)) Q (F0 m (pc + 3) lr (v.toList ++ rest))) : W p l e R s m args below meth c H locs cells slots Q (F0 m pc lr (As.reverse ++ rest)) := by
  obtain ⟨hx, hb, hml, hown, hts, hK, -⟩ := Cx
  obtain ⟨-, -, rm, hmet, hrc, hrs, hfr, hlo⟩ := hM
  obtain ⟨⟨w1, w2, w3, w4, w5, w6, w7⟩, w8, w9, w12, -, -⟩ := mo_okM_spec hmj
  have hlen : ∀ sig, parseMethodDescriptor (mo_Y mj).desc = some sig → mo_na mj = sig.parameters.length := fun sig h => by
    rw [h] at w4
    exact (Option.some.inj w4).symm
  have hp : PreS s H (va_Pc As (fun U => mo_rel D CA S b scr μ U.heap ∧ mo_KK D CA scr U)) As := ⟨mo_blind, fun U hU hW => ⟨rfl, by rw [hU]; exact hr, mo_KK.moved hW.alike hK⟩⟩
  have hgo : va_Run p l e R s m args below meth c H locs cells slots (mo_X μ' - mo_X μ) (mo_S μ' - mo_S μ) (F0 m pc lr (As.reverse ++ rest)) rest (fun _ o t => o = .returned v ∧ mo_rel D CA S b scr μ' t.heap) (fun q => S ≤ q) := by
    rcases mo_lk_spec hlk with hl | hl
    · exact va_runS (Ts := mo_WS) (own := mo_own mi) (n := mo_na mj) ⟨hx, hb, hml, hown, hts⟩ hmet ⟨⟨hrc, hrs, hfr, hlo, mo_hws hmj hts, List.mem_cons_self, hts _ w1, hts _ w2, w3, hlen, hts _ hl⟩, hts _ (w12 hst)⟩ hp rfl hn hsz rfl (lv_room hcat) hd hf
    · exact va_runSN (Ts := mo_WS) (own := mo_own mi) (n := mo_na mj) (host := "MakerOrders") ⟨hx, hb, hml, hown, hts⟩ hmet ⟨⟨⟨hrc, hrs, hfr, hlo, mo_hws hmj hts, List.mem_cons_self⟩, hts _ w1, hts _ w2, w3, hlen, hts _ hl⟩, hts _ (w12 hst), trivial⟩ hp rfl hn hsz rfl (lv_room hcat) hd hf
  refine mo_runW hgo (fun v' st₀ t L hq hL => ?_)
  obtain ⟨e1, e2⟩ := hq
  cases e1
  exact kk t.heap L e2 hL
end MoW
