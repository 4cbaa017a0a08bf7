/-! A small machine over typed maps: what the bytecode does, as a function. -/
abbrev mo_Mem : Type := (Nat → Nat) × (Nat → Nat) × (Nat → Nat → Int32) × (Nat → Nat → Int64) × (Nat → Nat → Option Nat) × (Nat → Nat → Int32) × (Nat → Nat → Int64) × (Nat → Nat → Option Nat) × Nat × Nat
def mo_C (μ : mo_Mem) : Nat → Nat := μ.1
def mo_N (μ : mo_Mem) : Nat → Nat := μ.2.1
def mo_I (μ : mo_Mem) : Nat → Nat → Int32 := μ.2.2.1
def mo_L (μ : mo_Mem) : Nat → Nat → Int64 := μ.2.2.2.1
def mo_R (μ : mo_Mem) : Nat → Nat → Option Nat := μ.2.2.2.2.1
def mo_AI (μ : mo_Mem) : Nat → Nat → Int32 := μ.2.2.2.2.2.1
def mo_AL (μ : mo_Mem) : Nat → Nat → Int64 := μ.2.2.2.2.2.2.1
def mo_AR (μ : mo_Mem) : Nat → Nat → Option Nat := μ.2.2.2.2.2.2.2.1
def mo_X (μ : mo_Mem) : Nat := μ.2.2.2.2.2.2.2.2.1
def mo_S (μ : mo_Mem) : Nat := μ.2.2.2.2.2.2.2.2.2
def mo_u {α : Type} (f : Nat → Nat → α) (k a : Nat) (x : α) : Nat → Nat → α := fun k' a' => if k' = k ∧ a' = a then x else f k' a'
def mo_z {α : Type} (f : Nat → Nat → α) (a : Nat) (x : α) : Nat → Nat → α := fun k' a' => if a' = a then x else f k' a'
def mo_y {α : Type} (f : Nat → Nat → α) (a : Nat) (x : α) : Nat → Nat → α := fun a' i => if a' = a then x else f a' i
def mo_v (f : Nat → Nat) (a x : Nat) : Nat → Nat := fun a' => if a' = a then x else f a'
def mo_wI (μ : mo_Mem) (k a : Nat) (x : Int32) : mo_Mem := (mo_C μ, mo_N μ, mo_u (mo_I μ) k a x, mo_L μ, mo_R μ, mo_AI μ, mo_AL μ, mo_AR μ, mo_X μ, mo_S μ)
def mo_wL (μ : mo_Mem) (k a : Nat) (x : Int64) : mo_Mem := (mo_C μ, mo_N μ, mo_I μ, mo_u (mo_L μ) k a x, mo_R μ, mo_AI μ, mo_AL μ, mo_AR μ, mo_X μ, mo_S μ)
def mo_wR (μ : mo_Mem) (k a : Nat) (x : Option Nat) : mo_Mem := (mo_C μ, mo_N μ, mo_I μ, mo_L μ, mo_u (mo_R μ) k a x, mo_AI μ, mo_AL μ, mo_AR μ, mo_X μ, mo_S μ)
def mo_wAI (μ : mo_Mem) (a i : Nat) (x : Int32) : mo_Mem := (mo_C μ, mo_N μ, mo_I μ, mo_L μ, mo_R μ, mo_u (mo_AI μ) a i x, mo_AL μ, mo_AR μ, mo_X μ, mo_S μ)
def mo_wAL (μ : mo_Mem) (a i : Nat) (x : Int64) : mo_Mem := (mo_C μ, mo_N μ, mo_I μ, mo_L μ, mo_R μ, mo_AI μ, mo_u (mo_AL μ) a i x, mo_AR μ, mo_X μ, mo_S μ)
def mo_wAR (μ : mo_Mem) (a i : Nat) (x : Option Nat) : mo_Mem := (mo_C μ, mo_N μ, mo_I μ, mo_L μ, mo_R μ, mo_AI μ, mo_AL μ, mo_u (mo_AR μ) a i x, mo_X μ, mo_S μ)
/-- a new cell: its tag, its length (0 of an object), how many slots it takes -/
def mo_new (μ : mo_Mem) (tag len n : Nat) : mo_Mem := (mo_v (mo_C μ) (mo_X μ) tag, mo_v (mo_N μ) (mo_X μ) len, mo_z (mo_I μ) (mo_X μ) 0, mo_z (mo_L μ) (mo_X μ) 0, mo_z (mo_R μ) (mo_X μ) none, mo_y (mo_AI μ) (mo_X μ) 0, mo_y (mo_AL μ) (mo_X μ) 0, mo_y (mo_AR μ) (mo_X μ) none, mo_X μ + 1, mo_S μ + n)
abbrev mo_LV : Type := List (Option Value)
abbrev mo_St : Type := Nat × mo_LV × List Value × mo_Mem
abbrev mo_Cl : Type := Nat × List Value × mo_Mem × Nat × mo_LV × List Value
abbrev mo_Nx : Type := mo_St ⊕ (Prop × mo_St × mo_St) ⊕ mo_Cl ⊕ (Option Value × mo_Mem)
abbrev mo_O : Type := Prop × mo_Nx
abbrev mo_P : Type := Option Value → mo_Mem → Prop
abbrev mo_Cal : Type := Nat → List Value → mo_Mem → mo_P → Prop
def mo_isR (v : Value) : Prop := v = .null ∨ ∃ a, v = .ref a
def mo_rv (v : Value) : Option Nat := match v with
  | .ref a => some a
  | _ => none
def mo_lg (ls : mo_LV) (i : Nat) : Bool := match i with
  | 0 => false
  | j + 1 => match ls[j]? with
    | some (some v) => v.category == 2
    | _ => false
def mo_st (ls : mo_LV) (i : Nat) (v : Value) : mo_LV := (if mo_lg ls i = true then ls.set (i - 1) none else ls).set i (some v)
def mo_st2 (ls : mo_LV) (i : Nat) (v : Value) : mo_LV := (mo_st ls i v).set (i + 1) none
def mo_j (s : mo_St) : mo_O := (True, .inl s)
def mo_jp (p : Prop) (s : mo_St) : mo_O := (p, .inl s)
def mo_br (c : Prop) (s t : mo_St) : mo_O := (True, .inr (.inl (c, s, t)))
def mo_brp (p c : Prop) (s t : mo_St) : mo_O := (p, .inr (.inl (c, s, t)))
def mo_rt1 (p : Prop) (v : Option Value) (μ : mo_Mem) : mo_O := (p, .inr (.inr (.inr (v, μ))))
def mo_cll (p : Prop) (c : mo_Cl) : mo_O := (p, .inr (.inr (.inl c)))
def mo_bad (μ : mo_Mem) : mo_O := (False, .inr (.inr (.inr (none, μ))))
def mo_ldI (np i : Nat) (ls : mo_LV) (st : List Value) (μ : mo_Mem) : mo_O := match ls[i]? with
  | some (some (.int x)) => mo_j (np, ls, .int x :: st, μ)
  | _ => mo_bad μ
def mo_ldL (np i : Nat) (ls : mo_LV) (st : List Value) (μ : mo_Mem) : mo_O := match ls[i]? with
  | some (some (.long x)) => mo_j (np, ls, .long x :: st, μ)
  | _ => mo_bad μ
def mo_ldA (np i : Nat) (ls : mo_LV) (st : List Value) (μ : mo_Mem) : mo_O := match ls[i]? with
  | some (some v) => mo_jp (mo_isR v) (np, ls, v :: st, μ)
  | _ => mo_bad μ
def mo_sI (np i : Nat) (ls : mo_LV) (st : List Value) (μ : mo_Mem) : mo_O := match st with
  | .int x :: st => mo_jp (i < ls.length) (np, mo_st ls i (.int x), st, μ)
  | _ => mo_bad μ
def mo_sL (np i : Nat) (ls : mo_LV) (st : List Value) (μ : mo_Mem) : mo_O := match st with
  | .long x :: st => mo_jp (i + 1 < ls.length) (np, mo_st2 ls i (.long x), st, μ)
  | _ => mo_bad μ
def mo_sA (np i : Nat) (ls : mo_LV) (st : List Value) (μ : mo_Mem) : mo_O := match st with
  | v :: st => mo_jp (mo_isR v ∧ i < ls.length) (np, mo_st ls i v, st, μ)
  | _ => mo_bad μ
def mo_inc (np i : Nat) (n : Int) (ls : mo_LV) (st : List Value) (μ : mo_Mem) : mo_O := match ls[i]? with
  | some (some (.int x)) => mo_j (np, mo_st ls i (.int (x + Int32.ofInt n)), st, μ)
  | _ => mo_bad μ
def mo_ii (f : Int32 → Int32 → Int32) (np : Nat) (ls : mo_LV) (st : List Value) (μ : mo_Mem) : mo_O := match st with
  | .int y :: .int x :: st => mo_j (np, ls, .int (f x y) :: st, μ)
  | _ => mo_bad μ
def mo_id (f : Int32 → Int32 → Int32) (np : Nat) (ls : mo_LV) (st : List Value) (μ : mo_Mem) : mo_O := match st with
  | .int y :: .int x :: st => mo_jp (¬ y = 0) (np, ls, .int (f x y) :: st, μ)
  | _ => mo_bad μ
def mo_ll (f : Int64 → Int64 → Int64) (np : Nat) (ls : mo_LV) (st : List Value) (μ : mo_Mem) : mo_O := match st with
  | .long y :: .long x :: st => mo_j (np, ls, .long (f x y) :: st, μ)
  | _ => mo_bad μ
def mo_ld (f : Int64 → Int64 → Int64) (np : Nat) (ls : mo_LV) (st : List Value) (μ : mo_Mem) : mo_O := match st with
  | .long y :: .long x :: st => mo_jp (¬ y = 0) (np, ls, .long (f x y) :: st, μ)
  | _ => mo_bad μ
def mo_shl (np : Nat) (ls : mo_LV) (st : List Value) (μ : mo_Mem) : mo_O := match st with
  | .int y :: .long x :: st => mo_j (np, ls, .long (x <<< (y.toInt64 &&& 63)) :: st, μ)
  | _ => mo_bad μ
def mo_cmp (np : Nat) (ls : mo_LV) (st : List Value) (μ : mo_Mem) : mo_O := match st with
  | .long y :: .long x :: st => mo_j (np, ls, .int (lg_cmp x y) :: st, μ)
  | _ => mo_bad μ
def mo_i2l (np : Nat) (ls : mo_LV) (st : List Value) (μ : mo_Mem) : mo_O := match st with
  | .int x :: st => mo_j (np, ls, .long x.toInt64 :: st, μ)
  | _ => mo_bad μ
def mo_l2i (np : Nat) (ls : mo_LV) (st : List Value) (μ : mo_Mem) : mo_O := match st with
  | .long x :: st => mo_j (np, ls, .int x.toInt32 :: st, μ)
  | _ => mo_bad μ
def mo_dup (np : Nat) (ls : mo_LV) (st : List Value) (μ : mo_Mem) : mo_O := match st with
  | v :: st => mo_jp (v.category = 1) (np, ls, v :: v :: st, μ)
  | _ => mo_bad μ
def mo_dup2 (np : Nat) (ls : mo_LV) (st : List Value) (μ : mo_Mem) : mo_O := match st with
  | v :: w :: st => mo_jp (v.category = 1 ∧ w.category = 1) (np, ls, v :: w :: v :: w :: st, μ)
  | _ => mo_bad μ
def mo_pop (np : Nat) (ls : mo_LV) (st : List Value) (μ : mo_Mem) : mo_O := match st with
  | v :: st => mo_jp (v.category = 1) (np, ls, st, μ)
  | _ => mo_bad μ
def mo_cP (c : Jvm.ClassFile.Cond) (x y : Int32) : Prop := match c with
  | .eq => x = y
  | .ne => ¬ x = y
  | .lt => x < y
  | .ge => y ≤ x
  | .gt => y < x
  | .le => x ≤ y
def mo_if (c : Jvm.ClassFile.Cond) (tgt np : Nat) (ls : mo_LV) (st : List Value) (μ : mo_Mem) : mo_O := match st with
  | .int x :: st => mo_br (mo_cP c x 0) (tgt, ls, st, μ) (np, ls, st, μ)
  | _ => mo_bad μ
def mo_icmp (c : Jvm.ClassFile.Cond) (tgt np : Nat) (ls : mo_LV) (st : List Value) (μ : mo_Mem) : mo_O := match st with
  | .int y :: .int x :: st => mo_br (mo_cP c x y) (tgt, ls, st, μ) (np, ls, st, μ)
  | _ => mo_bad μ
/-- references that differ -/
def mo_acmpne (tgt np : Nat) (ls : mo_LV) (st : List Value) (μ : mo_Mem) : mo_O := match st with
  | v :: w :: st => mo_brp (mo_isR v ∧ mo_isR w) (¬ mo_rv w = mo_rv v) (tgt, ls, st, μ) (np, ls, st, μ)
  | _ => mo_bad μ
def mo_nul (tn tr : Nat) (ls : mo_LV) (st : List Value) (μ : mo_Mem) : mo_O := match st with
  | v :: st => mo_brp (mo_isR v) (mo_rv v = none) (tn, ls, st, μ) (tr, ls, st, μ)
  | _ => mo_bad μ
def mo_rd (kd : Nat) (μ : mo_Mem) (key a : Nat) : Value := match kd with
  | 1 => .long (mo_L μ key a)
  | 2 => va_rf (mo_R μ key a)
  | _ => .int (mo_I μ key a)
def mo_get (tag key kd np : Nat) (ls : mo_LV) (st : List Value) (μ : mo_Mem) : mo_O := match st with
  | .ref a :: st => mo_jp (mo_C μ a = tag) (np, ls, mo_rd kd μ key a :: st, μ)
  | _ => mo_bad μ
def mo_putI (tag key np : Nat) (ls : mo_LV) (st : List Value) (μ : mo_Mem) : mo_O := match st with
  | .int x :: .ref a :: st => mo_jp (mo_C μ a = tag) (np, ls, st, mo_wI μ key a x)
  | _ => mo_bad μ
def mo_putZ (tag key np : Nat) (ls : mo_LV) (st : List Value) (μ : mo_Mem) : mo_O := match st with
  | .int x :: .ref a :: st => mo_jp (mo_C μ a = tag ∧ (x = 0 ∨ x = 1)) (np, ls, st, mo_wI μ key a x)
  | _ => mo_bad μ
def mo_putL (tag key np : Nat) (ls : mo_LV) (st : List Value) (μ : mo_Mem) : mo_O := match st with
  | .long x :: .ref a :: st => mo_jp (mo_C μ a = tag) (np, ls, st, mo_wL μ key a x)
  | _ => mo_bad μ
def mo_putR (tag key np : Nat) (ls : mo_LV) (st : List Value) (μ : mo_Mem) : mo_O := match st with
  | v :: .ref a :: st => mo_jp (mo_C μ a = tag ∧ mo_isR v) (np, ls, st, mo_wR μ key a (mo_rv v))
  | _ => mo_bad μ
def mo_put (tag key kd np : Nat) (ls : mo_LV) (st : List Value) (μ : mo_Mem) : mo_O := match kd with
  | 0 => mo_putI tag key np ls st μ
  | 1 => mo_putL tag key np ls st μ
  | 2 => mo_putR tag key np ls st μ
  | _ => mo_putZ tag key np ls st μ
def mo_iald (tag np : Nat) (ls : mo_LV) (st : List Value) (μ : mo_Mem) : mo_O := match st with
  | .int i :: .ref a :: st => mo_jp (mo_C μ a = tag ∧ vp_in i (mo_N μ a)) (np, ls, .int (mo_AI μ a i.toNatClampNeg) :: st, μ)
  | _ => mo_bad μ
def mo_lald (np : Nat) (ls : mo_LV) (st : List Value) (μ : mo_Mem) : mo_O := match st with
  | .int i :: .ref a :: st => mo_jp (mo_C μ a = 21 ∧ vp_in i (mo_N μ a)) (np, ls, .long (mo_AL μ a i.toNatClampNeg) :: st, μ)
  | _ => mo_bad μ
def mo_aald (np : Nat) (ls : mo_LV) (st : List Value) (μ : mo_Mem) : mo_O := match st with
  | .int i :: .ref a :: st => mo_jp (30 ≤ mo_C μ a ∧ vp_in i (mo_N μ a)) (np, ls, va_rf (mo_AR μ a i.toNatClampNeg) :: st, μ)
  | _ => mo_bad μ
def mo_iast (np : Nat) (ls : mo_LV) (st : List Value) (μ : mo_Mem) : mo_O := match st with
  | .int x :: .int i :: .ref a :: st => mo_jp (mo_C μ a = 20 ∧ vp_in i (mo_N μ a)) (np, ls, st, mo_wAI μ a i.toNatClampNeg x)
  | _ => mo_bad μ
def mo_zast (np : Nat) (ls : mo_LV) (st : List Value) (μ : mo_Mem) : mo_O := match st with
  | .int x :: .int i :: .ref a :: st => mo_jp (mo_C μ a = 22 ∧ vp_in i (mo_N μ a) ∧ (x = 0 ∨ x = 1)) (np, ls, st, mo_wAI μ a i.toNatClampNeg x)
  | _ => mo_bad μ
def mo_last (np : Nat) (ls : mo_LV) (st : List Value) (μ : mo_Mem) : mo_O := match st with
  | .long x :: .int i :: .ref a :: st => mo_jp (mo_C μ a = 21 ∧ vp_in i (mo_N μ a)) (np, ls, st, mo_wAL μ a i.toNatClampNeg x)
  | _ => mo_bad μ
def mo_aast (np : Nat) (ls : mo_LV) (st : List Value) (μ : mo_Mem) : mo_O := match st with
  | v :: .int i :: .ref a :: st => mo_jp (30 ≤ mo_C μ a ∧ vp_in i (mo_N μ a) ∧ mo_isR v ∧ ∀ b, mo_rv v = some b → mo_C μ b + 29 = mo_C μ a) (np, ls, st, mo_wAR μ a i.toNatClampNeg (mo_rv v))
  | _ => mo_bad μ
def mo_alen (np : Nat) (ls : mo_LV) (st : List Value) (μ : mo_Mem) : mo_O := match st with
  | .ref a :: st => mo_jp (19 ≤ mo_C μ a) (np, ls, .int (Int32.ofNat (mo_N μ a)) :: st, μ)
  | _ => mo_bad μ
def mo_newa (tag np : Nat) (ls : mo_LV) (st : List Value) (μ : mo_Mem) : mo_O := match st with
  | .int n :: st => mo_jp (¬ n < 0 ∧ n.toNatClampNeg ≤ 5000) (np, ls, .ref (mo_X μ) :: st, mo_new μ tag n.toNatClampNeg n.toNatClampNeg)
  | _ => mo_bad μ
def mo_cat (st : List Value) : Nat := (st.map fun v => v.category).sum
def mo_invV (mj n tag np : Nat) (ls : mo_LV) (st : List Value) (μ : mo_Mem) : mo_O := match st.drop n with
  | .ref a :: rest => mo_cll (mo_C μ a = tag ∧ mo_cat rest ≤ 8) (mj, .ref a :: (st.take n).reverse, μ, np, ls, rest)
  | _ => mo_bad μ
def mo_invI (mj n np : Nat) (ls : mo_LV) (st : List Value) (μ : mo_Mem) : mo_O := match st.drop n with
  | .ref a :: rest => mo_cll (mo_cat rest ≤ 8) (mj, .ref a :: (st.take n).reverse, μ, np, ls, rest)
  | _ => mo_bad μ
def mo_invS (mj n np : Nat) (ls : mo_LV) (st : List Value) (μ : mo_Mem) : mo_O := mo_cll (n ≤ st.length ∧ mo_cat (st.drop n) ≤ 8) (mj, (st.take n).reverse, μ, np, ls, st.drop n)
def mo_invO (np : Nat) (ls : mo_LV) (st : List Value) (μ : mo_Mem) : mo_O := match st with
  | .ref _ :: rest => mo_jp (mo_cat rest ≤ 8) (np, ls, rest, μ)
  | _ => mo_bad μ
def mo_sp (mj n np : Nat) (ls : mo_LV) (st : List Value) (μ : mo_Mem) : mo_O := match decide (mj = 999) with
  | true => mo_invO np ls st μ
  | false => mo_invI mj n np ls st μ
def mo_iret (z : Nat) (st : List Value) (μ : mo_Mem) : mo_O := match st with
  | [.int x] => mo_rt1 (z = 1 → (x = 0 ∨ x = 1)) (some (.int x)) μ
  | _ => mo_bad μ
def mo_lret (st : List Value) (μ : mo_Mem) : mo_O := match st with
  | [.long x] => mo_rt1 True (some (.long x)) μ
  | _ => mo_bad μ
def mo_aret (st : List Value) (μ : mo_Mem) : mo_O := match st with
  | [v] => mo_rt1 (mo_isR v) (some v) μ
  | _ => mo_bad μ
def mo_vret (st : List Value) (μ : mo_Mem) : mo_O := match st with
  | [] => mo_rt1 True none μ
  | _ => mo_bad μ
def mo_tsw (pc : Nat) (d lo hi : Int) (offs : Array Int) (x : Int32) : Nat := ((pc : Int) + (if x.toInt < lo ∨ hi < x.toInt then d else (offs[(x.toInt - lo).toNat]?).getD d)).toNat
def mo_sw (pc : Nat) (d lo hi : Int) (offs : Array Int) (ls : mo_LV) (st : List Value) (μ : mo_Mem) : mo_O := match st with
  | .int x :: st => mo_j (mo_tsw pc d lo hi offs x, ls, st, μ)
  | _ => mo_bad μ
def mo_step (i : Instr) (r1 r2 r3 pc : Nat) (ls : mo_LV) (st : List Value) (μ : mo_Mem) : mo_O := match i with
  | .iconst n => mo_j (pc + 1, ls, .int (Int32.ofInt n) :: st, μ)
  | .bipush n => mo_j (pc + 2, ls, .int (Int8.ofInt n).toInt32 :: st, μ)
  | .sipush n => mo_j (pc + 3, ls, .int (Int16.ofInt n).toInt32 :: st, μ)
  | .lconst n => mo_j (pc + 1, ls, .long (Int64.ofNat (n : Nat)) :: st, μ)
  | .aconst_null => mo_j (pc + 1, ls, .null :: st, μ)
  | .ldc2_w _ => mo_j (pc + 3, ls, .long (Int64.ofNat r1) :: st, μ)
  | .iload_n j => mo_ldI (pc + 1) (j : Nat) ls st μ
  | .iload j => mo_ldI (pc + 2) j ls st μ
  | .lload_n j => mo_ldL (pc + 1) (j : Nat) ls st μ
  | .lload j => mo_ldL (pc + 2) j ls st μ
  | .aload_n j => mo_ldA (pc + 1) (j : Nat) ls st μ
  | .aload j => mo_ldA (pc + 2) j ls st μ
  | .istore_n j => mo_sI (pc + 1) (j : Nat) ls st μ
  | .istore j => mo_sI (pc + 2) j ls st μ
  | .lstore_n j => mo_sL (pc + 1) (j : Nat) ls st μ
  | .lstore j => mo_sL (pc + 2) j ls st μ
  | .astore_n j => mo_sA (pc + 1) (j : Nat) ls st μ
  | .astore j => mo_sA (pc + 2) j ls st μ
  | .iinc j n => mo_inc (pc + 3) j n ls st μ
  | .iadd => mo_ii (fun x y => x + y) (pc + 1) ls st μ
  | .isub => mo_ii (fun x y => x - y) (pc + 1) ls st μ
  | .imul => mo_ii (fun x y => x * y) (pc + 1) ls st μ
  | .iand => mo_ii (fun x y => x &&& y) (pc + 1) ls st μ
  | .idiv => mo_id (fun x y => x / y) (pc + 1) ls st μ
  | .irem => mo_id (fun x y => x - x / y * y) (pc + 1) ls st μ
  | .ladd => mo_ll (fun x y => x + y) (pc + 1) ls st μ
  | .lsub => mo_ll (fun x y => x - y) (pc + 1) ls st μ
  | .land => mo_ll (fun x y => x &&& y) (pc + 1) ls st μ
  | .lor => mo_ll (fun x y => x ||| y) (pc + 1) ls st μ
  | .ldiv => mo_ld (fun x y => x / y) (pc + 1) ls st μ
  | .lshl => mo_shl (pc + 1) ls st μ
  | .lcmp => mo_cmp (pc + 1) ls st μ
  | .i2l => mo_i2l (pc + 1) ls st μ
  | .l2i => mo_l2i (pc + 1) ls st μ
  | .dup => mo_dup (pc + 1) ls st μ
  | .dup2 => mo_dup2 (pc + 1) ls st μ
  | .pop => mo_pop (pc + 1) ls st μ
  | .ifCond c _ => mo_if c r1 (pc + 3) ls st μ
  | .if_icmp c _ => mo_icmp c r1 (pc + 3) ls st μ
  | .if_acmp .ne _ => mo_acmpne r1 (pc + 3) ls st μ
  | .ifnull _ => mo_nul r1 (pc + 3) ls st μ
  | .ifnonnull _ => mo_nul (pc + 3) r1 ls st μ
  | .goto _ => mo_j (r1, ls, st, μ)
  | .tableswitch d lo hi offs => mo_sw pc d lo hi offs ls st μ
  | .getfield _ => mo_get r1 r2 r3 (pc + 3) ls st μ
  | .putfield _ => mo_put r1 r2 r3 (pc + 3) ls st μ
  | .iaload => mo_iald r1 (pc + 1) ls st μ
  | .laload => mo_lald (pc + 1) ls st μ
  | .baload => mo_iald 22 (pc + 1) ls st μ
  | .aaload => mo_aald (pc + 1) ls st μ
  | .iastore => mo_iast (pc + 1) ls st μ
  | .lastore => mo_last (pc + 1) ls st μ
  | .bastore => mo_zast (pc + 1) ls st μ
  | .aastore => mo_aast (pc + 1) ls st μ
  | .arraylength => mo_alen (pc + 1) ls st μ
  | .new _ => mo_j (pc + 3, ls, .ref (mo_X μ) :: st, mo_new μ r1 0 r2)
  | .newarray _ => mo_newa r1 (pc + 2) ls st μ
  | .anewarray _ => mo_newa r1 (pc + 3) ls st μ
  | .invokevirtual _ => mo_invV r1 r2 r3 (pc + 3) ls st μ
  | .invokespecial _ => mo_sp r1 r2 (pc + 3) ls st μ
  | .invokestatic _ => mo_invS r1 r2 (pc + 3) ls st μ
  | .ireturn => mo_iret r1 st μ
  | .lreturn => mo_lret st μ
  | .areturn => mo_aret st μ
  | .return_ => mo_vret st μ
  | _ => mo_bad μ
/-- what must hold of one instruction's outcome: X where it goes on, cal at a call, ret at the end -/
def mo_den (cal : mo_Cal) (ret : mo_P) (X : mo_St → Prop) (o : mo_O) : Prop := o.1 ∧ match o.2 with
  | .inl s => X s
  | .inr (.inl b) => (b.1 → X b.2.1) ∧ (¬ b.1 → X b.2.2)
  | .inr (.inr (.inl c)) => cal c.1 c.2.1 c.2.2.1 (fun v μ => X (c.2.2.2.1, c.2.2.2.2.1, v.toList ++ c.2.2.2.2.2, μ))
  | .inr (.inr (.inr r)) => ret r.1 r.2
def mo_s1 (cal : mo_Cal) (ret : mo_P) (X : mo_St → Prop) (mi : Nat) (s : mo_St) : Prop := match mo_T mi s.1 with
  | some e => mo_den cal ret X (mo_step e.1 e.2.1 e.2.2.1 e.2.2.2.1 s.1 s.2.1 s.2.2.1 s.2.2.2)
  | none => False
def mo_wp (cal : mo_Cal) (ret : mo_P) (mi : Nat) (s : mo_St) : Prop := ∀ X : mo_St → Prop, (∀ t, mo_s1 cal ret X mi t → X t) → X s
def mo_ol (vs : List Value) : mo_LV := vs.flatMap fun v => if v.category = 2 then [some v, none] else [some v]
def mo_ent (n : Nat) (vs : List Value) : mo_LV := mo_ol vs ++ List.replicate (n - (mo_ol vs).length) none
/-- method mi, called with vs, at most d calls deep -/
def mo_M (d : Nat) : mo_Cal := match d with
  | 0 => fun _ _ _ _ => False
  | d + 1 => fun mi vs μ Q => (mo_ol vs).length ≤ mo_ml mi ∧ mo_wp (mo_M d) Q mi (0, mo_ent (mo_ml mi) vs, [], μ)
def mo_go (cal : mo_Cal) (ret : mo_P) (K : mo_St → Prop) (cut : List Nat) (mi : Nat) (n : Nat) (s : mo_St) : Prop := match n with
  | 0 => K s
  | n + 1 => match mo_T mi s.1 with
    | some e => mo_den cal ret (fun t => if t.1 ∈ cut then K t else mo_go cal ret K cut mi n t) (mo_step e.1 e.2.1 e.2.2.1 e.2.2.2.1 s.1 s.2.1 s.2.2.1 s.2.2.2)
    | none => False
theorem mo_den_mono {cal cal' : mo_Cal} {ret ret' : mo_P} {X X' : mo_St → Prop} (hc : ∀ mi vs μ Q Q', (∀ v μ', Q v μ' → Q' v μ') → cal mi vs μ Q → cal' mi vs μ Q') (hr : ∀ v μ, ret v μ → ret' v μ) (hX : ∀ s, X s → X' s) (o : mo_O) (h : mo_den cal ret X o) : mo_den cal' ret' X' o := by
  obtain ⟨p, n⟩ := o
  refine ⟨h.1, ?_⟩
  have h2 := h.2
  rcases n with s | b | c | r
  · exact hX _ h2
  · exact ⟨fun q => hX _ (h2.1 q), fun q => hX _ (h2.2 q)⟩
  · exact hc _ _ _ _ _ (fun v μ' q => hX _ q) h2
  · exact hr _ _ h2
theorem mo_s1_mono {cal cal' : mo_Cal} {ret ret' : mo_P} {X X' : mo_St → Prop} (hc : ∀ mi vs μ Q Q', (∀ v μ', Q v μ' → Q' v μ') → cal mi vs μ Q → cal' mi vs μ Q') (hr : ∀ v μ, ret v μ → ret' v μ) (hX : ∀ s, X s → X' s) {mi : Nat} {s : mo_St} (h : mo_s1 cal ret X mi s) : mo_s1 cal' ret' X' mi s := by
  unfold mo_s1 at h ⊢
  cases hT : mo_T mi s.1 with
  | none => rw [hT] at h; exact h
  | some e => rw [hT] at h; exact mo_den_mono hc hr hX _ h
theorem mo_M_mono (d : Nat) : ∀ mi vs μ Q Q', (∀ v μ', Q v μ' → Q' v μ') → mo_M d mi vs μ Q → mo_M (d + 1) mi vs μ Q' := by
  induction d with
  | zero => intro mi vs μ Q Q' _ h; exact h.elim
  | succ d ih =>
    intro mi vs μ Q Q' hQ h
    refine ⟨h.1, ?_⟩
    intro X hX
    exact h.2 X (fun t ht => hX t (mo_s1_mono ih hQ (fun _ q => q) ht))
theorem mo_M_post (d : Nat) : ∀ mi vs μ Q Q', (∀ v μ', Q v μ' → Q' v μ') → mo_M d mi vs μ Q → mo_M d mi vs μ Q' := by
  induction d with
  | zero => intro mi vs μ Q Q' _ h; exact h.elim
  | succ d ih =>
    intro mi vs μ Q Q' hQ h
    refine ⟨h.1, ?_⟩
    intro X hX
    exact h.2 X (fun t ht => hX t (mo_s1_mono ih hQ (fun _ q => q) ht))
theorem mo_M_le {d d' : Nat} (hd : d ≤ d') {mi : Nat} {vs : List Value} {μ : mo_Mem} {Q : mo_P} (h : mo_M d mi vs μ Q) : mo_M d' mi vs μ Q := by
  induction hd with
  | refl => exact h
  | step _ ih => exact mo_M_mono _ _ _ _ _ _ (fun _ _ q => q) ih
theorem mo_wp_fold {d : Nat} {ret : mo_P} {mi : Nat} {s : mo_St} (h : mo_s1 (mo_M d) ret (mo_wp (mo_M d) ret mi) mi s) : mo_wp (mo_M d) ret mi s := by
  intro X hX
  exact hX s (mo_s1_mono (fun mi vs μ Q Q' q r => mo_M_post d mi vs μ Q Q' q r) (fun _ _ q => q) (fun t q => q X hX) h)
theorem mo_wp_unfold {d : Nat} {ret : mo_P} {mi : Nat} {s : mo_St} (h : mo_wp (mo_M d) ret mi s) : mo_s1 (mo_M d) ret (mo_wp (mo_M d) ret mi) mi s :=
  h _ (fun _ ht => mo_s1_mono (fun mi vs μ Q Q' q r => mo_M_post d mi vs μ Q Q' q r) (fun _ _ q => q) (fun _ q => mo_wp_fold q) ht)
theorem mo_wp_go {d : Nat} {ret : mo_P} {mi : Nat} (cut : List Nat) (n : Nat) {s : mo_St} (h : mo_go (mo_M d) ret (mo_wp (mo_M d) ret mi) cut mi n s) : mo_wp (mo_M d) ret mi s := by
  induction n generalizing s with
  | zero => exact h
  | succ n ih =>
    apply mo_wp_fold
    unfold mo_s1
    unfold mo_go at h
    cases hT : mo_T mi s.1 with
    | none => rw [hT] at h; exact h
    | some e =>
      rw [hT] at h
      refine mo_den_mono (fun mi vs μ Q Q' q r => mo_M_post d mi vs μ Q Q' q r) (fun _ _ q => q) (fun t q => ?_) _ h
      by_cases hc : t.1 ∈ cut
      · rw [if_pos hc] at q; exact q
      · rw [if_neg hc] at q; exact ih q
theorem mo_den_meet {d : Nat} (ih : ∀ mi vs μ Q Q', mo_M d mi vs μ Q → mo_M d mi vs μ Q' → ∃ v μ', Q v μ' ∧ Q' v μ' ∧ mo_M d mi vs μ (fun w ν => w = v ∧ ν = μ')) {Q Q' : mo_P} {X X' : mo_St → Prop} {R : Option Value → mo_Mem → mo_St → Prop} (hX : ∀ s, X s → (X' s → ∃ v μ', Q v μ' ∧ Q' v μ' ∧ R v μ' s)) (o : mo_O) (h : mo_den (mo_M d) Q X o) (h' : mo_den (mo_M d) Q' X' o) : ∃ v μ', Q v μ' ∧ Q' v μ' ∧ mo_den (mo_M d) (fun w ν => w = v ∧ ν = μ') (R v μ') o := by
  obtain ⟨p, n⟩ := o
  have h2 := h.2
  have g2 := h'.2
  rcases n with s | b | c | r
  · obtain ⟨v, μ', q1, q2, q3⟩ := hX _ h2 g2
    exact ⟨v, μ', q1, q2, h.1, q3⟩
  · by_cases hb : b.1
    · obtain ⟨v, μ', q1, q2, q3⟩ := hX _ (h2.1 hb) (g2.1 hb)
      exact ⟨v, μ', q1, q2, h.1, fun _ => q3, fun q => absurd hb q⟩
    · obtain ⟨v, μ', q1, q2, q3⟩ := hX _ (h2.2 hb) (g2.2 hb)
      exact ⟨v, μ', q1, q2, h.1, fun q => absurd q hb, fun _ => q3⟩
  · obtain ⟨w, ν, r1, r2, r3⟩ := ih _ _ _ _ _ h2 g2
    obtain ⟨v, μ', q1, q2, q3⟩ := hX _ r1 r2
    exact ⟨v, μ', q1, q2, h.1, mo_M_post d _ _ _ _ _ (fun w' ν' q => by obtain ⟨rfl, rfl⟩ := q; exact q3) r3⟩
  · exact ⟨r.1, r.2, h2, g2, h.1, rfl, rfl⟩
/-- two ends of one run meet -/
theorem mo_M_meet (d : Nat) : ∀ mi vs μ Q Q', mo_M d mi vs μ Q → mo_M d mi vs μ Q' → ∃ v μ', Q v μ' ∧ Q' v μ' ∧ mo_M d mi vs μ (fun w ν => w = v ∧ ν = μ') := by
  induction d with
  | zero => intro mi vs μ Q Q' h; exact h.elim
  | succ d ih =>
    intro mi vs μ Q Q' h h'
    have key : mo_wp (mo_M d) Q' mi (0, mo_ent (mo_ml mi) vs, [], μ) → ∃ v μ', Q v μ' ∧ Q' v μ' ∧ mo_wp (mo_M d) (fun w ν => w = v ∧ ν = μ') mi (0, mo_ent (mo_ml mi) vs, [], μ) := by
      refine h.2 (fun t => mo_wp (mo_M d) Q' mi t → ∃ v μ', Q v μ' ∧ Q' v μ' ∧ mo_wp (mo_M d) (fun w ν => w = v ∧ ν = μ') mi t) ?_
      intro t ht hq
      have hu := mo_wp_unfold hq
      have hf : ∀ v μ', mo_s1 (mo_M d) (fun w ν => w = v ∧ ν = μ') (mo_wp (mo_M d) (fun w ν => w = v ∧ ν = μ') mi) mi t → mo_wp (mo_M d) (fun w ν => w = v ∧ ν = μ') mi t := fun _ _ q => mo_wp_fold q
      unfold mo_s1 at ht hu hf
      cases hT : mo_T mi t.1 with
      | none => rw [hT] at ht; exact ht.elim
      | some e =>
        rw [hT] at ht hu
        simp only [hT] at hf
        obtain ⟨v, μ', q1, q2, q3⟩ := mo_den_meet ih (R := fun v μ' => mo_wp (mo_M d) (fun w ν => w = v ∧ ν = μ') mi) (fun s q => q) _ ht hu
        exact ⟨v, μ', q1, q2, hf v μ' q3⟩
    obtain ⟨v, μ', q1, q2, q3⟩ := key h'.2
    exact ⟨v, μ', q1, q2, h.1, q3⟩
theorem mo_M_det {d mi : Nat} {vs : List Value} {μ : mo_Mem} {Q : mo_P} (h : mo_M d mi vs μ Q) : ∃ v μ', Q v μ' ∧ mo_M d mi vs μ (fun w ν => w = v ∧ ν = μ') := by
  obtain ⟨v, μ', q1, _, q3⟩ := mo_M_meet d _ _ _ _ _ h h
  exact ⟨v, μ', q1, q3⟩
/-- a run whose end is known: a row to rewrite with -/
theorem mo_M_eq {d mi : Nat} {vs : List Value} {μ μ' : mo_Mem} {v : Option Value} (h : mo_M d mi vs μ (fun w ν => w = v ∧ ν = μ')) (Q : mo_P) : mo_M d mi vs μ Q = Q v μ' := by
  apply propext
  constructor
  · intro q
    obtain ⟨w, ν, ⟨rfl, rfl⟩, r, _⟩ := mo_M_meet d _ _ _ _ _ h q
    exact r
  · intro q
    exact mo_M_post d _ _ _ _ _ (fun w ν r => by obtain ⟨rfl, rfl⟩ := r; exact q) h
