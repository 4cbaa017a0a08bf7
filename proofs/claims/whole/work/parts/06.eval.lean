theorem mo_e_iconst_m1 (r1 r2 r3 pc : Nat) (ls : mo_LV) (st : List Value) (μ : mo_Mem) : mo_step (.iconst (-1)) r1 r2 r3 pc ls st μ = mo_j (pc + 1, ls, .int (-1) :: st, μ) := rfl
theorem mo_e_iconst_0 (r1 r2 r3 pc : Nat) (ls : mo_LV) (st : List Value) (μ : mo_Mem) : mo_step (.iconst 0) r1 r2 r3 pc ls st μ = mo_j (pc + 1, ls, .int 0 :: st, μ) := rfl
theorem mo_e_iconst_1 (r1 r2 r3 pc : Nat) (ls : mo_LV) (st : List Value) (μ : mo_Mem) : mo_step (.iconst 1) r1 r2 r3 pc ls st μ = mo_j (pc + 1, ls, .int 1 :: st, μ) := rfl
theorem mo_e_iconst_2 (r1 r2 r3 pc : Nat) (ls : mo_LV) (st : List Value) (μ : mo_Mem) : mo_step (.iconst 2) r1 r2 r3 pc ls st μ = mo_j (pc + 1, ls, .int 2 :: st, μ) := rfl
theorem mo_e_iconst_3 (r1 r2 r3 pc : Nat) (ls : mo_LV) (st : List Value) (μ : mo_Mem) : mo_step (.iconst 3) r1 r2 r3 pc ls st μ = mo_j (pc + 1, ls, .int 3 :: st, μ) := rfl
theorem mo_e_iconst_4 (r1 r2 r3 pc : Nat) (ls : mo_LV) (st : List Value) (μ : mo_Mem) : mo_step (.iconst 4) r1 r2 r3 pc ls st μ = mo_j (pc + 1, ls, .int 4 :: st, μ) := rfl
theorem mo_e_iconst_5 (r1 r2 r3 pc : Nat) (ls : mo_LV) (st : List Value) (μ : mo_Mem) : mo_step (.iconst 5) r1 r2 r3 pc ls st μ = mo_j (pc + 1, ls, .int 5 :: st, μ) := rfl
theorem mo_e_bipush_m10 (r1 r2 r3 pc : Nat) (ls : mo_LV) (st : List Value) (μ : mo_Mem) : mo_step (.bipush (-10)) r1 r2 r3 pc ls st μ = mo_j (pc + 2, ls, .int (-10) :: st, μ) := rfl
theorem mo_e_bipush_m5 (r1 r2 r3 pc : Nat) (ls : mo_LV) (st : List Value) (μ : mo_Mem) : mo_step (.bipush (-5)) r1 r2 r3 pc ls st μ = mo_j (pc + 2, ls, .int (-5) :: st, μ) := rfl
theorem mo_e_bipush_m4 (r1 r2 r3 pc : Nat) (ls : mo_LV) (st : List Value) (μ : mo_Mem) : mo_step (.bipush (-4)) r1 r2 r3 pc ls st μ = mo_j (pc + 2, ls, .int (-4) :: st, μ) := rfl
theorem mo_e_bipush_m3 (r1 r2 r3 pc : Nat) (ls : mo_LV) (st : List Value) (μ : mo_Mem) : mo_step (.bipush (-3)) r1 r2 r3 pc ls st μ = mo_j (pc + 2, ls, .int (-3) :: st, μ) := rfl
theorem mo_e_bipush_m2 (r1 r2 r3 pc : Nat) (ls : mo_LV) (st : List Value) (μ : mo_Mem) : mo_step (.bipush (-2)) r1 r2 r3 pc ls st μ = mo_j (pc + 2, ls, .int (-2) :: st, μ) := rfl
theorem mo_e_bipush_6 (r1 r2 r3 pc : Nat) (ls : mo_LV) (st : List Value) (μ : mo_Mem) : mo_step (.bipush 6) r1 r2 r3 pc ls st μ = mo_j (pc + 2, ls, .int 6 :: st, μ) := rfl
theorem mo_e_bipush_7 (r1 r2 r3 pc : Nat) (ls : mo_LV) (st : List Value) (μ : mo_Mem) : mo_step (.bipush 7) r1 r2 r3 pc ls st μ = mo_j (pc + 2, ls, .int 7 :: st, μ) := rfl
theorem mo_e_bipush_8 (r1 r2 r3 pc : Nat) (ls : mo_LV) (st : List Value) (μ : mo_Mem) : mo_step (.bipush 8) r1 r2 r3 pc ls st μ = mo_j (pc + 2, ls, .int 8 :: st, μ) := rfl
theorem mo_e_bipush_9 (r1 r2 r3 pc : Nat) (ls : mo_LV) (st : List Value) (μ : mo_Mem) : mo_step (.bipush 9) r1 r2 r3 pc ls st μ = mo_j (pc + 2, ls, .int 9 :: st, μ) := rfl
theorem mo_e_bipush_10 (r1 r2 r3 pc : Nat) (ls : mo_LV) (st : List Value) (μ : mo_Mem) : mo_step (.bipush 10) r1 r2 r3 pc ls st μ = mo_j (pc + 2, ls, .int 10 :: st, μ) := rfl
theorem mo_e_bipush_12 (r1 r2 r3 pc : Nat) (ls : mo_LV) (st : List Value) (μ : mo_Mem) : mo_step (.bipush 12) r1 r2 r3 pc ls st μ = mo_j (pc + 2, ls, .int 12 :: st, μ) := rfl
theorem mo_e_bipush_24 (r1 r2 r3 pc : Nat) (ls : mo_LV) (st : List Value) (μ : mo_Mem) : mo_step (.bipush 24) r1 r2 r3 pc ls st μ = mo_j (pc + 2, ls, .int 24 :: st, μ) := rfl
theorem mo_e_bipush_31 (r1 r2 r3 pc : Nat) (ls : mo_LV) (st : List Value) (μ : mo_Mem) : mo_step (.bipush 31) r1 r2 r3 pc ls st μ = mo_j (pc + 2, ls, .int 31 :: st, μ) := rfl
theorem mo_e_bipush_32 (r1 r2 r3 pc : Nat) (ls : mo_LV) (st : List Value) (μ : mo_Mem) : mo_step (.bipush 32) r1 r2 r3 pc ls st μ = mo_j (pc + 2, ls, .int 32 :: st, μ) := rfl
theorem mo_e_bipush_40 (r1 r2 r3 pc : Nat) (ls : mo_LV) (st : List Value) (μ : mo_Mem) : mo_step (.bipush 40) r1 r2 r3 pc ls st μ = mo_j (pc + 2, ls, .int 40 :: st, μ) := rfl
theorem mo_e_bipush_60 (r1 r2 r3 pc : Nat) (ls : mo_LV) (st : List Value) (μ : mo_Mem) : mo_step (.bipush 60) r1 r2 r3 pc ls st μ = mo_j (pc + 2, ls, .int 60 :: st, μ) := rfl
theorem mo_e_bipush_100 (r1 r2 r3 pc : Nat) (ls : mo_LV) (st : List Value) (μ : mo_Mem) : mo_step (.bipush 100) r1 r2 r3 pc ls st μ = mo_j (pc + 2, ls, .int 100 :: st, μ) := rfl
theorem mo_e_sipush_200 (r1 r2 r3 pc : Nat) (ls : mo_LV) (st : List Value) (μ : mo_Mem) : mo_step (.sipush 200) r1 r2 r3 pc ls st μ = mo_j (pc + 3, ls, .int 200 :: st, μ) := rfl
theorem mo_e_sipush_300 (r1 r2 r3 pc : Nat) (ls : mo_LV) (st : List Value) (μ : mo_Mem) : mo_step (.sipush 300) r1 r2 r3 pc ls st μ = mo_j (pc + 3, ls, .int 300 :: st, μ) := rfl
theorem mo_e_sipush_320 (r1 r2 r3 pc : Nat) (ls : mo_LV) (st : List Value) (μ : mo_Mem) : mo_step (.sipush 320) r1 r2 r3 pc ls st μ = mo_j (pc + 3, ls, .int 320 :: st, μ) := rfl
theorem mo_e_sipush_400 (r1 r2 r3 pc : Nat) (ls : mo_LV) (st : List Value) (μ : mo_Mem) : mo_step (.sipush 400) r1 r2 r3 pc ls st μ = mo_j (pc + 3, ls, .int 400 :: st, μ) := rfl
theorem mo_e_sipush_1200 (r1 r2 r3 pc : Nat) (ls : mo_LV) (st : List Value) (μ : mo_Mem) : mo_step (.sipush 1200) r1 r2 r3 pc ls st μ = mo_j (pc + 3, ls, .int 1200 :: st, μ) := rfl
theorem mo_e_sipush_2400 (r1 r2 r3 pc : Nat) (ls : mo_LV) (st : List Value) (μ : mo_Mem) : mo_step (.sipush 2400) r1 r2 r3 pc ls st μ = mo_j (pc + 3, ls, .int 2400 :: st, μ) := rfl
theorem mo_e_sipush_3200 (r1 r2 r3 pc : Nat) (ls : mo_LV) (st : List Value) (μ : mo_Mem) : mo_step (.sipush 3200) r1 r2 r3 pc ls st μ = mo_j (pc + 3, ls, .int 3200 :: st, μ) := rfl
theorem mo_e_lconst_0 (r1 r2 r3 pc : Nat) (ls : mo_LV) (st : List Value) (μ : mo_Mem) : mo_step (.lconst 0) r1 r2 r3 pc ls st μ = mo_j (pc + 1, ls, .long 0 :: st, μ) := rfl
theorem mo_e_ldc2_2 (k r2 r3 pc : Nat) (ls : mo_LV) (st : List Value) (μ : mo_Mem) : mo_step (.ldc2_w k) 2 r2 r3 pc ls st μ = mo_j (pc + 3, ls, .long 2 :: st, μ) := rfl
theorem mo_e_ldc2_3 (k r2 r3 pc : Nat) (ls : mo_LV) (st : List Value) (μ : mo_Mem) : mo_step (.ldc2_w k) 3 r2 r3 pc ls st μ = mo_j (pc + 3, ls, .long 3 :: st, μ) := rfl
theorem mo_e_ldc2_4 (k r2 r3 pc : Nat) (ls : mo_LV) (st : List Value) (μ : mo_Mem) : mo_step (.ldc2_w k) 4 r2 r3 pc ls st μ = mo_j (pc + 3, ls, .long 4 :: st, μ) := rfl
theorem mo_e_ldc2_4294967295 (k r2 r3 pc : Nat) (ls : mo_LV) (st : List Value) (μ : mo_Mem) : mo_step (.ldc2_w k) 4294967295 r2 r3 pc ls st μ = mo_j (pc + 3, ls, .long 4294967295 :: st, μ) := rfl
theorem mo_e_null (r1 r2 r3 pc : Nat) (ls : mo_LV) (st : List Value) (μ : mo_Mem) : mo_step .aconst_null r1 r2 r3 pc ls st μ = mo_j (pc + 1, ls, .null :: st, μ) := rfl
theorem mo_e_iload_n0 (r1 r2 r3 pc : Nat) (ls : mo_LV) (st : List Value) (μ : mo_Mem) : mo_step (.iload_n 0) r1 r2 r3 pc ls st μ = mo_ldI (pc + 1) 0 ls st μ := rfl
theorem mo_e_iload_n1 (r1 r2 r3 pc : Nat) (ls : mo_LV) (st : List Value) (μ : mo_Mem) : mo_step (.iload_n 1) r1 r2 r3 pc ls st μ = mo_ldI (pc + 1) 1 ls st μ := rfl
theorem mo_e_iload_n2 (r1 r2 r3 pc : Nat) (ls : mo_LV) (st : List Value) (μ : mo_Mem) : mo_step (.iload_n 2) r1 r2 r3 pc ls st μ = mo_ldI (pc + 1) 2 ls st μ := rfl
theorem mo_e_iload_n3 (r1 r2 r3 pc : Nat) (ls : mo_LV) (st : List Value) (μ : mo_Mem) : mo_step (.iload_n 3) r1 r2 r3 pc ls st μ = mo_ldI (pc + 1) 3 ls st μ := rfl
theorem mo_e_iload (j : Nat) (r1 r2 r3 pc : Nat) (ls : mo_LV) (st : List Value) (μ : mo_Mem) : mo_step (.iload j) r1 r2 r3 pc ls st μ = mo_ldI (pc + 2) j ls st μ := rfl
theorem mo_e_lload_n0 (r1 r2 r3 pc : Nat) (ls : mo_LV) (st : List Value) (μ : mo_Mem) : mo_step (.lload_n 0) r1 r2 r3 pc ls st μ = mo_ldL (pc + 1) 0 ls st μ := rfl
theorem mo_e_lload_n1 (r1 r2 r3 pc : Nat) (ls : mo_LV) (st : List Value) (μ : mo_Mem) : mo_step (.lload_n 1) r1 r2 r3 pc ls st μ = mo_ldL (pc + 1) 1 ls st μ := rfl
theorem mo_e_lload_n2 (r1 r2 r3 pc : Nat) (ls : mo_LV) (st : List Value) (μ : mo_Mem) : mo_step (.lload_n 2) r1 r2 r3 pc ls st μ = mo_ldL (pc + 1) 2 ls st μ := rfl
theorem mo_e_lload_n3 (r1 r2 r3 pc : Nat) (ls : mo_LV) (st : List Value) (μ : mo_Mem) : mo_step (.lload_n 3) r1 r2 r3 pc ls st μ = mo_ldL (pc + 1) 3 ls st μ := rfl
theorem mo_e_lload (j : Nat) (r1 r2 r3 pc : Nat) (ls : mo_LV) (st : List Value) (μ : mo_Mem) : mo_step (.lload j) r1 r2 r3 pc ls st μ = mo_ldL (pc + 2) j ls st μ := rfl
theorem mo_e_aload_n0 (r1 r2 r3 pc : Nat) (ls : mo_LV) (st : List Value) (μ : mo_Mem) : mo_step (.aload_n 0) r1 r2 r3 pc ls st μ = mo_ldA (pc + 1) 0 ls st μ := rfl
theorem mo_e_aload_n1 (r1 r2 r3 pc : Nat) (ls : mo_LV) (st : List Value) (μ : mo_Mem) : mo_step (.aload_n 1) r1 r2 r3 pc ls st μ = mo_ldA (pc + 1) 1 ls st μ := rfl
theorem mo_e_aload_n2 (r1 r2 r3 pc : Nat) (ls : mo_LV) (st : List Value) (μ : mo_Mem) : mo_step (.aload_n 2) r1 r2 r3 pc ls st μ = mo_ldA (pc + 1) 2 ls st μ := rfl
theorem mo_e_aload_n3 (r1 r2 r3 pc : Nat) (ls : mo_LV) (st : List Value) (μ : mo_Mem) : mo_step (.aload_n 3) r1 r2 r3 pc ls st μ = mo_ldA (pc + 1) 3 ls st μ := rfl
theorem mo_e_aload (j : Nat) (r1 r2 r3 pc : Nat) (ls : mo_LV) (st : List Value) (μ : mo_Mem) : mo_step (.aload j) r1 r2 r3 pc ls st μ = mo_ldA (pc + 2) j ls st μ := rfl
theorem mo_e_istore_n0 (r1 r2 r3 pc : Nat) (ls : mo_LV) (st : List Value) (μ : mo_Mem) : mo_step (.istore_n 0) r1 r2 r3 pc ls st μ = mo_sI (pc + 1) 0 ls st μ := rfl
theorem mo_e_istore_n1 (r1 r2 r3 pc : Nat) (ls : mo_LV) (st : List Value) (μ : mo_Mem) : mo_step (.istore_n 1) r1 r2 r3 pc ls st μ = mo_sI (pc + 1) 1 ls st μ := rfl
theorem mo_e_istore_n2 (r1 r2 r3 pc : Nat) (ls : mo_LV) (st : List Value) (μ : mo_Mem) : mo_step (.istore_n 2) r1 r2 r3 pc ls st μ = mo_sI (pc + 1) 2 ls st μ := rfl
theorem mo_e_istore_n3 (r1 r2 r3 pc : Nat) (ls : mo_LV) (st : List Value) (μ : mo_Mem) : mo_step (.istore_n 3) r1 r2 r3 pc ls st μ = mo_sI (pc + 1) 3 ls st μ := rfl
theorem mo_e_istore (j : Nat) (r1 r2 r3 pc : Nat) (ls : mo_LV) (st : List Value) (μ : mo_Mem) : mo_step (.istore j) r1 r2 r3 pc ls st μ = mo_sI (pc + 2) j ls st μ := rfl
theorem mo_e_lstore_n0 (r1 r2 r3 pc : Nat) (ls : mo_LV) (st : List Value) (μ : mo_Mem) : mo_step (.lstore_n 0) r1 r2 r3 pc ls st μ = mo_sL (pc + 1) 0 ls st μ := rfl
theorem mo_e_lstore_n1 (r1 r2 r3 pc : Nat) (ls : mo_LV) (st : List Value) (μ : mo_Mem) : mo_step (.lstore_n 1) r1 r2 r3 pc ls st μ = mo_sL (pc + 1) 1 ls st μ := rfl
theorem mo_e_lstore_n2 (r1 r2 r3 pc : Nat) (ls : mo_LV) (st : List Value) (μ : mo_Mem) : mo_step (.lstore_n 2) r1 r2 r3 pc ls st μ = mo_sL (pc + 1) 2 ls st μ := rfl
theorem mo_e_lstore_n3 (r1 r2 r3 pc : Nat) (ls : mo_LV) (st : List Value) (μ : mo_Mem) : mo_step (.lstore_n 3) r1 r2 r3 pc ls st μ = mo_sL (pc + 1) 3 ls st μ := rfl
theorem mo_e_lstore (j : Nat) (r1 r2 r3 pc : Nat) (ls : mo_LV) (st : List Value) (μ : mo_Mem) : mo_step (.lstore j) r1 r2 r3 pc ls st μ = mo_sL (pc + 2) j ls st μ := rfl
theorem mo_e_astore_n0 (r1 r2 r3 pc : Nat) (ls : mo_LV) (st : List Value) (μ : mo_Mem) : mo_step (.astore_n 0) r1 r2 r3 pc ls st μ = mo_sA (pc + 1) 0 ls st μ := rfl
theorem mo_e_astore_n1 (r1 r2 r3 pc : Nat) (ls : mo_LV) (st : List Value) (μ : mo_Mem) : mo_step (.astore_n 1) r1 r2 r3 pc ls st μ = mo_sA (pc + 1) 1 ls st μ := rfl
theorem mo_e_astore_n2 (r1 r2 r3 pc : Nat) (ls : mo_LV) (st : List Value) (μ : mo_Mem) : mo_step (.astore_n 2) r1 r2 r3 pc ls st μ = mo_sA (pc + 1) 2 ls st μ := rfl
theorem mo_e_astore_n3 (r1 r2 r3 pc : Nat) (ls : mo_LV) (st : List Value) (μ : mo_Mem) : mo_step (.astore_n 3) r1 r2 r3 pc ls st μ = mo_sA (pc + 1) 3 ls st μ := rfl
theorem mo_e_astore (j : Nat) (r1 r2 r3 pc : Nat) (ls : mo_LV) (st : List Value) (μ : mo_Mem) : mo_step (.astore j) r1 r2 r3 pc ls st μ = mo_sA (pc + 2) j ls st μ := rfl
theorem mo_e_iinc (j : Nat) (n : Int) (r1 r2 r3 pc : Nat) (ls : mo_LV) (st : List Value) (μ : mo_Mem) : mo_step (.iinc j n) r1 r2 r3 pc ls st μ = mo_inc (pc + 3) j n ls st μ := rfl
theorem mo_e_iadd (r1 r2 r3 pc : Nat) (ls : mo_LV) (st : List Value) (μ : mo_Mem) : mo_step .iadd r1 r2 r3 pc ls st μ = mo_ii (fun x y => x + y) (pc + 1) ls st μ := rfl
theorem mo_e_isub (r1 r2 r3 pc : Nat) (ls : mo_LV) (st : List Value) (μ : mo_Mem) : mo_step .isub r1 r2 r3 pc ls st μ = mo_ii (fun x y => x - y) (pc + 1) ls st μ := rfl
theorem mo_e_imul (r1 r2 r3 pc : Nat) (ls : mo_LV) (st : List Value) (μ : mo_Mem) : mo_step .imul r1 r2 r3 pc ls st μ = mo_ii (fun x y => x * y) (pc + 1) ls st μ := rfl
theorem mo_e_iand (r1 r2 r3 pc : Nat) (ls : mo_LV) (st : List Value) (μ : mo_Mem) : mo_step .iand r1 r2 r3 pc ls st μ = mo_ii (fun x y => x &&& y) (pc + 1) ls st μ := rfl
theorem mo_e_idiv (r1 r2 r3 pc : Nat) (ls : mo_LV) (st : List Value) (μ : mo_Mem) : mo_step .idiv r1 r2 r3 pc ls st μ = mo_id (fun x y => x / y) (pc + 1) ls st μ := rfl
theorem mo_e_irem (r1 r2 r3 pc : Nat) (ls : mo_LV) (st : List Value) (μ : mo_Mem) : mo_step .irem r1 r2 r3 pc ls st μ = mo_id (fun x y => x - x / y * y) (pc + 1) ls st μ := rfl
theorem mo_e_ladd (r1 r2 r3 pc : Nat) (ls : mo_LV) (st : List Value) (μ : mo_Mem) : mo_step .ladd r1 r2 r3 pc ls st μ = mo_ll (fun x y => x + y) (pc + 1) ls st μ := rfl
theorem mo_e_lsub (r1 r2 r3 pc : Nat) (ls : mo_LV) (st : List Value) (μ : mo_Mem) : mo_step .lsub r1 r2 r3 pc ls st μ = mo_ll (fun x y => x - y) (pc + 1) ls st μ := rfl
theorem mo_e_land (r1 r2 r3 pc : Nat) (ls : mo_LV) (st : List Value) (μ : mo_Mem) : mo_step .land r1 r2 r3 pc ls st μ = mo_ll (fun x y => x &&& y) (pc + 1) ls st μ := rfl
theorem mo_e_lor (r1 r2 r3 pc : Nat) (ls : mo_LV) (st : List Value) (μ : mo_Mem) : mo_step .lor r1 r2 r3 pc ls st μ = mo_ll (fun x y => x ||| y) (pc + 1) ls st μ := rfl
theorem mo_e_ldiv (r1 r2 r3 pc : Nat) (ls : mo_LV) (st : List Value) (μ : mo_Mem) : mo_step .ldiv r1 r2 r3 pc ls st μ = mo_ld (fun x y => x / y) (pc + 1) ls st μ := rfl
theorem mo_e_lshl (r1 r2 r3 pc : Nat) (ls : mo_LV) (st : List Value) (μ : mo_Mem) : mo_step .lshl r1 r2 r3 pc ls st μ = mo_shl (pc + 1) ls st μ := rfl
theorem mo_e_lcmp (r1 r2 r3 pc : Nat) (ls : mo_LV) (st : List Value) (μ : mo_Mem) : mo_step .lcmp r1 r2 r3 pc ls st μ = mo_cmp (pc + 1) ls st μ := rfl
theorem mo_e_i2l (r1 r2 r3 pc : Nat) (ls : mo_LV) (st : List Value) (μ : mo_Mem) : mo_step .i2l r1 r2 r3 pc ls st μ = mo_i2l (pc + 1) ls st μ := rfl
theorem mo_e_l2i (r1 r2 r3 pc : Nat) (ls : mo_LV) (st : List Value) (μ : mo_Mem) : mo_step .l2i r1 r2 r3 pc ls st μ = mo_l2i (pc + 1) ls st μ := rfl
theorem mo_e_dup (r1 r2 r3 pc : Nat) (ls : mo_LV) (st : List Value) (μ : mo_Mem) : mo_step .dup r1 r2 r3 pc ls st μ = mo_dup (pc + 1) ls st μ := rfl
theorem mo_e_dup2 (r1 r2 r3 pc : Nat) (ls : mo_LV) (st : List Value) (μ : mo_Mem) : mo_step .dup2 r1 r2 r3 pc ls st μ = mo_dup2 (pc + 1) ls st μ := rfl
theorem mo_e_pop (r1 r2 r3 pc : Nat) (ls : mo_LV) (st : List Value) (μ : mo_Mem) : mo_step .pop r1 r2 r3 pc ls st μ = mo_pop (pc + 1) ls st μ := rfl
theorem mo_e_iaload (r1 r2 r3 pc : Nat) (ls : mo_LV) (st : List Value) (μ : mo_Mem) : mo_step .iaload r1 r2 r3 pc ls st μ = mo_iald r1 (pc + 1) ls st μ := rfl
theorem mo_e_laload (r1 r2 r3 pc : Nat) (ls : mo_LV) (st : List Value) (μ : mo_Mem) : mo_step .laload r1 r2 r3 pc ls st μ = mo_lald (pc + 1) ls st μ := rfl
theorem mo_e_baload (r1 r2 r3 pc : Nat) (ls : mo_LV) (st : List Value) (μ : mo_Mem) : mo_step .baload r1 r2 r3 pc ls st μ = mo_iald 22 (pc + 1) ls st μ := rfl
theorem mo_e_aaload (r1 r2 r3 pc : Nat) (ls : mo_LV) (st : List Value) (μ : mo_Mem) : mo_step .aaload r1 r2 r3 pc ls st μ = mo_aald (pc + 1) ls st μ := rfl
theorem mo_e_iastore (r1 r2 r3 pc : Nat) (ls : mo_LV) (st : List Value) (μ : mo_Mem) : mo_step .iastore r1 r2 r3 pc ls st μ = mo_iast (pc + 1) ls st μ := rfl
theorem mo_e_lastore (r1 r2 r3 pc : Nat) (ls : mo_LV) (st : List Value) (μ : mo_Mem) : mo_step .lastore r1 r2 r3 pc ls st μ = mo_last (pc + 1) ls st μ := rfl
theorem mo_e_bastore (r1 r2 r3 pc : Nat) (ls : mo_LV) (st : List Value) (μ : mo_Mem) : mo_step .bastore r1 r2 r3 pc ls st μ = mo_zast (pc + 1) ls st μ := rfl
theorem mo_e_aastore (r1 r2 r3 pc : Nat) (ls : mo_LV) (st : List Value) (μ : mo_Mem) : mo_step .aastore r1 r2 r3 pc ls st μ = mo_aast (pc + 1) ls st μ := rfl
theorem mo_e_arraylength (r1 r2 r3 pc : Nat) (ls : mo_LV) (st : List Value) (μ : mo_Mem) : mo_step .arraylength r1 r2 r3 pc ls st μ = mo_alen (pc + 1) ls st μ := rfl
theorem mo_e_ireturn (r1 r2 r3 pc : Nat) (ls : mo_LV) (st : List Value) (μ : mo_Mem) : mo_step .ireturn r1 r2 r3 pc ls st μ = mo_iret r1 st μ := rfl
theorem mo_e_lreturn (r1 r2 r3 pc : Nat) (ls : mo_LV) (st : List Value) (μ : mo_Mem) : mo_step .lreturn r1 r2 r3 pc ls st μ = mo_lret st μ := rfl
theorem mo_e_areturn (r1 r2 r3 pc : Nat) (ls : mo_LV) (st : List Value) (μ : mo_Mem) : mo_step .areturn r1 r2 r3 pc ls st μ = mo_aret st μ := rfl
theorem mo_e_return_ (r1 r2 r3 pc : Nat) (ls : mo_LV) (st : List Value) (μ : mo_Mem) : mo_step .return_ r1 r2 r3 pc ls st μ = mo_vret st μ := rfl
theorem mo_e_ifCond (c : Jvm.ClassFile.Cond) (f : Int) (r1 r2 r3 pc : Nat) (ls : mo_LV) (st : List Value) (μ : mo_Mem) : mo_step (.ifCond c f) r1 r2 r3 pc ls st μ = mo_if c r1 (pc + 3) ls st μ := rfl
theorem mo_e_icmp (c : Jvm.ClassFile.Cond) (f : Int) (r1 r2 r3 pc : Nat) (ls : mo_LV) (st : List Value) (μ : mo_Mem) : mo_step (.if_icmp c f) r1 r2 r3 pc ls st μ = mo_icmp c r1 (pc + 3) ls st μ := rfl
theorem mo_e_acmpne (f : Int) (r1 r2 r3 pc : Nat) (ls : mo_LV) (st : List Value) (μ : mo_Mem) : mo_step (.if_acmp .ne f) r1 r2 r3 pc ls st μ = mo_acmpne r1 (pc + 3) ls st μ := rfl
theorem mo_e_ifnull (f : Int) (r1 r2 r3 pc : Nat) (ls : mo_LV) (st : List Value) (μ : mo_Mem) : mo_step (.ifnull f) r1 r2 r3 pc ls st μ = mo_nul r1 (pc + 3) ls st μ := rfl
theorem mo_e_ifnonnull (f : Int) (r1 r2 r3 pc : Nat) (ls : mo_LV) (st : List Value) (μ : mo_Mem) : mo_step (.ifnonnull f) r1 r2 r3 pc ls st μ = mo_nul (pc + 3) r1 ls st μ := rfl
theorem mo_e_goto (f : Int) (r1 r2 r3 pc : Nat) (ls : mo_LV) (st : List Value) (μ : mo_Mem) : mo_step (.goto f) r1 r2 r3 pc ls st μ = mo_j (r1, ls, st, μ) := rfl
theorem mo_e_sw (d lo hi : Int) (os : Array Int) (r1 r2 r3 pc : Nat) (ls : mo_LV) (st : List Value) (μ : mo_Mem) : mo_step (.tableswitch d lo hi os) r1 r2 r3 pc ls st μ = mo_sw pc d lo hi os ls st μ := rfl
theorem mo_e_get0 (k : Nat) (r1 r2 pc : Nat) (ls : mo_LV) (a : Nat) (st : List Value) (μ : mo_Mem) : mo_step (.getfield k) r1 r2 0 pc ls (.ref a :: st) μ = mo_jp (mo_C μ a = r1) (pc + 3, ls, .int (mo_I μ r2 a) :: st, μ) := rfl
theorem mo_e_get3 (k : Nat) (r1 r2 pc : Nat) (ls : mo_LV) (a : Nat) (st : List Value) (μ : mo_Mem) : mo_step (.getfield k) r1 r2 3 pc ls (.ref a :: st) μ = mo_jp (mo_C μ a = r1) (pc + 3, ls, .int (mo_I μ r2 a) :: st, μ) := rfl
theorem mo_e_get1 (k : Nat) (r1 r2 pc : Nat) (ls : mo_LV) (a : Nat) (st : List Value) (μ : mo_Mem) : mo_step (.getfield k) r1 r2 1 pc ls (.ref a :: st) μ = mo_jp (mo_C μ a = r1) (pc + 3, ls, .long (mo_L μ r2 a) :: st, μ) := rfl
theorem mo_e_get2 (k : Nat) (r1 r2 pc : Nat) (ls : mo_LV) (a : Nat) (st : List Value) (μ : mo_Mem) : mo_step (.getfield k) r1 r2 2 pc ls (.ref a :: st) μ = mo_jp (mo_C μ a = r1) (pc + 3, ls, va_rf (mo_R μ r2 a) :: st, μ) := rfl
theorem mo_e_put0 (k : Nat) (r1 r2 pc : Nat) (ls : mo_LV) (st : List Value) (μ : mo_Mem) : mo_step (.putfield k) r1 r2 0 pc ls st μ = mo_putI r1 r2 (pc + 3) ls st μ := rfl
theorem mo_e_put1 (k : Nat) (r1 r2 pc : Nat) (ls : mo_LV) (st : List Value) (μ : mo_Mem) : mo_step (.putfield k) r1 r2 1 pc ls st μ = mo_putL r1 r2 (pc + 3) ls st μ := rfl
theorem mo_e_put2 (k : Nat) (r1 r2 pc : Nat) (ls : mo_LV) (st : List Value) (μ : mo_Mem) : mo_step (.putfield k) r1 r2 2 pc ls st μ = mo_putR r1 r2 (pc + 3) ls st μ := rfl
theorem mo_e_put3 (k : Nat) (r1 r2 pc : Nat) (ls : mo_LV) (st : List Value) (μ : mo_Mem) : mo_step (.putfield k) r1 r2 3 pc ls st μ = mo_putZ r1 r2 (pc + 3) ls st μ := rfl
theorem mo_e_new (k : Nat) (r1 r2 r3 pc : Nat) (ls : mo_LV) (st : List Value) (μ : mo_Mem) : mo_step (.new k) r1 r2 r3 pc ls st μ = mo_j (pc + 3, ls, .ref (mo_X μ) :: st, mo_new μ r1 0 r2) := rfl
theorem mo_e_newarray (k : ArrayType) (r1 r2 r3 pc : Nat) (ls : mo_LV) (st : List Value) (μ : mo_Mem) : mo_step (.newarray k) r1 r2 r3 pc ls st μ = mo_newa r1 (pc + 2) ls st μ := rfl
theorem mo_e_anewarray (k : Nat) (r1 r2 r3 pc : Nat) (ls : mo_LV) (st : List Value) (μ : mo_Mem) : mo_step (.anewarray k) r1 r2 r3 pc ls st μ = mo_newa r1 (pc + 3) ls st μ := rfl
theorem mo_e_invS (k : Nat) (r1 r2 r3 pc : Nat) (ls : mo_LV) (st : List Value) (μ : mo_Mem) : mo_step (.invokestatic k) r1 r2 r3 pc ls st μ = mo_invS r1 r2 (pc + 3) ls st μ := rfl
theorem mo_e_invO (k : Nat) (r2 r3 pc : Nat) (ls : mo_LV) (st : List Value) (μ : mo_Mem) : mo_step (.invokespecial k) 999 r2 r3 pc ls st μ = mo_invO (pc + 3) ls st μ := rfl
theorem mo_e_is10 (k : Nat) (r3 pc : Nat) (ls : mo_LV) (a : Nat) (st : List Value) (μ : mo_Mem) : mo_step (.invokespecial k) 10 0 r3 pc ls (.ref a :: st) μ = mo_cll (mo_cat st ≤ 8) (10, .ref a :: [], μ, pc + 3, ls, st) := rfl
theorem mo_e_is11 (k : Nat) (r3 pc : Nat) (ls : mo_LV) (a : Nat) (st : List Value) (μ : mo_Mem) : mo_step (.invokespecial k) 11 0 r3 pc ls (.ref a :: st) μ = mo_cll (mo_cat st ≤ 8) (11, .ref a :: [], μ, pc + 3, ls, st) := rfl
theorem mo_e_is14 (k : Nat) (r3 pc : Nat) (ls : mo_LV) (a : Nat) (st : List Value) (μ : mo_Mem) : mo_step (.invokespecial k) 14 0 r3 pc ls (.ref a :: st) μ = mo_cll (mo_cat st ≤ 8) (14, .ref a :: [], μ, pc + 3, ls, st) := rfl
theorem mo_e_is36 (k : Nat) (r3 pc : Nat) (ls : mo_LV) (a : Nat) (st : List Value) (μ : mo_Mem) : mo_step (.invokespecial k) 36 0 r3 pc ls (.ref a :: st) μ = mo_cll (mo_cat st ≤ 8) (36, .ref a :: [], μ, pc + 3, ls, st) := rfl
theorem mo_e_is39 (k : Nat) (r3 pc : Nat) (ls : mo_LV) (a : Nat) (st : List Value) (μ : mo_Mem) : mo_step (.invokespecial k) 39 0 r3 pc ls (.ref a :: st) μ = mo_cll (mo_cat st ≤ 8) (39, .ref a :: [], μ, pc + 3, ls, st) := rfl
theorem mo_e_is47 (k : Nat) (r3 pc : Nat) (ls : mo_LV) (a : Nat) (st : List Value) (μ : mo_Mem) : mo_step (.invokespecial k) 47 0 r3 pc ls (.ref a :: st) μ = mo_cll (mo_cat st ≤ 8) (47, .ref a :: [], μ, pc + 3, ls, st) := rfl
theorem mo_e_is64 (k : Nat) (r3 pc : Nat) (ls : mo_LV) (a : Nat) (st : List Value) (μ : mo_Mem) : mo_step (.invokespecial k) 64 0 r3 pc ls (.ref a :: st) μ = mo_cll (mo_cat st ≤ 8) (64, .ref a :: [], μ, pc + 3, ls, st) := rfl
theorem mo_e_is84 (k : Nat) (r3 pc : Nat) (ls : mo_LV) (a : Nat) (st : List Value) (μ : mo_Mem) : mo_step (.invokespecial k) 84 0 r3 pc ls (.ref a :: st) μ = mo_cll (mo_cat st ≤ 8) (84, .ref a :: [], μ, pc + 3, ls, st) := rfl
theorem mo_e_is3 (k : Nat) (r3 pc : Nat) (ls : mo_LV) (x0 x1 : Value) (a : Nat) (st : List Value) (μ : mo_Mem) : mo_step (.invokespecial k) 3 2 r3 pc ls (x0 :: x1 :: .ref a :: st) μ = mo_cll (mo_cat st ≤ 8) (3, .ref a :: [x1, x0], μ, pc + 3, ls, st) := rfl
theorem mo_e_is52 (k : Nat) (r3 pc : Nat) (ls : mo_LV) (x0 x1 : Value) (a : Nat) (st : List Value) (μ : mo_Mem) : mo_step (.invokespecial k) 52 2 r3 pc ls (x0 :: x1 :: .ref a :: st) μ = mo_cll (mo_cat st ≤ 8) (52, .ref a :: [x1, x0], μ, pc + 3, ls, st) := rfl
theorem mo_e_is0 (k : Nat) (r3 pc : Nat) (ls : mo_LV) (x0 x1 x2 : Value) (a : Nat) (st : List Value) (μ : mo_Mem) : mo_step (.invokespecial k) 0 3 r3 pc ls (x0 :: x1 :: x2 :: .ref a :: st) μ = mo_cll (mo_cat st ≤ 8) (0, .ref a :: [x2, x1, x0], μ, pc + 3, ls, st) := rfl
theorem mo_e_is5 (k : Nat) (r3 pc : Nat) (ls : mo_LV) (x0 x1 x2 x3 : Value) (a : Nat) (st : List Value) (μ : mo_Mem) : mo_step (.invokespecial k) 5 4 r3 pc ls (x0 :: x1 :: x2 :: x3 :: .ref a :: st) μ = mo_cll (mo_cat st ≤ 8) (5, .ref a :: [x3, x2, x1, x0], μ, pc + 3, ls, st) := rfl
theorem mo_e_is59 (k : Nat) (r3 pc : Nat) (ls : mo_LV) (x0 x1 x2 x3 : Value) (a : Nat) (st : List Value) (μ : mo_Mem) : mo_step (.invokespecial k) 59 4 r3 pc ls (x0 :: x1 :: x2 :: x3 :: .ref a :: st) μ = mo_cll (mo_cat st ≤ 8) (59, .ref a :: [x3, x2, x1, x0], μ, pc + 3, ls, st) := rfl
theorem mo_e_iv0 (k : Nat) (r1 r3 pc : Nat) (ls : mo_LV) (a : Nat) (st : List Value) (μ : mo_Mem) : mo_step (.invokevirtual k) r1 0 r3 pc ls (.ref a :: st) μ = mo_cll (mo_C μ a = r3 ∧ mo_cat st ≤ 8) (r1, .ref a :: [], μ, pc + 3, ls, st) := rfl
theorem mo_e_iv1 (k : Nat) (r1 r3 pc : Nat) (ls : mo_LV) (x0 : Value) (a : Nat) (st : List Value) (μ : mo_Mem) : mo_step (.invokevirtual k) r1 1 r3 pc ls (x0 :: .ref a :: st) μ = mo_cll (mo_C μ a = r3 ∧ mo_cat st ≤ 8) (r1, .ref a :: [x0], μ, pc + 3, ls, st) := rfl
theorem mo_e_iv2 (k : Nat) (r1 r3 pc : Nat) (ls : mo_LV) (x0 x1 : Value) (a : Nat) (st : List Value) (μ : mo_Mem) : mo_step (.invokevirtual k) r1 2 r3 pc ls (x0 :: x1 :: .ref a :: st) μ = mo_cll (mo_C μ a = r3 ∧ mo_cat st ≤ 8) (r1, .ref a :: [x1, x0], μ, pc + 3, ls, st) := rfl
theorem mo_e_iv3 (k : Nat) (r1 r3 pc : Nat) (ls : mo_LV) (x0 x1 x2 : Value) (a : Nat) (st : List Value) (μ : mo_Mem) : mo_step (.invokevirtual k) r1 3 r3 pc ls (x0 :: x1 :: x2 :: .ref a :: st) μ = mo_cll (mo_C μ a = r3 ∧ mo_cat st ≤ 8) (r1, .ref a :: [x2, x1, x0], μ, pc + 3, ls, st) := rfl
theorem mo_e_iv4 (k : Nat) (r1 r3 pc : Nat) (ls : mo_LV) (x0 x1 x2 x3 : Value) (a : Nat) (st : List Value) (μ : mo_Mem) : mo_step (.invokevirtual k) r1 4 r3 pc ls (x0 :: x1 :: x2 :: x3 :: .ref a :: st) μ = mo_cll (mo_C μ a = r3 ∧ mo_cat st ≤ 8) (r1, .ref a :: [x3, x2, x1, x0], μ, pc + 3, ls, st) := rfl
theorem mo_e_iv5 (k : Nat) (r1 r3 pc : Nat) (ls : mo_LV) (x0 x1 x2 x3 x4 : Value) (a : Nat) (st : List Value) (μ : mo_Mem) : mo_step (.invokevirtual k) r1 5 r3 pc ls (x0 :: x1 :: x2 :: x3 :: x4 :: .ref a :: st) μ = mo_cll (mo_C μ a = r3 ∧ mo_cat st ≤ 8) (r1, .ref a :: [x4, x3, x2, x1, x0], μ, pc + 3, ls, st) := rfl
theorem mo_e_iv6 (k : Nat) (r1 r3 pc : Nat) (ls : mo_LV) (x0 x1 x2 x3 x4 x5 : Value) (a : Nat) (st : List Value) (μ : mo_Mem) : mo_step (.invokevirtual k) r1 6 r3 pc ls (x0 :: x1 :: x2 :: x3 :: x4 :: x5 :: .ref a :: st) μ = mo_cll (mo_C μ a = r3 ∧ mo_cat st ≤ 8) (r1, .ref a :: [x5, x4, x3, x2, x1, x0], μ, pc + 3, ls, st) := rfl
theorem mo_g0 (x0 : Option Value) (l : mo_LV) : (x0 ::  l : mo_LV)[0]? = some x0 := rfl
theorem mo_h0 (x0 v : Option Value) (l : mo_LV) : (x0 ::  l : mo_LV).set 0 v = v :: l := rfl
theorem mo_g1 (x0 x1 : Option Value) (l : mo_LV) : (x0 :: x1 ::  l : mo_LV)[1]? = some x1 := rfl
theorem mo_h1 (x0 x1 v : Option Value) (l : mo_LV) : (x0 :: x1 ::  l : mo_LV).set 1 v = x0 :: v :: l := rfl
theorem mo_g2 (x0 x1 x2 : Option Value) (l : mo_LV) : (x0 :: x1 :: x2 ::  l : mo_LV)[2]? = some x2 := rfl
theorem mo_h2 (x0 x1 x2 v : Option Value) (l : mo_LV) : (x0 :: x1 :: x2 ::  l : mo_LV).set 2 v = x0 :: x1 :: v :: l := rfl
theorem mo_g3 (x0 x1 x2 x3 : Option Value) (l : mo_LV) : (x0 :: x1 :: x2 :: x3 ::  l : mo_LV)[3]? = some x3 := rfl
theorem mo_h3 (x0 x1 x2 x3 v : Option Value) (l : mo_LV) : (x0 :: x1 :: x2 :: x3 ::  l : mo_LV).set 3 v = x0 :: x1 :: x2 :: v :: l := rfl
theorem mo_g4 (x0 x1 x2 x3 x4 : Option Value) (l : mo_LV) : (x0 :: x1 :: x2 :: x3 :: x4 ::  l : mo_LV)[4]? = some x4 := rfl
theorem mo_h4 (x0 x1 x2 x3 x4 v : Option Value) (l : mo_LV) : (x0 :: x1 :: x2 :: x3 :: x4 ::  l : mo_LV).set 4 v = x0 :: x1 :: x2 :: x3 :: v :: l := rfl
theorem mo_g5 (x0 x1 x2 x3 x4 x5 : Option Value) (l : mo_LV) : (x0 :: x1 :: x2 :: x3 :: x4 :: x5 ::  l : mo_LV)[5]? = some x5 := rfl
theorem mo_h5 (x0 x1 x2 x3 x4 x5 v : Option Value) (l : mo_LV) : (x0 :: x1 :: x2 :: x3 :: x4 :: x5 ::  l : mo_LV).set 5 v = x0 :: x1 :: x2 :: x3 :: x4 :: v :: l := rfl
theorem mo_g6 (x0 x1 x2 x3 x4 x5 x6 : Option Value) (l : mo_LV) : (x0 :: x1 :: x2 :: x3 :: x4 :: x5 :: x6 ::  l : mo_LV)[6]? = some x6 := rfl
theorem mo_h6 (x0 x1 x2 x3 x4 x5 x6 v : Option Value) (l : mo_LV) : (x0 :: x1 :: x2 :: x3 :: x4 :: x5 :: x6 ::  l : mo_LV).set 6 v = x0 :: x1 :: x2 :: x3 :: x4 :: x5 :: v :: l := rfl
theorem mo_g7 (x0 x1 x2 x3 x4 x5 x6 x7 : Option Value) (l : mo_LV) : (x0 :: x1 :: x2 :: x3 :: x4 :: x5 :: x6 :: x7 ::  l : mo_LV)[7]? = some x7 := rfl
theorem mo_h7 (x0 x1 x2 x3 x4 x5 x6 x7 v : Option Value) (l : mo_LV) : (x0 :: x1 :: x2 :: x3 :: x4 :: x5 :: x6 :: x7 ::  l : mo_LV).set 7 v = x0 :: x1 :: x2 :: x3 :: x4 :: x5 :: x6 :: v :: l := rfl
theorem mo_g8 (x0 x1 x2 x3 x4 x5 x6 x7 x8 : Option Value) (l : mo_LV) : (x0 :: x1 :: x2 :: x3 :: x4 :: x5 :: x6 :: x7 :: x8 ::  l : mo_LV)[8]? = some x8 := rfl
theorem mo_h8 (x0 x1 x2 x3 x4 x5 x6 x7 x8 v : Option Value) (l : mo_LV) : (x0 :: x1 :: x2 :: x3 :: x4 :: x5 :: x6 :: x7 :: x8 ::  l : mo_LV).set 8 v = x0 :: x1 :: x2 :: x3 :: x4 :: x5 :: x6 :: x7 :: v :: l := rfl
theorem mo_g9 (x0 x1 x2 x3 x4 x5 x6 x7 x8 x9 : Option Value) (l : mo_LV) : (x0 :: x1 :: x2 :: x3 :: x4 :: x5 :: x6 :: x7 :: x8 :: x9 ::  l : mo_LV)[9]? = some x9 := rfl
theorem mo_h9 (x0 x1 x2 x3 x4 x5 x6 x7 x8 x9 v : Option Value) (l : mo_LV) : (x0 :: x1 :: x2 :: x3 :: x4 :: x5 :: x6 :: x7 :: x8 :: x9 ::  l : mo_LV).set 9 v = x0 :: x1 :: x2 :: x3 :: x4 :: x5 :: x6 :: x7 :: x8 :: v :: l := rfl
theorem mo_g10 (x0 x1 x2 x3 x4 x5 x6 x7 x8 x9 x10 : Option Value) (l : mo_LV) : (x0 :: x1 :: x2 :: x3 :: x4 :: x5 :: x6 :: x7 :: x8 :: x9 :: x10 ::  l : mo_LV)[10]? = some x10 := rfl
theorem mo_h10 (x0 x1 x2 x3 x4 x5 x6 x7 x8 x9 x10 v : Option Value) (l : mo_LV) : (x0 :: x1 :: x2 :: x3 :: x4 :: x5 :: x6 :: x7 :: x8 :: x9 :: x10 ::  l : mo_LV).set 10 v = x0 :: x1 :: x2 :: x3 :: x4 :: x5 :: x6 :: x7 :: x8 :: x9 :: v :: l := rfl
theorem mo_g11 (x0 x1 x2 x3 x4 x5 x6 x7 x8 x9 x10 x11 : Option Value) (l : mo_LV) : (x0 :: x1 :: x2 :: x3 :: x4 :: x5 :: x6 :: x7 :: x8 :: x9 :: x10 :: x11 ::  l : mo_LV)[11]? = some x11 := rfl
theorem mo_h11 (x0 x1 x2 x3 x4 x5 x6 x7 x8 x9 x10 x11 v : Option Value) (l : mo_LV) : (x0 :: x1 :: x2 :: x3 :: x4 :: x5 :: x6 :: x7 :: x8 :: x9 :: x10 :: x11 ::  l : mo_LV).set 11 v = x0 :: x1 :: x2 :: x3 :: x4 :: x5 :: x6 :: x7 :: x8 :: x9 :: x10 :: v :: l := rfl
theorem mo_g12 (x0 x1 x2 x3 x4 x5 x6 x7 x8 x9 x10 x11 x12 : Option Value) (l : mo_LV) : (x0 :: x1 :: x2 :: x3 :: x4 :: x5 :: x6 :: x7 :: x8 :: x9 :: x10 :: x11 :: x12 ::  l : mo_LV)[12]? = some x12 := rfl
theorem mo_h12 (x0 x1 x2 x3 x4 x5 x6 x7 x8 x9 x10 x11 x12 v : Option Value) (l : mo_LV) : (x0 :: x1 :: x2 :: x3 :: x4 :: x5 :: x6 :: x7 :: x8 :: x9 :: x10 :: x11 :: x12 ::  l : mo_LV).set 12 v = x0 :: x1 :: x2 :: x3 :: x4 :: x5 :: x6 :: x7 :: x8 :: x9 :: x10 :: x11 :: v :: l := rfl
theorem mo_den_j (cal : mo_Cal) (ret : mo_P) (X : mo_St → Prop) (s : mo_St) : mo_den cal ret X (mo_j s) = X s := by simp [mo_den, mo_j]
theorem mo_den_jp (cal : mo_Cal) (ret : mo_P) (X : mo_St → Prop) (p : Prop) (s : mo_St) : mo_den cal ret X (mo_jp p s) = (p ∧ X s) := rfl
theorem mo_den_br (cal : mo_Cal) (ret : mo_P) (X : mo_St → Prop) (c : Prop) (s t : mo_St) : mo_den cal ret X (mo_br c s t) = ((c → X s) ∧ (¬ c → X t)) := by simp [mo_den, mo_br]
theorem mo_den_brp (cal : mo_Cal) (ret : mo_P) (X : mo_St → Prop) (p c : Prop) (s t : mo_St) : mo_den cal ret X (mo_brp p c s t) = (p ∧ (c → X s) ∧ (¬ c → X t)) := rfl
theorem mo_den_rt (cal : mo_Cal) (ret : mo_P) (X : mo_St → Prop) (p : Prop) (v : Option Value) (μ : mo_Mem) : mo_den cal ret X (mo_rt1 p v μ) = (p ∧ ret v μ) := rfl
theorem mo_den_cl (cal : mo_Cal) (ret : mo_P) (X : mo_St → Prop) (p : Prop) (mj : Nat) (vs : List Value) (μ : mo_Mem) (pc : Nat) (ls : mo_LV) (rest : List Value) : mo_den cal ret X (mo_cll p (mj, vs, μ, pc, ls, rest)) = (p ∧ cal mj vs μ (fun v μ' => X (pc, ls, v.toList ++ rest, μ'))) := rfl
theorem mo_den_bad (cal : mo_Cal) (ret : mo_P) (X : mo_St → Prop) (μ : mo_Mem) : mo_den cal ret X (mo_bad μ) = False := by simp [mo_den, mo_bad]
theorem mo_go_s (cal : mo_Cal) (ret : mo_P) (K : mo_St → Prop) (cut : List Nat) (mi n pc : Nat) (ls : mo_LV) (st : List Value) (μ : mo_Mem) : mo_go cal ret K cut mi (n + 1) (pc, ls, st, μ) = (match mo_T mi pc with
    | some (i, r1, r2, r3, _) => mo_den cal ret (fun t => if t.1 ∈ cut then K t else mo_go cal ret K cut mi n t) (mo_step i r1 r2 r3 pc ls st μ)
    | none => False) := by
  rw [mo_go]
  cases mo_T mi pc <;> rfl
theorem mo_go_0 (cal : mo_Cal) (ret : mo_P) (K : mo_St → Prop) (cut : List Nat) (mi : Nat) (s : mo_St) : mo_go cal ret K cut mi 0 s = K s := rfl
theorem mo_rf_s (a : Nat) : va_rf (some a) = .ref a := rfl
theorem mo_rf_n : va_rf none = .null := rfl
theorem mo_isR_r (a : Nat) : mo_isR (.ref a) = True := by simp [mo_isR]
theorem mo_isR_n : mo_isR .null = True := by simp [mo_isR]
theorem mo_isR_f (r : Option Nat) : mo_isR (va_rf r) = True := by cases r <;> simp [mo_isR, va_rf]
theorem mo_rv_r (a : Nat) : mo_rv (.ref a) = some a := rfl
theorem mo_rv_n : mo_rv .null = none := rfl
theorem mo_rv_f (r : Option Nat) : mo_rv (va_rf r) = r := by cases r <;> rfl
theorem mo_ct_i (x : Int32) : (Value.int x).category = 1 := rfl
theorem mo_ct_l (x : Int64) : (Value.long x).category = 2 := rfl
theorem mo_ct_r (x : Nat) : (Value.ref x).category = 1 := rfl
theorem mo_ct_n : (Value.null).category = 1 := rfl
theorem mo_ct_f (r : Option Nat) : (va_rf r).category = 1 := by cases r <;> rfl
theorem mo_cat_0 : mo_cat [] = 0 := rfl
theorem mo_cat_c (v : Value) (l : List Value) : mo_cat (v :: l) = v.category + mo_cat l := by simp [mo_cat]
theorem mo_lg_0 (ls : mo_LV) : mo_lg ls 0 = false := rfl
theorem mo_lg_s (ls : mo_LV) (j : Nat) : mo_lg ls (j + 1) = (match ls[j]? with | some (some v) => v.category == 2 | _ => false) := rfl
theorem mo_C_wI (μ : mo_Mem) (k a : Nat) (x : Int32) : mo_C (mo_wI μ k a x) = mo_C μ := rfl
theorem mo_N_wI (μ : mo_Mem) (k a : Nat) (x : Int32) : mo_N (mo_wI μ k a x) = mo_N μ := rfl
theorem mo_I_wI (μ : mo_Mem) (k a : Nat) (x : Int32) : mo_I (mo_wI μ k a x) = mo_u (mo_I μ) k a x := rfl
theorem mo_L_wI (μ : mo_Mem) (k a : Nat) (x : Int32) : mo_L (mo_wI μ k a x) = mo_L μ := rfl
theorem mo_R_wI (μ : mo_Mem) (k a : Nat) (x : Int32) : mo_R (mo_wI μ k a x) = mo_R μ := rfl
theorem mo_AI_wI (μ : mo_Mem) (k a : Nat) (x : Int32) : mo_AI (mo_wI μ k a x) = mo_AI μ := rfl
theorem mo_AL_wI (μ : mo_Mem) (k a : Nat) (x : Int32) : mo_AL (mo_wI μ k a x) = mo_AL μ := rfl
theorem mo_AR_wI (μ : mo_Mem) (k a : Nat) (x : Int32) : mo_AR (mo_wI μ k a x) = mo_AR μ := rfl
theorem mo_X_wI (μ : mo_Mem) (k a : Nat) (x : Int32) : mo_X (mo_wI μ k a x) = mo_X μ := rfl
theorem mo_S_wI (μ : mo_Mem) (k a : Nat) (x : Int32) : mo_S (mo_wI μ k a x) = mo_S μ := rfl
theorem mo_C_wL (μ : mo_Mem) (k a : Nat) (x : Int64) : mo_C (mo_wL μ k a x) = mo_C μ := rfl
theorem mo_N_wL (μ : mo_Mem) (k a : Nat) (x : Int64) : mo_N (mo_wL μ k a x) = mo_N μ := rfl
theorem mo_I_wL (μ : mo_Mem) (k a : Nat) (x : Int64) : mo_I (mo_wL μ k a x) = mo_I μ := rfl
theorem mo_L_wL (μ : mo_Mem) (k a : Nat) (x : Int64) : mo_L (mo_wL μ k a x) = mo_u (mo_L μ) k a x := rfl
theorem mo_R_wL (μ : mo_Mem) (k a : Nat) (x : Int64) : mo_R (mo_wL μ k a x) = mo_R μ := rfl
theorem mo_AI_wL (μ : mo_Mem) (k a : Nat) (x : Int64) : mo_AI (mo_wL μ k a x) = mo_AI μ := rfl
theorem mo_AL_wL (μ : mo_Mem) (k a : Nat) (x : Int64) : mo_AL (mo_wL μ k a x) = mo_AL μ := rfl
theorem mo_AR_wL (μ : mo_Mem) (k a : Nat) (x : Int64) : mo_AR (mo_wL μ k a x) = mo_AR μ := rfl
theorem mo_X_wL (μ : mo_Mem) (k a : Nat) (x : Int64) : mo_X (mo_wL μ k a x) = mo_X μ := rfl
theorem mo_S_wL (μ : mo_Mem) (k a : Nat) (x : Int64) : mo_S (mo_wL μ k a x) = mo_S μ := rfl
theorem mo_C_wR (μ : mo_Mem) (k a : Nat) (x : Option Nat) : mo_C (mo_wR μ k a x) = mo_C μ := rfl
theorem mo_N_wR (μ : mo_Mem) (k a : Nat) (x : Option Nat) : mo_N (mo_wR μ k a x) = mo_N μ := rfl
theorem mo_I_wR (μ : mo_Mem) (k a : Nat) (x : Option Nat) : mo_I (mo_wR μ k a x) = mo_I μ := rfl
theorem mo_L_wR (μ : mo_Mem) (k a : Nat) (x : Option Nat) : mo_L (mo_wR μ k a x) = mo_L μ := rfl
theorem mo_R_wR (μ : mo_Mem) (k a : Nat) (x : Option Nat) : mo_R (mo_wR μ k a x) = mo_u (mo_R μ) k a x := rfl
theorem mo_AI_wR (μ : mo_Mem) (k a : Nat) (x : Option Nat) : mo_AI (mo_wR μ k a x) = mo_AI μ := rfl
theorem mo_AL_wR (μ : mo_Mem) (k a : Nat) (x : Option Nat) : mo_AL (mo_wR μ k a x) = mo_AL μ := rfl
theorem mo_AR_wR (μ : mo_Mem) (k a : Nat) (x : Option Nat) : mo_AR (mo_wR μ k a x) = mo_AR μ := rfl
theorem mo_X_wR (μ : mo_Mem) (k a : Nat) (x : Option Nat) : mo_X (mo_wR μ k a x) = mo_X μ := rfl
theorem mo_S_wR (μ : mo_Mem) (k a : Nat) (x : Option Nat) : mo_S (mo_wR μ k a x) = mo_S μ := rfl
theorem mo_C_wAI (μ : mo_Mem) (k a : Nat) (x : Int32) : mo_C (mo_wAI μ k a x) = mo_C μ := rfl
theorem mo_N_wAI (μ : mo_Mem) (k a : Nat) (x : Int32) : mo_N (mo_wAI μ k a x) = mo_N μ := rfl
theorem mo_I_wAI (μ : mo_Mem) (k a : Nat) (x : Int32) : mo_I (mo_wAI μ k a x) = mo_I μ := rfl
theorem mo_L_wAI (μ : mo_Mem) (k a : Nat) (x : Int32) : mo_L (mo_wAI μ k a x) = mo_L μ := rfl
theorem mo_R_wAI (μ : mo_Mem) (k a : Nat) (x : Int32) : mo_R (mo_wAI μ k a x) = mo_R μ := rfl
theorem mo_AI_wAI (μ : mo_Mem) (k a : Nat) (x : Int32) : mo_AI (mo_wAI μ k a x) = mo_u (mo_AI μ) k a x := rfl
theorem mo_AL_wAI (μ : mo_Mem) (k a : Nat) (x : Int32) : mo_AL (mo_wAI μ k a x) = mo_AL μ := rfl
theorem mo_AR_wAI (μ : mo_Mem) (k a : Nat) (x : Int32) : mo_AR (mo_wAI μ k a x) = mo_AR μ := rfl
theorem mo_X_wAI (μ : mo_Mem) (k a : Nat) (x : Int32) : mo_X (mo_wAI μ k a x) = mo_X μ := rfl
theorem mo_S_wAI (μ : mo_Mem) (k a : Nat) (x : Int32) : mo_S (mo_wAI μ k a x) = mo_S μ := rfl
theorem mo_C_wAL (μ : mo_Mem) (k a : Nat) (x : Int64) : mo_C (mo_wAL μ k a x) = mo_C μ := rfl
theorem mo_N_wAL (μ : mo_Mem) (k a : Nat) (x : Int64) : mo_N (mo_wAL μ k a x) = mo_N μ := rfl
theorem mo_I_wAL (μ : mo_Mem) (k a : Nat) (x : Int64) : mo_I (mo_wAL μ k a x) = mo_I μ := rfl
theorem mo_L_wAL (μ : mo_Mem) (k a : Nat) (x : Int64) : mo_L (mo_wAL μ k a x) = mo_L μ := rfl
theorem mo_R_wAL (μ : mo_Mem) (k a : Nat) (x : Int64) : mo_R (mo_wAL μ k a x) = mo_R μ := rfl
theorem mo_AI_wAL (μ : mo_Mem) (k a : Nat) (x : Int64) : mo_AI (mo_wAL μ k a x) = mo_AI μ := rfl
theorem mo_AL_wAL (μ : mo_Mem) (k a : Nat) (x : Int64) : mo_AL (mo_wAL μ k a x) = mo_u (mo_AL μ) k a x := rfl
theorem mo_AR_wAL (μ : mo_Mem) (k a : Nat) (x : Int64) : mo_AR (mo_wAL μ k a x) = mo_AR μ := rfl
theorem mo_X_wAL (μ : mo_Mem) (k a : Nat) (x : Int64) : mo_X (mo_wAL μ k a x) = mo_X μ := rfl
theorem mo_S_wAL (μ : mo_Mem) (k a : Nat) (x : Int64) : mo_S (mo_wAL μ k a x) = mo_S μ := rfl
theorem mo_C_wAR (μ : mo_Mem) (k a : Nat) (x : Option Nat) : mo_C (mo_wAR μ k a x) = mo_C μ := rfl
theorem mo_N_wAR (μ : mo_Mem) (k a : Nat) (x : Option Nat) : mo_N (mo_wAR μ k a x) = mo_N μ := rfl
theorem mo_I_wAR (μ : mo_Mem) (k a : Nat) (x : Option Nat) : mo_I (mo_wAR μ k a x) = mo_I μ := rfl
theorem mo_L_wAR (μ : mo_Mem) (k a : Nat) (x : Option Nat) : mo_L (mo_wAR μ k a x) = mo_L μ := rfl
theorem mo_R_wAR (μ : mo_Mem) (k a : Nat) (x : Option Nat) : mo_R (mo_wAR μ k a x) = mo_R μ := rfl
theorem mo_AI_wAR (μ : mo_Mem) (k a : Nat) (x : Option Nat) : mo_AI (mo_wAR μ k a x) = mo_AI μ := rfl
theorem mo_AL_wAR (μ : mo_Mem) (k a : Nat) (x : Option Nat) : mo_AL (mo_wAR μ k a x) = mo_AL μ := rfl
theorem mo_AR_wAR (μ : mo_Mem) (k a : Nat) (x : Option Nat) : mo_AR (mo_wAR μ k a x) = mo_u (mo_AR μ) k a x := rfl
theorem mo_X_wAR (μ : mo_Mem) (k a : Nat) (x : Option Nat) : mo_X (mo_wAR μ k a x) = mo_X μ := rfl
theorem mo_S_wAR (μ : mo_Mem) (k a : Nat) (x : Option Nat) : mo_S (mo_wAR μ k a x) = mo_S μ := rfl
theorem mo_C_new (μ : mo_Mem) (t l n : Nat) : mo_C (mo_new μ t l n) = mo_v (mo_C μ) (mo_X μ) t := rfl
theorem mo_N_new (μ : mo_Mem) (t l n : Nat) : mo_N (mo_new μ t l n) = mo_v (mo_N μ) (mo_X μ) l := rfl
theorem mo_I_new (μ : mo_Mem) (t l n : Nat) : mo_I (mo_new μ t l n) = mo_z (mo_I μ) (mo_X μ) 0 := rfl
theorem mo_L_new (μ : mo_Mem) (t l n : Nat) : mo_L (mo_new μ t l n) = mo_z (mo_L μ) (mo_X μ) 0 := rfl
theorem mo_R_new (μ : mo_Mem) (t l n : Nat) : mo_R (mo_new μ t l n) = mo_z (mo_R μ) (mo_X μ) none := rfl
theorem mo_AI_new (μ : mo_Mem) (t l n : Nat) : mo_AI (mo_new μ t l n) = mo_y (mo_AI μ) (mo_X μ) 0 := rfl
theorem mo_AL_new (μ : mo_Mem) (t l n : Nat) : mo_AL (mo_new μ t l n) = mo_y (mo_AL μ) (mo_X μ) 0 := rfl
theorem mo_AR_new (μ : mo_Mem) (t l n : Nat) : mo_AR (mo_new μ t l n) = mo_y (mo_AR μ) (mo_X μ) none := rfl
theorem mo_X_new (μ : mo_Mem) (t l n : Nat) : mo_X (mo_new μ t l n) = mo_X μ + 1 := rfl
theorem mo_S_new (μ : mo_Mem) (t l n : Nat) : mo_S (mo_new μ t l n) = mo_S μ + n := rfl
theorem mo_u_a {α : Type} (f : Nat → Nat → α) (k a : Nat) (x : α) (k' a' : Nat) : mo_u f k a x k' a' = if k' = k ∧ a' = a then x else f k' a' := rfl
theorem mo_z_a {α : Type} (f : Nat → Nat → α) (a : Nat) (x : α) (k' a' : Nat) : mo_z f a x k' a' = if a' = a then x else f k' a' := rfl
theorem mo_y_a {α : Type} (f : Nat → Nat → α) (a : Nat) (x : α) (a' i : Nat) : mo_y f a x a' i = if a' = a then x else f a' i := rfl
theorem mo_v_a (f : Nat → Nat) (a x a' : Nat) : mo_v f a x a' = if a' = a then x else f a' := rfl
