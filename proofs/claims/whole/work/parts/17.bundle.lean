set_option maxRecDepth 100000 in
set_option maxHeartbeats 4000000 in
theorem mo_EV : (∀ (r1 r2 r3 pc : Nat) (ls : mo_LV) (st : List Value) (μ : mo_Mem), mo_step (.iconst (-1)) r1 r2 r3 pc ls st μ = mo_j (pc + 1, ls, .int (-1) :: st, μ)) ∧
  (∀ (r1 r2 r3 pc : Nat) (ls : mo_LV) (st : List Value) (μ : mo_Mem), mo_step (.iconst 0) r1 r2 r3 pc ls st μ = mo_j (pc + 1, ls, .int 0 :: st, μ)) ∧
  (∀ (r1 r2 r3 pc : Nat) (ls : mo_LV) (st : List Value) (μ : mo_Mem), mo_step (.iconst 1) r1 r2 r3 pc ls st μ = mo_j (pc + 1, ls, .int 1 :: st, μ)) ∧
  (∀ (r1 r2 r3 pc : Nat) (ls : mo_LV) (st : List Value) (μ : mo_Mem), mo_step (.iconst 2) r1 r2 r3 pc ls st μ = mo_j (pc + 1, ls, .int 2 :: st, μ)) ∧
  (∀ (r1 r2 r3 pc : Nat) (ls : mo_LV) (st : List Value) (μ : mo_Mem), mo_step (.iconst 3) r1 r2 r3 pc ls st μ = mo_j (pc + 1, ls, .int 3 :: st, μ)) ∧
  (∀ (r1 r2 r3 pc : Nat) (ls : mo_LV) (st : List Value) (μ : mo_Mem), mo_step (.iconst 4) r1 r2 r3 pc ls st μ = mo_j (pc + 1, ls, .int 4 :: st, μ)) ∧
  (∀ (r1 r2 r3 pc : Nat) (ls : mo_LV) (st : List Value) (μ : mo_Mem), mo_step (.iconst 5) r1 r2 r3 pc ls st μ = mo_j (pc + 1, ls, .int 5 :: st, μ)) ∧
  (∀ (r1 r2 r3 pc : Nat) (ls : mo_LV) (st : List Value) (μ : mo_Mem), mo_step (.bipush (-10)) r1 r2 r3 pc ls st μ = mo_j (pc + 2, ls, .int (-10) :: st, μ)) ∧
  (∀ (r1 r2 r3 pc : Nat) (ls : mo_LV) (st : List Value) (μ : mo_Mem), mo_step (.bipush (-5)) r1 r2 r3 pc ls st μ = mo_j (pc + 2, ls, .int (-5) :: st, μ)) ∧
  (∀ (r1 r2 r3 pc : Nat) (ls : mo_LV) (st : List Value) (μ : mo_Mem), mo_step (.bipush (-4)) r1 r2 r3 pc ls st μ = mo_j (pc + 2, ls, .int (-4) :: st, μ)) ∧
  (∀ (r1 r2 r3 pc : Nat) (ls : mo_LV) (st : List Value) (μ : mo_Mem), mo_step (.bipush (-3)) r1 r2 r3 pc ls st μ = mo_j (pc + 2, ls, .int (-3) :: st, μ)) ∧
  (∀ (r1 r2 r3 pc : Nat) (ls : mo_LV) (st : List Value) (μ : mo_Mem), mo_step (.bipush (-2)) r1 r2 r3 pc ls st μ = mo_j (pc + 2, ls, .int (-2) :: st, μ)) ∧
  (∀ (r1 r2 r3 pc : Nat) (ls : mo_LV) (st : List Value) (μ : mo_Mem), mo_step (.bipush 6) r1 r2 r3 pc ls st μ = mo_j (pc + 2, ls, .int 6 :: st, μ)) ∧
  (∀ (r1 r2 r3 pc : Nat) (ls : mo_LV) (st : List Value) (μ : mo_Mem), mo_step (.bipush 7) r1 r2 r3 pc ls st μ = mo_j (pc + 2, ls, .int 7 :: st, μ)) ∧
  (∀ (r1 r2 r3 pc : Nat) (ls : mo_LV) (st : List Value) (μ : mo_Mem), mo_step (.bipush 8) r1 r2 r3 pc ls st μ = mo_j (pc + 2, ls, .int 8 :: st, μ)) ∧
  (∀ (r1 r2 r3 pc : Nat) (ls : mo_LV) (st : List Value) (μ : mo_Mem), mo_step (.bipush 9) r1 r2 r3 pc ls st μ = mo_j (pc + 2, ls, .int 9 :: st, μ)) ∧
  (∀ (r1 r2 r3 pc : Nat) (ls : mo_LV) (st : List Value) (μ : mo_Mem), mo_step (.bipush 10) r1 r2 r3 pc ls st μ = mo_j (pc + 2, ls, .int 10 :: st, μ)) ∧
  (∀ (r1 r2 r3 pc : Nat) (ls : mo_LV) (st : List Value) (μ : mo_Mem), mo_step (.bipush 12) r1 r2 r3 pc ls st μ = mo_j (pc + 2, ls, .int 12 :: st, μ)) ∧
  (∀ (r1 r2 r3 pc : Nat) (ls : mo_LV) (st : List Value) (μ : mo_Mem), mo_step (.bipush 24) r1 r2 r3 pc ls st μ = mo_j (pc + 2, ls, .int 24 :: st, μ)) ∧
  (∀ (r1 r2 r3 pc : Nat) (ls : mo_LV) (st : List Value) (μ : mo_Mem), mo_step (.bipush 31) r1 r2 r3 pc ls st μ = mo_j (pc + 2, ls, .int 31 :: st, μ)) ∧
  (∀ (r1 r2 r3 pc : Nat) (ls : mo_LV) (st : List Value) (μ : mo_Mem), mo_step (.bipush 32) r1 r2 r3 pc ls st μ = mo_j (pc + 2, ls, .int 32 :: st, μ)) ∧
  (∀ (r1 r2 r3 pc : Nat) (ls : mo_LV) (st : List Value) (μ : mo_Mem), mo_step (.bipush 40) r1 r2 r3 pc ls st μ = mo_j (pc + 2, ls, .int 40 :: st, μ)) ∧
  (∀ (r1 r2 r3 pc : Nat) (ls : mo_LV) (st : List Value) (μ : mo_Mem), mo_step (.bipush 60) r1 r2 r3 pc ls st μ = mo_j (pc + 2, ls, .int 60 :: st, μ)) ∧
  (∀ (r1 r2 r3 pc : Nat) (ls : mo_LV) (st : List Value) (μ : mo_Mem), mo_step (.bipush 100) r1 r2 r3 pc ls st μ = mo_j (pc + 2, ls, .int 100 :: st, μ)) ∧
  (∀ (r1 r2 r3 pc : Nat) (ls : mo_LV) (st : List Value) (μ : mo_Mem), mo_step (.sipush 200) r1 r2 r3 pc ls st μ = mo_j (pc + 3, ls, .int 200 :: st, μ)) ∧
  (∀ (r1 r2 r3 pc : Nat) (ls : mo_LV) (st : List Value) (μ : mo_Mem), mo_step (.sipush 300) r1 r2 r3 pc ls st μ = mo_j (pc + 3, ls, .int 300 :: st, μ)) ∧
  (∀ (r1 r2 r3 pc : Nat) (ls : mo_LV) (st : List Value) (μ : mo_Mem), mo_step (.sipush 320) r1 r2 r3 pc ls st μ = mo_j (pc + 3, ls, .int 320 :: st, μ)) ∧
  (∀ (r1 r2 r3 pc : Nat) (ls : mo_LV) (st : List Value) (μ : mo_Mem), mo_step (.sipush 400) r1 r2 r3 pc ls st μ = mo_j (pc + 3, ls, .int 400 :: st, μ)) ∧
  (∀ (r1 r2 r3 pc : Nat) (ls : mo_LV) (st : List Value) (μ : mo_Mem), mo_step (.sipush 1200) r1 r2 r3 pc ls st μ = mo_j (pc + 3, ls, .int 1200 :: st, μ)) ∧
  (∀ (r1 r2 r3 pc : Nat) (ls : mo_LV) (st : List Value) (μ : mo_Mem), mo_step (.sipush 2400) r1 r2 r3 pc ls st μ = mo_j (pc + 3, ls, .int 2400 :: st, μ)) ∧
  (∀ (r1 r2 r3 pc : Nat) (ls : mo_LV) (st : List Value) (μ : mo_Mem), mo_step (.sipush 3200) r1 r2 r3 pc ls st μ = mo_j (pc + 3, ls, .int 3200 :: st, μ)) ∧
  (∀ (r1 r2 r3 pc : Nat) (ls : mo_LV) (st : List Value) (μ : mo_Mem), mo_step (.lconst 0) r1 r2 r3 pc ls st μ = mo_j (pc + 1, ls, .long 0 :: st, μ)) ∧
  (∀ (k r2 r3 pc : Nat) (ls : mo_LV) (st : List Value) (μ : mo_Mem), mo_step (.ldc2_w k) 2 r2 r3 pc ls st μ = mo_j (pc + 3, ls, .long 2 :: st, μ)) ∧
  (∀ (k r2 r3 pc : Nat) (ls : mo_LV) (st : List Value) (μ : mo_Mem), mo_step (.ldc2_w k) 3 r2 r3 pc ls st μ = mo_j (pc + 3, ls, .long 3 :: st, μ)) ∧
  (∀ (k r2 r3 pc : Nat) (ls : mo_LV) (st : List Value) (μ : mo_Mem), mo_step (.ldc2_w k) 4 r2 r3 pc ls st μ = mo_j (pc + 3, ls, .long 4 :: st, μ)) ∧
  (∀ (k r2 r3 pc : Nat) (ls : mo_LV) (st : List Value) (μ : mo_Mem), mo_step (.ldc2_w k) 4294967295 r2 r3 pc ls st μ = mo_j (pc + 3, ls, .long 4294967295 :: st, μ)) ∧
  (∀ (r1 r2 r3 pc : Nat) (ls : mo_LV) (st : List Value) (μ : mo_Mem), mo_step .aconst_null r1 r2 r3 pc ls st μ = mo_j (pc + 1, ls, .null :: st, μ)) ∧
  (∀ (r1 r2 r3 pc : Nat) (ls : mo_LV) (st : List Value) (μ : mo_Mem), mo_step (.iload_n 0) r1 r2 r3 pc ls st μ = mo_ldI (pc + 1) 0 ls st μ) ∧
  (∀ (r1 r2 r3 pc : Nat) (ls : mo_LV) (st : List Value) (μ : mo_Mem), mo_step (.iload_n 1) r1 r2 r3 pc ls st μ = mo_ldI (pc + 1) 1 ls st μ) ∧
  (∀ (r1 r2 r3 pc : Nat) (ls : mo_LV) (st : List Value) (μ : mo_Mem), mo_step (.iload_n 2) r1 r2 r3 pc ls st μ = mo_ldI (pc + 1) 2 ls st μ) ∧
  (∀ (r1 r2 r3 pc : Nat) (ls : mo_LV) (st : List Value) (μ : mo_Mem), mo_step (.iload_n 3) r1 r2 r3 pc ls st μ = mo_ldI (pc + 1) 3 ls st μ) ∧
  (∀ (j : Nat) (r1 r2 r3 pc : Nat) (ls : mo_LV) (st : List Value) (μ : mo_Mem), mo_step (.iload j) r1 r2 r3 pc ls st μ = mo_ldI (pc + 2) j ls st μ) ∧
  (∀ (r1 r2 r3 pc : Nat) (ls : mo_LV) (st : List Value) (μ : mo_Mem), mo_step (.lload_n 0) r1 r2 r3 pc ls st μ = mo_ldL (pc + 1) 0 ls st μ) ∧
  (∀ (r1 r2 r3 pc : Nat) (ls : mo_LV) (st : List Value) (μ : mo_Mem), mo_step (.lload_n 1) r1 r2 r3 pc ls st μ = mo_ldL (pc + 1) 1 ls st μ) ∧
  (∀ (r1 r2 r3 pc : Nat) (ls : mo_LV) (st : List Value) (μ : mo_Mem), mo_step (.lload_n 2) r1 r2 r3 pc ls st μ = mo_ldL (pc + 1) 2 ls st μ) ∧
  (∀ (r1 r2 r3 pc : Nat) (ls : mo_LV) (st : List Value) (μ : mo_Mem), mo_step (.lload_n 3) r1 r2 r3 pc ls st μ = mo_ldL (pc + 1) 3 ls st μ) ∧
  (∀ (j : Nat) (r1 r2 r3 pc : Nat) (ls : mo_LV) (st : List Value) (μ : mo_Mem), mo_step (.lload j) r1 r2 r3 pc ls st μ = mo_ldL (pc + 2) j ls st μ) ∧
  (∀ (r1 r2 r3 pc : Nat) (ls : mo_LV) (st : List Value) (μ : mo_Mem), mo_step (.aload_n 0) r1 r2 r3 pc ls st μ = mo_ldA (pc + 1) 0 ls st μ) ∧
  (∀ (r1 r2 r3 pc : Nat) (ls : mo_LV) (st : List Value) (μ : mo_Mem), mo_step (.aload_n 1) r1 r2 r3 pc ls st μ = mo_ldA (pc + 1) 1 ls st μ) ∧
  (∀ (r1 r2 r3 pc : Nat) (ls : mo_LV) (st : List Value) (μ : mo_Mem), mo_step (.aload_n 2) r1 r2 r3 pc ls st μ = mo_ldA (pc + 1) 2 ls st μ) ∧
  (∀ (r1 r2 r3 pc : Nat) (ls : mo_LV) (st : List Value) (μ : mo_Mem), mo_step (.aload_n 3) r1 r2 r3 pc ls st μ = mo_ldA (pc + 1) 3 ls st μ) ∧
  (∀ (j : Nat) (r1 r2 r3 pc : Nat) (ls : mo_LV) (st : List Value) (μ : mo_Mem), mo_step (.aload j) r1 r2 r3 pc ls st μ = mo_ldA (pc + 2) j ls st μ) ∧
  (∀ (r1 r2 r3 pc : Nat) (ls : mo_LV) (st : List Value) (μ : mo_Mem), mo_step (.istore_n 0) r1 r2 r3 pc ls st μ = mo_sI (pc + 1) 0 ls st μ) ∧
  (∀ (r1 r2 r3 pc : Nat) (ls : mo_LV) (st : List Value) (μ : mo_Mem), mo_step (.istore_n 1) r1 r2 r3 pc ls st μ = mo_sI (pc + 1) 1 ls st μ) ∧
  (∀ (r1 r2 r3 pc : Nat) (ls : mo_LV) (st : List Value) (μ : mo_Mem), mo_step (.istore_n 2) r1 r2 r3 pc ls st μ = mo_sI (pc + 1) 2 ls st μ) ∧
  (∀ (r1 r2 r3 pc : Nat) (ls : mo_LV) (st : List Value) (μ : mo_Mem), mo_step (.istore_n 3) r1 r2 r3 pc ls st μ = mo_sI (pc + 1) 3 ls st μ) ∧
  (∀ (j : Nat) (r1 r2 r3 pc : Nat) (ls : mo_LV) (st : List Value) (μ : mo_Mem), mo_step (.istore j) r1 r2 r3 pc ls st μ = mo_sI (pc + 2) j ls st μ) ∧
  (∀ (r1 r2 r3 pc : Nat) (ls : mo_LV) (st : List Value) (μ : mo_Mem), mo_step (.lstore_n 0) r1 r2 r3 pc ls st μ = mo_sL (pc + 1) 0 ls st μ) ∧
  (∀ (r1 r2 r3 pc : Nat) (ls : mo_LV) (st : List Value) (μ : mo_Mem), mo_step (.lstore_n 1) r1 r2 r3 pc ls st μ = mo_sL (pc + 1) 1 ls st μ) ∧
  (∀ (r1 r2 r3 pc : Nat) (ls : mo_LV) (st : List Value) (μ : mo_Mem), mo_step (.lstore_n 2) r1 r2 r3 pc ls st μ = mo_sL (pc + 1) 2 ls st μ) ∧
  (∀ (r1 r2 r3 pc : Nat) (ls : mo_LV) (st : List Value) (μ : mo_Mem), mo_step (.lstore_n 3) r1 r2 r3 pc ls st μ = mo_sL (pc + 1) 3 ls st μ) ∧
  (∀ (j : Nat) (r1 r2 r3 pc : Nat) (ls : mo_LV) (st : List Value) (μ : mo_Mem), mo_step (.lstore j) r1 r2 r3 pc ls st μ = mo_sL (pc + 2) j ls st μ) ∧
  (∀ (r1 r2 r3 pc : Nat) (ls : mo_LV) (st : List Value) (μ : mo_Mem), mo_step (.astore_n 0) r1 r2 r3 pc ls st μ = mo_sA (pc + 1) 0 ls st μ) ∧
  (∀ (r1 r2 r3 pc : Nat) (ls : mo_LV) (st : List Value) (μ : mo_Mem), mo_step (.astore_n 1) r1 r2 r3 pc ls st μ = mo_sA (pc + 1) 1 ls st μ) ∧
  (∀ (r1 r2 r3 pc : Nat) (ls : mo_LV) (st : List Value) (μ : mo_Mem), mo_step (.astore_n 2) r1 r2 r3 pc ls st μ = mo_sA (pc + 1) 2 ls st μ) ∧
  (∀ (r1 r2 r3 pc : Nat) (ls : mo_LV) (st : List Value) (μ : mo_Mem), mo_step (.astore_n 3) r1 r2 r3 pc ls st μ = mo_sA (pc + 1) 3 ls st μ) ∧
  (∀ (j : Nat) (r1 r2 r3 pc : Nat) (ls : mo_LV) (st : List Value) (μ : mo_Mem), mo_step (.astore j) r1 r2 r3 pc ls st μ = mo_sA (pc + 2) j ls st μ) ∧
  (∀ (j : Nat) (n : Int) (r1 r2 r3 pc : Nat) (ls : mo_LV) (st : List Value) (μ : mo_Mem), mo_step (.iinc j n) r1 r2 r3 pc ls st μ = mo_inc (pc + 3) j n ls st μ) ∧
  (∀ (r1 r2 r3 pc : Nat) (ls : mo_LV) (st : List Value) (μ : mo_Mem), mo_step .iadd r1 r2 r3 pc ls st μ = mo_ii (fun x y => x + y) (pc + 1) ls st μ) ∧
  (∀ (r1 r2 r3 pc : Nat) (ls : mo_LV) (st : List Value) (μ : mo_Mem), mo_step .isub r1 r2 r3 pc ls st μ = mo_ii (fun x y => x - y) (pc + 1) ls st μ) ∧
  (∀ (r1 r2 r3 pc : Nat) (ls : mo_LV) (st : List Value) (μ : mo_Mem), mo_step .imul r1 r2 r3 pc ls st μ = mo_ii (fun x y => x * y) (pc + 1) ls st μ) ∧
  (∀ (r1 r2 r3 pc : Nat) (ls : mo_LV) (st : List Value) (μ : mo_Mem), mo_step .iand r1 r2 r3 pc ls st μ = mo_ii (fun x y => x &&& y) (pc + 1) ls st μ) ∧
  (∀ (r1 r2 r3 pc : Nat) (ls : mo_LV) (st : List Value) (μ : mo_Mem), mo_step .idiv r1 r2 r3 pc ls st μ = mo_id (fun x y => x / y) (pc + 1) ls st μ) ∧
  (∀ (r1 r2 r3 pc : Nat) (ls : mo_LV) (st : List Value) (μ : mo_Mem), mo_step .irem r1 r2 r3 pc ls st μ = mo_id (fun x y => x - x / y * y) (pc + 1) ls st μ) ∧
  (∀ (r1 r2 r3 pc : Nat) (ls : mo_LV) (st : List Value) (μ : mo_Mem), mo_step .ladd r1 r2 r3 pc ls st μ = mo_ll (fun x y => x + y) (pc + 1) ls st μ) ∧
  (∀ (r1 r2 r3 pc : Nat) (ls : mo_LV) (st : List Value) (μ : mo_Mem), mo_step .lsub r1 r2 r3 pc ls st μ = mo_ll (fun x y => x - y) (pc + 1) ls st μ) ∧
  (∀ (r1 r2 r3 pc : Nat) (ls : mo_LV) (st : List Value) (μ : mo_Mem), mo_step .land r1 r2 r3 pc ls st μ = mo_ll (fun x y => x &&& y) (pc + 1) ls st μ) ∧
  (∀ (r1 r2 r3 pc : Nat) (ls : mo_LV) (st : List Value) (μ : mo_Mem), mo_step .lor r1 r2 r3 pc ls st μ = mo_ll (fun x y => x ||| y) (pc + 1) ls st μ) ∧
  (∀ (r1 r2 r3 pc : Nat) (ls : mo_LV) (st : List Value) (μ : mo_Mem), mo_step .ldiv r1 r2 r3 pc ls st μ = mo_ld (fun x y => x / y) (pc + 1) ls st μ) ∧
  (∀ (r1 r2 r3 pc : Nat) (ls : mo_LV) (st : List Value) (μ : mo_Mem), mo_step .lshl r1 r2 r3 pc ls st μ = mo_shl (pc + 1) ls st μ) ∧
  (∀ (r1 r2 r3 pc : Nat) (ls : mo_LV) (st : List Value) (μ : mo_Mem), mo_step .lcmp r1 r2 r3 pc ls st μ = mo_cmp (pc + 1) ls st μ) ∧
  (∀ (r1 r2 r3 pc : Nat) (ls : mo_LV) (st : List Value) (μ : mo_Mem), mo_step .i2l r1 r2 r3 pc ls st μ = mo_i2l (pc + 1) ls st μ) ∧
  (∀ (r1 r2 r3 pc : Nat) (ls : mo_LV) (st : List Value) (μ : mo_Mem), mo_step .l2i r1 r2 r3 pc ls st μ = mo_l2i (pc + 1) ls st μ) ∧
  (∀ (r1 r2 r3 pc : Nat) (ls : mo_LV) (st : List Value) (μ : mo_Mem), mo_step .dup r1 r2 r3 pc ls st μ = mo_dup (pc + 1) ls st μ) ∧
  (∀ (r1 r2 r3 pc : Nat) (ls : mo_LV) (st : List Value) (μ : mo_Mem), mo_step .dup2 r1 r2 r3 pc ls st μ = mo_dup2 (pc + 1) ls st μ) ∧
  (∀ (r1 r2 r3 pc : Nat) (ls : mo_LV) (st : List Value) (μ : mo_Mem), mo_step .pop r1 r2 r3 pc ls st μ = mo_pop (pc + 1) ls st μ) ∧
  (∀ (r1 r2 r3 pc : Nat) (ls : mo_LV) (st : List Value) (μ : mo_Mem), mo_step .iaload r1 r2 r3 pc ls st μ = mo_iald r1 (pc + 1) ls st μ) ∧
  (∀ (r1 r2 r3 pc : Nat) (ls : mo_LV) (st : List Value) (μ : mo_Mem), mo_step .laload r1 r2 r3 pc ls st μ = mo_lald (pc + 1) ls st μ) ∧
  (∀ (r1 r2 r3 pc : Nat) (ls : mo_LV) (st : List Value) (μ : mo_Mem), mo_step .baload r1 r2 r3 pc ls st μ = mo_iald 22 (pc + 1) ls st μ) ∧
  (∀ (r1 r2 r3 pc : Nat) (ls : mo_LV) (st : List Value) (μ : mo_Mem), mo_step .aaload r1 r2 r3 pc ls st μ = mo_aald (pc + 1) ls st μ) ∧
  (∀ (r1 r2 r3 pc : Nat) (ls : mo_LV) (st : List Value) (μ : mo_Mem), mo_step .iastore r1 r2 r3 pc ls st μ = mo_iast (pc + 1) ls st μ) ∧
  (∀ (r1 r2 r3 pc : Nat) (ls : mo_LV) (st : List Value) (μ : mo_Mem), mo_step .lastore r1 r2 r3 pc ls st μ = mo_last (pc + 1) ls st μ) ∧
  (∀ (r1 r2 r3 pc : Nat) (ls : mo_LV) (st : List Value) (μ : mo_Mem), mo_step .bastore r1 r2 r3 pc ls st μ = mo_zast (pc + 1) ls st μ) ∧
  (∀ (r1 r2 r3 pc : Nat) (ls : mo_LV) (st : List Value) (μ : mo_Mem), mo_step .aastore r1 r2 r3 pc ls st μ = mo_aast (pc + 1) ls st μ) ∧
  (∀ (r1 r2 r3 pc : Nat) (ls : mo_LV) (st : List Value) (μ : mo_Mem), mo_step .arraylength r1 r2 r3 pc ls st μ = mo_alen (pc + 1) ls st μ) ∧
  (∀ (r1 r2 r3 pc : Nat) (ls : mo_LV) (st : List Value) (μ : mo_Mem), mo_step .ireturn r1 r2 r3 pc ls st μ = mo_iret r1 st μ) ∧
  (∀ (r1 r2 r3 pc : Nat) (ls : mo_LV) (st : List Value) (μ : mo_Mem), mo_step .lreturn r1 r2 r3 pc ls st μ = mo_lret st μ) ∧
  (∀ (r1 r2 r3 pc : Nat) (ls : mo_LV) (st : List Value) (μ : mo_Mem), mo_step .areturn r1 r2 r3 pc ls st μ = mo_aret st μ) ∧
  (∀ (r1 r2 r3 pc : Nat) (ls : mo_LV) (st : List Value) (μ : mo_Mem), mo_step .return_ r1 r2 r3 pc ls st μ = mo_vret st μ) ∧
  (∀ (c : Jvm.ClassFile.Cond) (f : Int) (r1 r2 r3 pc : Nat) (ls : mo_LV) (st : List Value) (μ : mo_Mem), mo_step (.ifCond c f) r1 r2 r3 pc ls st μ = mo_if c r1 (pc + 3) ls st μ) ∧
  (∀ (c : Jvm.ClassFile.Cond) (f : Int) (r1 r2 r3 pc : Nat) (ls : mo_LV) (st : List Value) (μ : mo_Mem), mo_step (.if_icmp c f) r1 r2 r3 pc ls st μ = mo_icmp c r1 (pc + 3) ls st μ) ∧
  (∀ (f : Int) (r1 r2 r3 pc : Nat) (ls : mo_LV) (st : List Value) (μ : mo_Mem), mo_step (.if_acmp .ne f) r1 r2 r3 pc ls st μ = mo_acmpne r1 (pc + 3) ls st μ) ∧
  (∀ (f : Int) (r1 r2 r3 pc : Nat) (ls : mo_LV) (st : List Value) (μ : mo_Mem), mo_step (.ifnull f) r1 r2 r3 pc ls st μ = mo_nul r1 (pc + 3) ls st μ) ∧
  (∀ (f : Int) (r1 r2 r3 pc : Nat) (ls : mo_LV) (st : List Value) (μ : mo_Mem), mo_step (.ifnonnull f) r1 r2 r3 pc ls st μ = mo_nul (pc + 3) r1 ls st μ) ∧
  (∀ (f : Int) (r1 r2 r3 pc : Nat) (ls : mo_LV) (st : List Value) (μ : mo_Mem), mo_step (.goto f) r1 r2 r3 pc ls st μ = mo_j (r1, ls, st, μ)) ∧
  (∀ (d lo hi : Int) (os : Array Int) (r1 r2 r3 pc : Nat) (ls : mo_LV) (st : List Value) (μ : mo_Mem), mo_step (.tableswitch d lo hi os) r1 r2 r3 pc ls st μ = mo_sw pc d lo hi os ls st μ) ∧
  (∀ (k : Nat) (r1 r2 pc : Nat) (ls : mo_LV) (a : Nat) (st : List Value) (μ : mo_Mem), mo_step (.getfield k) r1 r2 0 pc ls (.ref a :: st) μ = mo_jp (mo_C μ a = r1) (pc + 3, ls, .int (mo_I μ r2 a) :: st, μ)) ∧
  (∀ (k : Nat) (r1 r2 pc : Nat) (ls : mo_LV) (a : Nat) (st : List Value) (μ : mo_Mem), mo_step (.getfield k) r1 r2 3 pc ls (.ref a :: st) μ = mo_jp (mo_C μ a = r1) (pc + 3, ls, .int (mo_I μ r2 a) :: st, μ)) ∧
  (∀ (k : Nat) (r1 r2 pc : Nat) (ls : mo_LV) (a : Nat) (st : List Value) (μ : mo_Mem), mo_step (.getfield k) r1 r2 1 pc ls (.ref a :: st) μ = mo_jp (mo_C μ a = r1) (pc + 3, ls, .long (mo_L μ r2 a) :: st, μ)) ∧
  (∀ (k : Nat) (r1 r2 pc : Nat) (ls : mo_LV) (a : Nat) (st : List Value) (μ : mo_Mem), mo_step (.getfield k) r1 r2 2 pc ls (.ref a :: st) μ = mo_jp (mo_C μ a = r1) (pc + 3, ls, va_rf (mo_R μ r2 a) :: st, μ)) ∧
  (∀ (k : Nat) (r1 r2 pc : Nat) (ls : mo_LV) (st : List Value) (μ : mo_Mem), mo_step (.putfield k) r1 r2 0 pc ls st μ = mo_putI r1 r2 (pc + 3) ls st μ) ∧
  (∀ (k : Nat) (r1 r2 pc : Nat) (ls : mo_LV) (st : List Value) (μ : mo_Mem), mo_step (.putfield k) r1 r2 1 pc ls st μ = mo_putL r1 r2 (pc + 3) ls st μ) ∧
  (∀ (k : Nat) (r1 r2 pc : Nat) (ls : mo_LV) (st : List Value) (μ : mo_Mem), mo_step (.putfield k) r1 r2 2 pc ls st μ = mo_putR r1 r2 (pc + 3) ls st μ) ∧
  (∀ (k : Nat) (r1 r2 pc : Nat) (ls : mo_LV) (st : List Value) (μ : mo_Mem), mo_step (.putfield k) r1 r2 3 pc ls st μ = mo_putZ r1 r2 (pc + 3) ls st μ) ∧
  (∀ (k : Nat) (r1 r2 r3 pc : Nat) (ls : mo_LV) (st : List Value) (μ : mo_Mem), mo_step (.new k) r1 r2 r3 pc ls st μ = mo_j (pc + 3, ls, .ref (mo_X μ) :: st, mo_new μ r1 0 r2)) ∧
  (∀ (k : ArrayType) (r1 r2 r3 pc : Nat) (ls : mo_LV) (st : List Value) (μ : mo_Mem), mo_step (.newarray k) r1 r2 r3 pc ls st μ = mo_newa r1 (pc + 2) ls st μ) ∧
  (∀ (k : Nat) (r1 r2 r3 pc : Nat) (ls : mo_LV) (st : List Value) (μ : mo_Mem), mo_step (.anewarray k) r1 r2 r3 pc ls st μ = mo_newa r1 (pc + 3) ls st μ) ∧
  (∀ (k : Nat) (r1 r2 r3 pc : Nat) (ls : mo_LV) (st : List Value) (μ : mo_Mem), mo_step (.invokestatic k) r1 r2 r3 pc ls st μ = mo_invS r1 r2 (pc + 3) ls st μ) ∧
  (∀ (k : Nat) (r2 r3 pc : Nat) (ls : mo_LV) (st : List Value) (μ : mo_Mem), mo_step (.invokespecial k) 999 r2 r3 pc ls st μ = mo_invO (pc + 3) ls st μ) ∧
  (∀ (k : Nat) (r3 pc : Nat) (ls : mo_LV) (a : Nat) (st : List Value) (μ : mo_Mem), mo_step (.invokespecial k) 10 0 r3 pc ls (.ref a :: st) μ = mo_cll (mo_cat st ≤ 8) (10, .ref a :: [], μ, pc + 3, ls, st)) ∧
  (∀ (k : Nat) (r3 pc : Nat) (ls : mo_LV) (a : Nat) (st : List Value) (μ : mo_Mem), mo_step (.invokespecial k) 11 0 r3 pc ls (.ref a :: st) μ = mo_cll (mo_cat st ≤ 8) (11, .ref a :: [], μ, pc + 3, ls, st)) ∧
  (∀ (k : Nat) (r3 pc : Nat) (ls : mo_LV) (a : Nat) (st : List Value) (μ : mo_Mem), mo_step (.invokespecial k) 14 0 r3 pc ls (.ref a :: st) μ = mo_cll (mo_cat st ≤ 8) (14, .ref a :: [], μ, pc + 3, ls, st)) ∧
  (∀ (k : Nat) (r3 pc : Nat) (ls : mo_LV) (a : Nat) (st : List Value) (μ : mo_Mem), mo_step (.invokespecial k) 36 0 r3 pc ls (.ref a :: st) μ = mo_cll (mo_cat st ≤ 8) (36, .ref a :: [], μ, pc + 3, ls, st)) ∧
  (∀ (k : Nat) (r3 pc : Nat) (ls : mo_LV) (a : Nat) (st : List Value) (μ : mo_Mem), mo_step (.invokespecial k) 39 0 r3 pc ls (.ref a :: st) μ = mo_cll (mo_cat st ≤ 8) (39, .ref a :: [], μ, pc + 3, ls, st)) ∧
  (∀ (k : Nat) (r3 pc : Nat) (ls : mo_LV) (a : Nat) (st : List Value) (μ : mo_Mem), mo_step (.invokespecial k) 47 0 r3 pc ls (.ref a :: st) μ = mo_cll (mo_cat st ≤ 8) (47, .ref a :: [], μ, pc + 3, ls, st)) ∧
  (∀ (k : Nat) (r3 pc : Nat) (ls : mo_LV) (a : Nat) (st : List Value) (μ : mo_Mem), mo_step (.invokespecial k) 64 0 r3 pc ls (.ref a :: st) μ = mo_cll (mo_cat st ≤ 8) (64, .ref a :: [], μ, pc + 3, ls, st)) ∧
  (∀ (k : Nat) (r3 pc : Nat) (ls : mo_LV) (a : Nat) (st : List Value) (μ : mo_Mem), mo_step (.invokespecial k) 84 0 r3 pc ls (.ref a :: st) μ = mo_cll (mo_cat st ≤ 8) (84, .ref a :: [], μ, pc + 3, ls, st)) ∧
  (∀ (k : Nat) (r3 pc : Nat) (ls : mo_LV) (x0 x1 : Value) (a : Nat) (st : List Value) (μ : mo_Mem), mo_step (.invokespecial k) 3 2 r3 pc ls (x0 :: x1 :: .ref a :: st) μ = mo_cll (mo_cat st ≤ 8) (3, .ref a :: [x1, x0], μ, pc + 3, ls, st)) ∧
  (∀ (k : Nat) (r3 pc : Nat) (ls : mo_LV) (x0 x1 : Value) (a : Nat) (st : List Value) (μ : mo_Mem), mo_step (.invokespecial k) 52 2 r3 pc ls (x0 :: x1 :: .ref a :: st) μ = mo_cll (mo_cat st ≤ 8) (52, .ref a :: [x1, x0], μ, pc + 3, ls, st)) ∧
  (∀ (k : Nat) (r3 pc : Nat) (ls : mo_LV) (x0 x1 x2 : Value) (a : Nat) (st : List Value) (μ : mo_Mem), mo_step (.invokespecial k) 0 3 r3 pc ls (x0 :: x1 :: x2 :: .ref a :: st) μ = mo_cll (mo_cat st ≤ 8) (0, .ref a :: [x2, x1, x0], μ, pc + 3, ls, st)) ∧
  (∀ (k : Nat) (r3 pc : Nat) (ls : mo_LV) (x0 x1 x2 x3 : Value) (a : Nat) (st : List Value) (μ : mo_Mem), mo_step (.invokespecial k) 5 4 r3 pc ls (x0 :: x1 :: x2 :: x3 :: .ref a :: st) μ = mo_cll (mo_cat st ≤ 8) (5, .ref a :: [x3, x2, x1, x0], μ, pc + 3, ls, st)) ∧
  (∀ (k : Nat) (r3 pc : Nat) (ls : mo_LV) (x0 x1 x2 x3 : Value) (a : Nat) (st : List Value) (μ : mo_Mem), mo_step (.invokespecial k) 59 4 r3 pc ls (x0 :: x1 :: x2 :: x3 :: .ref a :: st) μ = mo_cll (mo_cat st ≤ 8) (59, .ref a :: [x3, x2, x1, x0], μ, pc + 3, ls, st)) ∧
  (∀ (k : Nat) (r1 r3 pc : Nat) (ls : mo_LV) (a : Nat) (st : List Value) (μ : mo_Mem), mo_step (.invokevirtual k) r1 0 r3 pc ls (.ref a :: st) μ = mo_cll (mo_C μ a = r3 ∧ mo_cat st ≤ 8) (r1, .ref a :: [], μ, pc + 3, ls, st)) ∧
  (∀ (k : Nat) (r1 r3 pc : Nat) (ls : mo_LV) (x0 : Value) (a : Nat) (st : List Value) (μ : mo_Mem), mo_step (.invokevirtual k) r1 1 r3 pc ls (x0 :: .ref a :: st) μ = mo_cll (mo_C μ a = r3 ∧ mo_cat st ≤ 8) (r1, .ref a :: [x0], μ, pc + 3, ls, st)) ∧
  (∀ (k : Nat) (r1 r3 pc : Nat) (ls : mo_LV) (x0 x1 : Value) (a : Nat) (st : List Value) (μ : mo_Mem), mo_step (.invokevirtual k) r1 2 r3 pc ls (x0 :: x1 :: .ref a :: st) μ = mo_cll (mo_C μ a = r3 ∧ mo_cat st ≤ 8) (r1, .ref a :: [x1, x0], μ, pc + 3, ls, st)) ∧
  (∀ (k : Nat) (r1 r3 pc : Nat) (ls : mo_LV) (x0 x1 x2 : Value) (a : Nat) (st : List Value) (μ : mo_Mem), mo_step (.invokevirtual k) r1 3 r3 pc ls (x0 :: x1 :: x2 :: .ref a :: st) μ = mo_cll (mo_C μ a = r3 ∧ mo_cat st ≤ 8) (r1, .ref a :: [x2, x1, x0], μ, pc + 3, ls, st)) ∧
  (∀ (k : Nat) (r1 r3 pc : Nat) (ls : mo_LV) (x0 x1 x2 x3 : Value) (a : Nat) (st : List Value) (μ : mo_Mem), mo_step (.invokevirtual k) r1 4 r3 pc ls (x0 :: x1 :: x2 :: x3 :: .ref a :: st) μ = mo_cll (mo_C μ a = r3 ∧ mo_cat st ≤ 8) (r1, .ref a :: [x3, x2, x1, x0], μ, pc + 3, ls, st)) ∧
  (∀ (k : Nat) (r1 r3 pc : Nat) (ls : mo_LV) (x0 x1 x2 x3 x4 : Value) (a : Nat) (st : List Value) (μ : mo_Mem), mo_step (.invokevirtual k) r1 5 r3 pc ls (x0 :: x1 :: x2 :: x3 :: x4 :: .ref a :: st) μ = mo_cll (mo_C μ a = r3 ∧ mo_cat st ≤ 8) (r1, .ref a :: [x4, x3, x2, x1, x0], μ, pc + 3, ls, st)) ∧
  (∀ (k : Nat) (r1 r3 pc : Nat) (ls : mo_LV) (x0 x1 x2 x3 x4 x5 : Value) (a : Nat) (st : List Value) (μ : mo_Mem), mo_step (.invokevirtual k) r1 6 r3 pc ls (x0 :: x1 :: x2 :: x3 :: x4 :: x5 :: .ref a :: st) μ = mo_cll (mo_C μ a = r3 ∧ mo_cat st ≤ 8) (r1, .ref a :: [x5, x4, x3, x2, x1, x0], μ, pc + 3, ls, st)) ∧
  (∀ (x0 : Option Value) (l : mo_LV), (x0 ::  l : mo_LV)[0]? = some x0) ∧
  (∀ (x0 v : Option Value) (l : mo_LV), (x0 ::  l : mo_LV).set 0 v = v :: l) ∧
  (∀ (x0 x1 : Option Value) (l : mo_LV), (x0 :: x1 ::  l : mo_LV)[1]? = some x1) ∧
  (∀ (x0 x1 v : Option Value) (l : mo_LV), (x0 :: x1 ::  l : mo_LV).set 1 v = x0 :: v :: l) ∧
  (∀ (x0 x1 x2 : Option Value) (l : mo_LV), (x0 :: x1 :: x2 ::  l : mo_LV)[2]? = some x2) ∧
  (∀ (x0 x1 x2 v : Option Value) (l : mo_LV), (x0 :: x1 :: x2 ::  l : mo_LV).set 2 v = x0 :: x1 :: v :: l) ∧
  (∀ (x0 x1 x2 x3 : Option Value) (l : mo_LV), (x0 :: x1 :: x2 :: x3 ::  l : mo_LV)[3]? = some x3) ∧
  (∀ (x0 x1 x2 x3 v : Option Value) (l : mo_LV), (x0 :: x1 :: x2 :: x3 ::  l : mo_LV).set 3 v = x0 :: x1 :: x2 :: v :: l) ∧
  (∀ (x0 x1 x2 x3 x4 : Option Value) (l : mo_LV), (x0 :: x1 :: x2 :: x3 :: x4 ::  l : mo_LV)[4]? = some x4) ∧
  (∀ (x0 x1 x2 x3 x4 v : Option Value) (l : mo_LV), (x0 :: x1 :: x2 :: x3 :: x4 ::  l : mo_LV).set 4 v = x0 :: x1 :: x2 :: x3 :: v :: l) ∧
  (∀ (x0 x1 x2 x3 x4 x5 : Option Value) (l : mo_LV), (x0 :: x1 :: x2 :: x3 :: x4 :: x5 ::  l : mo_LV)[5]? = some x5) ∧
  (∀ (x0 x1 x2 x3 x4 x5 v : Option Value) (l : mo_LV), (x0 :: x1 :: x2 :: x3 :: x4 :: x5 ::  l : mo_LV).set 5 v = x0 :: x1 :: x2 :: x3 :: x4 :: v :: l) ∧
  (∀ (x0 x1 x2 x3 x4 x5 x6 : Option Value) (l : mo_LV), (x0 :: x1 :: x2 :: x3 :: x4 :: x5 :: x6 ::  l : mo_LV)[6]? = some x6) ∧
  (∀ (x0 x1 x2 x3 x4 x5 x6 v : Option Value) (l : mo_LV), (x0 :: x1 :: x2 :: x3 :: x4 :: x5 :: x6 ::  l : mo_LV).set 6 v = x0 :: x1 :: x2 :: x3 :: x4 :: x5 :: v :: l) ∧
  (∀ (x0 x1 x2 x3 x4 x5 x6 x7 : Option Value) (l : mo_LV), (x0 :: x1 :: x2 :: x3 :: x4 :: x5 :: x6 :: x7 ::  l : mo_LV)[7]? = some x7) ∧
  (∀ (x0 x1 x2 x3 x4 x5 x6 x7 v : Option Value) (l : mo_LV), (x0 :: x1 :: x2 :: x3 :: x4 :: x5 :: x6 :: x7 ::  l : mo_LV).set 7 v = x0 :: x1 :: x2 :: x3 :: x4 :: x5 :: x6 :: v :: l) ∧
  (∀ (x0 x1 x2 x3 x4 x5 x6 x7 x8 : Option Value) (l : mo_LV), (x0 :: x1 :: x2 :: x3 :: x4 :: x5 :: x6 :: x7 :: x8 ::  l : mo_LV)[8]? = some x8) ∧
  (∀ (x0 x1 x2 x3 x4 x5 x6 x7 x8 v : Option Value) (l : mo_LV), (x0 :: x1 :: x2 :: x3 :: x4 :: x5 :: x6 :: x7 :: x8 ::  l : mo_LV).set 8 v = x0 :: x1 :: x2 :: x3 :: x4 :: x5 :: x6 :: x7 :: v :: l) ∧
  (∀ (x0 x1 x2 x3 x4 x5 x6 x7 x8 x9 : Option Value) (l : mo_LV), (x0 :: x1 :: x2 :: x3 :: x4 :: x5 :: x6 :: x7 :: x8 :: x9 ::  l : mo_LV)[9]? = some x9) ∧
  (∀ (x0 x1 x2 x3 x4 x5 x6 x7 x8 x9 v : Option Value) (l : mo_LV), (x0 :: x1 :: x2 :: x3 :: x4 :: x5 :: x6 :: x7 :: x8 :: x9 ::  l : mo_LV).set 9 v = x0 :: x1 :: x2 :: x3 :: x4 :: x5 :: x6 :: x7 :: x8 :: v :: l) ∧
  (∀ (x0 x1 x2 x3 x4 x5 x6 x7 x8 x9 x10 : Option Value) (l : mo_LV), (x0 :: x1 :: x2 :: x3 :: x4 :: x5 :: x6 :: x7 :: x8 :: x9 :: x10 ::  l : mo_LV)[10]? = some x10) ∧
  (∀ (x0 x1 x2 x3 x4 x5 x6 x7 x8 x9 x10 v : Option Value) (l : mo_LV), (x0 :: x1 :: x2 :: x3 :: x4 :: x5 :: x6 :: x7 :: x8 :: x9 :: x10 ::  l : mo_LV).set 10 v = x0 :: x1 :: x2 :: x3 :: x4 :: x5 :: x6 :: x7 :: x8 :: x9 :: v :: l) ∧
  (∀ (x0 x1 x2 x3 x4 x5 x6 x7 x8 x9 x10 x11 : Option Value) (l : mo_LV), (x0 :: x1 :: x2 :: x3 :: x4 :: x5 :: x6 :: x7 :: x8 :: x9 :: x10 :: x11 ::  l : mo_LV)[11]? = some x11) ∧
  (∀ (x0 x1 x2 x3 x4 x5 x6 x7 x8 x9 x10 x11 v : Option Value) (l : mo_LV), (x0 :: x1 :: x2 :: x3 :: x4 :: x5 :: x6 :: x7 :: x8 :: x9 :: x10 :: x11 ::  l : mo_LV).set 11 v = x0 :: x1 :: x2 :: x3 :: x4 :: x5 :: x6 :: x7 :: x8 :: x9 :: x10 :: v :: l) ∧
  (∀ (x0 x1 x2 x3 x4 x5 x6 x7 x8 x9 x10 x11 x12 : Option Value) (l : mo_LV), (x0 :: x1 :: x2 :: x3 :: x4 :: x5 :: x6 :: x7 :: x8 :: x9 :: x10 :: x11 :: x12 ::  l : mo_LV)[12]? = some x12) ∧
  (∀ (x0 x1 x2 x3 x4 x5 x6 x7 x8 x9 x10 x11 x12 v : Option Value) (l : mo_LV), (x0 :: x1 :: x2 :: x3 :: x4 :: x5 :: x6 :: x7 :: x8 :: x9 :: x10 :: x11 :: x12 ::  l : mo_LV).set 12 v = x0 :: x1 :: x2 :: x3 :: x4 :: x5 :: x6 :: x7 :: x8 :: x9 :: x10 :: x11 :: v :: l) ∧
  (∀ (cal : mo_Cal) (ret : mo_P) (X : mo_St → Prop) (s : mo_St), mo_den cal ret X (mo_j s) = X s) ∧
  (∀ (cal : mo_Cal) (ret : mo_P) (X : mo_St → Prop) (p : Prop) (s : mo_St), mo_den cal ret X (mo_jp p s) = (p ∧ X s)) ∧
  (∀ (cal : mo_Cal) (ret : mo_P) (X : mo_St → Prop) (c : Prop) (s t : mo_St), mo_den cal ret X (mo_br c s t) = ((c → X s) ∧ (¬ c → X t))) ∧
  (∀ (cal : mo_Cal) (ret : mo_P) (X : mo_St → Prop) (p c : Prop) (s t : mo_St), mo_den cal ret X (mo_brp p c s t) = (p ∧ (c → X s) ∧ (¬ c → X t))) ∧
  (∀ (cal : mo_Cal) (ret : mo_P) (X : mo_St → Prop) (p : Prop) (v : Option Value) (μ : mo_Mem), mo_den cal ret X (mo_rt1 p v μ) = (p ∧ ret v μ)) ∧
  (∀ (cal : mo_Cal) (ret : mo_P) (X : mo_St → Prop) (p : Prop) (mj : Nat) (vs : List Value) (μ : mo_Mem) (pc : Nat) (ls : mo_LV) (rest : List Value), mo_den cal ret X (mo_cll p (mj, vs, μ, pc, ls, rest)) = (p ∧ cal mj vs μ (fun v μ' => X (pc, ls, v.toList ++ rest, μ')))) ∧
  (∀ (cal : mo_Cal) (ret : mo_P) (X : mo_St → Prop) (μ : mo_Mem), mo_den cal ret X (mo_bad μ) = False) ∧
  (∀ (cal : mo_Cal) (ret : mo_P) (K : mo_St → Prop) (cut : List Nat) (mi : Nat) (s : mo_St), mo_go cal ret K cut mi 0 s = K s) ∧
  (∀ (a : Nat), va_rf (some a) = .ref a) ∧
  (va_rf none = .null) ∧
  (∀ (a : Nat), mo_isR (.ref a) = True) ∧
  (mo_isR .null = True) ∧
  (∀ (r : Option Nat), mo_isR (va_rf r) = True) ∧
  (∀ (a : Nat), mo_rv (.ref a) = some a) ∧
  (mo_rv .null = none) ∧
  (∀ (r : Option Nat), mo_rv (va_rf r) = r) ∧
  (∀ (x : Int32), (Value.int x).category = 1) ∧
  (∀ (x : Int64), (Value.long x).category = 2) ∧
  (∀ (x : Nat), (Value.ref x).category = 1) ∧
  ((Value.null).category = 1) ∧
  (∀ (r : Option Nat), (va_rf r).category = 1) ∧
  (mo_cat [] = 0) ∧
  (∀ (v : Value) (l : List Value), mo_cat (v :: l) = v.category + mo_cat l) ∧
  (∀ (ls : mo_LV), mo_lg ls 0 = false) ∧
  (∀ (ls : mo_LV) (j : Nat), mo_lg ls (j + 1) = (match ls[j]? with | some (some v) => v.category == 2 | _ => false)) :=
  ⟨mo_e_iconst_m1, mo_e_iconst_0, mo_e_iconst_1, mo_e_iconst_2, mo_e_iconst_3, mo_e_iconst_4, mo_e_iconst_5, mo_e_bipush_m10, mo_e_bipush_m5, mo_e_bipush_m4, mo_e_bipush_m3, mo_e_bipush_m2, mo_e_bipush_6, mo_e_bipush_7, mo_e_bipush_8, mo_e_bipush_9, mo_e_bipush_10, mo_e_bipush_12, mo_e_bipush_24, mo_e_bipush_31, mo_e_bipush_32, mo_e_bipush_40, mo_e_bipush_60, mo_e_bipush_100, mo_e_sipush_200, mo_e_sipush_300, mo_e_sipush_320, mo_e_sipush_400, mo_e_sipush_1200, mo_e_sipush_2400, mo_e_sipush_3200, mo_e_lconst_0, mo_e_ldc2_2, mo_e_ldc2_3, mo_e_ldc2_4, mo_e_ldc2_4294967295, mo_e_null, mo_e_iload_n0, mo_e_iload_n1, mo_e_iload_n2, mo_e_iload_n3, mo_e_iload, mo_e_lload_n0, mo_e_lload_n1, mo_e_lload_n2, mo_e_lload_n3, mo_e_lload, mo_e_aload_n0, mo_e_aload_n1, mo_e_aload_n2, mo_e_aload_n3, mo_e_aload, mo_e_istore_n0, mo_e_istore_n1, mo_e_istore_n2, mo_e_istore_n3, mo_e_istore, mo_e_lstore_n0, mo_e_lstore_n1, mo_e_lstore_n2, mo_e_lstore_n3, mo_e_lstore, mo_e_astore_n0, mo_e_astore_n1, mo_e_astore_n2, mo_e_astore_n3, mo_e_astore, mo_e_iinc, mo_e_iadd, mo_e_isub, mo_e_imul, mo_e_iand, mo_e_idiv, mo_e_irem, mo_e_ladd, mo_e_lsub, mo_e_land, mo_e_lor, mo_e_ldiv, mo_e_lshl, mo_e_lcmp, mo_e_i2l, mo_e_l2i, mo_e_dup, mo_e_dup2, mo_e_pop, mo_e_iaload, mo_e_laload, mo_e_baload, mo_e_aaload, mo_e_iastore, mo_e_lastore, mo_e_bastore, mo_e_aastore, mo_e_arraylength, mo_e_ireturn, mo_e_lreturn, mo_e_areturn, mo_e_return_, mo_e_ifCond, mo_e_icmp, mo_e_acmpne, mo_e_ifnull, mo_e_ifnonnull, mo_e_goto, mo_e_sw, mo_e_get0, mo_e_get3, mo_e_get1, mo_e_get2, mo_e_put0, mo_e_put1, mo_e_put2, mo_e_put3, mo_e_new, mo_e_newarray, mo_e_anewarray, mo_e_invS, mo_e_invO, mo_e_is10, mo_e_is11, mo_e_is14, mo_e_is36, mo_e_is39, mo_e_is47, mo_e_is64, mo_e_is84, mo_e_is3, mo_e_is52, mo_e_is0, mo_e_is5, mo_e_is59, mo_e_iv0, mo_e_iv1, mo_e_iv2, mo_e_iv3, mo_e_iv4, mo_e_iv5, mo_e_iv6, mo_g0, mo_h0, mo_g1, mo_h1, mo_g2, mo_h2, mo_g3, mo_h3, mo_g4, mo_h4, mo_g5, mo_h5, mo_g6, mo_h6, mo_g7, mo_h7, mo_g8, mo_h8, mo_g9, mo_h9, mo_g10, mo_h10, mo_g11, mo_h11, mo_g12, mo_h12, mo_den_j, mo_den_jp, mo_den_br, mo_den_brp, mo_den_rt, mo_den_cl, mo_den_bad, mo_go_0, mo_rf_s, mo_rf_n, mo_isR_r, mo_isR_n, mo_isR_f, mo_rv_r, mo_rv_n, mo_rv_f, mo_ct_i, mo_ct_l, mo_ct_r, mo_ct_n, mo_ct_f, mo_cat_0, mo_cat_c, mo_lg_0, mo_lg_s⟩
set_option maxRecDepth 100000 in
set_option maxHeartbeats 4000000 in
theorem mo_EX : (∀ (np i : Nat) (ls : mo_LV) (st : List Value) (μ : mo_Mem), mo_ldI np i ls st μ = (match ls[i]? with | some (some (.int x)) => mo_j (np, ls, .int x :: st, μ) | _ => mo_bad μ)) ∧
  (∀ (np i : Nat) (ls : mo_LV) (st : List Value) (μ : mo_Mem), mo_ldL np i ls st μ = (match ls[i]? with | some (some (.long x)) => mo_j (np, ls, .long x :: st, μ) | _ => mo_bad μ)) ∧
  (∀ (np i : Nat) (ls : mo_LV) (st : List Value) (μ : mo_Mem), mo_ldA np i ls st μ = (match ls[i]? with | some (some v) => mo_jp (mo_isR v) (np, ls, v :: st, μ) | _ => mo_bad μ)) ∧
  (∀ (np i : Nat) (n : Int) (ls : mo_LV) (st : List Value) (μ : mo_Mem), mo_inc np i n ls st μ = (match ls[i]? with | some (some (.int x)) => mo_j (np, mo_st ls i (.int (x + Int32.ofInt n)), st, μ) | _ => mo_bad μ)) ∧
  (∀ (np i : Nat) (ls : mo_LV) (x : Int32) (st : List Value) (μ : mo_Mem), mo_sI np i ls (.int x :: st) μ = mo_jp (i < ls.length) (np, mo_st ls i (.int x), st, μ)) ∧
  (∀ (np i : Nat) (ls : mo_LV) (x : Int64) (st : List Value) (μ : mo_Mem), mo_sL np i ls (.long x :: st) μ = mo_jp (i + 1 < ls.length) (np, mo_st2 ls i (.long x), st, μ)) ∧
  (∀ (np i : Nat) (ls : mo_LV) (v : Value) (st : List Value) (μ : mo_Mem), mo_sA np i ls (v :: st) μ = mo_jp (mo_isR v ∧ i < ls.length) (np, mo_st ls i v, st, μ)) ∧
  (∀ (f : Int32 → Int32 → Int32) (np : Nat) (ls : mo_LV) (x y : Int32) (st : List Value) (μ : mo_Mem), mo_ii f np ls (.int y :: .int x :: st) μ = mo_j (np, ls, .int (f x y) :: st, μ)) ∧
  (∀ (f : Int32 → Int32 → Int32) (np : Nat) (ls : mo_LV) (x y : Int32) (st : List Value) (μ : mo_Mem), mo_id f np ls (.int y :: .int x :: st) μ = mo_jp (¬ y = 0) (np, ls, .int (f x y) :: st, μ)) ∧
  (∀ (f : Int64 → Int64 → Int64) (np : Nat) (ls : mo_LV) (x y : Int64) (st : List Value) (μ : mo_Mem), mo_ll f np ls (.long y :: .long x :: st) μ = mo_j (np, ls, .long (f x y) :: st, μ)) ∧
  (∀ (f : Int64 → Int64 → Int64) (np : Nat) (ls : mo_LV) (x y : Int64) (st : List Value) (μ : mo_Mem), mo_ld f np ls (.long y :: .long x :: st) μ = mo_jp (¬ y = 0) (np, ls, .long (f x y) :: st, μ)) ∧
  (∀ (np : Nat) (ls : mo_LV) (x : Int64) (y : Int32) (st : List Value) (μ : mo_Mem), mo_shl np ls (.int y :: .long x :: st) μ = mo_j (np, ls, .long (x <<< (y.toInt64 &&& 63)) :: st, μ)) ∧
  (∀ (np : Nat) (ls : mo_LV) (x y : Int64) (st : List Value) (μ : mo_Mem), mo_cmp np ls (.long y :: .long x :: st) μ = mo_j (np, ls, .int (lg_cmp x y) :: st, μ)) ∧
  (∀ (np : Nat) (ls : mo_LV) (x : Int32) (st : List Value) (μ : mo_Mem), mo_i2l np ls (.int x :: st) μ = mo_j (np, ls, .long x.toInt64 :: st, μ)) ∧
  (∀ (np : Nat) (ls : mo_LV) (x : Int64) (st : List Value) (μ : mo_Mem), mo_l2i np ls (.long x :: st) μ = mo_j (np, ls, .int x.toInt32 :: st, μ)) ∧
  (∀ (np : Nat) (ls : mo_LV) (v : Value) (st : List Value) (μ : mo_Mem), mo_dup np ls (v :: st) μ = mo_jp (v.category = 1) (np, ls, v :: v :: st, μ)) ∧
  (∀ (np : Nat) (ls : mo_LV) (v w : Value) (st : List Value) (μ : mo_Mem), mo_dup2 np ls (v :: w :: st) μ = mo_jp (v.category = 1 ∧ w.category = 1) (np, ls, v :: w :: v :: w :: st, μ)) ∧
  (∀ (np : Nat) (ls : mo_LV) (v : Value) (st : List Value) (μ : mo_Mem), mo_pop np ls (v :: st) μ = mo_jp (v.category = 1) (np, ls, st, μ)) ∧
  (∀ (c : Jvm.ClassFile.Cond) (tgt np : Nat) (ls : mo_LV) (x : Int32) (st : List Value) (μ : mo_Mem), mo_if c tgt np ls (.int x :: st) μ = mo_br (mo_cP c x 0) (tgt, ls, st, μ) (np, ls, st, μ)) ∧
  (∀ (c : Jvm.ClassFile.Cond) (tgt np : Nat) (ls : mo_LV) (x y : Int32) (st : List Value) (μ : mo_Mem), mo_icmp c tgt np ls (.int y :: .int x :: st) μ = mo_br (mo_cP c x y) (tgt, ls, st, μ) (np, ls, st, μ)) ∧
  (∀ (tgt np : Nat) (ls : mo_LV) (v w : Value) (st : List Value) (μ : mo_Mem), mo_acmpne tgt np ls (v :: w :: st) μ = mo_brp (mo_isR v ∧ mo_isR w) (¬ mo_rv w = mo_rv v) (tgt, ls, st, μ) (np, ls, st, μ)) ∧
  (∀ (tn tr : Nat) (ls : mo_LV) (v : Value) (st : List Value) (μ : mo_Mem), mo_nul tn tr ls (v :: st) μ = mo_brp (mo_isR v) (mo_rv v = none) (tn, ls, st, μ) (tr, ls, st, μ)) ∧
  (∀ (tag key np : Nat) (ls : mo_LV) (x : Int32) (a : Nat) (st : List Value) (μ : mo_Mem), mo_putI tag key np ls (.int x :: .ref a :: st) μ = mo_jp (mo_C μ a = tag) (np, ls, st, mo_wI μ key a x)) ∧
  (∀ (tag key np : Nat) (ls : mo_LV) (x : Int32) (a : Nat) (st : List Value) (μ : mo_Mem), mo_putZ tag key np ls (.int x :: .ref a :: st) μ = mo_jp (mo_C μ a = tag ∧ (x = 0 ∨ x = 1)) (np, ls, st, mo_wI μ key a x)) ∧
  (∀ (tag key np : Nat) (ls : mo_LV) (x : Int64) (a : Nat) (st : List Value) (μ : mo_Mem), mo_putL tag key np ls (.long x :: .ref a :: st) μ = mo_jp (mo_C μ a = tag) (np, ls, st, mo_wL μ key a x)) ∧
  (∀ (tag key np : Nat) (ls : mo_LV) (v : Value) (a : Nat) (st : List Value) (μ : mo_Mem), mo_putR tag key np ls (v :: .ref a :: st) μ = mo_jp (mo_C μ a = tag ∧ mo_isR v) (np, ls, st, mo_wR μ key a (mo_rv v))) ∧
  (∀ (tag np : Nat) (ls : mo_LV) (i : Int32) (a : Nat) (st : List Value) (μ : mo_Mem), mo_iald tag np ls (.int i :: .ref a :: st) μ = mo_jp (mo_C μ a = tag ∧ vp_in i (mo_N μ a)) (np, ls, .int (mo_AI μ a i.toNatClampNeg) :: st, μ)) ∧
  (∀ (np : Nat) (ls : mo_LV) (i : Int32) (a : Nat) (st : List Value) (μ : mo_Mem), mo_lald np ls (.int i :: .ref a :: st) μ = mo_jp (mo_C μ a = 21 ∧ vp_in i (mo_N μ a)) (np, ls, .long (mo_AL μ a i.toNatClampNeg) :: st, μ)) ∧
  (∀ (np : Nat) (ls : mo_LV) (i : Int32) (a : Nat) (st : List Value) (μ : mo_Mem), mo_aald np ls (.int i :: .ref a :: st) μ = mo_jp (30 ≤ mo_C μ a ∧ vp_in i (mo_N μ a)) (np, ls, va_rf (mo_AR μ a i.toNatClampNeg) :: st, μ)) ∧
  (∀ (np : Nat) (ls : mo_LV) (x i : Int32) (a : Nat) (st : List Value) (μ : mo_Mem), mo_iast np ls (.int x :: .int i :: .ref a :: st) μ = mo_jp (mo_C μ a = 20 ∧ vp_in i (mo_N μ a)) (np, ls, st, mo_wAI μ a i.toNatClampNeg x)) ∧
  (∀ (np : Nat) (ls : mo_LV) (x i : Int32) (a : Nat) (st : List Value) (μ : mo_Mem), mo_zast np ls (.int x :: .int i :: .ref a :: st) μ = mo_jp (mo_C μ a = 22 ∧ vp_in i (mo_N μ a) ∧ (x = 0 ∨ x = 1)) (np, ls, st, mo_wAI μ a i.toNatClampNeg x)) ∧
  (∀ (np : Nat) (ls : mo_LV) (x : Int64) (i : Int32) (a : Nat) (st : List Value) (μ : mo_Mem), mo_last np ls (.long x :: .int i :: .ref a :: st) μ = mo_jp (mo_C μ a = 21 ∧ vp_in i (mo_N μ a)) (np, ls, st, mo_wAL μ a i.toNatClampNeg x)) ∧
  (∀ (np : Nat) (ls : mo_LV) (v : Value) (i : Int32) (a : Nat) (st : List Value) (μ : mo_Mem), mo_aast np ls (v :: .int i :: .ref a :: st) μ = mo_jp (30 ≤ mo_C μ a ∧ vp_in i (mo_N μ a) ∧ mo_isR v ∧ ∀ b, mo_rv v = some b → mo_C μ b + 29 = mo_C μ a) (np, ls, st, mo_wAR μ a i.toNatClampNeg (mo_rv v))) ∧
  (∀ (np : Nat) (ls : mo_LV) (a : Nat) (st : List Value) (μ : mo_Mem), mo_alen np ls (.ref a :: st) μ = mo_jp (19 ≤ mo_C μ a) (np, ls, .int (Int32.ofNat (mo_N μ a)) :: st, μ)) ∧
  (∀ (tag np : Nat) (ls : mo_LV) (n : Int32) (st : List Value) (μ : mo_Mem), mo_newa tag np ls (.int n :: st) μ = mo_jp (¬ n < 0 ∧ n.toNatClampNeg ≤ 5000) (np, ls, .ref (mo_X μ) :: st, mo_new μ tag n.toNatClampNeg n.toNatClampNeg)) ∧
  (∀ (mj np : Nat) (ls : mo_LV) (a : Value) (st : List Value) (μ : mo_Mem), mo_invS mj 1 np ls (a :: st) μ = mo_cll (mo_cat st ≤ 8) (mj, [a], μ, np, ls, st)) ∧
  (∀ (mj np : Nat) (ls : mo_LV) (a b : Value) (st : List Value) (μ : mo_Mem), mo_invS mj 2 np ls (b :: a :: st) μ = mo_cll (mo_cat st ≤ 8) (mj, [a, b], μ, np, ls, st)) ∧
  (∀ (mj np : Nat) (ls : mo_LV) (a b c : Value) (st : List Value) (μ : mo_Mem), mo_invS mj 3 np ls (c :: b :: a :: st) μ = mo_cll (mo_cat st ≤ 8) (mj, [a, b, c], μ, np, ls, st)) ∧
  (∀ (np : Nat) (ls : mo_LV) (a : Nat) (st : List Value) (μ : mo_Mem), mo_invO np ls (.ref a :: st) μ = mo_jp (mo_cat st ≤ 8) (np, ls, st, μ)) ∧
  (∀ (z : Nat) (x : Int32) (μ : mo_Mem), mo_iret z [.int x] μ = mo_rt1 (z = 1 → (x = 0 ∨ x = 1)) (some (.int x)) μ) ∧
  (∀ (x : Int64) (μ : mo_Mem), mo_lret [.long x] μ = mo_rt1 True (some (.long x)) μ) ∧
  (∀ (v : Value) (μ : mo_Mem), mo_aret [v] μ = mo_rt1 (mo_isR v) (some v) μ) ∧
  (∀ (μ : mo_Mem), mo_vret [] μ = mo_rt1 True none μ) ∧
  (∀ (pc : Nat) (d lo hi : Int) (os : Array Int) (ls : mo_LV) (x : Int32) (st : List Value) (μ : mo_Mem), mo_sw pc d lo hi os ls (.int x :: st) μ = mo_j (mo_tsw pc d lo hi os x, ls, st, μ)) ∧
  (∀ (x y : Int32), mo_cP .eq x y = (x = y)) ∧
  (∀ (x y : Int32), mo_cP .ne x y = (¬ x = y)) ∧
  (∀ (x y : Int32), mo_cP .lt x y = (x < y)) ∧
  (∀ (x y : Int32), mo_cP .ge x y = (y ≤ x)) ∧
  (∀ (x y : Int32), mo_cP .gt x y = (y < x)) ∧
  (∀ (x y : Int32), mo_cP .le x y = (x ≤ y)) ∧
  (∀ (ls : mo_LV) (i : Nat) (v : Value), mo_st ls i v = (if mo_lg ls i = true then ls.set (i - 1) none else ls).set i (some v)) ∧
  (∀ (ls : mo_LV) (i : Nat) (v : Value), mo_st2 ls i v = (mo_st ls i v).set (i + 1) none) ∧
  (∀ (v : Value) (l m : List Value), (v :: l) ++ m = v :: (l ++ m)) ∧
  (∀ (m : List Value), ([] : List Value) ++ m = m) ∧
  (∀ (v : Value), (some v : Option Value).toList = [v]) ∧
  ((none : Option Value).toList = []) ∧
  (∀ (v : Option Value) (l : mo_LV), (v :: l).length = l.length + 1) ∧
  (([] : mo_LV).length = 0) :=
  ⟨(by intros; rfl), (by intros; rfl), (by intros; rfl), (by intros; rfl), (by intros; rfl), (by intros; rfl), (by intros; rfl), (by intros; rfl), (by intros; rfl), (by intros; rfl), (by intros; rfl), (by intros; rfl), (by intros; rfl), (by intros; rfl), (by intros; rfl), (by intros; rfl), (by intros; rfl), (by intros; rfl), (by intros; rfl), (by intros; rfl), (by intros; rfl), (by intros; rfl), (by intros; rfl), (by intros; rfl), (by intros; rfl), (by intros; rfl), (by intros; rfl), (by intros; rfl), (by intros; rfl), (by intros; rfl), (by intros; rfl), (by intros; rfl), (by intros; rfl), (by intros; rfl), (by intros; rfl), (by intros; simp [mo_invS, mo_cll]), (by intros; simp [mo_invS, mo_cll]), (by intros; simp [mo_invS, mo_cll]), (by intros; rfl), (by intros; rfl), (by intros; rfl), (by intros; rfl), (by intros; rfl), (by intros; rfl), (by intros; rfl), (by intros; rfl), (by intros; rfl), (by intros; rfl), (by intros; rfl), (by intros; rfl), (by intros; rfl), (by intros; rfl), (by intros; rfl), (by intros; rfl), (by intros; rfl), (by intros; rfl), (by intros; rfl), (by intros; rfl)⟩
set_option maxRecDepth 100000 in
set_option maxHeartbeats 4000000 in
theorem mo_ME : (∀ (μ : mo_Mem) (k a : Nat) (x : Int32), mo_C (mo_wI μ k a x) = mo_C μ) ∧
  (∀ (μ : mo_Mem) (k a : Nat) (x : Int32), mo_N (mo_wI μ k a x) = mo_N μ) ∧
  (∀ (μ : mo_Mem) (k a : Nat) (x : Int32), mo_I (mo_wI μ k a x) = mo_u (mo_I μ) k a x) ∧
  (∀ (μ : mo_Mem) (k a : Nat) (x : Int32), mo_L (mo_wI μ k a x) = mo_L μ) ∧
  (∀ (μ : mo_Mem) (k a : Nat) (x : Int32), mo_R (mo_wI μ k a x) = mo_R μ) ∧
  (∀ (μ : mo_Mem) (k a : Nat) (x : Int32), mo_AI (mo_wI μ k a x) = mo_AI μ) ∧
  (∀ (μ : mo_Mem) (k a : Nat) (x : Int32), mo_AL (mo_wI μ k a x) = mo_AL μ) ∧
  (∀ (μ : mo_Mem) (k a : Nat) (x : Int32), mo_AR (mo_wI μ k a x) = mo_AR μ) ∧
  (∀ (μ : mo_Mem) (k a : Nat) (x : Int32), mo_X (mo_wI μ k a x) = mo_X μ) ∧
  (∀ (μ : mo_Mem) (k a : Nat) (x : Int32), mo_S (mo_wI μ k a x) = mo_S μ) ∧
  (∀ (μ : mo_Mem) (k a : Nat) (x : Int64), mo_C (mo_wL μ k a x) = mo_C μ) ∧
  (∀ (μ : mo_Mem) (k a : Nat) (x : Int64), mo_N (mo_wL μ k a x) = mo_N μ) ∧
  (∀ (μ : mo_Mem) (k a : Nat) (x : Int64), mo_I (mo_wL μ k a x) = mo_I μ) ∧
  (∀ (μ : mo_Mem) (k a : Nat) (x : Int64), mo_L (mo_wL μ k a x) = mo_u (mo_L μ) k a x) ∧
  (∀ (μ : mo_Mem) (k a : Nat) (x : Int64), mo_R (mo_wL μ k a x) = mo_R μ) ∧
  (∀ (μ : mo_Mem) (k a : Nat) (x : Int64), mo_AI (mo_wL μ k a x) = mo_AI μ) ∧
  (∀ (μ : mo_Mem) (k a : Nat) (x : Int64), mo_AL (mo_wL μ k a x) = mo_AL μ) ∧
  (∀ (μ : mo_Mem) (k a : Nat) (x : Int64), mo_AR (mo_wL μ k a x) = mo_AR μ) ∧
  (∀ (μ : mo_Mem) (k a : Nat) (x : Int64), mo_X (mo_wL μ k a x) = mo_X μ) ∧
  (∀ (μ : mo_Mem) (k a : Nat) (x : Int64), mo_S (mo_wL μ k a x) = mo_S μ) ∧
  (∀ (μ : mo_Mem) (k a : Nat) (x : Option Nat), mo_C (mo_wR μ k a x) = mo_C μ) ∧
  (∀ (μ : mo_Mem) (k a : Nat) (x : Option Nat), mo_N (mo_wR μ k a x) = mo_N μ) ∧
  (∀ (μ : mo_Mem) (k a : Nat) (x : Option Nat), mo_I (mo_wR μ k a x) = mo_I μ) ∧
  (∀ (μ : mo_Mem) (k a : Nat) (x : Option Nat), mo_L (mo_wR μ k a x) = mo_L μ) ∧
  (∀ (μ : mo_Mem) (k a : Nat) (x : Option Nat), mo_R (mo_wR μ k a x) = mo_u (mo_R μ) k a x) ∧
  (∀ (μ : mo_Mem) (k a : Nat) (x : Option Nat), mo_AI (mo_wR μ k a x) = mo_AI μ) ∧
  (∀ (μ : mo_Mem) (k a : Nat) (x : Option Nat), mo_AL (mo_wR μ k a x) = mo_AL μ) ∧
  (∀ (μ : mo_Mem) (k a : Nat) (x : Option Nat), mo_AR (mo_wR μ k a x) = mo_AR μ) ∧
  (∀ (μ : mo_Mem) (k a : Nat) (x : Option Nat), mo_X (mo_wR μ k a x) = mo_X μ) ∧
  (∀ (μ : mo_Mem) (k a : Nat) (x : Option Nat), mo_S (mo_wR μ k a x) = mo_S μ) ∧
  (∀ (μ : mo_Mem) (k a : Nat) (x : Int32), mo_C (mo_wAI μ k a x) = mo_C μ) ∧
  (∀ (μ : mo_Mem) (k a : Nat) (x : Int32), mo_N (mo_wAI μ k a x) = mo_N μ) ∧
  (∀ (μ : mo_Mem) (k a : Nat) (x : Int32), mo_I (mo_wAI μ k a x) = mo_I μ) ∧
  (∀ (μ : mo_Mem) (k a : Nat) (x : Int32), mo_L (mo_wAI μ k a x) = mo_L μ) ∧
  (∀ (μ : mo_Mem) (k a : Nat) (x : Int32), mo_R (mo_wAI μ k a x) = mo_R μ) ∧
  (∀ (μ : mo_Mem) (k a : Nat) (x : Int32), mo_AI (mo_wAI μ k a x) = mo_u (mo_AI μ) k a x) ∧
  (∀ (μ : mo_Mem) (k a : Nat) (x : Int32), mo_AL (mo_wAI μ k a x) = mo_AL μ) ∧
  (∀ (μ : mo_Mem) (k a : Nat) (x : Int32), mo_AR (mo_wAI μ k a x) = mo_AR μ) ∧
  (∀ (μ : mo_Mem) (k a : Nat) (x : Int32), mo_X (mo_wAI μ k a x) = mo_X μ) ∧
  (∀ (μ : mo_Mem) (k a : Nat) (x : Int32), mo_S (mo_wAI μ k a x) = mo_S μ) ∧
  (∀ (μ : mo_Mem) (k a : Nat) (x : Int64), mo_C (mo_wAL μ k a x) = mo_C μ) ∧
  (∀ (μ : mo_Mem) (k a : Nat) (x : Int64), mo_N (mo_wAL μ k a x) = mo_N μ) ∧
  (∀ (μ : mo_Mem) (k a : Nat) (x : Int64), mo_I (mo_wAL μ k a x) = mo_I μ) ∧
  (∀ (μ : mo_Mem) (k a : Nat) (x : Int64), mo_L (mo_wAL μ k a x) = mo_L μ) ∧
  (∀ (μ : mo_Mem) (k a : Nat) (x : Int64), mo_R (mo_wAL μ k a x) = mo_R μ) ∧
  (∀ (μ : mo_Mem) (k a : Nat) (x : Int64), mo_AI (mo_wAL μ k a x) = mo_AI μ) ∧
  (∀ (μ : mo_Mem) (k a : Nat) (x : Int64), mo_AL (mo_wAL μ k a x) = mo_u (mo_AL μ) k a x) ∧
  (∀ (μ : mo_Mem) (k a : Nat) (x : Int64), mo_AR (mo_wAL μ k a x) = mo_AR μ) ∧
  (∀ (μ : mo_Mem) (k a : Nat) (x : Int64), mo_X (mo_wAL μ k a x) = mo_X μ) ∧
  (∀ (μ : mo_Mem) (k a : Nat) (x : Int64), mo_S (mo_wAL μ k a x) = mo_S μ) ∧
  (∀ (μ : mo_Mem) (k a : Nat) (x : Option Nat), mo_C (mo_wAR μ k a x) = mo_C μ) ∧
  (∀ (μ : mo_Mem) (k a : Nat) (x : Option Nat), mo_N (mo_wAR μ k a x) = mo_N μ) ∧
  (∀ (μ : mo_Mem) (k a : Nat) (x : Option Nat), mo_I (mo_wAR μ k a x) = mo_I μ) ∧
  (∀ (μ : mo_Mem) (k a : Nat) (x : Option Nat), mo_L (mo_wAR μ k a x) = mo_L μ) ∧
  (∀ (μ : mo_Mem) (k a : Nat) (x : Option Nat), mo_R (mo_wAR μ k a x) = mo_R μ) ∧
  (∀ (μ : mo_Mem) (k a : Nat) (x : Option Nat), mo_AI (mo_wAR μ k a x) = mo_AI μ) ∧
  (∀ (μ : mo_Mem) (k a : Nat) (x : Option Nat), mo_AL (mo_wAR μ k a x) = mo_AL μ) ∧
  (∀ (μ : mo_Mem) (k a : Nat) (x : Option Nat), mo_AR (mo_wAR μ k a x) = mo_u (mo_AR μ) k a x) ∧
  (∀ (μ : mo_Mem) (k a : Nat) (x : Option Nat), mo_X (mo_wAR μ k a x) = mo_X μ) ∧
  (∀ (μ : mo_Mem) (k a : Nat) (x : Option Nat), mo_S (mo_wAR μ k a x) = mo_S μ) ∧
  (∀ (μ : mo_Mem) (t l n : Nat), mo_C (mo_new μ t l n) = mo_v (mo_C μ) (mo_X μ) t) ∧
  (∀ (μ : mo_Mem) (t l n : Nat), mo_N (mo_new μ t l n) = mo_v (mo_N μ) (mo_X μ) l) ∧
  (∀ (μ : mo_Mem) (t l n : Nat), mo_I (mo_new μ t l n) = mo_z (mo_I μ) (mo_X μ) 0) ∧
  (∀ (μ : mo_Mem) (t l n : Nat), mo_L (mo_new μ t l n) = mo_z (mo_L μ) (mo_X μ) 0) ∧
  (∀ (μ : mo_Mem) (t l n : Nat), mo_R (mo_new μ t l n) = mo_z (mo_R μ) (mo_X μ) none) ∧
  (∀ (μ : mo_Mem) (t l n : Nat), mo_AI (mo_new μ t l n) = mo_y (mo_AI μ) (mo_X μ) 0) ∧
  (∀ (μ : mo_Mem) (t l n : Nat), mo_AL (mo_new μ t l n) = mo_y (mo_AL μ) (mo_X μ) 0) ∧
  (∀ (μ : mo_Mem) (t l n : Nat), mo_AR (mo_new μ t l n) = mo_y (mo_AR μ) (mo_X μ) none) ∧
  (∀ (μ : mo_Mem) (t l n : Nat), mo_X (mo_new μ t l n) = mo_X μ + 1) ∧
  (∀ (μ : mo_Mem) (t l n : Nat), mo_S (mo_new μ t l n) = mo_S μ + n) ∧
  (∀ (f : Nat → Nat) (a x a' : Nat), mo_v f a x a' = if a' = a then x else f a') :=
  ⟨mo_C_wI, mo_N_wI, mo_I_wI, mo_L_wI, mo_R_wI, mo_AI_wI, mo_AL_wI, mo_AR_wI, mo_X_wI, mo_S_wI, mo_C_wL, mo_N_wL, mo_I_wL, mo_L_wL, mo_R_wL, mo_AI_wL, mo_AL_wL, mo_AR_wL, mo_X_wL, mo_S_wL, mo_C_wR, mo_N_wR, mo_I_wR, mo_L_wR, mo_R_wR, mo_AI_wR, mo_AL_wR, mo_AR_wR, mo_X_wR, mo_S_wR, mo_C_wAI, mo_N_wAI, mo_I_wAI, mo_L_wAI, mo_R_wAI, mo_AI_wAI, mo_AL_wAI, mo_AR_wAI, mo_X_wAI, mo_S_wAI, mo_C_wAL, mo_N_wAL, mo_I_wAL, mo_L_wAL, mo_R_wAL, mo_AI_wAL, mo_AL_wAL, mo_AR_wAL, mo_X_wAL, mo_S_wAL, mo_C_wAR, mo_N_wAR, mo_I_wAR, mo_L_wAR, mo_R_wAR, mo_AI_wAR, mo_AL_wAR, mo_AR_wAR, mo_X_wAR, mo_S_wAR, mo_C_new, mo_N_new, mo_I_new, mo_L_new, mo_R_new, mo_AI_new, mo_AL_new, mo_AR_new, mo_X_new, mo_S_new, mo_v_a⟩
