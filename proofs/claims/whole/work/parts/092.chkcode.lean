set_option maxRecDepth 100000 in
theorem mo_k84_0 : ((mo_t84.drop 0).take 48).all (mo_okE 84) = true := by decide +kernel
set_option maxRecDepth 100000 in
theorem mo_k84_1 : ((mo_t84.drop 48).take 48).all (mo_okE 84) = true := by decide +kernel
set_option maxRecDepth 100000 in
theorem mo_k84_2 : ((mo_t84.drop 96).take 48).all (mo_okE 84) = true := by decide +kernel
set_option maxRecDepth 100000 in
theorem mo_k84 : mo_t84.all (mo_okE 84) = true := by
  rw [show mo_t84 = (mo_t84.drop 0).take 48 ++ ((mo_t84.drop 48).take 48 ++ ((mo_t84.drop 96).take 48)) from rfl]
  simp only [List.all_append, Bool.and_eq_true]
  exact ⟨mo_k84_0, mo_k84_1, mo_k84_2⟩
set_option maxRecDepth 100000 in
theorem mo_k85 : mo_t85.all (mo_okE 85) = true := by decide +kernel
set_option maxRecDepth 100000 in
theorem mo_k86 : mo_t86.all (mo_okE 86) = true := by decide +kernel
set_option maxRecDepth 100000 in
theorem mo_k87 : mo_t87.all (mo_okE 87) = true := by decide +kernel
set_option maxRecDepth 100000 in
theorem mo_k88_0 : ((mo_t88.drop 0).take 48).all (mo_okE 88) = true := by decide +kernel
set_option maxRecDepth 100000 in
theorem mo_k88_1 : ((mo_t88.drop 48).take 48).all (mo_okE 88) = true := by decide +kernel
set_option maxRecDepth 100000 in
theorem mo_k88_2 : ((mo_t88.drop 96).take 48).all (mo_okE 88) = true := by decide +kernel
set_option maxRecDepth 100000 in
theorem mo_k88 : mo_t88.all (mo_okE 88) = true := by
  rw [show mo_t88 = (mo_t88.drop 0).take 48 ++ ((mo_t88.drop 48).take 48 ++ ((mo_t88.drop 96).take 48)) from rfl]
  simp only [List.all_append, Bool.and_eq_true]
  exact ⟨mo_k88_0, mo_k88_1, mo_k88_2⟩
set_option maxRecDepth 100000 in
theorem mo_k89_0 : ((mo_t89.drop 0).take 48).all (mo_okE 89) = true := by decide +kernel
set_option maxRecDepth 100000 in
theorem mo_k89_1 : ((mo_t89.drop 48).take 48).all (mo_okE 89) = true := by decide +kernel
set_option maxRecDepth 100000 in
theorem mo_k89 : mo_t89.all (mo_okE 89) = true := by
  rw [show mo_t89 = (mo_t89.drop 0).take 48 ++ ((mo_t89.drop 48).take 48) from rfl]
  simp only [List.all_append, Bool.and_eq_true]
  exact ⟨mo_k89_0, mo_k89_1⟩
set_option maxRecDepth 100000 in
theorem mo_k90 : mo_t90.all (mo_okE 90) = true := by decide +kernel
set_option maxRecDepth 100000 in
theorem mo_k91 : mo_t91.all (mo_okE 91) = true := by decide +kernel
set_option maxRecDepth 100000 in
theorem mo_k92_0 : ((mo_t92.drop 0).take 48).all (mo_okE 92) = true := by decide +kernel
set_option maxRecDepth 100000 in
theorem mo_k92_1 : ((mo_t92.drop 48).take 48).all (mo_okE 92) = true := by decide +kernel
set_option maxRecDepth 100000 in
theorem mo_k92 : mo_t92.all (mo_okE 92) = true := by
  rw [show mo_t92 = (mo_t92.drop 0).take 48 ++ ((mo_t92.drop 48).take 48) from rfl]
  simp only [List.all_append, Bool.and_eq_true]
  exact ⟨mo_k92_0, mo_k92_1⟩
set_option maxRecDepth 100000 in
theorem mo_k93_0 : ((mo_t93.drop 0).take 48).all (mo_okE 93) = true := by decide +kernel
set_option maxRecDepth 100000 in
theorem mo_k93_1 : ((mo_t93.drop 48).take 48).all (mo_okE 93) = true := by decide +kernel
set_option maxRecDepth 100000 in
theorem mo_k93_2 : ((mo_t93.drop 96).take 48).all (mo_okE 93) = true := by decide +kernel
set_option maxRecDepth 100000 in
theorem mo_k93 : mo_t93.all (mo_okE 93) = true := by
  rw [show mo_t93 = (mo_t93.drop 0).take 48 ++ ((mo_t93.drop 48).take 48 ++ ((mo_t93.drop 96).take 48)) from rfl]
  simp only [List.all_append, Bool.and_eq_true]
  exact ⟨mo_k93_0, mo_k93_1, mo_k93_2⟩
set_option maxRecDepth 100000 in
theorem mo_k94_0 : ((mo_t94.drop 0).take 48).all (mo_okE 94) = true := by decide +kernel
set_option maxRecDepth 100000 in
theorem mo_k94_1 : ((mo_t94.drop 48).take 48).all (mo_okE 94) = true := by decide +kernel
set_option maxRecDepth 100000 in
theorem mo_k94 : mo_t94.all (mo_okE 94) = true := by
  rw [show mo_t94 = (mo_t94.drop 0).take 48 ++ ((mo_t94.drop 48).take 48) from rfl]
  simp only [List.all_append, Bool.and_eq_true]
  exact ⟨mo_k94_0, mo_k94_1⟩
set_option maxRecDepth 100000 in
theorem mo_k95 : mo_t95.all (mo_okE 95) = true := by decide +kernel
set_option maxRecDepth 100000 in
theorem mo_k96 : mo_t96.all (mo_okE 96) = true := by decide +kernel
set_option maxRecDepth 100000 in
theorem mo_k97 : mo_t97.all (mo_okE 97) = true := by decide +kernel
set_option maxRecDepth 100000 in
theorem mo_k98_0 : ((mo_t98.drop 0).take 48).all (mo_okE 98) = true := by decide +kernel
set_option maxRecDepth 100000 in
theorem mo_k98_1 : ((mo_t98.drop 48).take 48).all (mo_okE 98) = true := by decide +kernel
set_option maxRecDepth 100000 in
theorem mo_k98 : mo_t98.all (mo_okE 98) = true := by
  rw [show mo_t98 = (mo_t98.drop 0).take 48 ++ ((mo_t98.drop 48).take 48) from rfl]
  simp only [List.all_append, Bool.and_eq_true]
  exact ⟨mo_k98_0, mo_k98_1⟩
set_option maxRecDepth 100000 in
theorem mo_k99 : mo_t99.all (mo_okE 99) = true := by decide +kernel
set_option maxRecDepth 100000 in
theorem mo_k100_0 : ((mo_t100.drop 0).take 48).all (mo_okE 100) = true := by decide +kernel
set_option maxRecDepth 100000 in
theorem mo_k100_1 : ((mo_t100.drop 48).take 48).all (mo_okE 100) = true := by decide +kernel
set_option maxRecDepth 100000 in
theorem mo_k100 : mo_t100.all (mo_okE 100) = true := by
  rw [show mo_t100 = (mo_t100.drop 0).take 48 ++ ((mo_t100.drop 48).take 48) from rfl]
  simp only [List.all_append, Bool.and_eq_true]
  exact ⟨mo_k100_0, mo_k100_1⟩
set_option maxRecDepth 100000 in
theorem mo_k101 : mo_t101.all (mo_okE 101) = true := by decide +kernel
set_option maxRecDepth 100000 in
theorem mo_k102 : mo_t102.all (mo_okE 102) = true := by decide +kernel
set_option maxRecDepth 100000 in
theorem mo_k103_0 : ((mo_t103.drop 0).take 48).all (mo_okE 103) = true := by decide +kernel
set_option maxRecDepth 100000 in
theorem mo_k103_1 : ((mo_t103.drop 48).take 48).all (mo_okE 103) = true := by decide +kernel
set_option maxRecDepth 100000 in
theorem mo_k103_2 : ((mo_t103.drop 96).take 48).all (mo_okE 103) = true := by decide +kernel
set_option maxRecDepth 100000 in
theorem mo_k103_3 : ((mo_t103.drop 144).take 48).all (mo_okE 103) = true := by decide +kernel
set_option maxRecDepth 100000 in
theorem mo_k103 : mo_t103.all (mo_okE 103) = true := by
  rw [show mo_t103 = (mo_t103.drop 0).take 48 ++ ((mo_t103.drop 48).take 48 ++ ((mo_t103.drop 96).take 48 ++ ((mo_t103.drop 144).take 48))) from rfl]
  simp only [List.all_append, Bool.and_eq_true]
  exact ⟨mo_k103_0, mo_k103_1, mo_k103_2, mo_k103_3⟩
