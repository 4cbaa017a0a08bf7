set_option maxRecDepth 100000 in
theorem mo_k40 : mo_t40.all (mo_okE 40) = true := by decide +kernel
set_option maxRecDepth 100000 in
theorem mo_k41 : mo_t41.all (mo_okE 41) = true := by decide +kernel
set_option maxRecDepth 100000 in
theorem mo_k42 : mo_t42.all (mo_okE 42) = true := by decide +kernel
set_option maxRecDepth 100000 in
theorem mo_k43 : mo_t43.all (mo_okE 43) = true := by decide +kernel
set_option maxRecDepth 100000 in
theorem mo_k44 : mo_t44.all (mo_okE 44) = true := by decide +kernel
set_option maxRecDepth 100000 in
theorem mo_k45 : mo_t45.all (mo_okE 45) = true := by decide +kernel
set_option maxRecDepth 100000 in
theorem mo_k46 : mo_t46.all (mo_okE 46) = true := by decide +kernel
set_option maxRecDepth 100000 in
theorem mo_k47 : mo_t47.all (mo_okE 47) = true := by decide +kernel
set_option maxRecDepth 100000 in
theorem mo_k48 : mo_t48.all (mo_okE 48) = true := by decide +kernel
set_option maxRecDepth 100000 in
theorem mo_k49 : mo_t49.all (mo_okE 49) = true := by decide +kernel
set_option maxRecDepth 100000 in
theorem mo_k50 : mo_t50.all (mo_okE 50) = true := by decide +kernel
set_option maxRecDepth 100000 in
theorem mo_k51 : mo_t51.all (mo_okE 51) = true := by decide +kernel
set_option maxRecDepth 100000 in
theorem mo_k52 : mo_t52.all (mo_okE 52) = true := by decide +kernel
set_option maxRecDepth 100000 in
theorem mo_k53 : mo_t53.all (mo_okE 53) = true := by decide +kernel
set_option maxRecDepth 100000 in
theorem mo_k54 : mo_t54.all (mo_okE 54) = true := by decide +kernel
set_option maxRecDepth 100000 in
theorem mo_k55 : mo_t55.all (mo_okE 55) = true := by decide +kernel
set_option maxRecDepth 100000 in
theorem mo_k56 : mo_t56.all (mo_okE 56) = true := by decide +kernel
set_option maxRecDepth 100000 in
theorem mo_k57 : mo_t57.all (mo_okE 57) = true := by decide +kernel
set_option maxRecDepth 100000 in
theorem mo_k58 : mo_t58.all (mo_okE 58) = true := by decide +kernel
set_option maxRecDepth 100000 in
theorem mo_k59_0 : ((mo_t59.drop 0).take 48).all (mo_okE 59) = true := by decide +kernel
set_option maxRecDepth 100000 in
theorem mo_k59_1 : ((mo_t59.drop 48).take 48).all (mo_okE 59) = true := by decide +kernel
set_option maxRecDepth 100000 in
theorem mo_k59 : mo_t59.all (mo_okE 59) = true := by
  rw [show mo_t59 = (mo_t59.drop 0).take 48 ++ ((mo_t59.drop 48).take 48) from rfl]
  simp only [List.all_append, Bool.and_eq_true]
  exact ⟨mo_k59_0, mo_k59_1⟩
set_option maxRecDepth 100000 in
theorem mo_k60 : mo_t60.all (mo_okE 60) = true := by decide +kernel
set_option maxRecDepth 100000 in
theorem mo_k61 : mo_t61.all (mo_okE 61) = true := by decide +kernel
set_option maxRecDepth 100000 in
theorem mo_k62 : mo_t62.all (mo_okE 62) = true := by decide +kernel
set_option maxRecDepth 100000 in
theorem mo_k63 : mo_t63.all (mo_okE 63) = true := by decide +kernel
set_option maxRecDepth 100000 in
theorem mo_k64 : mo_t64.all (mo_okE 64) = true := by decide +kernel
set_option maxRecDepth 100000 in
theorem mo_k65 : mo_t65.all (mo_okE 65) = true := by decide +kernel
set_option maxRecDepth 100000 in
theorem mo_k66 : mo_t66.all (mo_okE 66) = true := by decide +kernel
set_option maxRecDepth 100000 in
theorem mo_k67 : mo_t67.all (mo_okE 67) = true := by decide +kernel
set_option maxRecDepth 100000 in
theorem mo_k68 : mo_t68.all (mo_okE 68) = true := by decide +kernel
set_option maxRecDepth 100000 in
theorem mo_k69 : mo_t69.all (mo_okE 69) = true := by decide +kernel
set_option maxRecDepth 100000 in
theorem mo_k70_0 : ((mo_t70.drop 0).take 48).all (mo_okE 70) = true := by decide +kernel
set_option maxRecDepth 100000 in
theorem mo_k70_1 : ((mo_t70.drop 48).take 48).all (mo_okE 70) = true := by decide +kernel
set_option maxRecDepth 100000 in
theorem mo_k70 : mo_t70.all (mo_okE 70) = true := by
  rw [show mo_t70 = (mo_t70.drop 0).take 48 ++ ((mo_t70.drop 48).take 48) from rfl]
  simp only [List.all_append, Bool.and_eq_true]
  exact ⟨mo_k70_0, mo_k70_1⟩
set_option maxRecDepth 100000 in
theorem mo_k71 : mo_t71.all (mo_okE 71) = true := by decide +kernel
set_option maxRecDepth 100000 in
theorem mo_k72_0 : ((mo_t72.drop 0).take 48).all (mo_okE 72) = true := by decide +kernel
set_option maxRecDepth 100000 in
theorem mo_k72_1 : ((mo_t72.drop 48).take 48).all (mo_okE 72) = true := by decide +kernel
set_option maxRecDepth 100000 in
theorem mo_k72 : mo_t72.all (mo_okE 72) = true := by
  rw [show mo_t72 = (mo_t72.drop 0).take 48 ++ ((mo_t72.drop 48).take 48) from rfl]
  simp only [List.all_append, Bool.and_eq_true]
  exact ⟨mo_k72_0, mo_k72_1⟩
set_option maxRecDepth 100000 in
theorem mo_k73 : mo_t73.all (mo_okE 73) = true := by decide +kernel
set_option maxRecDepth 100000 in
theorem mo_k74 : mo_t74.all (mo_okE 74) = true := by decide +kernel
set_option maxRecDepth 100000 in
theorem mo_k75 : mo_t75.all (mo_okE 75) = true := by decide +kernel
set_option maxRecDepth 100000 in
theorem mo_k76 : mo_t76.all (mo_okE 76) = true := by decide +kernel
set_option maxRecDepth 100000 in
theorem mo_k77 : mo_t77.all (mo_okE 77) = true := by decide +kernel
set_option maxRecDepth 100000 in
theorem mo_k78 : mo_t78.all (mo_okE 78) = true := by decide +kernel
set_option maxRecDepth 100000 in
theorem mo_k79 : mo_t79.all (mo_okE 79) = true := by decide +kernel
set_option maxRecDepth 100000 in
theorem mo_k80 : mo_t80.all (mo_okE 80) = true := by decide +kernel
set_option maxRecDepth 100000 in
theorem mo_k81 : mo_t81.all (mo_okE 81) = true := by decide +kernel
set_option maxRecDepth 100000 in
theorem mo_k82 : mo_t82.all (mo_okE 82) = true := by decide +kernel
set_option maxRecDepth 100000 in
theorem mo_k83 : mo_t83.all (mo_okE 83) = true := by decide +kernel
