set_option maxRecDepth 100000 in
theorem mo_k126_0 : ((mo_t126.drop 0).take 48).all (mo_okE 126) = true := by decide +kernel
set_option maxRecDepth 100000 in
theorem mo_k126_1 : ((mo_t126.drop 48).take 48).all (mo_okE 126) = true := by decide +kernel
set_option maxRecDepth 100000 in
theorem mo_k126_2 : ((mo_t126.drop 96).take 48).all (mo_okE 126) = true := by decide +kernel
set_option maxRecDepth 100000 in
theorem mo_k126_3 : ((mo_t126.drop 144).take 48).all (mo_okE 126) = true := by decide +kernel
set_option maxRecDepth 100000 in
theorem mo_k126_4 : ((mo_t126.drop 192).take 48).all (mo_okE 126) = true := by decide +kernel
set_option maxRecDepth 100000 in
theorem mo_k126_5 : ((mo_t126.drop 240).take 48).all (mo_okE 126) = true := by decide +kernel
set_option maxRecDepth 100000 in
theorem mo_k126_6 : ((mo_t126.drop 288).take 48).all (mo_okE 126) = true := by decide +kernel
set_option maxRecDepth 100000 in
theorem mo_k126_7 : ((mo_t126.drop 336).take 48).all (mo_okE 126) = true := by decide +kernel
set_option maxRecDepth 100000 in
theorem mo_k126_8 : ((mo_t126.drop 384).take 48).all (mo_okE 126) = true := by decide +kernel
set_option maxRecDepth 100000 in
theorem mo_k126_9 : ((mo_t126.drop 432).take 48).all (mo_okE 126) = true := by decide +kernel
set_option maxRecDepth 100000 in
theorem mo_k126_10 : ((mo_t126.drop 480).take 48).all (mo_okE 126) = true := by decide +kernel
set_option maxRecDepth 100000 in
theorem mo_k126_11 : ((mo_t126.drop 528).take 48).all (mo_okE 126) = true := by decide +kernel
set_option maxRecDepth 100000 in
theorem mo_k126_12 : ((mo_t126.drop 576).take 48).all (mo_okE 126) = true := by decide +kernel
set_option maxRecDepth 100000 in
theorem mo_k126_13 : ((mo_t126.drop 624).take 48).all (mo_okE 126) = true := by decide +kernel
set_option maxRecDepth 100000 in
theorem mo_k126_14 : ((mo_t126.drop 672).take 48).all (mo_okE 126) = true := by decide +kernel
set_option maxRecDepth 100000 in
theorem mo_k126_15 : ((mo_t126.drop 720).take 48).all (mo_okE 126) = true := by decide +kernel
set_option maxRecDepth 100000 in
theorem mo_k126 : mo_t126.all (mo_okE 126) = true := by
  rw [show mo_t126 = (mo_t126.drop 0).take 48 ++ ((mo_t126.drop 48).take 48 ++ ((mo_t126.drop 96).take 48 ++ ((mo_t126.drop 144).take 48 ++ ((mo_t126.drop 192).take 48 ++ ((mo_t126.drop 240).take 48 ++ ((mo_t126.drop 288).take 48 ++ ((mo_t126.drop 336).take 48 ++ ((mo_t126.drop 384).take 48 ++ ((mo_t126.drop 432).take 48 ++ ((mo_t126.drop 480).take 48 ++ ((mo_t126.drop 528).take 48 ++ ((mo_t126.drop 576).take 48 ++ ((mo_t126.drop 624).take 48 ++ ((mo_t126.drop 672).take 48 ++ ((mo_t126.drop 720).take 48))))))))))))))) from rfl]
  simp only [List.all_append, Bool.and_eq_true]
  exact ⟨mo_k126_0, mo_k126_1, mo_k126_2, mo_k126_3, mo_k126_4, mo_k126_5, mo_k126_6, mo_k126_7, mo_k126_8, mo_k126_9, mo_k126_10, mo_k126_11, mo_k126_12, mo_k126_13, mo_k126_14, mo_k126_15⟩
