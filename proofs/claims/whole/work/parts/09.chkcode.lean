set_option maxRecDepth 100000 in
theorem mo_k0 : mo_t0.all (mo_okE 0) = true := by decide +kernel
set_option maxRecDepth 100000 in
theorem mo_k1 : mo_t1.all (mo_okE 1) = true := by decide +kernel
set_option maxRecDepth 100000 in
theorem mo_k2 : mo_t2.all (mo_okE 2) = true := by decide +kernel
set_option maxRecDepth 100000 in
theorem mo_k3 : mo_t3.all (mo_okE 3) = true := by decide +kernel
set_option maxRecDepth 100000 in
theorem mo_k4 : mo_t4.all (mo_okE 4) = true := by decide +kernel
set_option maxRecDepth 100000 in
theorem mo_k5 : mo_t5.all (mo_okE 5) = true := by decide +kernel
set_option maxRecDepth 100000 in
theorem mo_k6 : mo_t6.all (mo_okE 6) = true := by decide +kernel
set_option maxRecDepth 100000 in
theorem mo_k7 : mo_t7.all (mo_okE 7) = true := by decide +kernel
set_option maxRecDepth 100000 in
theorem mo_k8 : mo_t8.all (mo_okE 8) = true := by decide +kernel
set_option maxRecDepth 100000 in
theorem mo_k9 : mo_t9.all (mo_okE 9) = true := by decide +kernel
set_option maxRecDepth 100000 in
theorem mo_k10 : mo_t10.all (mo_okE 10) = true := by decide +kernel
set_option maxRecDepth 100000 in
theorem mo_k11 : mo_t11.all (mo_okE 11) = true := by decide +kernel
set_option maxRecDepth 100000 in
theorem mo_k12 : mo_t12.all (mo_okE 12) = true := by decide +kernel
set_option maxRecDepth 100000 in
theorem mo_k13 : mo_t13.all (mo_okE 13) = true := by decide +kernel
set_option maxRecDepth 100000 in
theorem mo_k14 : mo_t14.all (mo_okE 14) = true := by decide +kernel
set_option maxRecDepth 100000 in
theorem mo_k15 : mo_t15.all (mo_okE 15) = true := by decide +kernel
set_option maxRecDepth 100000 in
theorem mo_k16 : mo_t16.all (mo_okE 16) = true := by decide +kernel
set_option maxRecDepth 100000 in
theorem mo_k17 : mo_t17.all (mo_okE 17) = true := by decide +kernel
set_option maxRecDepth 100000 in
theorem mo_k18 : mo_t18.all (mo_okE 18) = true := by decide +kernel
set_option maxRecDepth 100000 in
theorem mo_k19 : mo_t19.all (mo_okE 19) = true := by decide +kernel
set_option maxRecDepth 100000 in
theorem mo_k20_0 : ((mo_t20.drop 0).take 48).all (mo_okE 20) = true := by decide +kernel
set_option maxRecDepth 100000 in
theorem mo_k20_1 : ((mo_t20.drop 48).take 48).all (mo_okE 20) = true := by decide +kernel
set_option maxRecDepth 100000 in
theorem mo_k20 : mo_t20.all (mo_okE 20) = true := by
  rw [show mo_t20 = (mo_t20.drop 0).take 48 ++ ((mo_t20.drop 48).take 48) from rfl]
  simp only [List.all_append, Bool.and_eq_true]
  exact ⟨mo_k20_0, mo_k20_1⟩
set_option maxRecDepth 100000 in
theorem mo_k21 : mo_t21.all (mo_okE 21) = true := by decide +kernel
set_option maxRecDepth 100000 in
theorem mo_k22_0 : ((mo_t22.drop 0).take 48).all (mo_okE 22) = true := by decide +kernel
set_option maxRecDepth 100000 in
theorem mo_k22_1 : ((mo_t22.drop 48).take 48).all (mo_okE 22) = true := by decide +kernel
set_option maxRecDepth 100000 in
theorem mo_k22 : mo_t22.all (mo_okE 22) = true := by
  rw [show mo_t22 = (mo_t22.drop 0).take 48 ++ ((mo_t22.drop 48).take 48) from rfl]
  simp only [List.all_append, Bool.and_eq_true]
  exact ⟨mo_k22_0, mo_k22_1⟩
set_option maxRecDepth 100000 in
theorem mo_k23_0 : ((mo_t23.drop 0).take 48).all (mo_okE 23) = true := by decide +kernel
set_option maxRecDepth 100000 in
theorem mo_k23_1 : ((mo_t23.drop 48).take 48).all (mo_okE 23) = true := by decide +kernel
set_option maxRecDepth 100000 in
theorem mo_k23 : mo_t23.all (mo_okE 23) = true := by
  rw [show mo_t23 = (mo_t23.drop 0).take 48 ++ ((mo_t23.drop 48).take 48) from rfl]
  simp only [List.all_append, Bool.and_eq_true]
  exact ⟨mo_k23_0, mo_k23_1⟩
set_option maxRecDepth 100000 in
theorem mo_k24 : mo_t24.all (mo_okE 24) = true := by decide +kernel
set_option maxRecDepth 100000 in
theorem mo_k25 : mo_t25.all (mo_okE 25) = true := by decide +kernel
set_option maxRecDepth 100000 in
theorem mo_k26 : mo_t26.all (mo_okE 26) = true := by decide +kernel
set_option maxRecDepth 100000 in
theorem mo_k27 : mo_t27.all (mo_okE 27) = true := by decide +kernel
set_option maxRecDepth 100000 in
theorem mo_k28 : mo_t28.all (mo_okE 28) = true := by decide +kernel
set_option maxRecDepth 100000 in
theorem mo_k29 : mo_t29.all (mo_okE 29) = true := by decide +kernel
set_option maxRecDepth 100000 in
theorem mo_k30_0 : ((mo_t30.drop 0).take 48).all (mo_okE 30) = true := by decide +kernel
set_option maxRecDepth 100000 in
theorem mo_k30_1 : ((mo_t30.drop 48).take 48).all (mo_okE 30) = true := by decide +kernel
set_option maxRecDepth 100000 in
theorem mo_k30 : mo_t30.all (mo_okE 30) = true := by
  rw [show mo_t30 = (mo_t30.drop 0).take 48 ++ ((mo_t30.drop 48).take 48) from rfl]
  simp only [List.all_append, Bool.and_eq_true]
  exact ⟨mo_k30_0, mo_k30_1⟩
set_option maxRecDepth 100000 in
theorem mo_k31_0 : ((mo_t31.drop 0).take 48).all (mo_okE 31) = true := by decide +kernel
set_option maxRecDepth 100000 in
theorem mo_k31_1 : ((mo_t31.drop 48).take 48).all (mo_okE 31) = true := by decide +kernel
set_option maxRecDepth 100000 in
theorem mo_k31 : mo_t31.all (mo_okE 31) = true := by
  rw [show mo_t31 = (mo_t31.drop 0).take 48 ++ ((mo_t31.drop 48).take 48) from rfl]
  simp only [List.all_append, Bool.and_eq_true]
  exact ⟨mo_k31_0, mo_k31_1⟩
set_option maxRecDepth 100000 in
theorem mo_k32 : mo_t32.all (mo_okE 32) = true := by decide +kernel
set_option maxRecDepth 100000 in
theorem mo_k33 : mo_t33.all (mo_okE 33) = true := by decide +kernel
set_option maxRecDepth 100000 in
theorem mo_k34 : mo_t34.all (mo_okE 34) = true := by decide +kernel
set_option maxRecDepth 100000 in
theorem mo_k35 : mo_t35.all (mo_okE 35) = true := by decide +kernel
set_option maxRecDepth 100000 in
theorem mo_k36 : mo_t36.all (mo_okE 36) = true := by decide +kernel
set_option maxRecDepth 100000 in
theorem mo_k37 : mo_t37.all (mo_okE 37) = true := by decide +kernel
set_option maxRecDepth 100000 in
theorem mo_k38 : mo_t38.all (mo_okE 38) = true := by decide +kernel
set_option maxRecDepth 100000 in
theorem mo_k39 : mo_t39.all (mo_okE 39) = true := by decide +kernel
