set_option maxRecDepth 100000 in
theorem mo_k0 : mo_t0.all (mo_okE 0) = true := by decide +kernel
set_option maxRecDepth 100000 in
theorem mo_k1 : mo_t1.all (mo_okE 1) = true := by decide +kernel
set_option maxRecDepth 100000 in
theorem mo_k2 : mo_t2.all (mo_okE 2) = true := by decide +kernel
set_option maxRecDepth 100000 in
theorem mo_k3 : mo_t3.all (mo_okE 3) = true := by decide +kernel
set_option maxRecDepth 100000 in
theorem mo_k4 : mo_t4.all (mo_okE 4) = true := by decide +kernel
set_option maxRecDepth 100000 in
theorem mo_k5 : mo_t5.all (mo_okE 5) = true := by decide +kernel
set_option maxRecDepth 100000 in
theorem mo_k6 : mo_t6.all (mo_okE 6) = true := by decide +kernel
set_option maxRecDepth 100000 in
theorem mo_k7 : mo_t7.all (mo_okE 7) = true := by decide +kernel
set_option maxRecDepth 100000 in
theorem mo_k8 : mo_t8.all (mo_okE 8) = true := by decide +kernel
set_option maxRecDepth 100000 in
theorem mo_k9 : mo_t9.all (mo_okE 9) = true := by decide +kernel
set_option maxRecDepth 100000 in
theorem mo_k10 : mo_t10.all (mo_okE 10) = true := by decide +kernel
set_option maxRecDepth 100000 in
theorem mo_k11 : mo_t11.all (mo_okE 11) = true := by decide +kernel
set_option maxRecDepth 100000 in
theorem mo_k12 : mo_t12.all (mo_okE 12) = true := by decide +kernel
set_option maxRecDepth 100000 in
theorem mo_k13 : mo_t13.all (mo_okE 13) = true := by decide +kernel
set_option maxRecDepth 100000 in
theorem mo_k14 : mo_t14.all (mo_okE 14) = true := by decide +kernel
set_option maxRecDepth 100000 in
theorem mo_k15 : mo_t15.all (mo_okE 15) = true := by decide +kernel
set_option maxRecDepth 100000 in
theorem mo_k16 : mo_t16.all (mo_okE 16) = true := by decide +kernel
set_option maxRecDepth 100000 in
theorem mo_k17 : mo_t17.all (mo_okE 17) = true := by decide +kernel
set_option maxRecDepth 100000 in
theorem mo_k18 : mo_t18.all (mo_okE 18) = true := by decide +kernel
set_option maxRecDepth 100000 in
theorem mo_k19 : mo_t19.all (mo_okE 19) = true := by decide +kernel
set_option maxRecDepth 100000 in
theorem mo_k20 : mo_t20.all (mo_okE 20) = true := by decide +kernel
set_option maxRecDepth 100000 in
theorem mo_k21 : mo_t21.all (mo_okE 21) = true := by decide +kernel
set_option maxRecDepth 100000 in
theorem mo_k22 : mo_t22.all (mo_okE 22) = true := by decide +kernel
set_option maxRecDepth 100000 in
theorem mo_k23 : mo_t23.all (mo_okE 23) = true := by decide +kernel
set_option maxRecDepth 100000 in
theorem mo_k24 : mo_t24.all (mo_okE 24) = true := by decide +kernel
set_option maxRecDepth 100000 in
theorem mo_k25 : mo_t25.all (mo_okE 25) = true := by decide +kernel
set_option maxRecDepth 100000 in
theorem mo_k26 : mo_t26.all (mo_okE 26) = true := by decide +kernel
set_option maxRecDepth 100000 in
theorem mo_k27 : mo_t27.all (mo_okE 27) = true := by decide +kernel
set_option maxRecDepth 100000 in
theorem mo_k28 : mo_t28.all (mo_okE 28) = true := by decide +kernel
set_option maxRecDepth 100000 in
theorem mo_k29 : mo_t29.all (mo_okE 29) = true := by decide +kernel
set_option maxRecDepth 100000 in
theorem mo_k30_0 : ((mo_t30.drop 0).take 64).all (mo_okE 30) = true := by decide +kernel
set_option maxRecDepth 100000 in
theorem mo_k30_1 : ((mo_t30.drop 64).take 64).all (mo_okE 30) = true := by decide +kernel
set_option maxRecDepth 100000 in
theorem mo_k30 : mo_t30.all (mo_okE 30) = true := by
  rw [show mo_t30 = (mo_t30.drop 0).take 64 ++ ((mo_t30.drop 64).take 64) from rfl]
  simp only [List.all_append, Bool.and_eq_true]
  exact ⟨mo_k30_0, mo_k30_1⟩
set_option maxRecDepth 100000 in
theorem mo_k31_0 : ((mo_t31.drop 0).take 64).all (mo_okE 31) = true := by decide +kernel
set_option maxRecDepth 100000 in
theorem mo_k31_1 : ((mo_t31.drop 64).take 64).all (mo_okE 31) = true := by decide +kernel
set_option maxRecDepth 100000 in
theorem mo_k31 : mo_t31.all (mo_okE 31) = true := by
  rw [show mo_t31 = (mo_t31.drop 0).take 64 ++ ((mo_t31.drop 64).take 64) from rfl]
  simp only [List.all_append, Bool.and_eq_true]
  exact ⟨mo_k31_0, mo_k31_1⟩
set_option maxRecDepth 100000 in
theorem mo_k32 : mo_t32.all (mo_okE 32) = true := by decide +kernel
set_option maxRecDepth 100000 in
theorem mo_k33 : mo_t33.all (mo_okE 33) = true := by decide +kernel
set_option maxRecDepth 100000 in
theorem mo_k34 : mo_t34.all (mo_okE 34) = true := by decide +kernel
set_option maxRecDepth 100000 in
theorem mo_k35 : mo_t35.all (mo_okE 35) = true := by decide +kernel
set_option maxRecDepth 100000 in
theorem mo_k36 : mo_t36.all (mo_okE 36) = true := by decide +kernel
set_option maxRecDepth 100000 in
theorem mo_k37 : mo_t37.all (mo_okE 37) = true := by decide +kernel
set_option maxRecDepth 100000 in
theorem mo_k38 : mo_t38.all (mo_okE 38) = true := by decide +kernel
set_option maxRecDepth 100000 in
theorem mo_k39 : mo_t39.all (mo_okE 39) = true := by decide +kernel
set_option maxRecDepth 100000 in
theorem mo_k40 : mo_t40.all (mo_okE 40) = true := by decide +kernel
set_option maxRecDepth 100000 in
theorem mo_k41 : mo_t41.all (mo_okE 41) = true := by decide +kernel
set_option maxRecDepth 100000 in
theorem mo_k42 : mo_t42.all (mo_okE 42) = true := by decide +kernel
set_option maxRecDepth 100000 in
theorem mo_k43 : mo_t43.all (mo_okE 43) = true := by decide +kernel
set_option maxRecDepth 100000 in
theorem mo_k44 : mo_t44.all (mo_okE 44) = true := by decide +kernel
set_option maxRecDepth 100000 in
theorem mo_k45 : mo_t45.all (mo_okE 45) = true := by decide +kernel
set_option maxRecDepth 100000 in
theorem mo_k46 : mo_t46.all (mo_okE 46) = true := by decide +kernel
set_option maxRecDepth 100000 in
theorem mo_k47 : mo_t47.all (mo_okE 47) = true := by decide +kernel
set_option maxRecDepth 100000 in
theorem mo_k48 : mo_t48.all (mo_okE 48) = true := by decide +kernel
set_option maxRecDepth 100000 in
theorem mo_k49 : mo_t49.all (mo_okE 49) = true := by decide +kernel
set_option maxRecDepth 100000 in
theorem mo_k50 : mo_t50.all (mo_okE 50) = true := by decide +kernel
set_option maxRecDepth 100000 in
theorem mo_k51 : mo_t51.all (mo_okE 51) = true := by decide +kernel
set_option maxRecDepth 100000 in
theorem mo_k52 : mo_t52.all (mo_okE 52) = true := by decide +kernel
set_option maxRecDepth 100000 in
theorem mo_k53 : mo_t53.all (mo_okE 53) = true := by decide +kernel
set_option maxRecDepth 100000 in
theorem mo_k54 : mo_t54.all (mo_okE 54) = true := by decide +kernel
set_option maxRecDepth 100000 in
theorem mo_k55 : mo_t55.all (mo_okE 55) = true := by decide +kernel
set_option maxRecDepth 100000 in
theorem mo_k56 : mo_t56.all (mo_okE 56) = true := by decide +kernel
set_option maxRecDepth 100000 in
theorem mo_k57 : mo_t57.all (mo_okE 57) = true := by decide +kernel
set_option maxRecDepth 100000 in
theorem mo_k58 : mo_t58.all (mo_okE 58) = true := by decide +kernel
set_option maxRecDepth 100000 in
theorem mo_k59 : mo_t59.all (mo_okE 59) = true := by decide +kernel
set_option maxRecDepth 100000 in
theorem mo_k60 : mo_t60.all (mo_okE 60) = true := by decide +kernel
set_option maxRecDepth 100000 in
theorem mo_k61 : mo_t61.all (mo_okE 61) = true := by decide +kernel
set_option maxRecDepth 100000 in
theorem mo_k62 : mo_t62.all (mo_okE 62) = true := by decide +kernel
set_option maxRecDepth 100000 in
theorem mo_k63 : mo_t63.all (mo_okE 63) = true := by decide +kernel
set_option maxRecDepth 100000 in
theorem mo_k64 : mo_t64.all (mo_okE 64) = true := by decide +kernel
set_option maxRecDepth 100000 in
theorem mo_k65 : mo_t65.all (mo_okE 65) = true := by decide +kernel
set_option maxRecDepth 100000 in
theorem mo_k66 : mo_t66.all (mo_okE 66) = true := by decide +kernel
set_option maxRecDepth 100000 in
theorem mo_k67 : mo_t67.all (mo_okE 67) = true := by decide +kernel
set_option maxRecDepth 100000 in
theorem mo_k68 : mo_t68.all (mo_okE 68) = true := by decide +kernel
set_option maxRecDepth 100000 in
theorem mo_k69 : mo_t69.all (mo_okE 69) = true := by decide +kernel
set_option maxRecDepth 100000 in
theorem mo_k70 : mo_t70.all (mo_okE 70) = true := by decide +kernel
set_option maxRecDepth 100000 in
theorem mo_k71 : mo_t71.all (mo_okE 71) = true := by decide +kernel
set_option maxRecDepth 100000 in
theorem mo_k72 : mo_t72.all (mo_okE 72) = true := by decide +kernel
set_option maxRecDepth 100000 in
theorem mo_k73 : mo_t73.all (mo_okE 73) = true := by decide +kernel
set_option maxRecDepth 100000 in
theorem mo_k74 : mo_t74.all (mo_okE 74) = true := by decide +kernel
set_option maxRecDepth 100000 in
theorem mo_k75 : mo_t75.all (mo_okE 75) = true := by decide +kernel
set_option maxRecDepth 100000 in
theorem mo_k76 : mo_t76.all (mo_okE 76) = true := by decide +kernel
set_option maxRecDepth 100000 in
theorem mo_k77 : mo_t77.all (mo_okE 77) = true := by decide +kernel
set_option maxRecDepth 100000 in
theorem mo_k78 : mo_t78.all (mo_okE 78) = true := by decide +kernel
set_option maxRecDepth 100000 in
theorem mo_k79 : mo_t79.all (mo_okE 79) = true := by decide +kernel
set_option maxRecDepth 100000 in
theorem mo_k80 : mo_t80.all (mo_okE 80) = true := by decide +kernel
set_option maxRecDepth 100000 in
theorem mo_k81 : mo_t81.all (mo_okE 81) = true := by decide +kernel
set_option maxRecDepth 100000 in
theorem mo_k82 : mo_t82.all (mo_okE 82) = true := by decide +kernel
set_option maxRecDepth 100000 in
theorem mo_k83 : mo_t83.all (mo_okE 83) = true := by decide +kernel
set_option maxRecDepth 100000 in
theorem mo_k84_0 : ((mo_t84.drop 0).take 64).all (mo_okE 84) = true := by decide +kernel
set_option maxRecDepth 100000 in
theorem mo_k84_1 : ((mo_t84.drop 64).take 64).all (mo_okE 84) = true := by decide +kernel
set_option maxRecDepth 100000 in
theorem mo_k84 : mo_t84.all (mo_okE 84) = true := by
  rw [show mo_t84 = (mo_t84.drop 0).take 64 ++ ((mo_t84.drop 64).take 64) from rfl]
  simp only [List.all_append, Bool.and_eq_true]
  exact ⟨mo_k84_0, mo_k84_1⟩
set_option maxRecDepth 100000 in
theorem mo_k85 : mo_t85.all (mo_okE 85) = true := by decide +kernel
set_option maxRecDepth 100000 in
theorem mo_k86 : mo_t86.all (mo_okE 86) = true := by decide +kernel
set_option maxRecDepth 100000 in
theorem mo_k87 : mo_t87.all (mo_okE 87) = true := by decide +kernel
set_option maxRecDepth 100000 in
theorem mo_k88_0 : ((mo_t88.drop 0).take 64).all (mo_okE 88) = true := by decide +kernel
set_option maxRecDepth 100000 in
theorem mo_k88_1 : ((mo_t88.drop 64).take 64).all (mo_okE 88) = true := by decide +kernel
set_option maxRecDepth 100000 in
theorem mo_k88 : mo_t88.all (mo_okE 88) = true := by
  rw [show mo_t88 = (mo_t88.drop 0).take 64 ++ ((mo_t88.drop 64).take 64) from rfl]
  simp only [List.all_append, Bool.and_eq_true]
  exact ⟨mo_k88_0, mo_k88_1⟩
set_option maxRecDepth 100000 in
theorem mo_k89_0 : ((mo_t89.drop 0).take 64).all (mo_okE 89) = true := by decide +kernel
set_option maxRecDepth 100000 in
theorem mo_k89_1 : ((mo_t89.drop 64).take 64).all (mo_okE 89) = true := by decide +kernel
set_option maxRecDepth 100000 in
theorem mo_k89 : mo_t89.all (mo_okE 89) = true := by
  rw [show mo_t89 = (mo_t89.drop 0).take 64 ++ ((mo_t89.drop 64).take 64) from rfl]
  simp only [List.all_append, Bool.and_eq_true]
  exact ⟨mo_k89_0, mo_k89_1⟩
set_option maxRecDepth 100000 in
theorem mo_k90 : mo_t90.all (mo_okE 90) = true := by decide +kernel
set_option maxRecDepth 100000 in
theorem mo_k91 : mo_t91.all (mo_okE 91) = true := by decide +kernel
set_option maxRecDepth 100000 in
theorem mo_k92 : mo_t92.all (mo_okE 92) = true := by decide +kernel
set_option maxRecDepth 100000 in
theorem mo_k93_0 : ((mo_t93.drop 0).take 64).all (mo_okE 93) = true := by decide +kernel
set_option maxRecDepth 100000 in
theorem mo_k93_1 : ((mo_t93.drop 64).take 64).all (mo_okE 93) = true := by decide +kernel
set_option maxRecDepth 100000 in
theorem mo_k93 : mo_t93.all (mo_okE 93) = true := by
  rw [show mo_t93 = (mo_t93.drop 0).take 64 ++ ((mo_t93.drop 64).take 64) from rfl]
  simp only [List.all_append, Bool.and_eq_true]
  exact ⟨mo_k93_0, mo_k93_1⟩
set_option maxRecDepth 100000 in
theorem mo_k94 : mo_t94.all (mo_okE 94) = true := by decide +kernel
set_option maxRecDepth 100000 in
theorem mo_k95 : mo_t95.all (mo_okE 95) = true := by decide +kernel
set_option maxRecDepth 100000 in
theorem mo_k96 : mo_t96.all (mo_okE 96) = true := by decide +kernel
set_option maxRecDepth 100000 in
theorem mo_k97 : mo_t97.all (mo_okE 97) = true := by decide +kernel
set_option maxRecDepth 100000 in
theorem mo_k98_0 : ((mo_t98.drop 0).take 64).all (mo_okE 98) = true := by decide +kernel
set_option maxRecDepth 100000 in
theorem mo_k98_1 : ((mo_t98.drop 64).take 64).all (mo_okE 98) = true := by decide +kernel
set_option maxRecDepth 100000 in
theorem mo_k98 : mo_t98.all (mo_okE 98) = true := by
  rw [show mo_t98 = (mo_t98.drop 0).take 64 ++ ((mo_t98.drop 64).take 64) from rfl]
  simp only [List.all_append, Bool.and_eq_true]
  exact ⟨mo_k98_0, mo_k98_1⟩
set_option maxRecDepth 100000 in
theorem mo_k99 : mo_t99.all (mo_okE 99) = true := by decide +kernel
set_option maxRecDepth 100000 in
theorem mo_k100_0 : ((mo_t100.drop 0).take 64).all (mo_okE 100) = true := by decide +kernel
set_option maxRecDepth 100000 in
theorem mo_k100_1 : ((mo_t100.drop 64).take 64).all (mo_okE 100) = true := by decide +kernel
set_option maxRecDepth 100000 in
theorem mo_k100 : mo_t100.all (mo_okE 100) = true := by
  rw [show mo_t100 = (mo_t100.drop 0).take 64 ++ ((mo_t100.drop 64).take 64) from rfl]
  simp only [List.all_append, Bool.and_eq_true]
  exact ⟨mo_k100_0, mo_k100_1⟩
set_option maxRecDepth 100000 in
theorem mo_k101 : mo_t101.all (mo_okE 101) = true := by decide +kernel
set_option maxRecDepth 100000 in
theorem mo_k102 : mo_t102.all (mo_okE 102) = true := by decide +kernel
set_option maxRecDepth 100000 in
theorem mo_k103_0 : ((mo_t103.drop 0).take 64).all (mo_okE 103) = true := by decide +kernel
set_option maxRecDepth 100000 in
theorem mo_k103_1 : ((mo_t103.drop 64).take 64).all (mo_okE 103) = true := by decide +kernel
set_option maxRecDepth 100000 in
theorem mo_k103_2 : ((mo_t103.drop 128).take 64).all (mo_okE 103) = true := by decide +kernel
set_option maxRecDepth 100000 in
theorem mo_k103 : mo_t103.all (mo_okE 103) = true := by
  rw [show mo_t103 = (mo_t103.drop 0).take 64 ++ ((mo_t103.drop 64).take 64 ++ ((mo_t103.drop 128).take 64)) from rfl]
  simp only [List.all_append, Bool.and_eq_true]
  exact ⟨mo_k103_0, mo_k103_1, mo_k103_2⟩
set_option maxRecDepth 100000 in
theorem mo_k104_0 : ((mo_t104.drop 0).take 64).all (mo_okE 104) = true := by decide +kernel
set_option maxRecDepth 100000 in
theorem mo_k104_1 : ((mo_t104.drop 64).take 64).all (mo_okE 104) = true := by decide +kernel
set_option maxRecDepth 100000 in
theorem mo_k104 : mo_t104.all (mo_okE 104) = true := by
  rw [show mo_t104 = (mo_t104.drop 0).take 64 ++ ((mo_t104.drop 64).take 64) from rfl]
  simp only [List.all_append, Bool.and_eq_true]
  exact ⟨mo_k104_0, mo_k104_1⟩
set_option maxRecDepth 100000 in
theorem mo_k105 : mo_t105.all (mo_okE 105) = true := by decide +kernel
set_option maxRecDepth 100000 in
theorem mo_k106_0 : ((mo_t106.drop 0).take 64).all (mo_okE 106) = true := by decide +kernel
set_option maxRecDepth 100000 in
theorem mo_k106_1 : ((mo_t106.drop 64).take 64).all (mo_okE 106) = true := by decide +kernel
set_option maxRecDepth 100000 in
theorem mo_k106 : mo_t106.all (mo_okE 106) = true := by
  rw [show mo_t106 = (mo_t106.drop 0).take 64 ++ ((mo_t106.drop 64).take 64) from rfl]
  simp only [List.all_append, Bool.and_eq_true]
  exact ⟨mo_k106_0, mo_k106_1⟩
set_option maxRecDepth 100000 in
theorem mo_k107_0 : ((mo_t107.drop 0).take 64).all (mo_okE 107) = true := by decide +kernel
set_option maxRecDepth 100000 in
theorem mo_k107_1 : ((mo_t107.drop 64).take 64).all (mo_okE 107) = true := by decide +kernel
set_option maxRecDepth 100000 in
theorem mo_k107 : mo_t107.all (mo_okE 107) = true := by
  rw [show mo_t107 = (mo_t107.drop 0).take 64 ++ ((mo_t107.drop 64).take 64) from rfl]
  simp only [List.all_append, Bool.and_eq_true]
  exact ⟨mo_k107_0, mo_k107_1⟩
set_option maxRecDepth 100000 in
theorem mo_k108_0 : ((mo_t108.drop 0).take 64).all (mo_okE 108) = true := by decide +kernel
set_option maxRecDepth 100000 in
theorem mo_k108_1 : ((mo_t108.drop 64).take 64).all (mo_okE 108) = true := by decide +kernel
set_option maxRecDepth 100000 in
theorem mo_k108_2 : ((mo_t108.drop 128).take 64).all (mo_okE 108) = true := by decide +kernel
set_option maxRecDepth 100000 in
theorem mo_k108 : mo_t108.all (mo_okE 108) = true := by
  rw [show mo_t108 = (mo_t108.drop 0).take 64 ++ ((mo_t108.drop 64).take 64 ++ ((mo_t108.drop 128).take 64)) from rfl]
  simp only [List.all_append, Bool.and_eq_true]
  exact ⟨mo_k108_0, mo_k108_1, mo_k108_2⟩
set_option maxRecDepth 100000 in
theorem mo_k109_0 : ((mo_t109.drop 0).take 64).all (mo_okE 109) = true := by decide +kernel
set_option maxRecDepth 100000 in
theorem mo_k109_1 : ((mo_t109.drop 64).take 64).all (mo_okE 109) = true := by decide +kernel
set_option maxRecDepth 100000 in
theorem mo_k109 : mo_t109.all (mo_okE 109) = true := by
  rw [show mo_t109 = (mo_t109.drop 0).take 64 ++ ((mo_t109.drop 64).take 64) from rfl]
  simp only [List.all_append, Bool.and_eq_true]
  exact ⟨mo_k109_0, mo_k109_1⟩
set_option maxRecDepth 100000 in
theorem mo_k110_0 : ((mo_t110.drop 0).take 64).all (mo_okE 110) = true := by decide +kernel
set_option maxRecDepth 100000 in
theorem mo_k110_1 : ((mo_t110.drop 64).take 64).all (mo_okE 110) = true := by decide +kernel
set_option maxRecDepth 100000 in
theorem mo_k110_2 : ((mo_t110.drop 128).take 64).all (mo_okE 110) = true := by decide +kernel
set_option maxRecDepth 100000 in
theorem mo_k110 : mo_t110.all (mo_okE 110) = true := by
  rw [show mo_t110 = (mo_t110.drop 0).take 64 ++ ((mo_t110.drop 64).take 64 ++ ((mo_t110.drop 128).take 64)) from rfl]
  simp only [List.all_append, Bool.and_eq_true]
  exact ⟨mo_k110_0, mo_k110_1, mo_k110_2⟩
set_option maxRecDepth 100000 in
theorem mo_k111 : mo_t111.all (mo_okE 111) = true := by decide +kernel
set_option maxRecDepth 100000 in
theorem mo_k112 : mo_t112.all (mo_okE 112) = true := by decide +kernel
set_option maxRecDepth 100000 in
theorem mo_k113_0 : ((mo_t113.drop 0).take 64).all (mo_okE 113) = true := by decide +kernel
set_option maxRecDepth 100000 in
theorem mo_k113_1 : ((mo_t113.drop 64).take 64).all (mo_okE 113) = true := by decide +kernel
set_option maxRecDepth 100000 in
theorem mo_k113 : mo_t113.all (mo_okE 113) = true := by
  rw [show mo_t113 = (mo_t113.drop 0).take 64 ++ ((mo_t113.drop 64).take 64) from rfl]
  simp only [List.all_append, Bool.and_eq_true]
  exact ⟨mo_k113_0, mo_k113_1⟩
set_option maxRecDepth 100000 in
theorem mo_k114 : mo_t114.all (mo_okE 114) = true := by decide +kernel
set_option maxRecDepth 100000 in
theorem mo_k115 : mo_t115.all (mo_okE 115) = true := by decide +kernel
set_option maxRecDepth 100000 in
theorem mo_k116 : mo_t116.all (mo_okE 116) = true := by decide +kernel
set_option maxRecDepth 100000 in
theorem mo_k117 : mo_t117.all (mo_okE 117) = true := by decide +kernel
set_option maxRecDepth 100000 in
theorem mo_k118 : mo_t118.all (mo_okE 118) = true := by decide +kernel
set_option maxRecDepth 100000 in
theorem mo_k119 : mo_t119.all (mo_okE 119) = true := by decide +kernel
set_option maxRecDepth 100000 in
theorem mo_k120 : mo_t120.all (mo_okE 120) = true := by decide +kernel
set_option maxRecDepth 100000 in
theorem mo_k121 : mo_t121.all (mo_okE 121) = true := by decide +kernel
set_option maxRecDepth 100000 in
theorem mo_k122 : mo_t122.all (mo_okE 122) = true := by decide +kernel
set_option maxRecDepth 100000 in
theorem mo_k123 : mo_t123.all (mo_okE 123) = true := by decide +kernel
set_option maxRecDepth 100000 in
theorem mo_k124 : mo_t124.all (mo_okE 124) = true := by decide +kernel
set_option maxRecDepth 100000 in
theorem mo_k125 : mo_t125.all (mo_okE 125) = true := by decide +kernel
set_option maxRecDepth 100000 in
theorem mo_k126_0 : ((mo_t126.drop 0).take 64).all (mo_okE 126) = true := by decide +kernel
set_option maxRecDepth 100000 in
theorem mo_k126_1 : ((mo_t126.drop 64).take 64).all (mo_okE 126) = true := by decide +kernel
set_option maxRecDepth 100000 in
theorem mo_k126_2 : ((mo_t126.drop 128).take 64).all (mo_okE 126) = true := by decide +kernel
set_option maxRecDepth 100000 in
theorem mo_k126_3 : ((mo_t126.drop 192).take 64).all (mo_okE 126) = true := by decide +kernel
set_option maxRecDepth 100000 in
theorem mo_k126_4 : ((mo_t126.drop 256).take 64).all (mo_okE 126) = true := by decide +kernel
set_option maxRecDepth 100000 in
theorem mo_k126_5 : ((mo_t126.drop 320).take 64).all (mo_okE 126) = true := by decide +kernel
set_option maxRecDepth 100000 in
theorem mo_k126_6 : ((mo_t126.drop 384).take 64).all (mo_okE 126) = true := by decide +kernel
set_option maxRecDepth 100000 in
theorem mo_k126_7 : ((mo_t126.drop 448).take 64).all (mo_okE 126) = true := by decide +kernel
set_option maxRecDepth 100000 in
theorem mo_k126_8 : ((mo_t126.drop 512).take 64).all (mo_okE 126) = true := by decide +kernel
set_option maxRecDepth 100000 in
theorem mo_k126_9 : ((mo_t126.drop 576).take 64).all (mo_okE 126) = true := by decide +kernel
set_option maxRecDepth 100000 in
theorem mo_k126_10 : ((mo_t126.drop 640).take 64).all (mo_okE 126) = true := by decide +kernel
set_option maxRecDepth 100000 in
theorem mo_k126_11 : ((mo_t126.drop 704).take 64).all (mo_okE 126) = true := by decide +kernel
set_option maxRecDepth 100000 in
theorem mo_k126 : mo_t126.all (mo_okE 126) = true := by
  rw [show mo_t126 = (mo_t126.drop 0).take 64 ++ ((mo_t126.drop 64).take 64 ++ ((mo_t126.drop 128).take 64 ++ ((mo_t126.drop 192).take 64 ++ ((mo_t126.drop 256).take 64 ++ ((mo_t126.drop 320).take 64 ++ ((mo_t126.drop 384).take 64 ++ ((mo_t126.drop 448).take 64 ++ ((mo_t126.drop 512).take 64 ++ ((mo_t126.drop 576).take 64 ++ ((mo_t126.drop 640).take 64 ++ ((mo_t126.drop 704).take 64))))))))))) from rfl]
  simp only [List.all_append, Bool.and_eq_true]
  exact ⟨mo_k126_0, mo_k126_1, mo_k126_2, mo_k126_3, mo_k126_4, mo_k126_5, mo_k126_6, mo_k126_7, mo_k126_8, mo_k126_9, mo_k126_10, mo_k126_11⟩
