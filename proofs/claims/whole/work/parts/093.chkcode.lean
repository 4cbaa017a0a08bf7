set_option maxRecDepth 100000 in
theorem mo_k104_0 : ((mo_t104.drop 0).take 48).all (mo_okE 104) = true := by decide +kernel
set_option maxRecDepth 100000 in
theorem mo_k104_1 : ((mo_t104.drop 48).take 48).all (mo_okE 104) = true := by decide +kernel
set_option maxRecDepth 100000 in
theorem mo_k104 : mo_t104.all (mo_okE 104) = true := by
  rw [show mo_t104 = (mo_t104.drop 0).take 48 ++ ((mo_t104.drop 48).take 48) from rfl]
  simp only [List.all_append, Bool.and_eq_true]
  exact ⟨mo_k104_0, mo_k104_1⟩
set_option maxRecDepth 100000 in
theorem mo_k105 : mo_t105.all (mo_okE 105) = true := by decide +kernel
set_option maxRecDepth 100000 in
theorem mo_k106_0 : ((mo_t106.drop 0).take 48).all (mo_okE 106) = true := by decide +kernel
set_option maxRecDepth 100000 in
theorem mo_k106_1 : ((mo_t106.drop 48).take 48).all (mo_okE 106) = true := by decide +kernel
set_option maxRecDepth 100000 in
theorem mo_k106_2 : ((mo_t106.drop 96).take 48).all (mo_okE 106) = true := by decide +kernel
set_option maxRecDepth 100000 in
theorem mo_k106 : mo_t106.all (mo_okE 106) = true := by
  rw [show mo_t106 = (mo_t106.drop 0).take 48 ++ ((mo_t106.drop 48).take 48 ++ ((mo_t106.drop 96).take 48)) from rfl]
  simp only [List.all_append, Bool.and_eq_true]
  exact ⟨mo_k106_0, mo_k106_1, mo_k106_2⟩
set_option maxRecDepth 100000 in
theorem mo_k107_0 : ((mo_t107.drop 0).take 48).all (mo_okE 107) = true := by decide +kernel
set_option maxRecDepth 100000 in
theorem mo_k107_1 : ((mo_t107.drop 48).take 48).all (mo_okE 107) = true := by decide +kernel
set_option maxRecDepth 100000 in
theorem mo_k107 : mo_t107.all (mo_okE 107) = true := by
  rw [show mo_t107 = (mo_t107.drop 0).take 48 ++ ((mo_t107.drop 48).take 48) from rfl]
  simp only [List.all_append, Bool.and_eq_true]
  exact ⟨mo_k107_0, mo_k107_1⟩
set_option maxRecDepth 100000 in
theorem mo_k108_0 : ((mo_t108.drop 0).take 48).all (mo_okE 108) = true := by decide +kernel
set_option maxRecDepth 100000 in
theorem mo_k108_1 : ((mo_t108.drop 48).take 48).all (mo_okE 108) = true := by decide +kernel
set_option maxRecDepth 100000 in
theorem mo_k108_2 : ((mo_t108.drop 96).take 48).all (mo_okE 108) = true := by decide +kernel
set_option maxRecDepth 100000 in
theorem mo_k108 : mo_t108.all (mo_okE 108) = true := by
  rw [show mo_t108 = (mo_t108.drop 0).take 48 ++ ((mo_t108.drop 48).take 48 ++ ((mo_t108.drop 96).take 48)) from rfl]
  simp only [List.all_append, Bool.and_eq_true]
  exact ⟨mo_k108_0, mo_k108_1, mo_k108_2⟩
set_option maxRecDepth 100000 in
theorem mo_k109_0 : ((mo_t109.drop 0).take 48).all (mo_okE 109) = true := by decide +kernel
set_option maxRecDepth 100000 in
theorem mo_k109_1 : ((mo_t109.drop 48).take 48).all (mo_okE 109) = true := by decide +kernel
set_option maxRecDepth 100000 in
theorem mo_k109 : mo_t109.all (mo_okE 109) = true := by
  rw [show mo_t109 = (mo_t109.drop 0).take 48 ++ ((mo_t109.drop 48).take 48) from rfl]
  simp only [List.all_append, Bool.and_eq_true]
  exact ⟨mo_k109_0, mo_k109_1⟩
set_option maxRecDepth 100000 in
theorem mo_k110_0 : ((mo_t110.drop 0).take 48).all (mo_okE 110) = true := by decide +kernel
set_option maxRecDepth 100000 in
theorem mo_k110_1 : ((mo_t110.drop 48).take 48).all (mo_okE 110) = true := by decide +kernel
set_option maxRecDepth 100000 in
theorem mo_k110_2 : ((mo_t110.drop 96).take 48).all (mo_okE 110) = true := by decide +kernel
set_option maxRecDepth 100000 in
theorem mo_k110_3 : ((mo_t110.drop 144).take 48).all (mo_okE 110) = true := by decide +kernel
set_option maxRecDepth 100000 in
theorem mo_k110 : mo_t110.all (mo_okE 110) = true := by
  rw [show mo_t110 = (mo_t110.drop 0).take 48 ++ ((mo_t110.drop 48).take 48 ++ ((mo_t110.drop 96).take 48 ++ ((mo_t110.drop 144).take 48))) from rfl]
  simp only [List.all_append, Bool.and_eq_true]
  exact ⟨mo_k110_0, mo_k110_1, mo_k110_2, mo_k110_3⟩
set_option maxRecDepth 100000 in
theorem mo_k111 : mo_t111.all (mo_okE 111) = true := by decide +kernel
set_option maxRecDepth 100000 in
theorem mo_k112_0 : ((mo_t112.drop 0).take 48).all (mo_okE 112) = true := by decide +kernel
set_option maxRecDepth 100000 in
theorem mo_k112_1 : ((mo_t112.drop 48).take 48).all (mo_okE 112) = true := by decide +kernel
set_option maxRecDepth 100000 in
theorem mo_k112 : mo_t112.all (mo_okE 112) = true := by
  rw [show mo_t112 = (mo_t112.drop 0).take 48 ++ ((mo_t112.drop 48).take 48) from rfl]
  simp only [List.all_append, Bool.and_eq_true]
  exact ⟨mo_k112_0, mo_k112_1⟩
set_option maxRecDepth 100000 in
theorem mo_k113_0 : ((mo_t113.drop 0).take 48).all (mo_okE 113) = true := by decide +kernel
set_option maxRecDepth 100000 in
theorem mo_k113_1 : ((mo_t113.drop 48).take 48).all (mo_okE 113) = true := by decide +kernel
set_option maxRecDepth 100000 in
theorem mo_k113 : mo_t113.all (mo_okE 113) = true := by
  rw [show mo_t113 = (mo_t113.drop 0).take 48 ++ ((mo_t113.drop 48).take 48) from rfl]
  simp only [List.all_append, Bool.and_eq_true]
  exact ⟨mo_k113_0, mo_k113_1⟩
set_option maxRecDepth 100000 in
theorem mo_k114 : mo_t114.all (mo_okE 114) = true := by decide +kernel
set_option maxRecDepth 100000 in
theorem mo_k115 : mo_t115.all (mo_okE 115) = true := by decide +kernel
set_option maxRecDepth 100000 in
theorem mo_k116 : mo_t116.all (mo_okE 116) = true := by decide +kernel
set_option maxRecDepth 100000 in
theorem mo_k117 : mo_t117.all (mo_okE 117) = true := by decide +kernel
set_option maxRecDepth 100000 in
theorem mo_k118 : mo_t118.all (mo_okE 118) = true := by decide +kernel
set_option maxRecDepth 100000 in
theorem mo_k119 : mo_t119.all (mo_okE 119) = true := by decide +kernel
set_option maxRecDepth 100000 in
theorem mo_k120 : mo_t120.all (mo_okE 120) = true := by decide +kernel
set_option maxRecDepth 100000 in
theorem mo_k121_0 : ((mo_t121.drop 0).take 48).all (mo_okE 121) = true := by decide +kernel
set_option maxRecDepth 100000 in
theorem mo_k121_1 : ((mo_t121.drop 48).take 48).all (mo_okE 121) = true := by decide +kernel
set_option maxRecDepth 100000 in
theorem mo_k121 : mo_t121.all (mo_okE 121) = true := by
  rw [show mo_t121 = (mo_t121.drop 0).take 48 ++ ((mo_t121.drop 48).take 48) from rfl]
  simp only [List.all_append, Bool.and_eq_true]
  exact ⟨mo_k121_0, mo_k121_1⟩
set_option maxRecDepth 100000 in
theorem mo_k122 : mo_t122.all (mo_okE 122) = true := by decide +kernel
set_option maxRecDepth 100000 in
theorem mo_k123 : mo_t123.all (mo_okE 123) = true := by decide +kernel
set_option maxRecDepth 100000 in
theorem mo_k124 : mo_t124.all (mo_okE 124) = true := by decide +kernel
set_option maxRecDepth 100000 in
theorem mo_k125 : mo_t125.all (mo_okE 125) = true := by decide +kernel
