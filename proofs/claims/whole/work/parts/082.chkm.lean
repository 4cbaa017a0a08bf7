set_option maxRecDepth 100000 in
theorem mo_m0 : (List.range' 0 7).all mo_okM = true := by decide +kernel
set_option maxRecDepth 100000 in
theorem mo_m1 : (List.range' 7 7).all mo_okM = true := by decide +kernel
set_option maxRecDepth 100000 in
theorem mo_m2 : (List.range' 14 7).all mo_okM = true := by decide +kernel
set_option maxRecDepth 100000 in
theorem mo_m3 : (List.range' 21 7).all mo_okM = true := by decide +kernel
set_option maxRecDepth 100000 in
theorem mo_m4 : (List.range' 28 7).all mo_okM = true := by decide +kernel
set_option maxRecDepth 100000 in
theorem mo_m5 : (List.range' 35 7).all mo_okM = true := by decide +kernel
set_option maxRecDepth 100000 in
theorem mo_m6 : (List.range' 42 7).all mo_okM = true := by decide +kernel
set_option maxRecDepth 100000 in
theorem mo_m7 : (List.range' 49 7).all mo_okM = true := by decide +kernel
set_option maxRecDepth 100000 in
theorem mo_m8 : (List.range' 56 7).all mo_okM = true := by decide +kernel
set_option maxRecDepth 100000 in
theorem mo_m9 : (List.range' 63 7).all mo_okM = true := by decide +kernel
set_option maxRecDepth 100000 in
theorem mo_m10 : (List.range' 70 7).all mo_okM = true := by decide +kernel
set_option maxRecDepth 100000 in
theorem mo_m11 : (List.range' 77 7).all mo_okM = true := by decide +kernel
set_option maxRecDepth 100000 in
theorem mo_m12 : (List.range' 84 7).all mo_okM = true := by decide +kernel
set_option maxRecDepth 100000 in
theorem mo_m13 : (List.range' 91 7).all mo_okM = true := by decide +kernel
set_option maxRecDepth 100000 in
theorem mo_m14 : (List.range' 98 7).all mo_okM = true := by decide +kernel
set_option maxRecDepth 100000 in
theorem mo_m15 : (List.range' 105 7).all mo_okM = true := by decide +kernel
set_option maxRecDepth 100000 in
theorem mo_m16 : (List.range' 112 7).all mo_okM = true := by decide +kernel
set_option maxRecDepth 100000 in
theorem mo_m17 : (List.range' 119 7).all mo_okM = true := by decide +kernel
set_option maxRecDepth 100000 in
theorem mo_okM_all (mj : Nat) (h : mj < 126) : mo_okM mj = true := by
  by_cases h0 : mj < 7
  · exact List.all_eq_true.mp mo_m0 mj (List.mem_range'_1.mpr ⟨by omega, by omega⟩)
  by_cases h1 : mj < 14
  · exact List.all_eq_true.mp mo_m1 mj (List.mem_range'_1.mpr ⟨by omega, by omega⟩)
  by_cases h2 : mj < 21
  · exact List.all_eq_true.mp mo_m2 mj (List.mem_range'_1.mpr ⟨by omega, by omega⟩)
  by_cases h3 : mj < 28
  · exact List.all_eq_true.mp mo_m3 mj (List.mem_range'_1.mpr ⟨by omega, by omega⟩)
  by_cases h4 : mj < 35
  · exact List.all_eq_true.mp mo_m4 mj (List.mem_range'_1.mpr ⟨by omega, by omega⟩)
  by_cases h5 : mj < 42
  · exact List.all_eq_true.mp mo_m5 mj (List.mem_range'_1.mpr ⟨by omega, by omega⟩)
  by_cases h6 : mj < 49
  · exact List.all_eq_true.mp mo_m6 mj (List.mem_range'_1.mpr ⟨by omega, by omega⟩)
  by_cases h7 : mj < 56
  · exact List.all_eq_true.mp mo_m7 mj (List.mem_range'_1.mpr ⟨by omega, by omega⟩)
  by_cases h8 : mj < 63
  · exact List.all_eq_true.mp mo_m8 mj (List.mem_range'_1.mpr ⟨by omega, by omega⟩)
  by_cases h9 : mj < 70
  · exact List.all_eq_true.mp mo_m9 mj (List.mem_range'_1.mpr ⟨by omega, by omega⟩)
  by_cases h10 : mj < 77
  · exact List.all_eq_true.mp mo_m10 mj (List.mem_range'_1.mpr ⟨by omega, by omega⟩)
  by_cases h11 : mj < 84
  · exact List.all_eq_true.mp mo_m11 mj (List.mem_range'_1.mpr ⟨by omega, by omega⟩)
  by_cases h12 : mj < 91
  · exact List.all_eq_true.mp mo_m12 mj (List.mem_range'_1.mpr ⟨by omega, by omega⟩)
  by_cases h13 : mj < 98
  · exact List.all_eq_true.mp mo_m13 mj (List.mem_range'_1.mpr ⟨by omega, by omega⟩)
  by_cases h14 : mj < 105
  · exact List.all_eq_true.mp mo_m14 mj (List.mem_range'_1.mpr ⟨by omega, by omega⟩)
  by_cases h15 : mj < 112
  · exact List.all_eq_true.mp mo_m15 mj (List.mem_range'_1.mpr ⟨by omega, by omega⟩)
  by_cases h16 : mj < 119
  · exact List.all_eq_true.mp mo_m16 mj (List.mem_range'_1.mpr ⟨by omega, by omega⟩)
  by_cases h17 : mj < 126
  · exact List.all_eq_true.mp mo_m17 mj (List.mem_range'_1.mpr ⟨by omega, by omega⟩)
  · omega
