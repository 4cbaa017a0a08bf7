set_option maxRecDepth 100000 in
theorem mo_in0 : ∀ w ∈ u_ws RX0 TX0 3, w ∈ lw_tbl := by
  intro w hw
  rw [show u_ws RX0 TX0 3 = [430, 432, 434].filterMap (fun i => lw_tbl[i]?) from by decide +kernel] at hw
  obtain ⟨i, -, hi⟩ := List.mem_filterMap.mp hw
  exact List.mem_of_getElem? hi
set_option maxRecDepth 100000 in
theorem mo_ck0 : (∀ w ∈ u_ws RX0 TX0 3, w ∈ lw_tbl) ∧ (∀ k, k < 3 → parseFieldDescriptor (TX0 k).2.2.1 = some (mo_cty 0 k)) ∧ (∀ a, a < 3 → ∀ b, b < 3 → a ≠ b → (TX0 a).2.1 ≠ (TX0 b).2.1) ∧ (∀ k, k < 3 → (TX0 k).1 = RX0 ∧ mo_ktb (mo_kd (TX0 k).2.2.1) (mo_cty 0 k) = true) ∧ Cond.instantiable RX0 3 ∈ lw_tbl ∧ Cond.initialized RX0 ∈ lw_tbl ∧ 3 ≤ 64 := ⟨mo_in0, tyX0_ok, nmX0, by decide +kernel, List.mem_of_getElem? (i := 419) (by decide +kernel), List.mem_of_getElem? (i := 52) (by decide +kernel), by decide⟩
set_option maxRecDepth 100000 in
theorem mo_in1 : ∀ w ∈ u_ws RX1 TX1 4, w ∈ lw_tbl := by
  intro w hw
  rw [show u_ws RX1 TX1 4 = [320, 322, 324, 326].filterMap (fun i => lw_tbl[i]?) from by decide +kernel] at hw
  obtain ⟨i, -, hi⟩ := List.mem_filterMap.mp hw
  exact List.mem_of_getElem? hi
set_option maxRecDepth 100000 in
theorem mo_ck1 : (∀ w ∈ u_ws RX1 TX1 4, w ∈ lw_tbl) ∧ (∀ k, k < 4 → parseFieldDescriptor (TX1 k).2.2.1 = some (mo_cty 1 k)) ∧ (∀ a, a < 4 → ∀ b, b < 4 → a ≠ b → (TX1 a).2.1 ≠ (TX1 b).2.1) ∧ (∀ k, k < 4 → (TX1 k).1 = RX1 ∧ mo_ktb (mo_kd (TX1 k).2.2.1) (mo_cty 1 k) = true) ∧ Cond.instantiable RX1 4 ∈ lw_tbl ∧ Cond.initialized RX1 ∈ lw_tbl ∧ 4 ≤ 64 := ⟨mo_in1, tyX1_ok, nmX1, by decide +kernel, List.mem_of_getElem? (i := 305) (by decide +kernel), List.mem_of_getElem? (i := 51) (by decide +kernel), by decide⟩
set_option maxRecDepth 100000 in
theorem mo_in2 : ∀ w ∈ u_ws RX2 TX2 4, w ∈ lw_tbl := by
  intro w hw
  rw [show u_ws RX2 TX2 4 = [281, 283, 285, 287].filterMap (fun i => lw_tbl[i]?) from by decide +kernel] at hw
  obtain ⟨i, -, hi⟩ := List.mem_filterMap.mp hw
  exact List.mem_of_getElem? hi
set_option maxRecDepth 100000 in
theorem mo_ck2 : (∀ w ∈ u_ws RX2 TX2 4, w ∈ lw_tbl) ∧ (∀ k, k < 4 → parseFieldDescriptor (TX2 k).2.2.1 = some (mo_cty 2 k)) ∧ (∀ a, a < 4 → ∀ b, b < 4 → a ≠ b → (TX2 a).2.1 ≠ (TX2 b).2.1) ∧ (∀ k, k < 4 → (TX2 k).1 = RX2 ∧ mo_ktb (mo_kd (TX2 k).2.2.1) (mo_cty 2 k) = true) ∧ Cond.instantiable RX2 4 ∈ lw_tbl ∧ Cond.initialized RX2 ∈ lw_tbl ∧ 4 ≤ 64 := ⟨mo_in2, tyX2_ok, nmX2, by decide +kernel, List.mem_of_getElem? (i := 268) (by decide +kernel), List.mem_of_getElem? (i := 49) (by decide +kernel), by decide⟩
set_option maxRecDepth 100000 in
theorem mo_in3 : ∀ w ∈ u_ws RX3 TX3 3, w ∈ lw_tbl := by
  intro w hw
  rw [show u_ws RX3 TX3 3 = [188, 190, 192].filterMap (fun i => lw_tbl[i]?) from by decide +kernel] at hw
  obtain ⟨i, -, hi⟩ := List.mem_filterMap.mp hw
  exact List.mem_of_getElem? hi
set_option maxRecDepth 100000 in
theorem mo_ck3 : (∀ w ∈ u_ws RX3 TX3 3, w ∈ lw_tbl) ∧ (∀ k, k < 3 → parseFieldDescriptor (TX3 k).2.2.1 = some (mo_cty 3 k)) ∧ (∀ a, a < 3 → ∀ b, b < 3 → a ≠ b → (TX3 a).2.1 ≠ (TX3 b).2.1) ∧ (∀ k, k < 3 → (TX3 k).1 = RX3 ∧ mo_ktb (mo_kd (TX3 k).2.2.1) (mo_cty 3 k) = true) ∧ Cond.instantiable RX3 3 ∈ lw_tbl ∧ Cond.initialized RX3 ∈ lw_tbl ∧ 3 ≤ 64 := ⟨mo_in3, tyX3_ok, nmX3, by decide +kernel, List.mem_of_getElem? (i := 180) (by decide +kernel), List.mem_of_getElem? (i := 47) (by decide +kernel), by decide⟩
set_option maxRecDepth 100000 in
theorem mo_in4 : ∀ w ∈ u_ws RX4 TX4 4, w ∈ lw_tbl := by
  intro w hw
  rw [show u_ws RX4 TX4 4 = [107, 109, 111, 113].filterMap (fun i => lw_tbl[i]?) from by decide +kernel] at hw
  obtain ⟨i, -, hi⟩ := List.mem_filterMap.mp hw
  exact List.mem_of_getElem? hi
set_option maxRecDepth 100000 in
theorem mo_ck4 : (∀ w ∈ u_ws RX4 TX4 4, w ∈ lw_tbl) ∧ (∀ k, k < 4 → parseFieldDescriptor (TX4 k).2.2.1 = some (mo_cty 4 k)) ∧ (∀ a, a < 4 → ∀ b, b < 4 → a ≠ b → (TX4 a).2.1 ≠ (TX4 b).2.1) ∧ (∀ k, k < 4 → (TX4 k).1 = RX4 ∧ mo_ktb (mo_kd (TX4 k).2.2.1) (mo_cty 4 k) = true) ∧ Cond.instantiable RX4 4 ∈ lw_tbl ∧ Cond.initialized RX4 ∈ lw_tbl ∧ 4 ≤ 64 := ⟨mo_in4, tyX4_ok, nmX4, by decide +kernel, List.mem_of_getElem? (i := 94) (by decide +kernel), List.mem_of_getElem? (i := 44) (by decide +kernel), by decide⟩
set_option maxRecDepth 100000 in
theorem mo_in5 : ∀ w ∈ u_ws RX5 TX5 8, w ∈ lw_tbl := by
  intro w hw
  rw [show u_ws RX5 TX5 8 = [207, 209, 211, 213, 215, 217, 219, 221].filterMap (fun i => lw_tbl[i]?) from by decide +kernel] at hw
  obtain ⟨i, -, hi⟩ := List.mem_filterMap.mp hw
  exact List.mem_of_getElem? hi
set_option maxRecDepth 100000 in
theorem mo_ck5 : (∀ w ∈ u_ws RX5 TX5 8, w ∈ lw_tbl) ∧ (∀ k, k < 8 → parseFieldDescriptor (TX5 k).2.2.1 = some (mo_cty 5 k)) ∧ (∀ a, a < 8 → ∀ b, b < 8 → a ≠ b → (TX5 a).2.1 ≠ (TX5 b).2.1) ∧ (∀ k, k < 8 → (TX5 k).1 = RX5 ∧ mo_ktb (mo_kd (TX5 k).2.2.1) (mo_cty 5 k) = true) ∧ Cond.instantiable RX5 8 ∈ lw_tbl ∧ Cond.initialized RX5 ∈ lw_tbl ∧ 8 ≤ 64 := ⟨mo_in5, tyX5_ok, nmX5, by decide +kernel, List.mem_of_getElem? (i := 63) (by decide +kernel), List.mem_of_getElem? (i := 42) (by decide +kernel), by decide⟩
set_option maxRecDepth 100000 in
theorem mo_in6 : ∀ w ∈ u_ws RX6 TX6 4, w ∈ lw_tbl := by
  intro w hw
  rw [show u_ws RX6 TX6 4 = [169, 171, 173, 175].filterMap (fun i => lw_tbl[i]?) from by decide +kernel] at hw
  obtain ⟨i, -, hi⟩ := List.mem_filterMap.mp hw
  exact List.mem_of_getElem? hi
set_option maxRecDepth 100000 in
theorem mo_ck6 : (∀ w ∈ u_ws RX6 TX6 4, w ∈ lw_tbl) ∧ (∀ k, k < 4 → parseFieldDescriptor (TX6 k).2.2.1 = some (mo_cty 6 k)) ∧ (∀ a, a < 4 → ∀ b, b < 4 → a ≠ b → (TX6 a).2.1 ≠ (TX6 b).2.1) ∧ (∀ k, k < 4 → (TX6 k).1 = RX6 ∧ mo_ktb (mo_kd (TX6 k).2.2.1) (mo_cty 6 k) = true) ∧ Cond.instantiable RX6 4 ∈ lw_tbl ∧ Cond.initialized RX6 ∈ lw_tbl ∧ 4 ≤ 64 := ⟨mo_in6, tyX6_ok, nmX6, by decide +kernel, List.mem_of_getElem? (i := 155) (by decide +kernel), List.mem_of_getElem? (i := 46) (by decide +kernel), by decide⟩
set_option maxRecDepth 100000 in
theorem mo_in7 : ∀ w ∈ u_ws RX7 TX7 4, w ∈ lw_tbl := by
  intro w hw
  rw [show u_ws RX7 TX7 4 = [84, 86, 88, 90].filterMap (fun i => lw_tbl[i]?) from by decide +kernel] at hw
  obtain ⟨i, -, hi⟩ := List.mem_filterMap.mp hw
  exact List.mem_of_getElem? hi
set_option maxRecDepth 100000 in
theorem mo_ck7 : (∀ w ∈ u_ws RX7 TX7 4, w ∈ lw_tbl) ∧ (∀ k, k < 4 → parseFieldDescriptor (TX7 k).2.2.1 = some (mo_cty 7 k)) ∧ (∀ a, a < 4 → ∀ b, b < 4 → a ≠ b → (TX7 a).2.1 ≠ (TX7 b).2.1) ∧ (∀ k, k < 4 → (TX7 k).1 = RX7 ∧ mo_ktb (mo_kd (TX7 k).2.2.1) (mo_cty 7 k) = true) ∧ Cond.instantiable RX7 4 ∈ lw_tbl ∧ Cond.initialized RX7 ∈ lw_tbl ∧ 4 ≤ 64 := ⟨mo_in7, tyX7_ok, nmX7, by decide +kernel, List.mem_of_getElem? (i := 69) (by decide +kernel), List.mem_of_getElem? (i := 43) (by decide +kernel), by decide⟩
set_option maxRecDepth 100000 in
theorem mo_in8 : ∀ w ∈ u_ws RX8 TX8 6, w ∈ lw_tbl := by
  intro w hw
  rw [show u_ws RX8 TX8 6 = [139, 141, 143, 145, 147, 149].filterMap (fun i => lw_tbl[i]?) from by decide +kernel] at hw
  obtain ⟨i, -, hi⟩ := List.mem_filterMap.mp hw
  exact List.mem_of_getElem? hi
set_option maxRecDepth 100000 in
theorem mo_ck8 : (∀ w ∈ u_ws RX8 TX8 6, w ∈ lw_tbl) ∧ (∀ k, k < 6 → parseFieldDescriptor (TX8 k).2.2.1 = some (mo_cty 8 k)) ∧ (∀ a, a < 6 → ∀ b, b < 6 → a ≠ b → (TX8 a).2.1 ≠ (TX8 b).2.1) ∧ (∀ k, k < 6 → (TX8 k).1 = RX8 ∧ mo_ktb (mo_kd (TX8 k).2.2.1) (mo_cty 8 k) = true) ∧ Cond.instantiable RX8 6 ∈ lw_tbl ∧ Cond.initialized RX8 ∈ lw_tbl ∧ 6 ≤ 64 := ⟨mo_in8, tyX8_ok, nmX8, by decide +kernel, List.mem_of_getElem? (i := 119) (by decide +kernel), List.mem_of_getElem? (i := 45) (by decide +kernel), by decide⟩
set_option maxRecDepth 100000 in
theorem mo_in9 : ∀ w ∈ u_ws RX9 TX9 5, w ∈ lw_tbl := by
  intro w hw
  rw [show u_ws RX9 TX9 5 = [473, 475, 477, 479, 481].filterMap (fun i => lw_tbl[i]?) from by decide +kernel] at hw
  obtain ⟨i, -, hi⟩ := List.mem_filterMap.mp hw
  exact List.mem_of_getElem? hi
set_option maxRecDepth 100000 in
theorem mo_ck9 : (∀ w ∈ u_ws RX9 TX9 5, w ∈ lw_tbl) ∧ (∀ k, k < 5 → parseFieldDescriptor (TX9 k).2.2.1 = some (mo_cty 9 k)) ∧ (∀ a, a < 5 → ∀ b, b < 5 → a ≠ b → (TX9 a).2.1 ≠ (TX9 b).2.1) ∧ (∀ k, k < 5 → (TX9 k).1 = RX9 ∧ mo_ktb (mo_kd (TX9 k).2.2.1) (mo_cty 9 k) = true) ∧ Cond.instantiable RX9 5 ∈ lw_tbl ∧ Cond.initialized RX9 ∈ lw_tbl ∧ 5 ≤ 64 := ⟨mo_in9, tyX9_ok, nmX9, by decide +kernel, List.mem_of_getElem? (i := 458) (by decide +kernel), List.mem_of_getElem? (i := 53) (by decide +kernel), by decide⟩
set_option maxRecDepth 100000 in
theorem mo_in10 : ∀ w ∈ u_ws RX10 TX10 9, w ∈ lw_tbl := by
  intro w hw
  rw [show u_ws RX10 TX10 9 = [355, 357, 359, 361, 363, 365, 367, 369, 371].filterMap (fun i => lw_tbl[i]?) from by decide +kernel] at hw
  obtain ⟨i, -, hi⟩ := List.mem_filterMap.mp hw
  exact List.mem_of_getElem? hi
set_option maxRecDepth 100000 in
theorem mo_ck10 : (∀ w ∈ u_ws RX10 TX10 9, w ∈ lw_tbl) ∧ (∀ k, k < 9 → parseFieldDescriptor (TX10 k).2.2.1 = some (mo_cty 10 k)) ∧ (∀ a, a < 9 → ∀ b, b < 9 → a ≠ b → (TX10 a).2.1 ≠ (TX10 b).2.1) ∧ (∀ k, k < 9 → (TX10 k).1 = RX10 ∧ mo_ktb (mo_kd (TX10 k).2.2.1) (mo_cty 10 k) = true) ∧ Cond.instantiable RX10 9 ∈ lw_tbl ∧ Cond.initialized RX10 ∈ lw_tbl ∧ 9 ≤ 64 := ⟨mo_in10, tyX10_ok, nmX10, by decide +kernel, List.mem_of_getElem? (i := 299) (by decide +kernel), List.mem_of_getElem? (i := 50) (by decide +kernel), by decide⟩
set_option maxRecDepth 100000 in
theorem mo_in11 : ∀ w ∈ u_ws RX11 TX11 3, w ∈ lw_tbl := by
  intro w hw
  rw [show u_ws RX11 TX11 3 = [227, 229, 231].filterMap (fun i => lw_tbl[i]?) from by decide +kernel] at hw
  obtain ⟨i, -, hi⟩ := List.mem_filterMap.mp hw
  exact List.mem_of_getElem? hi
set_option maxRecDepth 100000 in
theorem mo_ck11 : (∀ w ∈ u_ws RX11 TX11 3, w ∈ lw_tbl) ∧ (∀ k, k < 3 → parseFieldDescriptor (TX11 k).2.2.1 = some (mo_cty 11 k)) ∧ (∀ a, a < 3 → ∀ b, b < 3 → a ≠ b → (TX11 a).2.1 ≠ (TX11 b).2.1) ∧ (∀ k, k < 3 → (TX11 k).1 = RX11 ∧ mo_ktb (mo_kd (TX11 k).2.2.1) (mo_cty 11 k) = true) ∧ Cond.instantiable RX11 3 ∈ lw_tbl ∧ Cond.initialized RX11 ∈ lw_tbl ∧ 3 ≤ 64 := ⟨mo_in11, tyX11_ok, nmX11, by decide +kernel, List.mem_of_getElem? (i := 55) (by decide +kernel), List.mem_of_getElem? (i := 41) (by decide +kernel), by decide⟩
set_option maxRecDepth 100000 in
theorem mo_in12 : ∀ w ∈ u_ws RX12 TX12 45, w ∈ lw_tbl := by
  intro w hw
  rw [show u_ws RX12 TX12 45 = [730, 732, 734, 736, 738, 740, 742, 744, 746, 748, 750, 752, 754, 756, 758, 760, 762, 764, 766, 768, 770, 772, 774, 776, 778, 780, 782, 784, 786, 788, 790, 792, 794, 796, 798, 800, 802, 804, 806, 808, 810, 812, 814, 816, 818].filterMap (fun i => lw_tbl[i]?) from by decide +kernel] at hw
  obtain ⟨i, -, hi⟩ := List.mem_filterMap.mp hw
  exact List.mem_of_getElem? hi
set_option maxRecDepth 100000 in
theorem mo_ck12 : (∀ w ∈ u_ws RX12 TX12 45, w ∈ lw_tbl) ∧ (∀ k, k < 45 → parseFieldDescriptor (TX12 k).2.2.1 = some (mo_cty 12 k)) ∧ (∀ a, a < 45 → ∀ b, b < 45 → a ≠ b → (TX12 a).2.1 ≠ (TX12 b).2.1) ∧ (∀ k, k < 45 → (TX12 k).1 = RX12 ∧ mo_ktb (mo_kd (TX12 k).2.2.1) (mo_cty 12 k) = true) ∧ Cond.instantiable RX12 45 ∈ lw_tbl ∧ Cond.initialized RX12 ∈ lw_tbl ∧ 45 ≤ 64 := ⟨mo_in12, tyX12_ok, nmX12, by decide +kernel, List.mem_of_getElem? (i := 680) (by decide +kernel), List.mem_of_getElem? (i := 48) (by decide +kernel), by decide⟩
set_option maxRecDepth 100000 in
theorem mo_cls_ok (ci : Nat) (R : String) (T : u_T) (N : Nat) (h : mo_cl[ci]? = some (R, T, N)) : (∀ w ∈ u_ws R T N, w ∈ lw_tbl) ∧ (∀ k, k < N → parseFieldDescriptor (T k).2.2.1 = some (mo_cty ci k)) ∧ (∀ a, a < N → ∀ b, b < N → a ≠ b → (T a).2.1 ≠ (T b).2.1) ∧ (∀ k, k < N → (T k).1 = R ∧ mo_ktb (mo_kd (T k).2.2.1) (mo_cty ci k) = true) ∧ Cond.instantiable R N ∈ lw_tbl ∧ Cond.initialized R ∈ lw_tbl ∧ N ≤ 64 := by
  match ci, h with
  | 0, h => cases h; exact mo_ck0
  | 1, h => cases h; exact mo_ck1
  | 2, h => cases h; exact mo_ck2
  | 3, h => cases h; exact mo_ck3
  | 4, h => cases h; exact mo_ck4
  | 5, h => cases h; exact mo_ck5
  | 6, h => cases h; exact mo_ck6
  | 7, h => cases h; exact mo_ck7
  | 8, h => cases h; exact mo_ck8
  | 9, h => cases h; exact mo_ck9
  | 10, h => cases h; exact mo_ck10
  | 11, h => cases h; exact mo_ck11
  | 12, h => cases h; exact mo_ck12
  | k + 13, h => exact absurd h (by simp [mo_cl])
