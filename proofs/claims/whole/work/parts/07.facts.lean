theorem sx_t0 {w : Cond} (h : w ∈ k2_sels lw_privs) : w ∈ lw_tbl := List.mem_append_left _ h
theorem sx_t1 {w : Cond} (h : w ∈ tables_1_1) : w ∈ lw_tbl := List.mem_append_right _ (List.mem_append_left _ h)
theorem sx_t2 {w : Cond} (h : w ∈ tables_1_2) : w ∈ lw_tbl := List.mem_append_right _ (List.mem_append_right _ (List.mem_append_left _ h))
theorem sx_t3 {w : Cond} (h : w ∈ tables_1_3) : w ∈ lw_tbl := List.mem_append_right _ (List.mem_append_right _ (List.mem_append_right _ (List.mem_append_left _ h)))
theorem sx_t4 {w : Cond} (h : w ∈ tables_1_4) : w ∈ lw_tbl := List.mem_append_right _ (List.mem_append_right _ (List.mem_append_right _ (List.mem_append_right _ (List.mem_append_left _ h))))
theorem sx_t5 {w : Cond} (h : w ∈ tables_1_5) : w ∈ lw_tbl := List.mem_append_right _ (List.mem_append_right _ (List.mem_append_right _ (List.mem_append_right _ (List.mem_append_right _ (List.mem_append_left _ h)))))
theorem sx_t6 {w : Cond} (h : w ∈ tables_1_6) : w ∈ lw_tbl := List.mem_append_right _ (List.mem_append_right _ (List.mem_append_right _ (List.mem_append_right _ (List.mem_append_right _ (List.mem_append_right _ (h))))))
theorem in_RL : Cond.initialized RL ∈ sx_T := sx_inT (sx_t1 (List.mem_of_getElem? (i := 0) rfl)) rfl
theorem in_RX11 : Cond.initialized RX11 ∈ sx_T := sx_inT (sx_t1 (List.mem_of_getElem? (i := 1) rfl)) rfl
theorem in_RX10 : Cond.initialized RX10 ∈ sx_T := sx_inT (sx_t1 (List.mem_of_getElem? (i := 2) rfl)) rfl
theorem in_RJ9 : Cond.initialized RJ9 ∈ sx_T := sx_inT (sx_t1 (List.mem_of_getElem? (i := 3) rfl)) rfl
theorem in_RX0 : Cond.initialized RX0 ∈ sx_T := sx_inT (sx_t1 (List.mem_of_getElem? (i := 4) rfl)) rfl
theorem in_RX5 : Cond.initialized RX5 ∈ sx_T := sx_inT (sx_t1 (List.mem_of_getElem? (i := 5) rfl)) rfl
theorem in_RX6 : Cond.initialized RX6 ∈ sx_T := sx_inT (sx_t1 (List.mem_of_getElem? (i := 6) rfl)) rfl
theorem in_RX8 : Cond.initialized RX8 ∈ sx_T := sx_inT (sx_t1 (List.mem_of_getElem? (i := 7) rfl)) rfl
theorem in_RX3 : Cond.initialized RX3 ∈ sx_T := sx_inT (sx_t1 (List.mem_of_getElem? (i := 8) rfl)) rfl
theorem in_RX1 : Cond.initialized RX1 ∈ sx_T := sx_inT (sx_t1 (List.mem_of_getElem? (i := 9) rfl)) rfl
theorem in_RX4 : Cond.initialized RX4 ∈ sx_T := sx_inT (sx_t1 (List.mem_of_getElem? (i := 10) rfl)) rfl
theorem in_RX2 : Cond.initialized RX2 ∈ sx_T := sx_inT (sx_t1 (List.mem_of_getElem? (i := 11) rfl)) rfl
theorem in_RX9 : Cond.initialized RX9 ∈ sx_T := sx_inT (sx_t1 (List.mem_of_getElem? (i := 12) rfl)) rfl
theorem in_RX7 : Cond.initialized RX7 ∈ sx_T := sx_inT (sx_t1 (List.mem_of_getElem? (i := 13) rfl)) rfl
theorem in_RX12 : Cond.initialized RX12 ∈ sx_T := sx_inT (sx_t1 (List.mem_of_getElem? (i := 14) rfl)) rfl
theorem in_RJ10 : Cond.initialized RJ10 ∈ sx_T := sx_inT (sx_t1 (List.mem_of_getElem? (i := 15) rfl)) rfl
theorem in_RJ6 : Cond.initialized RJ6 ∈ sx_T := sx_inT (sx_t1 (List.mem_of_getElem? (i := 16) rfl)) rfl
theorem in_RJ7 : Cond.initialized RJ7 ∈ sx_T := sx_inT (sx_t1 (List.mem_of_getElem? (i := 17) rfl)) rfl
theorem cwX0 : ∀ w ∈ u_ws RX0 TX0 4, w ∈ sx_T := by
  intro w hw
  obtain ⟨k, hk, rfl⟩ := List.mem_map.mp hw
  have hk := List.mem_range.mp hk
  match k, hk with
  | 0, _ => exact sx_inT (sx_t1 (List.mem_of_getElem? (i := 59) rfl)) rfl
  | 1, _ => exact sx_inT (sx_t1 (List.mem_of_getElem? (i := 61) rfl)) rfl
  | 2, _ => exact sx_inT (sx_t1 (List.mem_of_getElem? (i := 63) rfl)) rfl
  | 3, _ => exact sx_inT (sx_t1 (List.mem_of_getElem? (i := 65) rfl)) rfl
  | k + 4, h => omega
theorem clX0 : sx_Cl 0 RX0 TX0 4 tyX0 := ⟨rfl, cwX0, tyX0_ok, nmX0⟩
theorem itX0 : Cond.instantiable RX0 4 ∈ sx_T := sx_inT (sx_t1 (List.mem_of_getElem? (i := 47) rfl)) rfl
theorem cwX1 : ∀ w ∈ u_ws RX1 TX1 4, w ∈ sx_T := by
  intro w hw
  obtain ⟨k, hk, rfl⟩ := List.mem_map.mp hw
  have hk := List.mem_range.mp hk
  match k, hk with
  | 0, _ => exact sx_inT (sx_t1 (List.mem_of_getElem? (i := 192) rfl)) rfl
  | 1, _ => exact sx_inT (sx_t1 (List.mem_of_getElem? (i := 194) rfl)) rfl
  | 2, _ => exact sx_inT (sx_t1 (List.mem_of_getElem? (i := 196) rfl)) rfl
  | 3, _ => exact sx_inT (sx_t1 (List.mem_of_getElem? (i := 198) rfl)) rfl
  | k + 4, h => omega
theorem clX1 : sx_Cl 1 RX1 TX1 4 tyX1 := ⟨rfl, cwX1, tyX1_ok, nmX1⟩
theorem itX1 : Cond.instantiable RX1 4 ∈ sx_T := sx_inT (sx_t1 (List.mem_of_getElem? (i := 183) rfl)) rfl
theorem cwX2 : ∀ w ∈ u_ws RX2 TX2 6, w ∈ sx_T := by
  intro w hw
  obtain ⟨k, hk, rfl⟩ := List.mem_map.mp hw
  have hk := List.mem_range.mp hk
  match k, hk with
  | 0, _ => exact sx_inT (sx_t1 (List.mem_of_getElem? (i := 229) rfl)) rfl
  | 1, _ => exact sx_inT (sx_t1 (List.mem_of_getElem? (i := 231) rfl)) rfl
  | 2, _ => exact sx_inT (sx_t1 (List.mem_of_getElem? (i := 233) rfl)) rfl
  | 3, _ => exact sx_inT (sx_t1 (List.mem_of_getElem? (i := 235) rfl)) rfl
  | 4, _ => exact sx_inT (sx_t1 (List.mem_of_getElem? (i := 237) rfl)) rfl
  | 5, _ => exact sx_inT (sx_t1 (List.mem_of_getElem? (i := 239) rfl)) rfl
  | k + 6, h => omega
theorem clX2 : sx_Cl 2 RX2 TX2 6 tyX2 := ⟨rfl, cwX2, tyX2_ok, nmX2⟩
theorem itX2 : Cond.instantiable RX2 6 ∈ sx_T := sx_inT (sx_t1 (List.mem_of_getElem? (i := 218) rfl)) rfl
theorem cwX3 : ∀ w ∈ u_ws RX3 TX3 8, w ∈ sx_T := by
  intro w hw
  obtain ⟨k, hk, rfl⟩ := List.mem_map.mp hw
  have hk := List.mem_range.mp hk
  match k, hk with
  | 0, _ => exact sx_inT (sx_t1 (List.mem_of_getElem? (i := 164) rfl)) rfl
  | 1, _ => exact sx_inT (sx_t1 (List.mem_of_getElem? (i := 166) rfl)) rfl
  | 2, _ => exact sx_inT (sx_t1 (List.mem_of_getElem? (i := 168) rfl)) rfl
  | 3, _ => exact sx_inT (sx_t1 (List.mem_of_getElem? (i := 170) rfl)) rfl
  | 4, _ => exact sx_inT (sx_t1 (List.mem_of_getElem? (i := 172) rfl)) rfl
  | 5, _ => exact sx_inT (sx_t1 (List.mem_of_getElem? (i := 174) rfl)) rfl
  | 6, _ => exact sx_inT (sx_t1 (List.mem_of_getElem? (i := 176) rfl)) rfl
  | 7, _ => exact sx_inT (sx_t1 (List.mem_of_getElem? (i := 178) rfl)) rfl
  | k + 8, h => omega
theorem clX3 : sx_Cl 3 RX3 TX3 8 tyX3 := ⟨rfl, cwX3, tyX3_ok, nmX3⟩
theorem itX3 : Cond.instantiable RX3 8 ∈ sx_T := sx_inT (sx_t1 (List.mem_of_getElem? (i := 151) rfl)) rfl
theorem cwX4 : ∀ w ∈ u_ws RX4 TX4 3, w ∈ sx_T := by
  intro w hw
  obtain ⟨k, hk, rfl⟩ := List.mem_map.mp hw
  have hk := List.mem_range.mp hk
  match k, hk with
  | 0, _ => exact sx_inT (sx_t1 (List.mem_of_getElem? (i := 210) rfl)) rfl
  | 1, _ => exact sx_inT (sx_t1 (List.mem_of_getElem? (i := 212) rfl)) rfl
  | 2, _ => exact sx_inT (sx_t1 (List.mem_of_getElem? (i := 214) rfl)) rfl
  | k + 3, h => omega
theorem clX4 : sx_Cl 4 RX4 TX4 3 tyX4 := ⟨rfl, cwX4, tyX4_ok, nmX4⟩
theorem itX4 : Cond.instantiable RX4 3 ∈ sx_T := sx_inT (sx_t1 (List.mem_of_getElem? (i := 202) rfl)) rfl
theorem cwX5 : ∀ w ∈ u_ws RX5 TX5 5, w ∈ sx_T := by
  intro w hw
  obtain ⟨k, hk, rfl⟩ := List.mem_map.mp hw
  have hk := List.mem_range.mp hk
  match k, hk with
  | 0, _ => exact sx_inT (sx_t1 (List.mem_of_getElem? (i := 80) rfl)) rfl
  | 1, _ => exact sx_inT (sx_t1 (List.mem_of_getElem? (i := 82) rfl)) rfl
  | 2, _ => exact sx_inT (sx_t1 (List.mem_of_getElem? (i := 84) rfl)) rfl
  | 3, _ => exact sx_inT (sx_t1 (List.mem_of_getElem? (i := 86) rfl)) rfl
  | 4, _ => exact sx_inT (sx_t1 (List.mem_of_getElem? (i := 88) rfl)) rfl
  | k + 5, h => omega
theorem clX5 : sx_Cl 5 RX5 TX5 5 tyX5 := ⟨rfl, cwX5, tyX5_ok, nmX5⟩
theorem itX5 : Cond.instantiable RX5 5 ∈ sx_T := sx_inT (sx_t1 (List.mem_of_getElem? (i := 70) rfl)) rfl
theorem cwX6 : ∀ w ∈ u_ws RX6 TX6 6, w ∈ sx_T := by
  intro w hw
  obtain ⟨k, hk, rfl⟩ := List.mem_map.mp hw
  have hk := List.mem_range.mp hk
  match k, hk with
  | 0, _ => exact sx_inT (sx_t1 (List.mem_of_getElem? (i := 118) rfl)) rfl
  | 1, _ => exact sx_inT (sx_t1 (List.mem_of_getElem? (i := 120) rfl)) rfl
  | 2, _ => exact sx_inT (sx_t1 (List.mem_of_getElem? (i := 122) rfl)) rfl
  | 3, _ => exact sx_inT (sx_t1 (List.mem_of_getElem? (i := 124) rfl)) rfl
  | 4, _ => exact sx_inT (sx_t1 (List.mem_of_getElem? (i := 126) rfl)) rfl
  | 5, _ => exact sx_inT (sx_t1 (List.mem_of_getElem? (i := 128) rfl)) rfl
  | k + 6, h => omega
theorem clX6 : sx_Cl 6 RX6 TX6 6 tyX6 := ⟨rfl, cwX6, tyX6_ok, nmX6⟩
theorem itX6 : Cond.instantiable RX6 6 ∈ sx_T := sx_inT (sx_t1 (List.mem_of_getElem? (i := 92) rfl)) rfl
theorem cwX7 : ∀ w ∈ u_ws RX7 TX7 3, w ∈ sx_T := by
  intro w hw
  obtain ⟨k, hk, rfl⟩ := List.mem_map.mp hw
  have hk := List.mem_range.mp hk
  match k, hk with
  | 0, _ => exact sx_inT (sx_t2 (List.mem_of_getElem? (i := 31) rfl)) rfl
  | 1, _ => exact sx_inT (sx_t2 (List.mem_of_getElem? (i := 33) rfl)) rfl
  | 2, _ => exact sx_inT (sx_t2 (List.mem_of_getElem? (i := 35) rfl)) rfl
  | k + 3, h => omega
theorem clX7 : sx_Cl 7 RX7 TX7 3 tyX7 := ⟨rfl, cwX7, tyX7_ok, nmX7⟩
theorem itX7 : Cond.instantiable RX7 3 ∈ sx_T := sx_inT (sx_t2 (List.mem_of_getElem? (i := 23) rfl)) rfl
theorem cwX8 : ∀ w ∈ u_ws RX8 TX8 4, w ∈ sx_T := by
  intro w hw
  obtain ⟨k, hk, rfl⟩ := List.mem_map.mp hw
  have hk := List.mem_range.mp hk
  match k, hk with
  | 0, _ => exact sx_inT (sx_t1 (List.mem_of_getElem? (i := 141) rfl)) rfl
  | 1, _ => exact sx_inT (sx_t1 (List.mem_of_getElem? (i := 143) rfl)) rfl
  | 2, _ => exact sx_inT (sx_t1 (List.mem_of_getElem? (i := 145) rfl)) rfl
  | 3, _ => exact sx_inT (sx_t1 (List.mem_of_getElem? (i := 147) rfl)) rfl
  | k + 4, h => omega
theorem clX8 : sx_Cl 8 RX8 TX8 4 tyX8 := ⟨rfl, cwX8, tyX8_ok, nmX8⟩
theorem itX8 : Cond.instantiable RX8 4 ∈ sx_T := sx_inT (sx_t1 (List.mem_of_getElem? (i := 132) rfl)) rfl
theorem cwX9 : ∀ w ∈ u_ws RX9 TX9 4, w ∈ sx_T := by
  intro w hw
  obtain ⟨k, hk, rfl⟩ := List.mem_map.mp hw
  have hk := List.mem_range.mp hk
  match k, hk with
  | 0, _ => exact sx_inT (sx_t2 (List.mem_of_getElem? (i := 12) rfl)) rfl
  | 1, _ => exact sx_inT (sx_t2 (List.mem_of_getElem? (i := 14) rfl)) rfl
  | 2, _ => exact sx_inT (sx_t2 (List.mem_of_getElem? (i := 16) rfl)) rfl
  | 3, _ => exact sx_inT (sx_t2 (List.mem_of_getElem? (i := 18) rfl)) rfl
  | k + 4, h => omega
theorem clX9 : sx_Cl 9 RX9 TX9 4 tyX9 := ⟨rfl, cwX9, tyX9_ok, nmX9⟩
theorem itX9 : Cond.instantiable RX9 4 ∈ sx_T := sx_inT (sx_t2 (List.mem_of_getElem? (i := 3) rfl)) rfl
theorem cwX10 : ∀ w ∈ u_ws RX10 TX10 3, w ∈ sx_T := by
  intro w hw
  obtain ⟨k, hk, rfl⟩ := List.mem_map.mp hw
  have hk := List.mem_range.mp hk
  match k, hk with
  | 0, _ => exact sx_inT (sx_t1 (List.mem_of_getElem? (i := 38) rfl)) rfl
  | 1, _ => exact sx_inT (sx_t1 (List.mem_of_getElem? (i := 40) rfl)) rfl
  | 2, _ => exact sx_inT (sx_t1 (List.mem_of_getElem? (i := 42) rfl)) rfl
  | k + 3, h => omega
theorem clX10 : sx_Cl 10 RX10 TX10 3 tyX10 := ⟨rfl, cwX10, tyX10_ok, nmX10⟩
theorem itX10 : Cond.instantiable RX10 3 ∈ sx_T := sx_inT (sx_t1 (List.mem_of_getElem? (i := 27) rfl)) rfl
theorem cwX11 : ∀ w ∈ u_ws RX11 TX11 13, w ∈ sx_T := by
  intro w hw
  obtain ⟨k, hk, rfl⟩ := List.mem_map.mp hw
  have hk := List.mem_range.mp hk
  match k, hk with
  | 0, _ => exact sx_inT (sx_t2 (List.mem_of_getElem? (i := 51) rfl)) rfl
  | 1, _ => exact sx_inT (sx_t2 (List.mem_of_getElem? (i := 53) rfl)) rfl
  | 2, _ => exact sx_inT (sx_t2 (List.mem_of_getElem? (i := 55) rfl)) rfl
  | 3, _ => exact sx_inT (sx_t2 (List.mem_of_getElem? (i := 57) rfl)) rfl
  | 4, _ => exact sx_inT (sx_t2 (List.mem_of_getElem? (i := 59) rfl)) rfl
  | 5, _ => exact sx_inT (sx_t2 (List.mem_of_getElem? (i := 61) rfl)) rfl
  | 6, _ => exact sx_inT (sx_t2 (List.mem_of_getElem? (i := 63) rfl)) rfl
  | 7, _ => exact sx_inT (sx_t2 (List.mem_of_getElem? (i := 65) rfl)) rfl
  | 8, _ => exact sx_inT (sx_t2 (List.mem_of_getElem? (i := 67) rfl)) rfl
  | 9, _ => exact sx_inT (sx_t2 (List.mem_of_getElem? (i := 69) rfl)) rfl
  | 10, _ => exact sx_inT (sx_t2 (List.mem_of_getElem? (i := 71) rfl)) rfl
  | 11, _ => exact sx_inT (sx_t2 (List.mem_of_getElem? (i := 73) rfl)) rfl
  | 12, _ => exact sx_inT (sx_t2 (List.mem_of_getElem? (i := 75) rfl)) rfl
  | k + 13, h => omega
theorem clX11 : sx_Cl 11 RX11 TX11 13 tyX11 := ⟨rfl, cwX11, tyX11_ok, nmX11⟩
theorem itX11 : Cond.instantiable RX11 13 ∈ sx_T := sx_inT (sx_t1 (List.mem_of_getElem? (i := 19) rfl)) rfl
theorem cwX12 : ∀ w ∈ u_ws RX12 TX12 26, w ∈ sx_T := by
  intro w hw
  obtain ⟨k, hk, rfl⟩ := List.mem_map.mp hw
  have hk := List.mem_range.mp hk
  match k, hk with
  | 0, _ => exact sx_inT (sx_t4 (List.mem_of_getElem? (i := 223) rfl)) rfl
  | 1, _ => exact sx_inT (sx_t4 (List.mem_of_getElem? (i := 225) rfl)) rfl
  | 2, _ => exact sx_inT (sx_t4 (List.mem_of_getElem? (i := 227) rfl)) rfl
  | 3, _ => exact sx_inT (sx_t4 (List.mem_of_getElem? (i := 229) rfl)) rfl
  | 4, _ => exact sx_inT (sx_t4 (List.mem_of_getElem? (i := 231) rfl)) rfl
  | 5, _ => exact sx_inT (sx_t4 (List.mem_of_getElem? (i := 233) rfl)) rfl
  | 6, _ => exact sx_inT (sx_t4 (List.mem_of_getElem? (i := 235) rfl)) rfl
  | 7, _ => exact sx_inT (sx_t4 (List.mem_of_getElem? (i := 237) rfl)) rfl
  | 8, _ => exact sx_inT (sx_t4 (List.mem_of_getElem? (i := 239) rfl)) rfl
  | 9, _ => exact sx_inT (sx_t5 (List.mem_of_getElem? (i := 1) rfl)) rfl
  | 10, _ => exact sx_inT (sx_t5 (List.mem_of_getElem? (i := 3) rfl)) rfl
  | 11, _ => exact sx_inT (sx_t5 (List.mem_of_getElem? (i := 5) rfl)) rfl
  | 12, _ => exact sx_inT (sx_t5 (List.mem_of_getElem? (i := 7) rfl)) rfl
  | 13, _ => exact sx_inT (sx_t5 (List.mem_of_getElem? (i := 9) rfl)) rfl
  | 14, _ => exact sx_inT (sx_t5 (List.mem_of_getElem? (i := 11) rfl)) rfl
  | 15, _ => exact sx_inT (sx_t5 (List.mem_of_getElem? (i := 13) rfl)) rfl
  | 16, _ => exact sx_inT (sx_t5 (List.mem_of_getElem? (i := 15) rfl)) rfl
  | 17, _ => exact sx_inT (sx_t5 (List.mem_of_getElem? (i := 17) rfl)) rfl
  | 18, _ => exact sx_inT (sx_t5 (List.mem_of_getElem? (i := 19) rfl)) rfl
  | 19, _ => exact sx_inT (sx_t5 (List.mem_of_getElem? (i := 21) rfl)) rfl
  | 20, _ => exact sx_inT (sx_t5 (List.mem_of_getElem? (i := 23) rfl)) rfl
  | 21, _ => exact sx_inT (sx_t5 (List.mem_of_getElem? (i := 25) rfl)) rfl
  | 22, _ => exact sx_inT (sx_t5 (List.mem_of_getElem? (i := 27) rfl)) rfl
  | 23, _ => exact sx_inT (sx_t5 (List.mem_of_getElem? (i := 29) rfl)) rfl
  | 24, _ => exact sx_inT (sx_t5 (List.mem_of_getElem? (i := 31) rfl)) rfl
  | 25, _ => exact sx_inT (sx_t5 (List.mem_of_getElem? (i := 33) rfl)) rfl
  | k + 26, h => omega
theorem clX12 : sx_Cl 12 RX12 TX12 26 tyX12 := ⟨rfl, cwX12, tyX12_ok, nmX12⟩
theorem itX12 : Cond.instantiable RX12 26 ∈ sx_T := sx_inT (sx_t4 (List.mem_of_getElem? (i := 192) rfl)) rfl
theorem fl_X10_9 : sx_F RX10 9 10 RX10 0 (.array .byte) true := ⟨TX10, 3, tyX10, clX10, by decide, sx_inT (sx_t1 (List.mem_of_getElem? (i := 35) rfl)) rfl, rfl, rfl, rfl⟩
theorem fl_X10_21 : sx_F RX10 21 10 RX10 1 (.int) true := ⟨TX10, 3, tyX10, clX10, by decide, sx_inT (sx_t1 (List.mem_of_getElem? (i := 36) rfl)) rfl, rfl, rfl, rfl⟩
theorem fl_X10_25 : sx_F RX10 25 10 RX10 2 (.int) false := ⟨TX10, 3, tyX10, clX10, by decide, sx_inT (sx_t1 (List.mem_of_getElem? (i := 37) rfl)) rfl, rfl, rfl, rfl⟩
theorem fl_X0_9 : sx_F RX0 9 0 RX0 0 (.array .int) true := ⟨TX0, 4, tyX0, clX0, by decide, sx_inT (sx_t1 (List.mem_of_getElem? (i := 52) rfl)) rfl, rfl, rfl, rfl⟩
theorem fl_X0_15 : sx_F RX0 15 0 RX0 1 (.array .int) true := ⟨TX0, 4, tyX0, clX0, by decide, sx_inT (sx_t1 (List.mem_of_getElem? (i := 53) rfl)) rfl, rfl, rfl, rfl⟩
theorem fl_X8_33 : sx_F RX8 33 0 RX0 2 (.int) false := ⟨TX0, 4, tyX0, clX0, by decide, sx_inT (sx_t1 (List.mem_of_getElem? (i := 54) rfl)) rfl, rfl, rfl, rfl⟩
theorem fl_X0_22 : sx_F RX0 22 0 RX0 2 (.int) false := ⟨TX0, 4, tyX0, clX0, by decide, sx_inT (sx_t1 (List.mem_of_getElem? (i := 55) rfl)) rfl, rfl, rfl, rfl⟩
theorem fl_X2_81 : sx_F RX2 81 0 RX0 2 (.int) false := ⟨TX0, 4, tyX0, clX0, by decide, sx_inT (sx_t1 (List.mem_of_getElem? (i := 56) rfl)) rfl, rfl, rfl, rfl⟩
theorem fl_X11_298 : sx_F RX11 298 0 RX0 2 (.int) false := ⟨TX0, 4, tyX0, clX0, by decide, sx_inT (sx_t1 (List.mem_of_getElem? (i := 57) rfl)) rfl, rfl, rfl, rfl⟩
theorem fl_X0_18 : sx_F RX0 18 0 RX0 3 (.int) false := ⟨TX0, 4, tyX0, clX0, by decide, sx_inT (sx_t1 (List.mem_of_getElem? (i := 58) rfl)) rfl, rfl, rfl, rfl⟩
theorem fl_X5_9 : sx_F RX5 9 5 RX5 0 (.array .int) true := ⟨TX5, 5, tyX5, clX5, by decide, sx_inT (sx_t1 (List.mem_of_getElem? (i := 75) rfl)) rfl, rfl, rfl, rfl⟩
theorem fl_X5_15 : sx_F RX5 15 5 RX5 1 (.array .int) true := ⟨TX5, 5, tyX5, clX5, by decide, sx_inT (sx_t1 (List.mem_of_getElem? (i := 76) rfl)) rfl, rfl, rfl, rfl⟩
theorem fl_X5_18 : sx_F RX5 18 5 RX5 2 (.array .int) true := ⟨TX5, 5, tyX5, clX5, by decide, sx_inT (sx_t1 (List.mem_of_getElem? (i := 77) rfl)) rfl, rfl, rfl, rfl⟩
theorem fl_X5_25 : sx_F RX5 25 5 RX5 3 (.int) false := ⟨TX5, 5, tyX5, clX5, by decide, sx_inT (sx_t1 (List.mem_of_getElem? (i := 78) rfl)) rfl, rfl, rfl, rfl⟩
theorem fl_X5_21 : sx_F RX5 21 5 RX5 4 (.int) false := ⟨TX5, 5, tyX5, clX5, by decide, sx_inT (sx_t1 (List.mem_of_getElem? (i := 79) rfl)) rfl, rfl, rfl, rfl⟩
theorem fl_X6_9 : sx_F RX6 9 6 RX6 0 (.int) false := ⟨TX6, 6, tyX6, clX6, by decide, sx_inT (sx_t1 (List.mem_of_getElem? (i := 97) rfl)) rfl, rfl, rfl, rfl⟩
theorem fl_X8_39 : sx_F RX8 39 6 RX6 0 (.int) false := ⟨TX6, 6, tyX6, clX6, by decide, sx_inT (sx_t1 (List.mem_of_getElem? (i := 98) rfl)) rfl, rfl, rfl, rfl⟩
theorem fl_X1_33 : sx_F RX1 33 6 RX6 0 (.int) false := ⟨TX6, 6, tyX6, clX6, by decide, sx_inT (sx_t1 (List.mem_of_getElem? (i := 99) rfl)) rfl, rfl, rfl, rfl⟩
theorem fl_X4_41 : sx_F RX4 41 6 RX6 0 (.int) false := ⟨TX6, 6, tyX6, clX6, by decide, sx_inT (sx_t1 (List.mem_of_getElem? (i := 100) rfl)) rfl, rfl, rfl, rfl⟩
theorem fl_X3_56 : sx_F RX3 56 6 RX6 0 (.int) false := ⟨TX6, 6, tyX6, clX6, by decide, sx_inT (sx_t1 (List.mem_of_getElem? (i := 101) rfl)) rfl, rfl, rfl, rfl⟩
theorem fl_X11_172 : sx_F RX11 172 6 RX6 0 (.int) false := ⟨TX6, 6, tyX6, clX6, by decide, sx_inT (sx_t1 (List.mem_of_getElem? (i := 102) rfl)) rfl, rfl, rfl, rfl⟩
theorem fl_X6_15 : sx_F RX6 15 6 RX6 1 (.int) false := ⟨TX6, 6, tyX6, clX6, by decide, sx_inT (sx_t1 (List.mem_of_getElem? (i := 103) rfl)) rfl, rfl, rfl, rfl⟩
theorem fl_X8_54 : sx_F RX8 54 6 RX6 1 (.int) false := ⟨TX6, 6, tyX6, clX6, by decide, sx_inT (sx_t1 (List.mem_of_getElem? (i := 104) rfl)) rfl, rfl, rfl, rfl⟩
theorem fl_X6_18 : sx_F RX6 18 6 RX6 2 (.int) false := ⟨TX6, 6, tyX6, clX6, by decide, sx_inT (sx_t1 (List.mem_of_getElem? (i := 105) rfl)) rfl, rfl, rfl, rfl⟩
theorem fl_X8_97 : sx_F RX8 97 6 RX6 2 (.int) false := ⟨TX6, 6, tyX6, clX6, by decide, sx_inT (sx_t1 (List.mem_of_getElem? (i := 106) rfl)) rfl, rfl, rfl, rfl⟩
theorem fl_X6_21 : sx_F RX6 21 6 RX6 3 (.int) false := ⟨TX6, 6, tyX6, clX6, by decide, sx_inT (sx_t1 (List.mem_of_getElem? (i := 107) rfl)) rfl, rfl, rfl, rfl⟩
theorem fl_X2_34 : sx_F RX2 34 6 RX6 3 (.int) false := ⟨TX6, 6, tyX6, clX6, by decide, sx_inT (sx_t1 (List.mem_of_getElem? (i := 108) rfl)) rfl, rfl, rfl, rfl⟩
theorem fl_X8_47 : sx_F RX8 47 6 RX6 3 (.int) false := ⟨TX6, 6, tyX6, clX6, by decide, sx_inT (sx_t1 (List.mem_of_getElem? (i := 109) rfl)) rfl, rfl, rfl, rfl⟩
theorem fl_X11_195 : sx_F RX11 195 6 RX6 3 (.int) false := ⟨TX6, 6, tyX6, clX6, by decide, sx_inT (sx_t1 (List.mem_of_getElem? (i := 110) rfl)) rfl, rfl, rfl, rfl⟩
theorem fl_X6_24 : sx_F RX6 24 6 RX6 4 (.int) false := ⟨TX6, 6, tyX6, clX6, by decide, sx_inT (sx_t1 (List.mem_of_getElem? (i := 111) rfl)) rfl, rfl, rfl, rfl⟩
theorem fl_X2_78 : sx_F RX2 78 6 RX6 4 (.int) false := ⟨TX6, 6, tyX6, clX6, by decide, sx_inT (sx_t1 (List.mem_of_getElem? (i := 112) rfl)) rfl, rfl, rfl, rfl⟩
theorem fl_X8_88 : sx_F RX8 88 6 RX6 4 (.int) false := ⟨TX6, 6, tyX6, clX6, by decide, sx_inT (sx_t1 (List.mem_of_getElem? (i := 113) rfl)) rfl, rfl, rfl, rfl⟩
theorem fl_X11_201 : sx_F RX11 201 6 RX6 4 (.int) false := ⟨TX6, 6, tyX6, clX6, by decide, sx_inT (sx_t1 (List.mem_of_getElem? (i := 114) rfl)) rfl, rfl, rfl, rfl⟩
theorem fl_X6_27 : sx_F RX6 27 6 RX6 5 (.int) false := ⟨TX6, 6, tyX6, clX6, by decide, sx_inT (sx_t1 (List.mem_of_getElem? (i := 115) rfl)) rfl, rfl, rfl, rfl⟩
theorem fl_X2_84 : sx_F RX2 84 6 RX6 5 (.int) false := ⟨TX6, 6, tyX6, clX6, by decide, sx_inT (sx_t1 (List.mem_of_getElem? (i := 116) rfl)) rfl, rfl, rfl, rfl⟩
theorem fl_X8_91 : sx_F RX8 91 6 RX6 5 (.int) false := ⟨TX6, 6, tyX6, clX6, by decide, sx_inT (sx_t1 (List.mem_of_getElem? (i := 117) rfl)) rfl, rfl, rfl, rfl⟩
theorem fl_X8_15 : sx_F RX8 15 8 RX8 0 (.object "StonesAbove$Gully") true := ⟨TX8, 4, tyX8, clX8, by decide, sx_inT (sx_t1 (List.mem_of_getElem? (i := 137) rfl)) rfl, rfl, rfl, rfl⟩
theorem fl_X8_19 : sx_F RX8 19 8 RX8 1 (.object "StonesAbove$Party") true := ⟨TX8, 4, tyX8, clX8, by decide, sx_inT (sx_t1 (List.mem_of_getElem? (i := 138) rfl)) rfl, rfl, rfl, rfl⟩
theorem fl_X8_23 : sx_F RX8 23 8 RX8 2 (.object "StonesAbove$Settings") true := ⟨TX8, 4, tyX8, clX8, by decide, sx_inT (sx_t1 (List.mem_of_getElem? (i := 139) rfl)) rfl, rfl, rfl, rfl⟩
theorem fl_X8_9 : sx_F RX8 9 8 RX8 3 (.array .int) true := ⟨TX8, 4, tyX8, clX8, by decide, sx_inT (sx_t1 (List.mem_of_getElem? (i := 140) rfl)) rfl, rfl, rfl, rfl⟩
theorem fl_X3_25 : sx_F RX3 25 3 RX3 0 (.object "StonesAbove$Party") true := ⟨TX3, 8, tyX3, clX3, by decide, sx_inT (sx_t1 (List.mem_of_getElem? (i := 156) rfl)) rfl, rfl, rfl, rfl⟩
theorem fl_X3_29 : sx_F RX3 29 3 RX3 1 (.object "StonesAbove$Settings") true := ⟨TX3, 8, tyX3, clX3, by decide, sx_inT (sx_t1 (List.mem_of_getElem? (i := 157) rfl)) rfl, rfl, rfl, rfl⟩
theorem fl_X3_33 : sx_F RX3 33 3 RX3 2 (.object "StonesAbove$Stones") true := ⟨TX3, 8, tyX3, clX3, by decide, sx_inT (sx_t1 (List.mem_of_getElem? (i := 158) rfl)) rfl, rfl, rfl, rfl⟩
theorem fl_X3_9 : sx_F RX3 9 3 RX3 3 (.array .long) true := ⟨TX3, 8, tyX3, clX3, by decide, sx_inT (sx_t1 (List.mem_of_getElem? (i := 159) rfl)) rfl, rfl, rfl, rfl⟩
theorem fl_X3_15 : sx_F RX3 15 3 RX3 4 (.array .long) true := ⟨TX3, 8, tyX3, clX3, by decide, sx_inT (sx_t1 (List.mem_of_getElem? (i := 160) rfl)) rfl, rfl, rfl, rfl⟩
theorem fl_X3_18 : sx_F RX3 18 3 RX3 5 (.array .int) true := ⟨TX3, 8, tyX3, clX3, by decide, sx_inT (sx_t1 (List.mem_of_getElem? (i := 161) rfl)) rfl, rfl, rfl, rfl⟩
theorem fl_X3_22 : sx_F RX3 22 3 RX3 6 (.array .int) true := ⟨TX3, 8, tyX3, clX3, by decide, sx_inT (sx_t1 (List.mem_of_getElem? (i := 162) rfl)) rfl, rfl, rfl, rfl⟩
theorem fl_X3_42 : sx_F RX3 42 3 RX3 7 (.long) false := ⟨TX3, 8, tyX3, clX3, by decide, sx_inT (sx_t1 (List.mem_of_getElem? (i := 163) rfl)) rfl, rfl, rfl, rfl⟩
theorem fl_X1_15 : sx_F RX1 15 1 RX1 0 (.object "StonesAbove$Party") true := ⟨TX1, 4, tyX1, clX1, by decide, sx_inT (sx_t1 (List.mem_of_getElem? (i := 188) rfl)) rfl, rfl, rfl, rfl⟩
theorem fl_X1_19 : sx_F RX1 19 1 RX1 1 (.object "StonesAbove$Settings") true := ⟨TX1, 4, tyX1, clX1, by decide, sx_inT (sx_t1 (List.mem_of_getElem? (i := 189) rfl)) rfl, rfl, rfl, rfl⟩
theorem fl_X1_23 : sx_F RX1 23 1 RX1 2 (.object "StonesAbove$Stones") true := ⟨TX1, 4, tyX1, clX1, by decide, sx_inT (sx_t1 (List.mem_of_getElem? (i := 190) rfl)) rfl, rfl, rfl, rfl⟩
theorem fl_X1_9 : sx_F RX1 9 1 RX1 3 (.array .long) true := ⟨TX1, 4, tyX1, clX1, by decide, sx_inT (sx_t1 (List.mem_of_getElem? (i := 191) rfl)) rfl, rfl, rfl, rfl⟩
theorem fl_X4_9 : sx_F RX4 9 4 RX4 0 (.object "StonesAbove$Party") true := ⟨TX4, 3, tyX4, clX4, by decide, sx_inT (sx_t1 (List.mem_of_getElem? (i := 207) rfl)) rfl, rfl, rfl, rfl⟩
theorem fl_X4_15 : sx_F RX4 15 4 RX4 1 (.object "StonesAbove$Settings") true := ⟨TX4, 3, tyX4, clX4, by decide, sx_inT (sx_t1 (List.mem_of_getElem? (i := 208) rfl)) rfl, rfl, rfl, rfl⟩
theorem fl_X4_19 : sx_F RX4 19 4 RX4 2 (.object "StonesAbove$Stones") true := ⟨TX4, 3, tyX4, clX4, by decide, sx_inT (sx_t1 (List.mem_of_getElem? (i := 209) rfl)) rfl, rfl, rfl, rfl⟩
theorem fl_X2_9 : sx_F RX2 9 2 RX2 0 (.object "StonesAbove$Gully") true := ⟨TX2, 6, tyX2, clX2, by decide, sx_inT (sx_t1 (List.mem_of_getElem? (i := 223) rfl)) rfl, rfl, rfl, rfl⟩
theorem fl_X2_15 : sx_F RX2 15 2 RX2 1 (.object "StonesAbove$Party") true := ⟨TX2, 6, tyX2, clX2, by decide, sx_inT (sx_t1 (List.mem_of_getElem? (i := 224) rfl)) rfl, rfl, rfl, rfl⟩
theorem fl_X2_19 : sx_F RX2 19 2 RX2 2 (.object "StonesAbove$Settings") true := ⟨TX2, 6, tyX2, clX2, by decide, sx_inT (sx_t1 (List.mem_of_getElem? (i := 225) rfl)) rfl, rfl, rfl, rfl⟩
theorem fl_X2_23 : sx_F RX2 23 2 RX2 3 (.object "StonesAbove$Stones") true := ⟨TX2, 6, tyX2, clX2, by decide, sx_inT (sx_t1 (List.mem_of_getElem? (i := 226) rfl)) rfl, rfl, rfl, rfl⟩
theorem fl_X2_27 : sx_F RX2 27 2 RX2 4 (.int) false := ⟨TX2, 6, tyX2, clX2, by decide, sx_inT (sx_t1 (List.mem_of_getElem? (i := 227) rfl)) rfl, rfl, rfl, rfl⟩
theorem fl_X2_31 : sx_F RX2 31 2 RX2 5 (.int) false := ⟨TX2, 6, tyX2, clX2, by decide, sx_inT (sx_t1 (List.mem_of_getElem? (i := 228) rfl)) rfl, rfl, rfl, rfl⟩
theorem fl_X9_9 : sx_F RX9 9 9 RX9 0 (.array .int) true := ⟨TX9, 4, tyX9, clX9, by decide, sx_inT (sx_t2 (List.mem_of_getElem? (i := 8) rfl)) rfl, rfl, rfl, rfl⟩
theorem fl_X9_15 : sx_F RX9 15 9 RX9 1 (.array .int) true := ⟨TX9, 4, tyX9, clX9, by decide, sx_inT (sx_t2 (List.mem_of_getElem? (i := 9) rfl)) rfl, rfl, rfl, rfl⟩
theorem fl_X9_18 : sx_F RX9 18 9 RX9 2 (.array .int) true := ⟨TX9, 4, tyX9, clX9, by decide, sx_inT (sx_t2 (List.mem_of_getElem? (i := 10) rfl)) rfl, rfl, rfl, rfl⟩
theorem fl_X9_25 : sx_F RX9 25 9 RX9 3 (.int) false := ⟨TX9, 4, tyX9, clX9, by decide, sx_inT (sx_t2 (List.mem_of_getElem? (i := 11) rfl)) rfl, rfl, rfl, rfl⟩
theorem fl_X7_9 : sx_F RX7 9 7 RX7 0 (.array .int) true := ⟨TX7, 3, tyX7, clX7, by decide, sx_inT (sx_t2 (List.mem_of_getElem? (i := 28) rfl)) rfl, rfl, rfl, rfl⟩
theorem fl_X7_15 : sx_F RX7 15 7 RX7 1 (.int) false := ⟨TX7, 3, tyX7, clX7, by decide, sx_inT (sx_t2 (List.mem_of_getElem? (i := 29) rfl)) rfl, rfl, rfl, rfl⟩
theorem fl_X7_19 : sx_F RX7 19 7 RX7 2 (.int) false := ⟨TX7, 3, tyX7, clX7, by decide, sx_inT (sx_t2 (List.mem_of_getElem? (i := 30) rfl)) rfl, rfl, rfl, rfl⟩
theorem fl_X11_14 : sx_F RX11 14 11 RX11 0 (.object "StonesAbove$Text") true := ⟨TX11, 13, tyX11, clX11, by decide, sx_inT (sx_t2 (List.mem_of_getElem? (i := 38) rfl)) rfl, rfl, rfl, rfl⟩
theorem fl_X11_18 : sx_F RX11 18 11 RX11 1 (.object "StonesAbove$Text") true := ⟨TX11, 13, tyX11, clX11, by decide, sx_inT (sx_t2 (List.mem_of_getElem? (i := 39) rfl)) rfl, rfl, rfl, rfl⟩
theorem fl_X11_24 : sx_F RX11 24 11 RX11 2 (.object "StonesAbove$Gully") true := ⟨TX11, 13, tyX11, clX11, by decide, sx_inT (sx_t2 (List.mem_of_getElem? (i := 40) rfl)) rfl, rfl, rfl, rfl⟩
theorem fl_X11_31 : sx_F RX11 31 11 RX11 3 (.object "StonesAbove$Party") true := ⟨TX11, 13, tyX11, clX11, by decide, sx_inT (sx_t2 (List.mem_of_getElem? (i := 41) rfl)) rfl, rfl, rfl, rfl⟩
theorem fl_X11_38 : sx_F RX11 38 11 RX11 4 (.object "StonesAbove$Settings") true := ⟨TX11, 13, tyX11, clX11, by decide, sx_inT (sx_t2 (List.mem_of_getElem? (i := 42) rfl)) rfl, rfl, rfl, rfl⟩
theorem fl_X11_47 : sx_F RX11 47 11 RX11 5 (.object "StonesAbove$Stones") true := ⟨TX11, 13, tyX11, clX11, by decide, sx_inT (sx_t2 (List.mem_of_getElem? (i := 43) rfl)) rfl, rfl, rfl, rfl⟩
theorem fl_X11_56 : sx_F RX11 56 11 RX11 6 (.object "StonesAbove$Order") true := ⟨TX11, 13, tyX11, clX11, by decide, sx_inT (sx_t2 (List.mem_of_getElem? (i := 44) rfl)) rfl, rfl, rfl, rfl⟩
theorem fl_X11_63 : sx_F RX11 63 11 RX11 7 (.object "StonesAbove$Helmets") true := ⟨TX11, 13, tyX11, clX11, by decide, sx_inT (sx_t2 (List.mem_of_getElem? (i := 45) rfl)) rfl, rfl, rfl, rfl⟩
theorem fl_X11_70 : sx_F RX11 70 11 RX11 8 (.object "StonesAbove$Others") true := ⟨TX11, 13, tyX11, clX11, by decide, sx_inT (sx_t2 (List.mem_of_getElem? (i := 46) rfl)) rfl, rfl, rfl, rfl⟩
theorem fl_X11_79 : sx_F RX11 79 11 RX11 9 (.object "StonesAbove$Morning") true := ⟨TX11, 13, tyX11, clX11, by decide, sx_inT (sx_t2 (List.mem_of_getElem? (i := 47) rfl)) rfl, rfl, rfl, rfl⟩
theorem fl_X11_86 : sx_F RX11 86 11 RX11 10 (.object "StonesAbove$Tellings") true := ⟨TX11, 13, tyX11, clX11, by decide, sx_inT (sx_t2 (List.mem_of_getElem? (i := 48) rfl)) rfl, rfl, rfl, rfl⟩
theorem fl_X11_92 : sx_F RX11 92 11 RX11 11 (.array (.object "StonesAbove$Sheet")) true := ⟨TX11, 13, tyX11, clX11, by decide, sx_inT (sx_t2 (List.mem_of_getElem? (i := 49) rfl)) rfl, rfl, rfl, rfl⟩
theorem fl_X11_307 : sx_F RX11 307 11 RX11 12 (.int) false := ⟨TX11, 13, tyX11, clX11, by decide, sx_inT (sx_t2 (List.mem_of_getElem? (i := 50) rfl)) rfl, rfl, rfl, rfl⟩
theorem fl_X6_30 : Cond.fieldLink RX6 30 RX6 "MOST" "[I" ∈ sx_T := sx_inT (sx_t2 (List.mem_of_getElem? (i := 229) rfl)) rfl
theorem fl_X12_7 : sx_F RX12 7 12 RX12 0 (.array .int) true := ⟨TX12, 26, tyX12, clX12, by decide, sx_inT (sx_t4 (List.mem_of_getElem? (i := 197) rfl)) rfl, rfl, rfl, rfl⟩
theorem fl_X12_13 : sx_F RX12 13 12 RX12 1 (.array .int) true := ⟨TX12, 26, tyX12, clX12, by decide, sx_inT (sx_t4 (List.mem_of_getElem? (i := 198) rfl)) rfl, rfl, rfl, rfl⟩
theorem fl_X12_16 : sx_F RX12 16 12 RX12 2 (.array .int) true := ⟨TX12, 26, tyX12, clX12, by decide, sx_inT (sx_t4 (List.mem_of_getElem? (i := 199) rfl)) rfl, rfl, rfl, rfl⟩
theorem fl_X12_19 : sx_F RX12 19 12 RX12 3 (.array .int) true := ⟨TX12, 26, tyX12, clX12, by decide, sx_inT (sx_t4 (List.mem_of_getElem? (i := 200) rfl)) rfl, rfl, rfl, rfl⟩
theorem fl_X12_62 : sx_F RX12 62 12 RX12 4 (.int) false := ⟨TX12, 26, tyX12, clX12, by decide, sx_inT (sx_t4 (List.mem_of_getElem? (i := 201) rfl)) rfl, rfl, rfl, rfl⟩
theorem fl_X12_22 : sx_F RX12 22 12 RX12 5 (.array .int) true := ⟨TX12, 26, tyX12, clX12, by decide, sx_inT (sx_t4 (List.mem_of_getElem? (i := 202) rfl)) rfl, rfl, rfl, rfl⟩
theorem fl_X12_25 : sx_F RX12 25 12 RX12 6 (.array .int) true := ⟨TX12, 26, tyX12, clX12, by decide, sx_inT (sx_t4 (List.mem_of_getElem? (i := 203) rfl)) rfl, rfl, rfl, rfl⟩
theorem fl_X12_92 : sx_F RX12 92 12 RX12 7 (.int) false := ⟨TX12, 26, tyX12, clX12, by decide, sx_inT (sx_t4 (List.mem_of_getElem? (i := 204) rfl)) rfl, rfl, rfl, rfl⟩
theorem fl_X12_95 : sx_F RX12 95 12 RX12 8 (.int) false := ⟨TX12, 26, tyX12, clX12, by decide, sx_inT (sx_t4 (List.mem_of_getElem? (i := 205) rfl)) rfl, rfl, rfl, rfl⟩
theorem fl_X12_28 : sx_F RX12 28 12 RX12 9 (.array .int) true := ⟨TX12, 26, tyX12, clX12, by decide, sx_inT (sx_t4 (List.mem_of_getElem? (i := 206) rfl)) rfl, rfl, rfl, rfl⟩
theorem fl_X12_31 : sx_F RX12 31 12 RX12 10 (.array .int) true := ⟨TX12, 26, tyX12, clX12, by decide, sx_inT (sx_t4 (List.mem_of_getElem? (i := 207) rfl)) rfl, rfl, rfl, rfl⟩
theorem fl_X12_106 : sx_F RX12 106 12 RX12 11 (.int) false := ⟨TX12, 26, tyX12, clX12, by decide, sx_inT (sx_t4 (List.mem_of_getElem? (i := 208) rfl)) rfl, rfl, rfl, rfl⟩
theorem fl_X12_34 : sx_F RX12 34 12 RX12 12 (.array .int) true := ⟨TX12, 26, tyX12, clX12, by decide, sx_inT (sx_t4 (List.mem_of_getElem? (i := 209) rfl)) rfl, rfl, rfl, rfl⟩
theorem fl_X12_37 : sx_F RX12 37 12 RX12 13 (.array .int) true := ⟨TX12, 26, tyX12, clX12, by decide, sx_inT (sx_t4 (List.mem_of_getElem? (i := 210) rfl)) rfl, rfl, rfl, rfl⟩
theorem fl_X12_40 : sx_F RX12 40 12 RX12 14 (.array .boolean) true := ⟨TX12, 26, tyX12, clX12, by decide, sx_inT (sx_t4 (List.mem_of_getElem? (i := 211) rfl)) rfl, rfl, rfl, rfl⟩
theorem fl_X12_44 : sx_F RX12 44 12 RX12 15 (.array .int) true := ⟨TX12, 26, tyX12, clX12, by decide, sx_inT (sx_t4 (List.mem_of_getElem? (i := 212) rfl)) rfl, rfl, rfl, rfl⟩
theorem fl_X12_47 : sx_F RX12 47 12 RX12 16 (.array .int) true := ⟨TX12, 26, tyX12, clX12, by decide, sx_inT (sx_t4 (List.mem_of_getElem? (i := 213) rfl)) rfl, rfl, rfl, rfl⟩
theorem fl_X12_137 : sx_F RX12 137 12 RX12 17 (.int) false := ⟨TX12, 26, tyX12, clX12, by decide, sx_inT (sx_t4 (List.mem_of_getElem? (i := 214) rfl)) rfl, rfl, rfl, rfl⟩
theorem fl_X12_143 : sx_F RX12 143 12 RX12 18 (.int) false := ⟨TX12, 26, tyX12, clX12, by decide, sx_inT (sx_t4 (List.mem_of_getElem? (i := 215) rfl)) rfl, rfl, rfl, rfl⟩
theorem fl_X12_50 : sx_F RX12 50 12 RX12 19 (.array .int) true := ⟨TX12, 26, tyX12, clX12, by decide, sx_inT (sx_t4 (List.mem_of_getElem? (i := 216) rfl)) rfl, rfl, rfl, rfl⟩
theorem fl_X12_235 : sx_F RX12 235 12 RX12 20 (.int) false := ⟨TX12, 26, tyX12, clX12, by decide, sx_inT (sx_t4 (List.mem_of_getElem? (i := 217) rfl)) rfl, rfl, rfl, rfl⟩
theorem fl_X12_245 : sx_F RX12 245 12 RX12 21 (.int) false := ⟨TX12, 26, tyX12, clX12, by decide, sx_inT (sx_t4 (List.mem_of_getElem? (i := 218) rfl)) rfl, rfl, rfl, rfl⟩
theorem fl_X12_251 : sx_F RX12 251 12 RX12 22 (.int) false := ⟨TX12, 26, tyX12, clX12, by decide, sx_inT (sx_t4 (List.mem_of_getElem? (i := 219) rfl)) rfl, rfl, rfl, rfl⟩
theorem fl_X12_275 : sx_F RX12 275 12 RX12 23 (.int) false := ⟨TX12, 26, tyX12, clX12, by decide, sx_inT (sx_t4 (List.mem_of_getElem? (i := 220) rfl)) rfl, rfl, rfl, rfl⟩
theorem fl_X12_53 : sx_F RX12 53 12 RX12 24 (.array .int) true := ⟨TX12, 26, tyX12, clX12, by decide, sx_inT (sx_t4 (List.mem_of_getElem? (i := 221) rfl)) rfl, rfl, rfl, rfl⟩
theorem fl_X12_287 : sx_F RX12 287 12 RX12 25 (.int) false := ⟨TX12, 26, tyX12, clX12, by decide, sx_inT (sx_t4 (List.mem_of_getElem? (i := 222) rfl)) rfl, rfl, rfl, rfl⟩
theorem kc_J6_265 : Cond.constant RJ6 265 (1431655765) ∈ sx_T := sx_inT (sx_t3 (List.mem_of_getElem? (i := 166) rfl)) rfl
theorem kc_J6_266 : Cond.constant RJ6 266 (858993459) ∈ sx_T := sx_inT (sx_t3 (List.mem_of_getElem? (i := 167) rfl)) rfl
theorem kc_J6_267 : Cond.constant RJ6 267 (252645135) ∈ sx_T := sx_inT (sx_t3 (List.mem_of_getElem? (i := 168) rfl)) rfl
theorem kc_X2_52 : Cond.constant RX2 52 (1103515245) ∈ sx_T := sx_inT (sx_t4 (List.mem_of_getElem? (i := 57) rfl)) rfl
theorem kc_X11_286 : Cond.constant RX11 286 (-2147483648) ∈ sx_T := sx_inT (sx_t4 (List.mem_of_getElem? (i := 120) rfl)) rfl
theorem kc_X12_86 : Cond.constant RX12 86 (-2147483648) ∈ sx_T := sx_inT (sx_t5 (List.mem_of_getElem? (i := 72) rfl)) rfl
theorem kc_X12_286 : Cond.constant RX12 286 (1103515245) ∈ sx_T := sx_inT (sx_t6 (List.mem_of_getElem? (i := 139) rfl)) rfl
theorem kc_X11_388 : Cond.constantLong RX11 388 (-9223372036854775808) ∈ sx_T := sx_inT (sx_t3 (List.mem_of_getElem? (i := 38) rfl)) rfl
theorem kc_X11_183 : Cond.constantLong RX11 183 (256) ∈ sx_T := sx_inT (sx_t3 (List.mem_of_getElem? (i := 59) rfl)) rfl
theorem kc_X3_40 : Cond.constantLong RX3 40 (9223372036854775807) ∈ sx_T := sx_inT (sx_t3 (List.mem_of_getElem? (i := 124) rfl)) rfl
theorem kc_X1_45 : Cond.constantLong RX1 45 (9223372036854775807) ∈ sx_T := sx_inT (sx_t3 (List.mem_of_getElem? (i := 161) rfl)) rfl
theorem kc_X4_27 : Cond.constantLong RX4 27 (256) ∈ sx_T := sx_inT (sx_t3 (List.mem_of_getElem? (i := 190) rfl)) rfl
theorem kc_X11_310 : Cond.constantLong RX11 310 (17) ∈ sx_T := sx_inT (sx_t4 (List.mem_of_getElem? (i := 156) rfl)) rfl
theorem kc_X11_360 : Cond.constantLong RX11 360 (31) ∈ sx_T := sx_inT (sx_t4 (List.mem_of_getElem? (i := 161) rfl)) rfl
theorem kc_X12_66 : Cond.constantLong RX12 66 (3) ∈ sx_T := sx_inT (sx_t5 (List.mem_of_getElem? (i := 44) rfl)) rfl
theorem kc_X12_72 : Cond.constantLong RX12 72 (2) ∈ sx_T := sx_inT (sx_t5 (List.mem_of_getElem? (i := 48) rfl)) rfl
theorem kc_X12_90 : Cond.constantLong RX12 90 (255) ∈ sx_T := sx_inT (sx_t5 (List.mem_of_getElem? (i := 84) rfl)) rfl
theorem kc_X12_104 : Cond.constantLong RX12 104 (9) ∈ sx_T := sx_inT (sx_t5 (List.mem_of_getElem? (i := 108) rfl)) rfl
theorem kc_X12_132 : Cond.constantLong RX12 132 (5) ∈ sx_T := sx_inT (sx_t5 (List.mem_of_getElem? (i := 153) rfl)) rfl
theorem kc_X12_155 : Cond.constantLong RX12 155 (1999) ∈ sx_T := sx_inT (sx_t5 (List.mem_of_getElem? (i := 161) rfl)) rfl
theorem kc_X12_195 : Cond.constantLong RX12 195 (256) ∈ sx_T := sx_inT (sx_t5 (List.mem_of_getElem? (i := 223) rfl)) rfl
theorem kc_X12_56 : Cond.constantLong RX12 56 (-9223372036854775808) ∈ sx_T := sx_inT (sx_t5 (List.mem_of_getElem? (i := 230) rfl)) rfl
theorem kc_X12_217 : Cond.constantLong RX12 217 (99) ∈ sx_T := sx_inT (sx_t6 (List.mem_of_getElem? (i := 27) rfl)) rfl
theorem kc_X12_254 : Cond.constantLong RX12 254 (6) ∈ sx_T := sx_inT (sx_t6 (List.mem_of_getElem? (i := 75) rfl)) rfl
theorem kc_X12_256 : Cond.constantLong RX12 256 (999) ∈ sx_T := sx_inT (sx_t6 (List.mem_of_getElem? (i := 76) rfl)) rfl
theorem kc_X12_273 : Cond.constantLong RX12 273 (15) ∈ sx_T := sx_inT (sx_t6 (List.mem_of_getElem? (i := 105) rfl)) rfl
theorem kc_X12_310 : Cond.constantLong RX12 310 (17) ∈ sx_T := sx_inT (sx_t6 (List.mem_of_getElem? (i := 156) rfl)) rfl
theorem kc_X12_299 : Cond.constantLong RX12 299 (31) ∈ sx_T := sx_inT (sx_t6 (List.mem_of_getElem? (i := 157) rfl)) rfl
theorem kl_L_7 : Cond.classLink RL 7 RX11 ∈ sx_T := sx_inT (sx_t1 (List.mem_of_getElem? (i := 18) rfl)) rfl
theorem kl_X11_7 : Cond.classLink RX11 7 RX10 ∈ sx_T := sx_inT (sx_t1 (List.mem_of_getElem? (i := 26) rfl)) rfl
theorem kl_X11_21 : Cond.classLink RX11 21 RX0 ∈ sx_T := sx_inT (sx_t1 (List.mem_of_getElem? (i := 46) rfl)) rfl
theorem kl_X11_28 : Cond.classLink RX11 28 RX5 ∈ sx_T := sx_inT (sx_t1 (List.mem_of_getElem? (i := 69) rfl)) rfl
theorem kl_X11_35 : Cond.classLink RX11 35 RX6 ∈ sx_T := sx_inT (sx_t1 (List.mem_of_getElem? (i := 91) rfl)) rfl
theorem kl_X11_42 : Cond.classLink RX11 42 RX8 ∈ sx_T := sx_inT (sx_t1 (List.mem_of_getElem? (i := 131) rfl)) rfl
theorem kl_X11_51 : Cond.classLink RX11 51 RX3 ∈ sx_T := sx_inT (sx_t1 (List.mem_of_getElem? (i := 150) rfl)) rfl
theorem kl_X11_60 : Cond.classLink RX11 60 RX1 ∈ sx_T := sx_inT (sx_t1 (List.mem_of_getElem? (i := 182) rfl)) rfl
theorem kl_X11_67 : Cond.classLink RX11 67 RX4 ∈ sx_T := sx_inT (sx_t1 (List.mem_of_getElem? (i := 201) rfl)) rfl
theorem kl_X11_74 : Cond.classLink RX11 74 RX2 ∈ sx_T := sx_inT (sx_t1 (List.mem_of_getElem? (i := 217) rfl)) rfl
theorem kl_X11_83 : Cond.classLink RX11 83 RX9 ∈ sx_T := sx_inT (sx_t2 (List.mem_of_getElem? (i := 2) rfl)) rfl
theorem kl_X11_90 : Cond.classLink RX11 90 RX7 ∈ sx_T := sx_inT (sx_t2 (List.mem_of_getElem? (i := 21) rfl)) rfl
theorem kl_L_10 : Cond.classLink RL 10 RX12 ∈ sx_T := sx_inT (sx_t4 (List.mem_of_getElem? (i := 191) rfl)) rfl
theorem ac_byte : Cond.arrayClass .byte ∈ sx_T := sx_inT (sx_t1 (List.mem_of_getElem? (i := 45) rfl)) rfl
theorem ac_int : Cond.arrayClass .int ∈ sx_T := sx_inT (sx_t1 (List.mem_of_getElem? (i := 68) rfl)) rfl
theorem ac_long : Cond.arrayClass .long ∈ sx_T := sx_inT (sx_t1 (List.mem_of_getElem? (i := 181) rfl)) rfl
theorem sta_copy : Cond.static arraycopyName ∈ sx_T := sx_inT (sx_t3 (List.mem_of_getElem? (i := 140) rfl)) rfl
theorem nat_copy : Cond.native arraycopyName ∈ sx_T := sx_inT (sx_t3 (List.mem_of_getElem? (i := 141) rfl)) rfl
theorem ac_boolean : Cond.arrayClass .boolean ∈ sx_T := sx_inT (sx_t5 (List.mem_of_getElem? (i := 36) rfl)) rfl
theorem ml_L_9 : Cond.methodLink RL 9 yX11_init ∈ sx_T := sx_inT (sx_t1 (List.mem_of_getElem? (i := 20) rfl)) rfl
theorem ml_X11_1 : Cond.methodLink RX11 1 objectInit ∈ sx_T := sx_inT (sx_t1 (List.mem_of_getElem? (i := 23) rfl)) rfl
theorem ml_X11_11 : Cond.methodLink RX11 11 yX10_init ∈ sx_T := sx_inT (sx_t1 (List.mem_of_getElem? (i := 28) rfl)) rfl
theorem ml_X10_3 : Cond.methodLink RX10 3 objectInit ∈ sx_T := sx_inT (sx_t1 (List.mem_of_getElem? (i := 31) rfl)) rfl
theorem ml_X10_15 : Cond.methodLink RX10 15 yJ9_min_7cf53 ∈ sx_T := sx_inT (sx_t1 (List.mem_of_getElem? (i := 32) rfl)) rfl
theorem ml_X0_3 : Cond.methodLink RX0 3 objectInit ∈ sx_T := sx_inT (sx_t1 (List.mem_of_getElem? (i := 51) rfl)) rfl
theorem ml_X5_3 : Cond.methodLink RX5 3 objectInit ∈ sx_T := sx_inT (sx_t1 (List.mem_of_getElem? (i := 74) rfl)) rfl
theorem ml_X6_3 : Cond.methodLink RX6 3 objectInit ∈ sx_T := sx_inT (sx_t1 (List.mem_of_getElem? (i := 96) rfl)) rfl
theorem ml_X11_44 : Cond.methodLink RX11 44 yX8_init ∈ sx_T := sx_inT (sx_t1 (List.mem_of_getElem? (i := 133) rfl)) rfl
theorem ml_X8_3 : Cond.methodLink RX8 3 objectInit ∈ sx_T := sx_inT (sx_t1 (List.mem_of_getElem? (i := 136) rfl)) rfl
theorem ml_X11_53 : Cond.methodLink RX11 53 yX3_init ∈ sx_T := sx_inT (sx_t1 (List.mem_of_getElem? (i := 152) rfl)) rfl
theorem ml_X3_3 : Cond.methodLink RX3 3 objectInit ∈ sx_T := sx_inT (sx_t1 (List.mem_of_getElem? (i := 155) rfl)) rfl
theorem ml_X11_62 : Cond.methodLink RX11 62 yX1_init ∈ sx_T := sx_inT (sx_t1 (List.mem_of_getElem? (i := 184) rfl)) rfl
theorem ml_X1_3 : Cond.methodLink RX1 3 objectInit ∈ sx_T := sx_inT (sx_t1 (List.mem_of_getElem? (i := 187) rfl)) rfl
theorem ml_X11_69 : Cond.methodLink RX11 69 yX4_init ∈ sx_T := sx_inT (sx_t1 (List.mem_of_getElem? (i := 203) rfl)) rfl
theorem ml_X4_3 : Cond.methodLink RX4 3 objectInit ∈ sx_T := sx_inT (sx_t1 (List.mem_of_getElem? (i := 206) rfl)) rfl
theorem ml_X11_76 : Cond.methodLink RX11 76 yX2_init ∈ sx_T := sx_inT (sx_t1 (List.mem_of_getElem? (i := 219) rfl)) rfl
theorem ml_X2_3 : Cond.methodLink RX2 3 objectInit ∈ sx_T := sx_inT (sx_t1 (List.mem_of_getElem? (i := 222) rfl)) rfl
theorem ml_X9_3 : Cond.methodLink RX9 3 objectInit ∈ sx_T := sx_inT (sx_t2 (List.mem_of_getElem? (i := 7) rfl)) rfl
theorem ml_X7_3 : Cond.methodLink RX7 3 objectInit ∈ sx_T := sx_inT (sx_t2 (List.mem_of_getElem? (i := 27) rfl)) rfl
theorem ml_L_13 : Cond.methodLink RL 13 yX11_type ∈ sx_T := sx_inT (sx_t2 (List.mem_of_getElem? (i := 78) rfl)) rfl
theorem ml_X11_97 : Cond.methodLink RX11 97 yX11_textAt ∈ sx_T := sx_inT (sx_t2 (List.mem_of_getElem? (i := 82) rfl)) rfl
theorem ml_X11_101 : Cond.methodLink RX11 101 yX11_within ∈ sx_T := sx_inT (sx_t2 (List.mem_of_getElem? (i := 86) rfl)) rfl
theorem ml_X11_105 : Cond.methodLink RX11 105 yX10_isFull ∈ sx_T := sx_inT (sx_t2 (List.mem_of_getElem? (i := 89) rfl)) rfl
theorem ml_X11_109 : Cond.methodLink RX11 109 yX10_append ∈ sx_T := sx_inT (sx_t2 (List.mem_of_getElem? (i := 93) rfl)) rfl
theorem ml_X11_112 : Cond.methodLink RX11 112 yX11_parseAnew ∈ sx_T := sx_inT (sx_t2 (List.mem_of_getElem? (i := 97) rfl)) rfl
theorem ml_X11_383 : Cond.methodLink RX11 383 yX0_parse ∈ sx_T := sx_inT (sx_t2 (List.mem_of_getElem? (i := 101) rfl)) rfl
theorem ml_X0_29 : Cond.methodLink RX0 29 yX10_length ∈ sx_T := sx_inT (sx_t2 (List.mem_of_getElem? (i := 105) rfl)) rfl
theorem ml_X0_35 : Cond.methodLink RX0 35 yX10_byteAt ∈ sx_T := sx_inT (sx_t2 (List.mem_of_getElem? (i := 109) rfl)) rfl
theorem ml_X0_38 : Cond.methodLink RX0 38 yX0_kindOf ∈ sx_T := sx_inT (sx_t2 (List.mem_of_getElem? (i := 113) rfl)) rfl
theorem ml_X0_41 : Cond.methodLink RX0 41 yX0_add ∈ sx_T := sx_inT (sx_t2 (List.mem_of_getElem? (i := 116) rfl)) rfl
theorem ml_X0_45 : Cond.methodLink RX0 45 yX10_figureAt ∈ sx_T := sx_inT (sx_t2 (List.mem_of_getElem? (i := 120) rfl)) rfl
theorem ml_X10_31 : Cond.methodLink RX10 31 yX10_byteAt ∈ sx_T := sx_inT (sx_t2 (List.mem_of_getElem? (i := 124) rfl)) rfl
theorem ml_X11_387 : Cond.methodLink RX11 387 yX5_parse ∈ sx_T := sx_inT (sx_t2 (List.mem_of_getElem? (i := 125) rfl)) rfl
theorem ml_X5_38 : Cond.methodLink RX5 38 yX5_faultOf ∈ sx_T := sx_inT (sx_t2 (List.mem_of_getElem? (i := 129) rfl)) rfl
theorem ml_X5_42 : Cond.methodLink RX5 42 yX10_length ∈ sx_T := sx_inT (sx_t2 (List.mem_of_getElem? (i := 132) rfl)) rfl
theorem ml_X5_58 : Cond.methodLink RX5 58 yX5_fitsAt ∈ sx_T := sx_inT (sx_t2 (List.mem_of_getElem? (i := 133) rfl)) rfl
theorem ml_X5_48 : Cond.methodLink RX5 48 yX10_figureAt ∈ sx_T := sx_inT (sx_t2 (List.mem_of_getElem? (i := 136) rfl)) rfl
theorem ml_X5_51 : Cond.methodLink RX5 51 yX10_byteAt ∈ sx_T := sx_inT (sx_t2 (List.mem_of_getElem? (i := 137) rfl)) rfl
theorem ml_X5_54 : Cond.methodLink RX5 54 yX5_add ∈ sx_T := sx_inT (sx_t2 (List.mem_of_getElem? (i := 138) rfl)) rfl
theorem ml_X11_155 : Cond.methodLink RX11 155 yX8_prepareSun ∈ sx_T := sx_inT (sx_t2 (List.mem_of_getElem? (i := 142) rfl)) rfl
theorem ml_X8_84 : Cond.methodLink RX8 84 yX0_isLoose ∈ sx_T := sx_inT (sx_t2 (List.mem_of_getElem? (i := 146) rfl)) rfl
theorem ml_X0_25 : Cond.methodLink RX0 25 yX0_loosenessAt ∈ sx_T := sx_inT (sx_t2 (List.mem_of_getElem? (i := 150) rfl)) rfl
theorem ml_X8_100 : Cond.methodLink RX8 100 yX8_struck ∈ sx_T := sx_inT (sx_t2 (List.mem_of_getElem? (i := 154) rfl)) rfl
theorem ml_X8_94 : Cond.methodLink RX8 94 yX0_kindAt ∈ sx_T := sx_inT (sx_t2 (List.mem_of_getElem? (i := 158) rfl)) rfl
theorem ml_X8_61 : Cond.methodLink RX8 61 yJ9_min_7cf53 ∈ sx_T := sx_inT (sx_t2 (List.mem_of_getElem? (i := 162) rfl)) rfl
theorem ml_X11_115 : Cond.methodLink RX11 115 yX10_length ∈ sx_T := sx_inT (sx_t2 (List.mem_of_getElem? (i := 163) rfl)) rfl
theorem ml_L_18 : Cond.methodLink RL 18 yX11_wipe ∈ sx_T := sx_inT (sx_t2 (List.mem_of_getElem? (i := 164) rfl)) rfl
theorem ml_X11_119 : Cond.methodLink RX11 119 yX10_shorten ∈ sx_T := sx_inT (sx_t2 (List.mem_of_getElem? (i := 168) rfl)) rfl
theorem ml_X10_28 : Cond.methodLink RX10 28 yJ9_max_7cf53 ∈ sx_T := sx_inT (sx_t2 (List.mem_of_getElem? (i := 172) rfl)) rfl
theorem ml_L_23 : Cond.methodLink RL 23 yX11_undo ∈ sx_T := sx_inT (sx_t2 (List.mem_of_getElem? (i := 175) rfl)) rfl
theorem ml_L_27 : Cond.methodLink RL 27 yX11_fault ∈ sx_T := sx_inT (sx_t2 (List.mem_of_getElem? (i := 179) rfl)) rfl
theorem ml_X11_122 : Cond.methodLink RX11 122 yX0_faultPlace ∈ sx_T := sx_inT (sx_t2 (List.mem_of_getElem? (i := 183) rfl)) rfl
theorem ml_X11_125 : Cond.methodLink RX11 125 yX5_faultPlace ∈ sx_T := sx_inT (sx_t2 (List.mem_of_getElem? (i := 187) rfl)) rfl
theorem ml_L_31 : Cond.methodLink RL 31 yX11_part ∈ sx_T := sx_inT (sx_t2 (List.mem_of_getElem? (i := 191) rfl)) rfl
theorem ml_X11_126 : Cond.methodLink RX11 126 yX0_has ∈ sx_T := sx_inT (sx_t2 (List.mem_of_getElem? (i := 195) rfl)) rfl
theorem ml_X11_130 : Cond.methodLink RX11 130 yX0_kindAt ∈ sx_T := sx_inT (sx_t2 (List.mem_of_getElem? (i := 199) rfl)) rfl
theorem ml_X11_134 : Cond.methodLink RX11 134 yX0_loosenessAt ∈ sx_T := sx_inT (sx_t2 (List.mem_of_getElem? (i := 200) rfl)) rfl
theorem ml_L_35 : Cond.methodLink RL 35 yX11_walker ∈ sx_T := sx_inT (sx_t2 (List.mem_of_getElem? (i := 201) rfl)) rfl
theorem ml_X11_137 : Cond.methodLink RX11 137 yX5_has ∈ sx_T := sx_inT (sx_t2 (List.mem_of_getElem? (i := 205) rfl)) rfl
theorem ml_X11_138 : Cond.methodLink RX11 138 yX5_weightOf ∈ sx_T := sx_inT (sx_t2 (List.mem_of_getElem? (i := 209) rfl)) rfl
theorem ml_X11_141 : Cond.methodLink RX11 141 yX5_skillOf ∈ sx_T := sx_inT (sx_t2 (List.mem_of_getElem? (i := 213) rfl)) rfl
theorem ml_X11_144 : Cond.methodLink RX11 144 yX5_helmetOf ∈ sx_T := sx_inT (sx_t2 (List.mem_of_getElem? (i := 217) rfl)) rfl
theorem ml_L_39 : Cond.methodLink RL 39 yX11_set ∈ sx_T := sx_inT (sx_t2 (List.mem_of_getElem? (i := 221) rfl)) rfl
theorem ml_X11_147 : Cond.methodLink RX11 147 yX6_takes ∈ sx_T := sx_inT (sx_t2 (List.mem_of_getElem? (i := 225) rfl)) rfl
theorem ml_X11_151 : Cond.methodLink RX11 151 yX6_change ∈ sx_T := sx_inT (sx_t2 (List.mem_of_getElem? (i := 231) rfl)) rfl
theorem ml_L_43 : Cond.methodLink RL 43 yX11_place ∈ sx_T := sx_inT (sx_t2 (List.mem_of_getElem? (i := 235) rfl)) rfl
theorem ml_X11_158 : Cond.methodLink RX11 158 yX8_partOf ∈ sx_T := sx_inT (sx_t2 (List.mem_of_getElem? (i := 239) rfl)) rfl
theorem ml_X8_50 : Cond.methodLink RX8 50 yX8_partAfter ∈ sx_T := sx_inT (sx_t3 (List.mem_of_getElem? (i := 3) rfl)) rfl
theorem ml_L_47 : Cond.methodLink RL 47 yX11_treads ∈ sx_T := sx_inT (sx_t3 (List.mem_of_getElem? (i := 7) rfl)) rfl
theorem ml_X11_161 : Cond.methodLink RX11 161 yX8_oddsOf ∈ sx_T := sx_inT (sx_t3 (List.mem_of_getElem? (i := 11) rfl)) rfl
theorem ml_X8_69 : Cond.methodLink RX8 69 yX0_loosenessAt ∈ sx_T := sx_inT (sx_t3 (List.mem_of_getElem? (i := 15) rfl)) rfl
theorem ml_X8_72 : Cond.methodLink RX8 72 yX5_oddsMore ∈ sx_T := sx_inT (sx_t3 (List.mem_of_getElem? (i := 16) rfl)) rfl
theorem ml_X5_32 : Cond.methodLink RX5 32 yX5_weightOf ∈ sx_T := sx_inT (sx_t3 (List.mem_of_getElem? (i := 20) rfl)) rfl
theorem ml_X5_35 : Cond.methodLink RX5 35 yX5_skillOf ∈ sx_T := sx_inT (sx_t3 (List.mem_of_getElem? (i := 21) rfl)) rfl
theorem ml_X8_75 : Cond.methodLink RX8 75 yX8_odds ∈ sx_T := sx_inT (sx_t3 (List.mem_of_getElem? (i := 22) rfl)) rfl
theorem ml_X8_66 : Cond.methodLink RX8 66 yJ9_max_7cf53 ∈ sx_T := sx_inT (sx_t3 (List.mem_of_getElem? (i := 25) rfl)) rfl
theorem ml_L_51 : Cond.methodLink RL 51 yX11_hits ∈ sx_T := sx_inT (sx_t3 (List.mem_of_getElem? (i := 26) rfl)) rfl
theorem ml_X11_164 : Cond.methodLink RX11 164 yX8_struck ∈ sx_T := sx_inT (sx_t3 (List.mem_of_getElem? (i := 30) rfl)) rfl
theorem ml_L_56 : Cond.methodLink RL 56 yX11_harm ∈ sx_T := sx_inT (sx_t3 (List.mem_of_getElem? (i := 31) rfl)) rfl
theorem ml_X11_168 : Cond.methodLink RX11 168 yX11_refusal ∈ sx_T := sx_inT (sx_t3 (List.mem_of_getElem? (i := 35) rfl)) rfl
theorem ml_X11_176 : Cond.methodLink RX11 176 yX8_bySun ∈ sx_T := sx_inT (sx_t3 (List.mem_of_getElem? (i := 39) rfl)) rfl
theorem ml_X8_44 : Cond.methodLink RX8 44 yX6_pace ∈ sx_T := sx_inT (sx_t3 (List.mem_of_getElem? (i := 43) rfl)) rfl
theorem ml_X11_180 : Cond.methodLink RX11 180 yX8_byWalker ∈ sx_T := sx_inT (sx_t3 (List.mem_of_getElem? (i := 47) rfl)) rfl
theorem ml_X8_104 : Cond.methodLink RX8 104 yX8_areApart ∈ sx_T := sx_inT (sx_t3 (List.mem_of_getElem? (i := 51) rfl)) rfl
theorem ml_X8_108 : Cond.methodLink RX8 108 yX8_byFeet ∈ sx_T := sx_inT (sx_t3 (List.mem_of_getElem? (i := 55) rfl)) rfl
theorem ml_X11_185 : Cond.methodLink RX11 185 yX11_fraction ∈ sx_T := sx_inT (sx_t3 (List.mem_of_getElem? (i := 60) rfl)) rfl
theorem ml_X11_390 : Cond.methodLink RX11 390 yX11_greatestDivisor ∈ sx_T := sx_inT (sx_t3 (List.mem_of_getElem? (i := 63) rfl)) rfl
theorem ml_L_61 : Cond.methodLink RL 61 yX11_all ∈ sx_T := sx_inT (sx_t3 (List.mem_of_getElem? (i := 66) rfl)) rfl
theorem ml_X11_189 : Cond.methodLink RX11 189 yX8_toWalker ∈ sx_T := sx_inT (sx_t3 (List.mem_of_getElem? (i := 70) rfl)) rfl
theorem ml_X8_112 : Cond.methodLink RX8 112 yX8_bySun ∈ sx_T := sx_inT (sx_t3 (List.mem_of_getElem? (i := 74) rfl)) rfl
theorem ml_X11_192 : Cond.methodLink RX11 192 yX8_together ∈ sx_T := sx_inT (sx_t3 (List.mem_of_getElem? (i := 75) rfl)) rfl
theorem ml_X8_27 : Cond.methodLink RX8 27 yX5_size ∈ sx_T := sx_inT (sx_t3 (List.mem_of_getElem? (i := 79) rfl)) rfl
theorem ml_X8_116 : Cond.methodLink RX8 116 yX5_helmetOf ∈ sx_T := sx_inT (sx_t3 (List.mem_of_getElem? (i := 83) rfl)) rfl
theorem ml_X8_119 : Cond.methodLink RX8 119 yX8_toWalker ∈ sx_T := sx_inT (sx_t3 (List.mem_of_getElem? (i := 84) rfl)) rfl
theorem ml_L_66 : Cond.methodLink RL 66 yX11_ends ∈ sx_T := sx_inT (sx_t3 (List.mem_of_getElem? (i := 85) rfl)) rfl
theorem ml_X11_198 : Cond.methodLink RX11 198 yX8_minutesInAll ∈ sx_T := sx_inT (sx_t3 (List.mem_of_getElem? (i := 89) rfl)) rfl
theorem ml_L_71 : Cond.methodLink RL 71 yX11_latest ∈ sx_T := sx_inT (sx_t3 (List.mem_of_getElem? (i := 93) rfl)) rfl
theorem ml_X11_204 : Cond.methodLink RX11 204 yJ9_min_7cf53 ∈ sx_T := sx_inT (sx_t3 (List.mem_of_getElem? (i := 97) rfl)) rfl
theorem ml_L_75 : Cond.methodLink RL 75 yX11_curve ∈ sx_T := sx_inT (sx_t3 (List.mem_of_getElem? (i := 98) rfl)) rfl
theorem ml_L_79 : Cond.methodLink RL 79 yX11_gap ∈ sx_T := sx_inT (sx_t3 (List.mem_of_getElem? (i := 102) rfl)) rfl
theorem ml_L_83 : Cond.methodLink RL 83 yX11_order ∈ sx_T := sx_inT (sx_t3 (List.mem_of_getElem? (i := 106) rfl)) rfl
theorem ml_X11_209 : Cond.methodLink RX11 209 yX3_search ∈ sx_T := sx_inT (sx_t3 (List.mem_of_getElem? (i := 110) rfl)) rfl
theorem ml_X3_37 : Cond.methodLink RX3 37 yX3_prepare ∈ sx_T := sx_inT (sx_t3 (List.mem_of_getElem? (i := 114) rfl)) rfl
theorem ml_X3_62 : Cond.methodLink RX3 62 yX8_bySun ∈ sx_T := sx_inT (sx_t3 (List.mem_of_getElem? (i := 118) rfl)) rfl
theorem ml_X3_50 : Cond.methodLink RX3 50 yX5_has ∈ sx_T := sx_inT (sx_t3 (List.mem_of_getElem? (i := 119) rfl)) rfl
theorem ml_X3_68 : Cond.methodLink RX3 68 yX8_areApart ∈ sx_T := sx_inT (sx_t3 (List.mem_of_getElem? (i := 120) rfl)) rfl
theorem ml_X3_72 : Cond.methodLink RX3 72 yX5_oddsMore ∈ sx_T := sx_inT (sx_t3 (List.mem_of_getElem? (i := 121) rfl)) rfl
theorem ml_X3_76 : Cond.methodLink RX3 76 yX6_pace ∈ sx_T := sx_inT (sx_t3 (List.mem_of_getElem? (i := 122) rfl)) rfl
theorem ml_X3_80 : Cond.methodLink RX3 80 yX8_byFeet ∈ sx_T := sx_inT (sx_t3 (List.mem_of_getElem? (i := 123) rfl)) rfl
theorem ml_X3_46 : Cond.methodLink RX3 46 yX3_extend ∈ sx_T := sx_inT (sx_t3 (List.mem_of_getElem? (i := 125) rfl)) rfl
theorem ml_X3_84 : Cond.methodLink RX3 84 yX5_size ∈ sx_T := sx_inT (sx_t3 (List.mem_of_getElem? (i := 129) rfl)) rfl
theorem ml_X3_87 : Cond.methodLink RX3 87 yX3_tryEach ∈ sx_T := sx_inT (sx_t3 (List.mem_of_getElem? (i := 130) rfl)) rfl
theorem ml_X3_96 : Cond.methodLink RX3 96 yX5_helmetOf ∈ sx_T := sx_inT (sx_t3 (List.mem_of_getElem? (i := 134) rfl)) rfl
theorem ml_X3_99 : Cond.methodLink RX3 99 yX3_harmAt ∈ sx_T := sx_inT (sx_t3 (List.mem_of_getElem? (i := 135) rfl)) rfl
theorem ml_X3_90 : Cond.methodLink RX3 90 arraycopyName ∈ sx_T := sx_inT (sx_t3 (List.mem_of_getElem? (i := 139) rfl)) rfl
theorem ml_X11_213 : Cond.methodLink RX11 213 yX3_at ∈ sx_T := sx_inT (sx_t3 (List.mem_of_getElem? (i := 142) rfl)) rfl
theorem ml_L_87 : Cond.methodLink RL 87 yX11_ordered ∈ sx_T := sx_inT (sx_t3 (List.mem_of_getElem? (i := 146) rfl)) rfl
theorem ml_L_92 : Cond.methodLink RL 92 yX11_helmets ∈ sx_T := sx_inT (sx_t3 (List.mem_of_getElem? (i := 150) rfl)) rfl
theorem ml_X11_216 : Cond.methodLink RX11 216 yX5_size ∈ sx_T := sx_inT (sx_t3 (List.mem_of_getElem? (i := 154) rfl)) rfl
theorem ml_X11_219 : Cond.methodLink RX11 219 yX1_search ∈ sx_T := sx_inT (sx_t3 (List.mem_of_getElem? (i := 155) rfl)) rfl
theorem ml_X1_27 : Cond.methodLink RX1 27 yX5_has ∈ sx_T := sx_inT (sx_t3 (List.mem_of_getElem? (i := 159) rfl)) rfl
theorem ml_X1_39 : Cond.methodLink RX1 39 yX8_toWalker ∈ sx_T := sx_inT (sx_t3 (List.mem_of_getElem? (i := 160) rfl)) rfl
theorem ml_X1_47 : Cond.methodLink RX1 47 yX5_size ∈ sx_T := sx_inT (sx_t3 (List.mem_of_getElem? (i := 162) rfl)) rfl
theorem ml_X1_51 : Cond.methodLink RX1 51 yJ6_bitCount_0f7a4 ∈ sx_T := sx_inT (sx_t3 (List.mem_of_getElem? (i := 163) rfl)) rfl
theorem ml_X1_57 : Cond.methodLink RX1 57 yX1_harmWith ∈ sx_T := sx_inT (sx_t3 (List.mem_of_getElem? (i := 169) rfl)) rfl
theorem ml_X11_221 : Cond.methodLink RX11 221 yX1_harmWith ∈ sx_T := sx_inT (sx_t3 (List.mem_of_getElem? (i := 173) rfl)) rfl
theorem ml_L_96 : Cond.methodLink RL 96 yX11_waits ∈ sx_T := sx_inT (sx_t3 (List.mem_of_getElem? (i := 174) rfl)) rfl
theorem ml_X11_224 : Cond.methodLink RX11 224 yX4_bestWait ∈ sx_T := sx_inT (sx_t3 (List.mem_of_getElem? (i := 178) rfl)) rfl
theorem ml_X4_23 : Cond.methodLink RX4 23 yX4_paid ∈ sx_T := sx_inT (sx_t3 (List.mem_of_getElem? (i := 182) rfl)) rfl
theorem ml_X4_29 : Cond.methodLink RX4 29 yX5_size ∈ sx_T := sx_inT (sx_t3 (List.mem_of_getElem? (i := 186) rfl)) rfl
theorem ml_X4_35 : Cond.methodLink RX4 35 yX8_areApart ∈ sx_T := sx_inT (sx_t3 (List.mem_of_getElem? (i := 187) rfl)) rfl
theorem ml_X4_47 : Cond.methodLink RX4 47 yX5_helmetOf ∈ sx_T := sx_inT (sx_t3 (List.mem_of_getElem? (i := 188) rfl)) rfl
theorem ml_X4_51 : Cond.methodLink RX4 51 yX8_byFeet ∈ sx_T := sx_inT (sx_t3 (List.mem_of_getElem? (i := 189) rfl)) rfl
theorem ml_X11_227 : Cond.methodLink RX11 227 yX4_paid ∈ sx_T := sx_inT (sx_t3 (List.mem_of_getElem? (i := 191) rfl)) rfl
theorem ml_L_101 : Cond.methodLink RL 101 yX11_foot ∈ sx_T := sx_inT (sx_t3 (List.mem_of_getElem? (i := 192) rfl)) rfl
theorem ml_X11_231 : Cond.methodLink RX11 231 yX8_oddsOfFeet ∈ sx_T := sx_inT (sx_t3 (List.mem_of_getElem? (i := 196) rfl)) rfl
theorem ml_X8_78 : Cond.methodLink RX8 78 yX8_partEntered ∈ sx_T := sx_inT (sx_t3 (List.mem_of_getElem? (i := 200) rfl)) rfl
theorem ml_X8_57 : Cond.methodLink RX8 57 yX8_partOf ∈ sx_T := sx_inT (sx_t3 (List.mem_of_getElem? (i := 204) rfl)) rfl
theorem ml_X8_81 : Cond.methodLink RX8 81 yX8_oddsOf ∈ sx_T := sx_inT (sx_t3 (List.mem_of_getElem? (i := 205) rfl)) rfl
theorem ml_X11_234 : Cond.methodLink RX11 234 yX8_oddsOfSun ∈ sx_T := sx_inT (sx_t3 (List.mem_of_getElem? (i := 206) rfl)) rfl
theorem ml_L_105 : Cond.methodLink RL 105 yX11_fell ∈ sx_T := sx_inT (sx_t3 (List.mem_of_getElem? (i := 210) rfl)) rfl
theorem ml_X11_237 : Cond.methodLink RX11 237 yX9_fits ∈ sx_T := sx_inT (sx_t3 (List.mem_of_getElem? (i := 214) rfl)) rfl
theorem ml_X11_240 : Cond.methodLink RX11 240 yX9_isFull ∈ sx_T := sx_inT (sx_t3 (List.mem_of_getElem? (i := 218) rfl)) rfl
theorem ml_X11_241 : Cond.methodLink RX11 241 yX9_add ∈ sx_T := sx_inT (sx_t3 (List.mem_of_getElem? (i := 222) rfl)) rfl
theorem ml_X11_245 : Cond.methodLink RX11 245 yX9_size ∈ sx_T := sx_inT (sx_t3 (List.mem_of_getElem? (i := 226) rfl)) rfl
theorem ml_L_109 : Cond.methodLink RL 109 yX11_forget ∈ sx_T := sx_inT (sx_t3 (List.mem_of_getElem? (i := 230) rfl)) rfl
theorem ml_X11_246 : Cond.methodLink RX11 246 yX9_clear ∈ sx_T := sx_inT (sx_t3 (List.mem_of_getElem? (i := 234) rfl)) rfl
theorem ml_L_113 : Cond.methodLink RL 113 yX11_loose ∈ sx_T := sx_inT (sx_t3 (List.mem_of_getElem? (i := 238) rfl)) rfl
theorem ml_X11_249 : Cond.methodLink RX11 249 yX9_likeliest ∈ sx_T := sx_inT (sx_t4 (List.mem_of_getElem? (i := 2) rfl)) rfl
theorem ml_X9_29 : Cond.methodLink RX9 29 yX9_likelihood ∈ sx_T := sx_inT (sx_t4 (List.mem_of_getElem? (i := 6) rfl)) rfl
theorem ml_X9_33 : Cond.methodLink RX9 33 yX5_has ∈ sx_T := sx_inT (sx_t4 (List.mem_of_getElem? (i := 10) rfl)) rfl
theorem ml_X9_39 : Cond.methodLink RX9 39 yX5_oddsMore ∈ sx_T := sx_inT (sx_t4 (List.mem_of_getElem? (i := 11) rfl)) rfl
theorem ml_X9_43 : Cond.methodLink RX9 43 yX8_odds ∈ sx_T := sx_inT (sx_t4 (List.mem_of_getElem? (i := 12) rfl)) rfl
theorem ml_L_117 : Cond.methodLink RL 117 yX11_read ∈ sx_T := sx_inT (sx_t4 (List.mem_of_getElem? (i := 13) rfl)) rfl
theorem ml_X11_253 : Cond.methodLink RX11 253 yX11_sheetAt ∈ sx_T := sx_inT (sx_t4 (List.mem_of_getElem? (i := 17) rfl)) rfl
theorem ml_X11_257 : Cond.methodLink RX11 257 yX7_isLost ∈ sx_T := sx_inT (sx_t4 (List.mem_of_getElem? (i := 21) rfl)) rfl
theorem ml_X11_260 : Cond.methodLink RX11 260 yX11_found ∈ sx_T := sx_inT (sx_t4 (List.mem_of_getElem? (i := 25) rfl)) rfl
theorem ml_X11_263 : Cond.methodLink RX11 263 yX7_size ∈ sx_T := sx_inT (sx_t4 (List.mem_of_getElem? (i := 29) rfl)) rfl
theorem ml_X11_264 : Cond.methodLink RX11 264 yX7_item ∈ sx_T := sx_inT (sx_t4 (List.mem_of_getElem? (i := 33) rfl)) rfl
theorem ml_L_121 : Cond.methodLink RL 121 yX11_morning ∈ sx_T := sx_inT (sx_t4 (List.mem_of_getElem? (i := 37) rfl)) rfl
theorem ml_X11_267 : Cond.methodLink RX11 267 yX2_play ∈ sx_T := sx_inT (sx_t4 (List.mem_of_getElem? (i := 41) rfl)) rfl
theorem ml_X2_39 : Cond.methodLink RX2 39 yX8_minutesInAll ∈ sx_T := sx_inT (sx_t4 (List.mem_of_getElem? (i := 45) rfl)) rfl
theorem ml_X2_45 : Cond.methodLink RX2 45 yX2_playFeet ∈ sx_T := sx_inT (sx_t4 (List.mem_of_getElem? (i := 46) rfl)) rfl
theorem ml_X2_53 : Cond.methodLink RX2 53 yX5_size ∈ sx_T := sx_inT (sx_t4 (List.mem_of_getElem? (i := 50) rfl)) rfl
theorem ml_X2_58 : Cond.methodLink RX2 58 yX8_partEntered ∈ sx_T := sx_inT (sx_t4 (List.mem_of_getElem? (i := 51) rfl)) rfl
theorem ml_X2_62 : Cond.methodLink RX2 62 yX0_isLoose ∈ sx_T := sx_inT (sx_t4 (List.mem_of_getElem? (i := 52) rfl)) rfl
theorem ml_X2_68 : Cond.methodLink RX2 68 yX2_lotOfSixteen ∈ sx_T := sx_inT (sx_t4 (List.mem_of_getElem? (i := 53) rfl)) rfl
theorem ml_X2_71 : Cond.methodLink RX2 71 yX8_oddsOf ∈ sx_T := sx_inT (sx_t4 (List.mem_of_getElem? (i := 58) rfl)) rfl
theorem ml_X2_74 : Cond.methodLink RX2 74 yX2_drop ∈ sx_T := sx_inT (sx_t4 (List.mem_of_getElem? (i := 59) rfl)) rfl
theorem ml_X2_87 : Cond.methodLink RX2 87 yX8_areApart ∈ sx_T := sx_inT (sx_t4 (List.mem_of_getElem? (i := 63) rfl)) rfl
theorem ml_X2_91 : Cond.methodLink RX2 91 yX8_partOf ∈ sx_T := sx_inT (sx_t4 (List.mem_of_getElem? (i := 64) rfl)) rfl
theorem ml_X2_94 : Cond.methodLink RX2 94 yX5_helmetOf ∈ sx_T := sx_inT (sx_t4 (List.mem_of_getElem? (i := 65) rfl)) rfl
theorem ml_X2_98 : Cond.methodLink RX2 98 yX8_struck ∈ sx_T := sx_inT (sx_t4 (List.mem_of_getElem? (i := 66) rfl)) rfl
theorem ml_X2_49 : Cond.methodLink RX2 49 yX2_playSun ∈ sx_T := sx_inT (sx_t4 (List.mem_of_getElem? (i := 67) rfl)) rfl
theorem ml_L_125 : Cond.methodLink RL 125 yX11_sheet ∈ sx_T := sx_inT (sx_t4 (List.mem_of_getElem? (i := 71) rfl)) rfl
theorem ml_X11_270 : Cond.methodLink RX11 270 yX7_isForm ∈ sx_T := sx_inT (sx_t4 (List.mem_of_getElem? (i := 75) rfl)) rfl
theorem ml_X11_273 : Cond.methodLink RX11 273 yX7_renew ∈ sx_T := sx_inT (sx_t4 (List.mem_of_getElem? (i := 78) rfl)) rfl
theorem ml_X7_22 : Cond.methodLink RX7 22 yJ9_min_7cf53 ∈ sx_T := sx_inT (sx_t4 (List.mem_of_getElem? (i := 82) rfl)) rfl
theorem ml_X7_28 : Cond.methodLink RX7 28 yJ9_max_7cf53 ∈ sx_T := sx_inT (sx_t4 (List.mem_of_getElem? (i := 83) rfl)) rfl
theorem ml_X7_31 : Cond.methodLink RX7 31 yJ7_fill_53178 ∈ sx_T := sx_inT (sx_t4 (List.mem_of_getElem? (i := 84) rfl)) rfl
theorem ml_L_129 : Cond.methodLink RL 129 yX11_lose ∈ sx_T := sx_inT (sx_t4 (List.mem_of_getElem? (i := 87) rfl)) rfl
theorem ml_X11_277 : Cond.methodLink RX11 277 yX7_drop ∈ sx_T := sx_inT (sx_t4 (List.mem_of_getElem? (i := 91) rfl)) rfl
theorem ml_L_133 : Cond.methodLink RL 133 yX11_lay ∈ sx_T := sx_inT (sx_t4 (List.mem_of_getElem? (i := 95) rfl)) rfl
theorem ml_X11_280 : Cond.methodLink RX11 280 yX7_wrongAt ∈ sx_T := sx_inT (sx_t4 (List.mem_of_getElem? (i := 99) rfl)) rfl
theorem ml_X7_37 : Cond.methodLink RX7 37 yX7_isLost ∈ sx_T := sx_inT (sx_t4 (List.mem_of_getElem? (i := 103) rfl)) rfl
theorem ml_X7_41 : Cond.methodLink RX7 41 yX7_holds ∈ sx_T := sx_inT (sx_t4 (List.mem_of_getElem? (i := 104) rfl)) rfl
theorem ml_X11_283 : Cond.methodLink RX11 283 yX7_put ∈ sx_T := sx_inT (sx_t4 (List.mem_of_getElem? (i := 108) rfl)) rfl
theorem ml_X7_45 : Cond.methodLink RX7 45 yX7_cut ∈ sx_T := sx_inT (sx_t4 (List.mem_of_getElem? (i := 112) rfl)) rfl
theorem ml_L_138 : Cond.methodLink RL 138 yX11_get ∈ sx_T := sx_inT (sx_t4 (List.mem_of_getElem? (i := 116) rfl)) rfl
theorem ml_L_142 : Cond.methodLink RL 142 yX11_copy ∈ sx_T := sx_inT (sx_t4 (List.mem_of_getElem? (i := 121) rfl)) rfl
theorem ml_X11_287 : Cond.methodLink RX11 287 yX7_isLike ∈ sx_T := sx_inT (sx_t4 (List.mem_of_getElem? (i := 125) rfl)) rfl
theorem ml_X11_291 : Cond.methodLink RX11 291 yX7_holds ∈ sx_T := sx_inT (sx_t4 (List.mem_of_getElem? (i := 129) rfl)) rfl
theorem ml_X11_294 : Cond.methodLink RX11 294 yX7_takeFrom ∈ sx_T := sx_inT (sx_t4 (List.mem_of_getElem? (i := 130) rfl)) rfl
theorem ml_X7_49 : Cond.methodLink RX7 49 arraycopyName ∈ sx_T := sx_inT (sx_t4 (List.mem_of_getElem? (i := 134) rfl)) rfl
theorem ml_L_147 : Cond.methodLink RL 147 yX11_write ∈ sx_T := sx_inT (sx_t4 (List.mem_of_getElem? (i := 135) rfl)) rfl
theorem ml_L_151 : Cond.methodLink RL 151 yX11_count ∈ sx_T := sx_inT (sx_t4 (List.mem_of_getElem? (i := 139) rfl)) rfl
theorem ml_X11_301 : Cond.methodLink RX11 301 yX0_loosenessInAll ∈ sx_T := sx_inT (sx_t4 (List.mem_of_getElem? (i := 143) rfl)) rfl
theorem ml_X11_304 : Cond.methodLink RX11 304 yX5_helmetsInAll ∈ sx_T := sx_inT (sx_t4 (List.mem_of_getElem? (i := 147) rfl)) rfl
theorem ml_X5_28 : Cond.methodLink RX5 28 yX5_helmetOf ∈ sx_T := sx_inT (sx_t4 (List.mem_of_getElem? (i := 151) rfl)) rfl
theorem ml_L_155 : Cond.methodLink RL 155 yX11_digest ∈ sx_T := sx_inT (sx_t4 (List.mem_of_getElem? (i := 152) rfl)) rfl
theorem ml_X11_312 : Cond.methodLink RX11 312 yX11_count ∈ sx_T := sx_inT (sx_t4 (List.mem_of_getElem? (i := 157) rfl)) rfl
theorem ml_X11_315 : Cond.methodLink RX11 315 yX11_mix ∈ sx_T := sx_inT (sx_t4 (List.mem_of_getElem? (i := 158) rfl)) rfl
theorem ml_X11_319 : Cond.methodLink RX11 319 yX11_fault ∈ sx_T := sx_inT (sx_t4 (List.mem_of_getElem? (i := 162) rfl)) rfl
theorem ml_X11_322 : Cond.methodLink RX11 322 yX11_mixPart ∈ sx_T := sx_inT (sx_t4 (List.mem_of_getElem? (i := 163) rfl)) rfl
theorem ml_X11_362 : Cond.methodLink RX11 362 yX11_part ∈ sx_T := sx_inT (sx_t4 (List.mem_of_getElem? (i := 167) rfl)) rfl
theorem ml_X11_365 : Cond.methodLink RX11 365 yX11_hits ∈ sx_T := sx_inT (sx_t4 (List.mem_of_getElem? (i := 168) rfl)) rfl
theorem ml_X11_368 : Cond.methodLink RX11 368 yX11_loose ∈ sx_T := sx_inT (sx_t4 (List.mem_of_getElem? (i := 169) rfl)) rfl
theorem ml_X11_326 : Cond.methodLink RX11 326 yX11_mixWalker ∈ sx_T := sx_inT (sx_t4 (List.mem_of_getElem? (i := 170) rfl)) rfl
theorem ml_X11_371 : Cond.methodLink RX11 371 yX11_walker ∈ sx_T := sx_inT (sx_t4 (List.mem_of_getElem? (i := 174) rfl)) rfl
theorem ml_X11_374 : Cond.methodLink RX11 374 yX11_place ∈ sx_T := sx_inT (sx_t4 (List.mem_of_getElem? (i := 175) rfl)) rfl
theorem ml_X11_377 : Cond.methodLink RX11 377 yX11_treads ∈ sx_T := sx_inT (sx_t4 (List.mem_of_getElem? (i := 176) rfl)) rfl
theorem ml_X11_380 : Cond.methodLink RX11 380 yX11_harm ∈ sx_T := sx_inT (sx_t4 (List.mem_of_getElem? (i := 177) rfl)) rfl
theorem ml_X11_329 : Cond.methodLink RX11 329 yX11_all ∈ sx_T := sx_inT (sx_t4 (List.mem_of_getElem? (i := 178) rfl)) rfl
theorem ml_X11_333 : Cond.methodLink RX11 333 yX11_ends ∈ sx_T := sx_inT (sx_t4 (List.mem_of_getElem? (i := 179) rfl)) rfl
theorem ml_X11_336 : Cond.methodLink RX11 336 yX11_latest ∈ sx_T := sx_inT (sx_t4 (List.mem_of_getElem? (i := 180) rfl)) rfl
theorem ml_X11_339 : Cond.methodLink RX11 339 yX11_curve ∈ sx_T := sx_inT (sx_t4 (List.mem_of_getElem? (i := 181) rfl)) rfl
theorem ml_X11_342 : Cond.methodLink RX11 342 yX11_gap ∈ sx_T := sx_inT (sx_t4 (List.mem_of_getElem? (i := 182) rfl)) rfl
theorem ml_X11_344 : Cond.methodLink RX11 344 yX11_mixOrder ∈ sx_T := sx_inT (sx_t4 (List.mem_of_getElem? (i := 183) rfl)) rfl
theorem ml_X11_348 : Cond.methodLink RX11 348 yX11_helmets ∈ sx_T := sx_inT (sx_t4 (List.mem_of_getElem? (i := 187) rfl)) rfl
theorem ml_X11_351 : Cond.methodLink RX11 351 yX11_waits ∈ sx_T := sx_inT (sx_t4 (List.mem_of_getElem? (i := 188) rfl)) rfl
theorem ml_X11_354 : Cond.methodLink RX11 354 yX11_foot ∈ sx_T := sx_inT (sx_t4 (List.mem_of_getElem? (i := 189) rfl)) rfl
theorem ml_X11_357 : Cond.methodLink RX11 357 yX11_morning ∈ sx_T := sx_inT (sx_t4 (List.mem_of_getElem? (i := 190) rfl)) rfl
theorem ml_L_12 : Cond.methodLink RL 12 yX12_init ∈ sx_T := sx_inT (sx_t4 (List.mem_of_getElem? (i := 193) rfl)) rfl
theorem ml_X12_1 : Cond.methodLink RX12 1 objectInit ∈ sx_T := sx_inT (sx_t4 (List.mem_of_getElem? (i := 196) rfl)) rfl
theorem ml_L_128 : Cond.methodLink RL 128 yX12_sheet ∈ sx_T := sx_inT (sx_t5 (List.mem_of_getElem? (i := 37) rfl)) rfl
theorem ml_X12_68 : Cond.methodLink RX12 68 yX12_isSheet ∈ sx_T := sx_inT (sx_t5 (List.mem_of_getElem? (i := 41) rfl)) rfl
theorem ml_X12_58 : Cond.methodLink RX12 58 yX12_in ∈ sx_T := sx_inT (sx_t5 (List.mem_of_getElem? (i := 45) rfl)) rfl
theorem ml_X12_74 : Cond.methodLink RX12 74 yX12_met ∈ sx_T := sx_inT (sx_t5 (List.mem_of_getElem? (i := 49) rfl)) rfl
theorem ml_L_132 : Cond.methodLink RL 132 yX12_lose ∈ sx_T := sx_inT (sx_t5 (List.mem_of_getElem? (i := 53) rfl)) rfl
theorem ml_L_137 : Cond.methodLink RL 137 yX12_lay ∈ sx_T := sx_inT (sx_t5 (List.mem_of_getElem? (i := 57) rfl)) rfl
theorem ml_X12_78 : Cond.methodLink RX12 78 yX12_lacks ∈ sx_T := sx_inT (sx_t5 (List.mem_of_getElem? (i := 61) rfl)) rfl
theorem ml_X12_82 : Cond.methodLink RX12 82 yX12_cut ∈ sx_T := sx_inT (sx_t5 (List.mem_of_getElem? (i := 65) rfl)) rfl
theorem ml_L_141 : Cond.methodLink RL 141 yX12_get ∈ sx_T := sx_inT (sx_t5 (List.mem_of_getElem? (i := 68) rfl)) rfl
theorem ml_L_146 : Cond.methodLink RL 146 yX12_copy ∈ sx_T := sx_inT (sx_t5 (List.mem_of_getElem? (i := 73) rfl)) rfl
theorem ml_L_17 : Cond.methodLink RL 17 yX12_type ∈ sx_T := sx_inT (sx_t5 (List.mem_of_getElem? (i := 77) rfl)) rfl
theorem ml_X12_87 : Cond.methodLink RX12 87 yX12_isTwo ∈ sx_T := sx_inT (sx_t5 (List.mem_of_getElem? (i := 81) rfl)) rfl
theorem ml_L_22 : Cond.methodLink RL 22 yX12_wipe ∈ sx_T := sx_inT (sx_t5 (List.mem_of_getElem? (i := 85) rfl)) rfl
theorem ml_L_26 : Cond.methodLink RL 26 yX12_undo ∈ sx_T := sx_inT (sx_t5 (List.mem_of_getElem? (i := 89) rfl)) rfl
theorem ml_L_30 : Cond.methodLink RL 30 yX12_fault ∈ sx_T := sx_inT (sx_t5 (List.mem_of_getElem? (i := 93) rfl)) rfl
theorem ml_X12_113 : Cond.methodLink RX12 113 yX12_readsGully ∈ sx_T := sx_inT (sx_t5 (List.mem_of_getElem? (i := 97) rfl)) rfl
theorem ml_X12_98 : Cond.methodLink RX12 98 yX12_here ∈ sx_T := sx_inT (sx_t5 (List.mem_of_getElem? (i := 101) rfl)) rfl
theorem ml_X12_101 : Cond.methodLink RX12 101 yX12_kindOf ∈ sx_T := sx_inT (sx_t5 (List.mem_of_getElem? (i := 105) rfl)) rfl
theorem ml_X12_117 : Cond.methodLink RX12 117 yX12_readsWalkers ∈ sx_T := sx_inT (sx_t5 (List.mem_of_getElem? (i := 109) rfl)) rfl
theorem ml_X12_109 : Cond.methodLink RX12 109 yX12_readsWalker ∈ sx_T := sx_inT (sx_t5 (List.mem_of_getElem? (i := 113) rfl)) rfl
theorem ml_L_34 : Cond.methodLink RL 34 yX12_part_ ∈ sx_T := sx_inT (sx_t5 (List.mem_of_getElem? (i := 117) rfl)) rfl
theorem ml_X12_120 : Cond.methodLink RX12 120 yX12_reads ∈ sx_T := sx_inT (sx_t5 (List.mem_of_getElem? (i := 121) rfl)) rfl
theorem ml_X12_146 : Cond.methodLink RX12 146 yX12_plain ∈ sx_T := sx_inT (sx_t5 (List.mem_of_getElem? (i := 125) rfl)) rfl
theorem ml_X12_140 : Cond.methodLink RX12 140 yX12_helmetsNow ∈ sx_T := sx_inT (sx_t5 (List.mem_of_getElem? (i := 129) rfl)) rfl
theorem ml_X12_123 : Cond.methodLink RX12 123 yX12_isPart ∈ sx_T := sx_inT (sx_t5 (List.mem_of_getElem? (i := 133) rfl)) rfl
theorem ml_L_38 : Cond.methodLink RL 38 yX12_walker ∈ sx_T := sx_inT (sx_t5 (List.mem_of_getElem? (i := 137) rfl)) rfl
theorem ml_X12_126 : Cond.methodLink RX12 126 yX12_isWalker ∈ sx_T := sx_inT (sx_t5 (List.mem_of_getElem? (i := 141) rfl)) rfl
theorem ml_X12_129 : Cond.methodLink RX12 129 yX12_walkerOf ∈ sx_T := sx_inT (sx_t5 (List.mem_of_getElem? (i := 145) rfl)) rfl
theorem ml_L_42 : Cond.methodLink RL 42 yX12_set ∈ sx_T := sx_inT (sx_t5 (List.mem_of_getElem? (i := 149) rfl)) rfl
theorem ml_X12_134 : Cond.methodLink RX12 134 yX12_most ∈ sx_T := sx_inT (sx_t5 (List.mem_of_getElem? (i := 154) rfl)) rfl
theorem ml_L_46 : Cond.methodLink RL 46 yX12_place ∈ sx_T := sx_inT (sx_t5 (List.mem_of_getElem? (i := 157) rfl)) rfl
theorem ml_X12_157 : Cond.methodLink RX12 157 yX12_placeOf ∈ sx_T := sx_inT (sx_t5 (List.mem_of_getElem? (i := 162) rfl)) rfl
theorem ml_X12_149 : Cond.methodLink RX12 149 yX12_startOf ∈ sx_T := sx_inT (sx_t5 (List.mem_of_getElem? (i := 166) rfl)) rfl
theorem ml_X12_152 : Cond.methodLink RX12 152 yX12_pace ∈ sx_T := sx_inT (sx_t5 (List.mem_of_getElem? (i := 170) rfl)) rfl
theorem ml_L_50 : Cond.methodLink RL 50 yX12_treads ∈ sx_T := sx_inT (sx_t5 (List.mem_of_getElem? (i := 174) rfl)) rfl
theorem ml_X12_169 : Cond.methodLink RX12 169 yX12_treadsOf ∈ sx_T := sx_inT (sx_t5 (List.mem_of_getElem? (i := 178) rfl)) rfl
theorem ml_X12_166 : Cond.methodLink RX12 166 yX12_oddsBy ∈ sx_T := sx_inT (sx_t5 (List.mem_of_getElem? (i := 182) rfl)) rfl
theorem ml_X12_160 : Cond.methodLink RX12 160 yX12_greater ∈ sx_T := sx_inT (sx_t5 (List.mem_of_getElem? (i := 186) rfl)) rfl
theorem ml_X12_163 : Cond.methodLink RX12 163 yX12_lesser ∈ sx_T := sx_inT (sx_t5 (List.mem_of_getElem? (i := 189) rfl)) rfl
theorem ml_L_55 : Cond.methodLink RL 55 yX12_hits ∈ sx_T := sx_inT (sx_t5 (List.mem_of_getElem? (i := 192) rfl)) rfl
theorem ml_X12_172 : Cond.methodLink RX12 172 yX12_hitsOf ∈ sx_T := sx_inT (sx_t5 (List.mem_of_getElem? (i := 196) rfl)) rfl
theorem ml_L_60 : Cond.methodLink RL 60 yX12_harm ∈ sx_T := sx_inT (sx_t5 (List.mem_of_getElem? (i := 200) rfl)) rfl
theorem ml_X12_186 : Cond.methodLink RX12 186 yX12_sunOf ∈ sx_T := sx_inT (sx_t5 (List.mem_of_getElem? (i := 204) rfl)) rfl
theorem ml_X12_183 : Cond.methodLink RX12 183 yX12_hitsWho ∈ sx_T := sx_inT (sx_t5 (List.mem_of_getElem? (i := 208) rfl)) rfl
theorem ml_X12_176 : Cond.methodLink RX12 176 yX12_isIn ∈ sx_T := sx_inT (sx_t5 (List.mem_of_getElem? (i := 212) rfl)) rfl
theorem ml_X12_189 : Cond.methodLink RX12 189 yX12_harmBy ∈ sx_T := sx_inT (sx_t5 (List.mem_of_getElem? (i := 215) rfl)) rfl
theorem ml_X12_180 : Cond.methodLink RX12 180 yX12_isAside ∈ sx_T := sx_inT (sx_t5 (List.mem_of_getElem? (i := 219) rfl)) rfl
theorem ml_X12_197 : Cond.methodLink RX12 197 yX12_part ∈ sx_T := sx_inT (sx_t5 (List.mem_of_getElem? (i := 224) rfl)) rfl
theorem ml_X12_201 : Cond.methodLink RX12 201 yX12_no ∈ sx_T := sx_inT (sx_t5 (List.mem_of_getElem? (i := 227) rfl)) rfl
theorem ml_L_65 : Cond.methodLink RL 65 yX12_all ∈ sx_T := sx_inT (sx_t5 (List.mem_of_getElem? (i := 231) rfl)) rfl
theorem ml_X12_205 : Cond.methodLink RX12 205 yX12_toAll ∈ sx_T := sx_inT (sx_t5 (List.mem_of_getElem? (i := 235) rfl)) rfl
theorem ml_X12_192 : Cond.methodLink RX12 192 yX12_toOne ∈ sx_T := sx_inT (sx_t5 (List.mem_of_getElem? (i := 239) rfl)) rfl
theorem ml_L_70 : Cond.methodLink RL 70 yX12_ends ∈ sx_T := sx_inT (sx_t6 (List.mem_of_getElem? (i := 3) rfl)) rfl
theorem ml_X12_211 : Cond.methodLink RX12 211 yX12_endsNow ∈ sx_T := sx_inT (sx_t6 (List.mem_of_getElem? (i := 7) rfl)) rfl
theorem ml_X12_208 : Cond.methodLink RX12 208 yX12_takes ∈ sx_T := sx_inT (sx_t6 (List.mem_of_getElem? (i := 11) rfl)) rfl
theorem ml_L_74 : Cond.methodLink RL 74 yX12_latest ∈ sx_T := sx_inT (sx_t6 (List.mem_of_getElem? (i := 15) rfl)) rfl
theorem ml_X12_214 : Cond.methodLink RX12 214 yX12_latestNow ∈ sx_T := sx_inT (sx_t6 (List.mem_of_getElem? (i := 19) rfl)) rfl
theorem ml_L_78 : Cond.methodLink RL 78 yX12_curve ∈ sx_T := sx_inT (sx_t6 (List.mem_of_getElem? (i := 23) rfl)) rfl
theorem ml_X12_219 : Cond.methodLink RX12 219 yX12_byGap ∈ sx_T := sx_inT (sx_t6 (List.mem_of_getElem? (i := 28) rfl)) rfl
theorem ml_L_82 : Cond.methodLink RL 82 yX12_gap ∈ sx_T := sx_inT (sx_t6 (List.mem_of_getElem? (i := 32) rfl)) rfl
theorem ml_X12_222 : Cond.methodLink RX12 222 yX12_gapOf ∈ sx_T := sx_inT (sx_t6 (List.mem_of_getElem? (i := 36) rfl)) rfl
theorem ml_L_86 : Cond.methodLink RL 86 yX12_order ∈ sx_T := sx_inT (sx_t6 (List.mem_of_getElem? (i := 40) rfl)) rfl
theorem ml_X12_229 : Cond.methodLink RX12 229 yX12_findOrder ∈ sx_T := sx_inT (sx_t6 (List.mem_of_getElem? (i := 44) rfl)) rfl
theorem ml_X12_225 : Cond.methodLink RX12 225 yX12_unfolds ∈ sx_T := sx_inT (sx_t6 (List.mem_of_getElem? (i := 48) rfl)) rfl
theorem ml_L_91 : Cond.methodLink RL 91 yX12_ordered ∈ sx_T := sx_inT (sx_t6 (List.mem_of_getElem? (i := 52) rfl)) rfl
theorem ml_L_95 : Cond.methodLink RL 95 yX12_helmets ∈ sx_T := sx_inT (sx_t6 (List.mem_of_getElem? (i := 56) rfl)) rfl
theorem ml_X12_238 : Cond.methodLink RX12 238 yX12_findHelmets ∈ sx_T := sx_inT (sx_t6 (List.mem_of_getElem? (i := 60) rfl)) rfl
theorem ml_X12_232 : Cond.methodLink RX12 232 yX12_ones ∈ sx_T := sx_inT (sx_t6 (List.mem_of_getElem? (i := 64) rfl)) rfl
theorem ml_X12_241 : Cond.methodLink RX12 241 yX12_tellsHelmets ∈ sx_T := sx_inT (sx_t6 (List.mem_of_getElem? (i := 67) rfl)) rfl
theorem ml_L_100 : Cond.methodLink RL 100 yX12_waits ∈ sx_T := sx_inT (sx_t6 (List.mem_of_getElem? (i := 71) rfl)) rfl
theorem ml_X12_258 : Cond.methodLink RX12 258 yX12_findWait ∈ sx_T := sx_inT (sx_t6 (List.mem_of_getElem? (i := 77) rfl)) rfl
theorem ml_X12_248 : Cond.methodLink RX12 248 yX12_byOthers ∈ sx_T := sx_inT (sx_t6 (List.mem_of_getElem? (i := 81) rfl)) rfl
theorem ml_X12_262 : Cond.methodLink RX12 262 yX12_tellsWait ∈ sx_T := sx_inT (sx_t6 (List.mem_of_getElem? (i := 85) rfl)) rfl
theorem ml_L_104 : Cond.methodLink RL 104 yX12_foot ∈ sx_T := sx_inT (sx_t6 (List.mem_of_getElem? (i := 89) rfl)) rfl
theorem ml_X12_269 : Cond.methodLink RX12 269 yX12_footOf ∈ sx_T := sx_inT (sx_t6 (List.mem_of_getElem? (i := 93) rfl)) rfl
theorem ml_X12_265 : Cond.methodLink RX12 265 yX12_comesInto ∈ sx_T := sx_inT (sx_t6 (List.mem_of_getElem? (i := 97) rfl)) rfl
theorem ml_L_108 : Cond.methodLink RL 108 yX12_fell ∈ sx_T := sx_inT (sx_t6 (List.mem_of_getElem? (i := 101) rfl)) rfl
theorem ml_L_112 : Cond.methodLink RL 112 yX12_forget ∈ sx_T := sx_inT (sx_t6 (List.mem_of_getElem? (i := 106) rfl)) rfl
theorem ml_L_120 : Cond.methodLink RL 120 yX12_read ∈ sx_T := sx_inT (sx_t6 (List.mem_of_getElem? (i := 110) rfl)) rfl
theorem ml_X12_278 : Cond.methodLink RX12 278 yX12_fell ∈ sx_T := sx_inT (sx_t6 (List.mem_of_getElem? (i := 114) rfl)) rfl
theorem ml_L_116 : Cond.methodLink RL 116 yX12_loose ∈ sx_T := sx_inT (sx_t6 (List.mem_of_getElem? (i := 115) rfl)) rfl
theorem ml_X12_283 : Cond.methodLink RX12 283 yX12_looseOf ∈ sx_T := sx_inT (sx_t6 (List.mem_of_getElem? (i := 119) rfl)) rfl
theorem ml_X12_280 : Cond.methodLink RX12 280 yX12_likely ∈ sx_T := sx_inT (sx_t6 (List.mem_of_getElem? (i := 123) rfl)) rfl
theorem ml_L_124 : Cond.methodLink RL 124 yX12_morning ∈ sx_T := sx_inT (sx_t6 (List.mem_of_getElem? (i := 127) rfl)) rfl
theorem ml_X12_296 : Cond.methodLink RX12 296 yX12_morningOf ∈ sx_T := sx_inT (sx_t6 (List.mem_of_getElem? (i := 131) rfl)) rfl
theorem ml_X12_290 : Cond.methodLink RX12 290 yX12_lot ∈ sx_T := sx_inT (sx_t6 (List.mem_of_getElem? (i := 135) rfl)) rfl
theorem ml_X12_293 : Cond.methodLink RX12 293 yX12_falls ∈ sx_T := sx_inT (sx_t6 (List.mem_of_getElem? (i := 140) rfl)) rfl
theorem ml_L_150 : Cond.methodLink RL 150 yX12_write ∈ sx_T := sx_inT (sx_t6 (List.mem_of_getElem? (i := 144) rfl)) rfl
theorem ml_L_154 : Cond.methodLink RL 154 yX12_count ∈ sx_T := sx_inT (sx_t6 (List.mem_of_getElem? (i := 148) rfl)) rfl
theorem ml_L_159 : Cond.methodLink RL 159 yX12_digest ∈ sx_T := sx_inT (sx_t6 (List.mem_of_getElem? (i := 152) rfl)) rfl
theorem ml_X12_312 : Cond.methodLink RX12 312 yX12_count ∈ sx_T := sx_inT (sx_t6 (List.mem_of_getElem? (i := 158) rfl)) rfl
theorem ml_X12_315 : Cond.methodLink RX12 315 yX12_fault ∈ sx_T := sx_inT (sx_t6 (List.mem_of_getElem? (i := 159) rfl)) rfl
theorem ml_X12_318 : Cond.methodLink RX12 318 yX12_tellsWalker ∈ sx_T := sx_inT (sx_t6 (List.mem_of_getElem? (i := 160) rfl)) rfl
theorem ml_X12_301 : Cond.methodLink RX12 301 yX12_treads ∈ sx_T := sx_inT (sx_t6 (List.mem_of_getElem? (i := 164) rfl)) rfl
theorem ml_X12_304 : Cond.methodLink RX12 304 yX12_harm ∈ sx_T := sx_inT (sx_t6 (List.mem_of_getElem? (i := 165) rfl)) rfl
theorem ml_X12_307 : Cond.methodLink RX12 307 yX12_all ∈ sx_T := sx_inT (sx_t6 (List.mem_of_getElem? (i := 166) rfl)) rfl
theorem ml_X12_322 : Cond.methodLink RX12 322 yX12_curve ∈ sx_T := sx_inT (sx_t6 (List.mem_of_getElem? (i := 167) rfl)) rfl
theorem ml_X12_325 : Cond.methodLink RX12 325 yX12_helmets ∈ sx_T := sx_inT (sx_t6 (List.mem_of_getElem? (i := 168) rfl)) rfl
theorem ml_X12_327 : Cond.methodLink RX12 327 yX12_foot ∈ sx_T := sx_inT (sx_t6 (List.mem_of_getElem? (i := 169) rfl)) rfl
theorem ml_X11_23 : (RX11, 23, yX0_init) ∈ sx_nest := by decide +kernel
theorem ml_X11_30 : (RX11, 30, yX5_init) ∈ sx_nest := by decide +kernel
theorem ml_X11_37 : (RX11, 37, yX6_init) ∈ sx_nest := by decide +kernel
theorem ml_X11_85 : (RX11, 85, yX9_init) ∈ sx_nest := by decide +kernel
theorem ml_X11_96 : (RX11, 96, yX7_init) ∈ sx_nest := by decide +kernel
theorem ml_X9_21 : (RX9, 21, yX11_within) ∈ sx_nest := by decide +kernel
theorem im_obj : Cond.instanceMethod objectInit ∈ sx_T := sx_inT (sx_t1 (List.mem_of_getElem? (i := 24) rfl)) rfl
theorem co_obj : Cond.code objectInit ⟨#[0xb1]⟩ 1 none ∈ sx_T := sx_inT (sx_t1 (List.mem_of_getElem? (i := 25) rfl)) rfl
theorem mt_X11_init : sx_MI yX11_init cX11_init 2 0 := ⟨sx_inT (sx_t1 (List.mem_of_getElem? (i := 22) rfl)) rfl, sx_inT (sx_t1 (List.mem_of_getElem? (i := 21) rfl)) rfl, rfl, in_RX11, ⟨by decide, by decide, by decide⟩, by decide⟩
theorem mt_X10_init : sx_MI yX10_init cX10_init 2 1 := ⟨sx_inT (sx_t1 (List.mem_of_getElem? (i := 30) rfl)) rfl, sx_inT (sx_t1 (List.mem_of_getElem? (i := 29) rfl)) rfl, rfl, in_RX10, ⟨by decide, by decide, by decide⟩, by decide⟩
theorem mt_J9_min_7cf53 : sx_MS yJ9_min_7cf53 cJ9_min_7cf53 2 (some .int) 2 := ⟨sx_inT (sx_t1 (List.mem_of_getElem? (i := 34) rfl)) rfl, sx_inT (sx_t1 (List.mem_of_getElem? (i := 33) rfl)) rfl, in_RJ9, ⟨by decide, by decide, by decide⟩, by decide⟩
theorem mt_X0_init : sx_MI yX0_init cX0_init 1 0 := ⟨sx_inT (sx_t1 (List.mem_of_getElem? (i := 50) rfl)) rfl, sx_inT (sx_t1 (List.mem_of_getElem? (i := 49) rfl)) rfl, rfl, in_RX0, ⟨by decide, by decide, by decide⟩, by decide⟩
theorem mt_X5_init : sx_MI yX5_init cX5_init 1 0 := ⟨sx_inT (sx_t1 (List.mem_of_getElem? (i := 73) rfl)) rfl, sx_inT (sx_t1 (List.mem_of_getElem? (i := 72) rfl)) rfl, rfl, in_RX5, ⟨by decide, by decide, by decide⟩, by decide⟩
theorem mt_X6_init : sx_MI yX6_init cX6_init 1 0 := ⟨sx_inT (sx_t1 (List.mem_of_getElem? (i := 95) rfl)) rfl, sx_inT (sx_t1 (List.mem_of_getElem? (i := 94) rfl)) rfl, rfl, in_RX6, ⟨by decide, by decide, by decide⟩, by decide⟩
theorem mt_X8_init : sx_MI yX8_init cX8_init 4 3 := ⟨sx_inT (sx_t1 (List.mem_of_getElem? (i := 135) rfl)) rfl, sx_inT (sx_t1 (List.mem_of_getElem? (i := 134) rfl)) rfl, rfl, in_RX8, ⟨by decide, by decide, by decide⟩, by decide⟩
theorem mt_X3_init : sx_MI yX3_init cX3_init 4 3 := ⟨sx_inT (sx_t1 (List.mem_of_getElem? (i := 154) rfl)) rfl, sx_inT (sx_t1 (List.mem_of_getElem? (i := 153) rfl)) rfl, rfl, in_RX3, ⟨by decide, by decide, by decide⟩, by decide⟩
theorem mt_X1_init : sx_MI yX1_init cX1_init 4 3 := ⟨sx_inT (sx_t1 (List.mem_of_getElem? (i := 186) rfl)) rfl, sx_inT (sx_t1 (List.mem_of_getElem? (i := 185) rfl)) rfl, rfl, in_RX1, ⟨by decide, by decide, by decide⟩, by decide⟩
theorem mt_X4_init : sx_MI yX4_init cX4_init 4 3 := ⟨sx_inT (sx_t1 (List.mem_of_getElem? (i := 205) rfl)) rfl, sx_inT (sx_t1 (List.mem_of_getElem? (i := 204) rfl)) rfl, rfl, in_RX4, ⟨by decide, by decide, by decide⟩, by decide⟩
theorem mt_X2_init : sx_MI yX2_init cX2_init 5 4 := ⟨sx_inT (sx_t1 (List.mem_of_getElem? (i := 221) rfl)) rfl, sx_inT (sx_t1 (List.mem_of_getElem? (i := 220) rfl)) rfl, rfl, in_RX2, ⟨by decide, by decide, by decide⟩, by decide⟩
theorem mt_X9_init : sx_MI yX9_init cX9_init 1 0 := ⟨sx_inT (sx_t2 (List.mem_of_getElem? (i := 6) rfl)) rfl, sx_inT (sx_t2 (List.mem_of_getElem? (i := 5) rfl)) rfl, rfl, in_RX9, ⟨by decide, by decide, by decide⟩, by decide⟩
theorem mt_X7_init : sx_MI yX7_init cX7_init 1 0 := ⟨sx_inT (sx_t2 (List.mem_of_getElem? (i := 26) rfl)) rfl, sx_inT (sx_t2 (List.mem_of_getElem? (i := 25) rfl)) rfl, rfl, in_RX7, ⟨by decide, by decide, by decide⟩, by decide⟩
theorem mt_X11_type : sx_MV yX11_type cX11_type 4 (some .int) 2 := ⟨sx_inT (sx_t2 (List.mem_of_getElem? (i := 81) rfl)) rfl, sx_inT (sx_t2 (List.mem_of_getElem? (i := 79) rfl)) rfl, sx_inT (sx_t2 (List.mem_of_getElem? (i := 80) rfl)) rfl, in_RX11, ⟨by decide, by decide, by decide⟩, by decide⟩
theorem mt_X11_textAt : sx_MV yX11_textAt cX11_textAt 2 (some (.object "StonesAbove$Text")) 1 := ⟨sx_inT (sx_t2 (List.mem_of_getElem? (i := 85) rfl)) rfl, sx_inT (sx_t2 (List.mem_of_getElem? (i := 84) rfl)) rfl, sx_inT (sx_t0 (List.mem_of_getElem? (i := 0) rfl)) rfl, in_RX11, ⟨by decide, by decide, by decide⟩, by decide⟩
theorem mt_X11_within : sx_MS yX11_within cX11_within 3 (some .boolean) 3 := ⟨sx_inT (sx_t2 (List.mem_of_getElem? (i := 88) rfl)) rfl, sx_inT (sx_t2 (List.mem_of_getElem? (i := 87) rfl)) rfl, in_RX11, ⟨by decide, by decide, by decide⟩, by decide⟩
theorem mt_X10_isFull : sx_MV yX10_isFull cX10_isFull 1 (some .boolean) 0 := ⟨sx_inT (sx_t2 (List.mem_of_getElem? (i := 92) rfl)) rfl, sx_inT (sx_t2 (List.mem_of_getElem? (i := 90) rfl)) rfl, sx_inT (sx_t2 (List.mem_of_getElem? (i := 91) rfl)) rfl, in_RX10, ⟨by decide, by decide, by decide⟩, by decide⟩
theorem mt_X10_append : sx_MV yX10_append cX10_append 2 none 1 := ⟨sx_inT (sx_t2 (List.mem_of_getElem? (i := 96) rfl)) rfl, sx_inT (sx_t2 (List.mem_of_getElem? (i := 94) rfl)) rfl, sx_inT (sx_t2 (List.mem_of_getElem? (i := 95) rfl)) rfl, in_RX10, ⟨by decide, by decide, by decide⟩, by decide⟩
theorem mt_X11_parseAnew : sx_MV yX11_parseAnew cX11_parseAnew 1 none 0 := ⟨sx_inT (sx_t2 (List.mem_of_getElem? (i := 100) rfl)) rfl, sx_inT (sx_t2 (List.mem_of_getElem? (i := 99) rfl)) rfl, sx_inT (sx_t0 (List.mem_of_getElem? (i := 1) rfl)) rfl, in_RX11, ⟨by decide, by decide, by decide⟩, by decide⟩
theorem mt_X0_parse : sx_MV yX0_parse cX0_parse 5 none 1 := ⟨sx_inT (sx_t2 (List.mem_of_getElem? (i := 104) rfl)) rfl, sx_inT (sx_t2 (List.mem_of_getElem? (i := 102) rfl)) rfl, sx_inT (sx_t2 (List.mem_of_getElem? (i := 103) rfl)) rfl, in_RX0, ⟨by decide, by decide, by decide⟩, by decide⟩
theorem mt_X10_length : sx_MV yX10_length cX10_length 1 (some .int) 0 := ⟨sx_inT (sx_t2 (List.mem_of_getElem? (i := 108) rfl)) rfl, sx_inT (sx_t2 (List.mem_of_getElem? (i := 106) rfl)) rfl, sx_inT (sx_t2 (List.mem_of_getElem? (i := 107) rfl)) rfl, in_RX10, ⟨by decide, by decide, by decide⟩, by decide⟩
theorem mt_X10_byteAt : sx_MV yX10_byteAt cX10_byteAt 2 (some .int) 1 := ⟨sx_inT (sx_t2 (List.mem_of_getElem? (i := 112) rfl)) rfl, sx_inT (sx_t2 (List.mem_of_getElem? (i := 110) rfl)) rfl, sx_inT (sx_t2 (List.mem_of_getElem? (i := 111) rfl)) rfl, in_RX10, ⟨by decide, by decide, by decide⟩, by decide⟩
theorem mt_X0_kindOf : sx_MS yX0_kindOf cX0_kindOf 1 (some .int) 1 := ⟨sx_inT (sx_t2 (List.mem_of_getElem? (i := 115) rfl)) rfl, sx_inT (sx_t2 (List.mem_of_getElem? (i := 114) rfl)) rfl, in_RX0, ⟨by decide, by decide, by decide⟩, by decide⟩
theorem mt_X0_add : sx_MV yX0_add cX0_add 3 none 2 := ⟨sx_inT (sx_t2 (List.mem_of_getElem? (i := 119) rfl)) rfl, sx_inT (sx_t2 (List.mem_of_getElem? (i := 118) rfl)) rfl, sx_inT (sx_t0 (List.mem_of_getElem? (i := 2) rfl)) rfl, in_RX0, ⟨by decide, by decide, by decide⟩, by decide⟩
theorem mt_X10_figureAt : sx_MV yX10_figureAt cX10_figureAt 3 (some .int) 1 := ⟨sx_inT (sx_t2 (List.mem_of_getElem? (i := 123) rfl)) rfl, sx_inT (sx_t2 (List.mem_of_getElem? (i := 121) rfl)) rfl, sx_inT (sx_t2 (List.mem_of_getElem? (i := 122) rfl)) rfl, in_RX10, ⟨by decide, by decide, by decide⟩, by decide⟩
theorem mt_X5_parse : sx_MV yX5_parse cX5_parse 3 none 1 := ⟨sx_inT (sx_t2 (List.mem_of_getElem? (i := 128) rfl)) rfl, sx_inT (sx_t2 (List.mem_of_getElem? (i := 126) rfl)) rfl, sx_inT (sx_t2 (List.mem_of_getElem? (i := 127) rfl)) rfl, in_RX5, ⟨by decide, by decide, by decide⟩, by decide⟩
theorem mt_X5_faultOf : sx_MS yX5_faultOf cX5_faultOf 2 (some .int) 1 := ⟨sx_inT (sx_t2 (List.mem_of_getElem? (i := 131) rfl)) rfl, sx_inT (sx_t2 (List.mem_of_getElem? (i := 130) rfl)) rfl, in_RX5, ⟨by decide, by decide, by decide⟩, by decide⟩
theorem mt_X5_fitsAt : sx_MS yX5_fitsAt cX5_fitsAt 2 (some .boolean) 2 := ⟨sx_inT (sx_t2 (List.mem_of_getElem? (i := 135) rfl)) rfl, sx_inT (sx_t2 (List.mem_of_getElem? (i := 134) rfl)) rfl, in_RX5, ⟨by decide, by decide, by decide⟩, by decide⟩
theorem mt_X5_add : sx_MV yX5_add cX5_add 4 none 3 := ⟨sx_inT (sx_t2 (List.mem_of_getElem? (i := 141) rfl)) rfl, sx_inT (sx_t2 (List.mem_of_getElem? (i := 140) rfl)) rfl, sx_inT (sx_t0 (List.mem_of_getElem? (i := 3) rfl)) rfl, in_RX5, ⟨by decide, by decide, by decide⟩, by decide⟩
theorem mt_X8_prepareSun : sx_MV yX8_prepareSun cX8_prepareSun 4 none 0 := ⟨sx_inT (sx_t2 (List.mem_of_getElem? (i := 145) rfl)) rfl, sx_inT (sx_t2 (List.mem_of_getElem? (i := 143) rfl)) rfl, sx_inT (sx_t2 (List.mem_of_getElem? (i := 144) rfl)) rfl, in_RX8, ⟨by decide, by decide, by decide⟩, by decide⟩
theorem mt_X0_isLoose : sx_MV yX0_isLoose cX0_isLoose 2 (some .boolean) 1 := ⟨sx_inT (sx_t2 (List.mem_of_getElem? (i := 149) rfl)) rfl, sx_inT (sx_t2 (List.mem_of_getElem? (i := 147) rfl)) rfl, sx_inT (sx_t2 (List.mem_of_getElem? (i := 148) rfl)) rfl, in_RX0, ⟨by decide, by decide, by decide⟩, by decide⟩
theorem mt_X0_loosenessAt : sx_MV yX0_loosenessAt cX0_loosenessAt 2 (some .int) 1 := ⟨sx_inT (sx_t2 (List.mem_of_getElem? (i := 153) rfl)) rfl, sx_inT (sx_t2 (List.mem_of_getElem? (i := 151) rfl)) rfl, sx_inT (sx_t2 (List.mem_of_getElem? (i := 152) rfl)) rfl, in_RX0, ⟨by decide, by decide, by decide⟩, by decide⟩
theorem mt_X8_struck : sx_MV yX8_struck cX8_struck 7 (some .int) 3 := ⟨sx_inT (sx_t2 (List.mem_of_getElem? (i := 157) rfl)) rfl, sx_inT (sx_t2 (List.mem_of_getElem? (i := 155) rfl)) rfl, sx_inT (sx_t2 (List.mem_of_getElem? (i := 156) rfl)) rfl, in_RX8, ⟨by decide, by decide, by decide⟩, by decide⟩
theorem mt_X0_kindAt : sx_MV yX0_kindAt cX0_kindAt 2 (some .int) 1 := ⟨sx_inT (sx_t2 (List.mem_of_getElem? (i := 161) rfl)) rfl, sx_inT (sx_t2 (List.mem_of_getElem? (i := 159) rfl)) rfl, sx_inT (sx_t2 (List.mem_of_getElem? (i := 160) rfl)) rfl, in_RX0, ⟨by decide, by decide, by decide⟩, by decide⟩
theorem mt_X11_wipe : sx_MV yX11_wipe cX11_wipe 4 (some .int) 1 := ⟨sx_inT (sx_t2 (List.mem_of_getElem? (i := 167) rfl)) rfl, sx_inT (sx_t2 (List.mem_of_getElem? (i := 165) rfl)) rfl, sx_inT (sx_t2 (List.mem_of_getElem? (i := 166) rfl)) rfl, in_RX11, ⟨by decide, by decide, by decide⟩, by decide⟩
theorem mt_X10_shorten : sx_MV yX10_shorten cX10_shorten 2 none 1 := ⟨sx_inT (sx_t2 (List.mem_of_getElem? (i := 171) rfl)) rfl, sx_inT (sx_t2 (List.mem_of_getElem? (i := 169) rfl)) rfl, sx_inT (sx_t2 (List.mem_of_getElem? (i := 170) rfl)) rfl, in_RX10, ⟨by decide, by decide, by decide⟩, by decide⟩
theorem mt_J9_max_7cf53 : sx_MS yJ9_max_7cf53 cJ9_max_7cf53 2 (some .int) 2 := ⟨sx_inT (sx_t2 (List.mem_of_getElem? (i := 174) rfl)) rfl, sx_inT (sx_t2 (List.mem_of_getElem? (i := 173) rfl)) rfl, in_RJ9, ⟨by decide, by decide, by decide⟩, by decide⟩
theorem mt_X11_undo : sx_MV yX11_undo cX11_undo 3 (some .int) 1 := ⟨sx_inT (sx_t2 (List.mem_of_getElem? (i := 178) rfl)) rfl, sx_inT (sx_t2 (List.mem_of_getElem? (i := 176) rfl)) rfl, sx_inT (sx_t2 (List.mem_of_getElem? (i := 177) rfl)) rfl, in_RX11, ⟨by decide, by decide, by decide⟩, by decide⟩
theorem mt_X11_fault : sx_MV yX11_fault cX11_fault 2 (some .int) 1 := ⟨sx_inT (sx_t2 (List.mem_of_getElem? (i := 182) rfl)) rfl, sx_inT (sx_t2 (List.mem_of_getElem? (i := 180) rfl)) rfl, sx_inT (sx_t2 (List.mem_of_getElem? (i := 181) rfl)) rfl, in_RX11, ⟨by decide, by decide, by decide⟩, by decide⟩
theorem mt_X0_faultPlace : sx_MV yX0_faultPlace cX0_faultPlace 1 (some .int) 0 := ⟨sx_inT (sx_t2 (List.mem_of_getElem? (i := 186) rfl)) rfl, sx_inT (sx_t2 (List.mem_of_getElem? (i := 184) rfl)) rfl, sx_inT (sx_t2 (List.mem_of_getElem? (i := 185) rfl)) rfl, in_RX0, ⟨by decide, by decide, by decide⟩, by decide⟩
theorem mt_X5_faultPlace : sx_MV yX5_faultPlace cX5_faultPlace 1 (some .int) 0 := ⟨sx_inT (sx_t2 (List.mem_of_getElem? (i := 190) rfl)) rfl, sx_inT (sx_t2 (List.mem_of_getElem? (i := 188) rfl)) rfl, sx_inT (sx_t2 (List.mem_of_getElem? (i := 189) rfl)) rfl, in_RX5, ⟨by decide, by decide, by decide⟩, by decide⟩
theorem mt_X11_part : sx_MV yX11_part cX11_part 3 (some .int) 2 := ⟨sx_inT (sx_t2 (List.mem_of_getElem? (i := 194) rfl)) rfl, sx_inT (sx_t2 (List.mem_of_getElem? (i := 192) rfl)) rfl, sx_inT (sx_t2 (List.mem_of_getElem? (i := 193) rfl)) rfl, in_RX11, ⟨by decide, by decide, by decide⟩, by decide⟩
theorem mt_X0_has : sx_MV yX0_has cX0_has 2 (some .boolean) 1 := ⟨sx_inT (sx_t2 (List.mem_of_getElem? (i := 198) rfl)) rfl, sx_inT (sx_t2 (List.mem_of_getElem? (i := 196) rfl)) rfl, sx_inT (sx_t2 (List.mem_of_getElem? (i := 197) rfl)) rfl, in_RX0, ⟨by decide, by decide, by decide⟩, by decide⟩
theorem mt_X11_walker : sx_MV yX11_walker cX11_walker 3 (some .int) 2 := ⟨sx_inT (sx_t2 (List.mem_of_getElem? (i := 204) rfl)) rfl, sx_inT (sx_t2 (List.mem_of_getElem? (i := 202) rfl)) rfl, sx_inT (sx_t2 (List.mem_of_getElem? (i := 203) rfl)) rfl, in_RX11, ⟨by decide, by decide, by decide⟩, by decide⟩
theorem mt_X5_has : sx_MV yX5_has cX5_has 2 (some .boolean) 1 := ⟨sx_inT (sx_t2 (List.mem_of_getElem? (i := 208) rfl)) rfl, sx_inT (sx_t2 (List.mem_of_getElem? (i := 206) rfl)) rfl, sx_inT (sx_t2 (List.mem_of_getElem? (i := 207) rfl)) rfl, in_RX5, ⟨by decide, by decide, by decide⟩, by decide⟩
theorem mt_X5_weightOf : sx_MV yX5_weightOf cX5_weightOf 2 (some .int) 1 := ⟨sx_inT (sx_t2 (List.mem_of_getElem? (i := 212) rfl)) rfl, sx_inT (sx_t2 (List.mem_of_getElem? (i := 210) rfl)) rfl, sx_inT (sx_t2 (List.mem_of_getElem? (i := 211) rfl)) rfl, in_RX5, ⟨by decide, by decide, by decide⟩, by decide⟩
theorem mt_X5_skillOf : sx_MV yX5_skillOf cX5_skillOf 2 (some .int) 1 := ⟨sx_inT (sx_t2 (List.mem_of_getElem? (i := 216) rfl)) rfl, sx_inT (sx_t2 (List.mem_of_getElem? (i := 214) rfl)) rfl, sx_inT (sx_t2 (List.mem_of_getElem? (i := 215) rfl)) rfl, in_RX5, ⟨by decide, by decide, by decide⟩, by decide⟩
theorem mt_X5_helmetOf : sx_MV yX5_helmetOf cX5_helmetOf 2 (some .int) 1 := ⟨sx_inT (sx_t2 (List.mem_of_getElem? (i := 220) rfl)) rfl, sx_inT (sx_t2 (List.mem_of_getElem? (i := 218) rfl)) rfl, sx_inT (sx_t2 (List.mem_of_getElem? (i := 219) rfl)) rfl, in_RX5, ⟨by decide, by decide, by decide⟩, by decide⟩
theorem mt_X11_set : sx_MV yX11_set cX11_set 4 (some .int) 2 := ⟨sx_inT (sx_t2 (List.mem_of_getElem? (i := 224) rfl)) rfl, sx_inT (sx_t2 (List.mem_of_getElem? (i := 222) rfl)) rfl, sx_inT (sx_t2 (List.mem_of_getElem? (i := 223) rfl)) rfl, in_RX11, ⟨by decide, by decide, by decide⟩, by decide⟩
theorem mt_X6_takes : sx_MV yX6_takes cX6_takes 3 (some .boolean) 2 := ⟨sx_inT (sx_t2 (List.mem_of_getElem? (i := 228) rfl)) rfl, sx_inT (sx_t2 (List.mem_of_getElem? (i := 226) rfl)) rfl, sx_inT (sx_t2 (List.mem_of_getElem? (i := 227) rfl)) rfl, in_RX6, ⟨by decide, by decide, by decide⟩, by decide⟩
theorem mt_X6_change : sx_MV yX6_change cX6_change 4 (some .int) 2 := ⟨sx_inT (sx_t2 (List.mem_of_getElem? (i := 234) rfl)) rfl, sx_inT (sx_t2 (List.mem_of_getElem? (i := 232) rfl)) rfl, sx_inT (sx_t2 (List.mem_of_getElem? (i := 233) rfl)) rfl, in_RX6, ⟨by decide, by decide, by decide⟩, by decide⟩
theorem mt_X11_place : sx_MV yX11_place cX11_place 3 (some .int) 2 := ⟨sx_inT (sx_t2 (List.mem_of_getElem? (i := 238) rfl)) rfl, sx_inT (sx_t2 (List.mem_of_getElem? (i := 236) rfl)) rfl, sx_inT (sx_t2 (List.mem_of_getElem? (i := 237) rfl)) rfl, in_RX11, ⟨by decide, by decide, by decide⟩, by decide⟩
theorem mt_X8_partOf : sx_MV yX8_partOf cX8_partOf 3 (some .int) 2 := ⟨sx_inT (sx_t3 (List.mem_of_getElem? (i := 2) rfl)) rfl, sx_inT (sx_t3 (List.mem_of_getElem? (i := 0) rfl)) rfl, sx_inT (sx_t3 (List.mem_of_getElem? (i := 1) rfl)) rfl, in_RX8, ⟨by decide, by decide, by decide⟩, by decide⟩
theorem mt_X8_partAfter : sx_MV yX8_partAfter cX8_partAfter 3 (some .int) 1 := ⟨sx_inT (sx_t3 (List.mem_of_getElem? (i := 6) rfl)) rfl, sx_inT (sx_t3 (List.mem_of_getElem? (i := 5) rfl)) rfl, sx_inT (sx_t0 (List.mem_of_getElem? (i := 4) rfl)) rfl, in_RX8, ⟨by decide, by decide, by decide⟩, by decide⟩
theorem mt_X11_treads : sx_MV yX11_treads cX11_treads 3 (some .int) 2 := ⟨sx_inT (sx_t3 (List.mem_of_getElem? (i := 10) rfl)) rfl, sx_inT (sx_t3 (List.mem_of_getElem? (i := 8) rfl)) rfl, sx_inT (sx_t3 (List.mem_of_getElem? (i := 9) rfl)) rfl, in_RX11, ⟨by decide, by decide, by decide⟩, by decide⟩
theorem mt_X8_oddsOf : sx_MV yX8_oddsOf cX8_oddsOf 3 (some .int) 2 := ⟨sx_inT (sx_t3 (List.mem_of_getElem? (i := 14) rfl)) rfl, sx_inT (sx_t3 (List.mem_of_getElem? (i := 12) rfl)) rfl, sx_inT (sx_t3 (List.mem_of_getElem? (i := 13) rfl)) rfl, in_RX8, ⟨by decide, by decide, by decide⟩, by decide⟩
theorem mt_X5_oddsMore : sx_MV yX5_oddsMore cX5_oddsMore 2 (some .int) 1 := ⟨sx_inT (sx_t3 (List.mem_of_getElem? (i := 19) rfl)) rfl, sx_inT (sx_t3 (List.mem_of_getElem? (i := 17) rfl)) rfl, sx_inT (sx_t3 (List.mem_of_getElem? (i := 18) rfl)) rfl, in_RX5, ⟨by decide, by decide, by decide⟩, by decide⟩
theorem mt_X8_odds : sx_MS yX8_odds cX8_odds 2 (some .int) 2 := ⟨sx_inT (sx_t3 (List.mem_of_getElem? (i := 24) rfl)) rfl, sx_inT (sx_t3 (List.mem_of_getElem? (i := 23) rfl)) rfl, in_RX8, ⟨by decide, by decide, by decide⟩, by decide⟩
theorem mt_X11_hits : sx_MV yX11_hits cX11_hits 4 (some .int) 3 := ⟨sx_inT (sx_t3 (List.mem_of_getElem? (i := 29) rfl)) rfl, sx_inT (sx_t3 (List.mem_of_getElem? (i := 27) rfl)) rfl, sx_inT (sx_t3 (List.mem_of_getElem? (i := 28) rfl)) rfl, in_RX11, ⟨by decide, by decide, by decide⟩, by decide⟩
theorem mt_X11_harm : sx_MV yX11_harm cX11_harm 8 (some .long) 3 := ⟨sx_inT (sx_t3 (List.mem_of_getElem? (i := 34) rfl)) rfl, sx_inT (sx_t3 (List.mem_of_getElem? (i := 32) rfl)) rfl, sx_inT (sx_t3 (List.mem_of_getElem? (i := 33) rfl)) rfl, in_RX11, ⟨by decide, by decide, by decide⟩, by decide⟩
theorem mt_X11_refusal : sx_MS yX11_refusal cX11_refusal 1 (some .long) 1 := ⟨sx_inT (sx_t3 (List.mem_of_getElem? (i := 37) rfl)) rfl, sx_inT (sx_t3 (List.mem_of_getElem? (i := 36) rfl)) rfl, in_RX11, ⟨by decide, by decide, by decide⟩, by decide⟩
theorem mt_X8_bySun : sx_MV yX8_bySun cX8_bySun 11 (some .long) 3 := ⟨sx_inT (sx_t3 (List.mem_of_getElem? (i := 42) rfl)) rfl, sx_inT (sx_t3 (List.mem_of_getElem? (i := 40) rfl)) rfl, sx_inT (sx_t3 (List.mem_of_getElem? (i := 41) rfl)) rfl, in_RX8, ⟨by decide, by decide, by decide⟩, by decide⟩
theorem mt_X6_pace : sx_MV yX6_pace cX6_pace 1 (some .int) 0 := ⟨sx_inT (sx_t3 (List.mem_of_getElem? (i := 46) rfl)) rfl, sx_inT (sx_t3 (List.mem_of_getElem? (i := 44) rfl)) rfl, sx_inT (sx_t3 (List.mem_of_getElem? (i := 45) rfl)) rfl, in_RX6, ⟨by decide, by decide, by decide⟩, by decide⟩
theorem mt_X8_byWalker : sx_MV yX8_byWalker cX8_byWalker 4 (some .long) 3 := ⟨sx_inT (sx_t3 (List.mem_of_getElem? (i := 50) rfl)) rfl, sx_inT (sx_t3 (List.mem_of_getElem? (i := 48) rfl)) rfl, sx_inT (sx_t3 (List.mem_of_getElem? (i := 49) rfl)) rfl, in_RX8, ⟨by decide, by decide, by decide⟩, by decide⟩
theorem mt_X8_areApart : sx_MV yX8_areApart cX8_areApart 3 (some .boolean) 2 := ⟨sx_inT (sx_t3 (List.mem_of_getElem? (i := 54) rfl)) rfl, sx_inT (sx_t3 (List.mem_of_getElem? (i := 52) rfl)) rfl, sx_inT (sx_t3 (List.mem_of_getElem? (i := 53) rfl)) rfl, in_RX8, ⟨by decide, by decide, by decide⟩, by decide⟩
theorem mt_X8_byFeet : sx_MV yX8_byFeet cX8_byFeet 9 (some .long) 4 := ⟨sx_inT (sx_t3 (List.mem_of_getElem? (i := 58) rfl)) rfl, sx_inT (sx_t3 (List.mem_of_getElem? (i := 56) rfl)) rfl, sx_inT (sx_t3 (List.mem_of_getElem? (i := 57) rfl)) rfl, in_RX8, ⟨by decide, by decide, by decide⟩, by decide⟩
theorem mt_X11_fraction : sx_MS yX11_fraction cX11_fraction 7 (some .long) 3 := ⟨sx_inT (sx_t3 (List.mem_of_getElem? (i := 62) rfl)) rfl, sx_inT (sx_t3 (List.mem_of_getElem? (i := 61) rfl)) rfl, in_RX11, ⟨by decide, by decide, by decide⟩, by decide⟩
theorem mt_X11_greatestDivisor : sx_MS yX11_greatestDivisor cX11_greatestDivisor 11 (some .long) 2 := ⟨sx_inT (sx_t3 (List.mem_of_getElem? (i := 65) rfl)) rfl, sx_inT (sx_t3 (List.mem_of_getElem? (i := 64) rfl)) rfl, in_RX11, ⟨by decide, by decide, by decide⟩, by decide⟩
theorem mt_X11_all : sx_MV yX11_all cX11_all 7 (some .long) 2 := ⟨sx_inT (sx_t3 (List.mem_of_getElem? (i := 69) rfl)) rfl, sx_inT (sx_t3 (List.mem_of_getElem? (i := 67) rfl)) rfl, sx_inT (sx_t3 (List.mem_of_getElem? (i := 68) rfl)) rfl, in_RX11, ⟨by decide, by decide, by decide⟩, by decide⟩
theorem mt_X8_toWalker : sx_MV yX8_toWalker cX8_toWalker 7 (some .long) 3 := ⟨sx_inT (sx_t3 (List.mem_of_getElem? (i := 73) rfl)) rfl, sx_inT (sx_t3 (List.mem_of_getElem? (i := 71) rfl)) rfl, sx_inT (sx_t3 (List.mem_of_getElem? (i := 72) rfl)) rfl, in_RX8, ⟨by decide, by decide, by decide⟩, by decide⟩
theorem mt_X8_together : sx_MV yX8_together cX8_together 5 (some .long) 1 := ⟨sx_inT (sx_t3 (List.mem_of_getElem? (i := 78) rfl)) rfl, sx_inT (sx_t3 (List.mem_of_getElem? (i := 76) rfl)) rfl, sx_inT (sx_t3 (List.mem_of_getElem? (i := 77) rfl)) rfl, in_RX8, ⟨by decide, by decide, by decide⟩, by decide⟩
theorem mt_X5_size : sx_MV yX5_size cX5_size 1 (some .int) 0 := ⟨sx_inT (sx_t3 (List.mem_of_getElem? (i := 82) rfl)) rfl, sx_inT (sx_t3 (List.mem_of_getElem? (i := 80) rfl)) rfl, sx_inT (sx_t3 (List.mem_of_getElem? (i := 81) rfl)) rfl, in_RX5, ⟨by decide, by decide, by decide⟩, by decide⟩
theorem mt_X11_ends : sx_MV yX11_ends cX11_ends 1 (some .int) 0 := ⟨sx_inT (sx_t3 (List.mem_of_getElem? (i := 88) rfl)) rfl, sx_inT (sx_t3 (List.mem_of_getElem? (i := 86) rfl)) rfl, sx_inT (sx_t3 (List.mem_of_getElem? (i := 87) rfl)) rfl, in_RX11, ⟨by decide, by decide, by decide⟩, by decide⟩
theorem mt_X8_minutesInAll : sx_MV yX8_minutesInAll cX8_minutesInAll 1 (some .int) 0 := ⟨sx_inT (sx_t3 (List.mem_of_getElem? (i := 92) rfl)) rfl, sx_inT (sx_t3 (List.mem_of_getElem? (i := 90) rfl)) rfl, sx_inT (sx_t3 (List.mem_of_getElem? (i := 91) rfl)) rfl, in_RX8, ⟨by decide, by decide, by decide⟩, by decide⟩
theorem mt_X11_latest : sx_MV yX11_latest cX11_latest 2 (some .int) 0 := ⟨sx_inT (sx_t3 (List.mem_of_getElem? (i := 96) rfl)) rfl, sx_inT (sx_t3 (List.mem_of_getElem? (i := 94) rfl)) rfl, sx_inT (sx_t3 (List.mem_of_getElem? (i := 95) rfl)) rfl, in_RX11, ⟨by decide, by decide, by decide⟩, by decide⟩
theorem mt_X11_curve : sx_MV yX11_curve cX11_curve 3 (some .long) 2 := ⟨sx_inT (sx_t3 (List.mem_of_getElem? (i := 101) rfl)) rfl, sx_inT (sx_t3 (List.mem_of_getElem? (i := 99) rfl)) rfl, sx_inT (sx_t3 (List.mem_of_getElem? (i := 100) rfl)) rfl, in_RX11, ⟨by decide, by decide, by decide⟩, by decide⟩
theorem mt_X11_gap : sx_MV yX11_gap cX11_gap 8 (some .int) 1 := ⟨sx_inT (sx_t3 (List.mem_of_getElem? (i := 105) rfl)) rfl, sx_inT (sx_t3 (List.mem_of_getElem? (i := 103) rfl)) rfl, sx_inT (sx_t3 (List.mem_of_getElem? (i := 104) rfl)) rfl, in_RX11, ⟨by decide, by decide, by decide⟩, by decide⟩
theorem mt_X11_order : sx_MV yX11_order cX11_order 2 (some .int) 1 := ⟨sx_inT (sx_t3 (List.mem_of_getElem? (i := 109) rfl)) rfl, sx_inT (sx_t3 (List.mem_of_getElem? (i := 107) rfl)) rfl, sx_inT (sx_t3 (List.mem_of_getElem? (i := 108) rfl)) rfl, in_RX11, ⟨by decide, by decide, by decide⟩, by decide⟩
theorem mt_X3_search : sx_MV yX3_search cX3_search 1 (some .long) 0 := ⟨sx_inT (sx_t3 (List.mem_of_getElem? (i := 113) rfl)) rfl, sx_inT (sx_t3 (List.mem_of_getElem? (i := 111) rfl)) rfl, sx_inT (sx_t3 (List.mem_of_getElem? (i := 112) rfl)) rfl, in_RX3, ⟨by decide, by decide, by decide⟩, by decide⟩
theorem mt_X3_prepare : sx_MV yX3_prepare cX3_prepare 6 none 0 := ⟨sx_inT (sx_t3 (List.mem_of_getElem? (i := 117) rfl)) rfl, sx_inT (sx_t3 (List.mem_of_getElem? (i := 116) rfl)) rfl, sx_inT (sx_t0 (List.mem_of_getElem? (i := 5) rfl)) rfl, in_RX3, ⟨by decide, by decide, by decide⟩, by decide⟩
theorem mt_X3_extend : sx_MV yX3_extend cX3_extend 5 none 3 := ⟨sx_inT (sx_t3 (List.mem_of_getElem? (i := 128) rfl)) rfl, sx_inT (sx_t3 (List.mem_of_getElem? (i := 127) rfl)) rfl, sx_inT (sx_t0 (List.mem_of_getElem? (i := 6) rfl)) rfl, in_RX3, ⟨by decide, by decide, by decide⟩, by decide⟩
theorem mt_X3_tryEach : sx_MV yX3_tryEach cX3_tryEach 6 none 3 := ⟨sx_inT (sx_t3 (List.mem_of_getElem? (i := 133) rfl)) rfl, sx_inT (sx_t3 (List.mem_of_getElem? (i := 132) rfl)) rfl, sx_inT (sx_t0 (List.mem_of_getElem? (i := 7) rfl)) rfl, in_RX3, ⟨by decide, by decide, by decide⟩, by decide⟩
theorem mt_X3_harmAt : sx_MV yX3_harmAt cX3_harmAt 8 (some .long) 2 := ⟨sx_inT (sx_t3 (List.mem_of_getElem? (i := 138) rfl)) rfl, sx_inT (sx_t3 (List.mem_of_getElem? (i := 137) rfl)) rfl, sx_inT (sx_t0 (List.mem_of_getElem? (i := 8) rfl)) rfl, in_RX3, ⟨by decide, by decide, by decide⟩, by decide⟩
theorem mt_X3_at : sx_MV yX3_at cX3_at 2 (some .int) 1 := ⟨sx_inT (sx_t3 (List.mem_of_getElem? (i := 145) rfl)) rfl, sx_inT (sx_t3 (List.mem_of_getElem? (i := 143) rfl)) rfl, sx_inT (sx_t3 (List.mem_of_getElem? (i := 144) rfl)) rfl, in_RX3, ⟨by decide, by decide, by decide⟩, by decide⟩
theorem mt_X11_ordered : sx_MV yX11_ordered cX11_ordered 2 (some .long) 1 := ⟨sx_inT (sx_t3 (List.mem_of_getElem? (i := 149) rfl)) rfl, sx_inT (sx_t3 (List.mem_of_getElem? (i := 147) rfl)) rfl, sx_inT (sx_t3 (List.mem_of_getElem? (i := 148) rfl)) rfl, in_RX11, ⟨by decide, by decide, by decide⟩, by decide⟩
theorem mt_X11_helmets : sx_MV yX11_helmets cX11_helmets 4 (some .long) 2 := ⟨sx_inT (sx_t3 (List.mem_of_getElem? (i := 153) rfl)) rfl, sx_inT (sx_t3 (List.mem_of_getElem? (i := 151) rfl)) rfl, sx_inT (sx_t3 (List.mem_of_getElem? (i := 152) rfl)) rfl, in_RX11, ⟨by decide, by decide, by decide⟩, by decide⟩
theorem mt_X1_search : sx_MV yX1_search cX1_search 6 (some .int) 1 := ⟨sx_inT (sx_t3 (List.mem_of_getElem? (i := 158) rfl)) rfl, sx_inT (sx_t3 (List.mem_of_getElem? (i := 156) rfl)) rfl, sx_inT (sx_t3 (List.mem_of_getElem? (i := 157) rfl)) rfl, in_RX1, ⟨by decide, by decide, by decide⟩, by decide⟩
theorem mt_J6_bitCount_0f7a4 : sx_MS yJ6_bitCount_0f7a4 cJ6_bitCount_0f7a4 1 (some .int) 1 := ⟨sx_inT (sx_t3 (List.mem_of_getElem? (i := 165) rfl)) rfl, sx_inT (sx_t3 (List.mem_of_getElem? (i := 164) rfl)) rfl, in_RJ6, ⟨by decide, by decide, by decide⟩, by decide⟩
theorem mt_X1_harmWith : sx_MV yX1_harmWith cX1_harmWith 6 (some .long) 1 := ⟨sx_inT (sx_t3 (List.mem_of_getElem? (i := 172) rfl)) rfl, sx_inT (sx_t3 (List.mem_of_getElem? (i := 170) rfl)) rfl, sx_inT (sx_t3 (List.mem_of_getElem? (i := 171) rfl)) rfl, in_RX1, ⟨by decide, by decide, by decide⟩, by decide⟩
theorem mt_X11_waits : sx_MV yX11_waits cX11_waits 7 (some .long) 4 := ⟨sx_inT (sx_t3 (List.mem_of_getElem? (i := 177) rfl)) rfl, sx_inT (sx_t3 (List.mem_of_getElem? (i := 175) rfl)) rfl, sx_inT (sx_t3 (List.mem_of_getElem? (i := 176) rfl)) rfl, in_RX11, ⟨by decide, by decide, by decide⟩, by decide⟩
theorem mt_X4_bestWait : sx_MV yX4_bestWait cX4_bestWait 10 (some .int) 3 := ⟨sx_inT (sx_t3 (List.mem_of_getElem? (i := 181) rfl)) rfl, sx_inT (sx_t3 (List.mem_of_getElem? (i := 179) rfl)) rfl, sx_inT (sx_t3 (List.mem_of_getElem? (i := 180) rfl)) rfl, in_RX4, ⟨by decide, by decide, by decide⟩, by decide⟩
theorem mt_X4_paid : sx_MV yX4_paid cX4_paid 9 (some .long) 4 := ⟨sx_inT (sx_t3 (List.mem_of_getElem? (i := 185) rfl)) rfl, sx_inT (sx_t3 (List.mem_of_getElem? (i := 183) rfl)) rfl, sx_inT (sx_t3 (List.mem_of_getElem? (i := 184) rfl)) rfl, in_RX4, ⟨by decide, by decide, by decide⟩, by decide⟩
theorem mt_X11_foot : sx_MV yX11_foot cX11_foot 6 (some .long) 3 := ⟨sx_inT (sx_t3 (List.mem_of_getElem? (i := 195) rfl)) rfl, sx_inT (sx_t3 (List.mem_of_getElem? (i := 193) rfl)) rfl, sx_inT (sx_t3 (List.mem_of_getElem? (i := 194) rfl)) rfl, in_RX11, ⟨by decide, by decide, by decide⟩, by decide⟩
theorem mt_X8_oddsOfFeet : sx_MV yX8_oddsOfFeet cX8_oddsOfFeet 5 (some .int) 2 := ⟨sx_inT (sx_t3 (List.mem_of_getElem? (i := 199) rfl)) rfl, sx_inT (sx_t3 (List.mem_of_getElem? (i := 197) rfl)) rfl, sx_inT (sx_t3 (List.mem_of_getElem? (i := 198) rfl)) rfl, in_RX8, ⟨by decide, by decide, by decide⟩, by decide⟩
theorem mt_X8_partEntered : sx_MV yX8_partEntered cX8_partEntered 4 (some .int) 2 := ⟨sx_inT (sx_t3 (List.mem_of_getElem? (i := 203) rfl)) rfl, sx_inT (sx_t3 (List.mem_of_getElem? (i := 201) rfl)) rfl, sx_inT (sx_t3 (List.mem_of_getElem? (i := 202) rfl)) rfl, in_RX8, ⟨by decide, by decide, by decide⟩, by decide⟩
theorem mt_X8_oddsOfSun : sx_MV yX8_oddsOfSun cX8_oddsOfSun 3 (some .int) 2 := ⟨sx_inT (sx_t3 (List.mem_of_getElem? (i := 209) rfl)) rfl, sx_inT (sx_t3 (List.mem_of_getElem? (i := 207) rfl)) rfl, sx_inT (sx_t3 (List.mem_of_getElem? (i := 208) rfl)) rfl, in_RX8, ⟨by decide, by decide, by decide⟩, by decide⟩
theorem mt_X11_fell : sx_MV yX11_fell cX11_fell 4 (some .int) 3 := ⟨sx_inT (sx_t3 (List.mem_of_getElem? (i := 213) rfl)) rfl, sx_inT (sx_t3 (List.mem_of_getElem? (i := 211) rfl)) rfl, sx_inT (sx_t3 (List.mem_of_getElem? (i := 212) rfl)) rfl, in_RX11, ⟨by decide, by decide, by decide⟩, by decide⟩
theorem mt_X9_fits : sx_MS yX9_fits cX9_fits 3 (some .boolean) 3 := ⟨sx_inT (sx_t3 (List.mem_of_getElem? (i := 216) rfl)) rfl, sx_inT (sx_t3 (List.mem_of_getElem? (i := 215) rfl)) rfl, in_RX9, ⟨by decide, by decide, by decide⟩, by decide⟩
theorem mt_X9_isFull : sx_MV yX9_isFull cX9_isFull 1 (some .boolean) 0 := ⟨sx_inT (sx_t3 (List.mem_of_getElem? (i := 221) rfl)) rfl, sx_inT (sx_t3 (List.mem_of_getElem? (i := 219) rfl)) rfl, sx_inT (sx_t3 (List.mem_of_getElem? (i := 220) rfl)) rfl, in_RX9, ⟨by decide, by decide, by decide⟩, by decide⟩
theorem mt_X9_add : sx_MV yX9_add cX9_add 4 none 3 := ⟨sx_inT (sx_t3 (List.mem_of_getElem? (i := 225) rfl)) rfl, sx_inT (sx_t3 (List.mem_of_getElem? (i := 223) rfl)) rfl, sx_inT (sx_t3 (List.mem_of_getElem? (i := 224) rfl)) rfl, in_RX9, ⟨by decide, by decide, by decide⟩, by decide⟩
theorem mt_X9_size : sx_MV yX9_size cX9_size 1 (some .int) 0 := ⟨sx_inT (sx_t3 (List.mem_of_getElem? (i := 229) rfl)) rfl, sx_inT (sx_t3 (List.mem_of_getElem? (i := 227) rfl)) rfl, sx_inT (sx_t3 (List.mem_of_getElem? (i := 228) rfl)) rfl, in_RX9, ⟨by decide, by decide, by decide⟩, by decide⟩
theorem mt_X11_forget : sx_MV yX11_forget cX11_forget 2 (some .int) 0 := ⟨sx_inT (sx_t3 (List.mem_of_getElem? (i := 233) rfl)) rfl, sx_inT (sx_t3 (List.mem_of_getElem? (i := 231) rfl)) rfl, sx_inT (sx_t3 (List.mem_of_getElem? (i := 232) rfl)) rfl, in_RX11, ⟨by decide, by decide, by decide⟩, by decide⟩
theorem mt_X9_clear : sx_MV yX9_clear cX9_clear 1 none 0 := ⟨sx_inT (sx_t3 (List.mem_of_getElem? (i := 237) rfl)) rfl, sx_inT (sx_t3 (List.mem_of_getElem? (i := 235) rfl)) rfl, sx_inT (sx_t3 (List.mem_of_getElem? (i := 236) rfl)) rfl, in_RX9, ⟨by decide, by decide, by decide⟩, by decide⟩
theorem mt_X11_loose : sx_MV yX11_loose cX11_loose 2 (some .int) 1 := ⟨sx_inT (sx_t4 (List.mem_of_getElem? (i := 1) rfl)) rfl, sx_inT (sx_t3 (List.mem_of_getElem? (i := 239) rfl)) rfl, sx_inT (sx_t4 (List.mem_of_getElem? (i := 0) rfl)) rfl, in_RX11, ⟨by decide, by decide, by decide⟩, by decide⟩
theorem mt_X9_likeliest : sx_MV yX9_likeliest cX9_likeliest 9 (some .int) 2 := ⟨sx_inT (sx_t4 (List.mem_of_getElem? (i := 5) rfl)) rfl, sx_inT (sx_t4 (List.mem_of_getElem? (i := 3) rfl)) rfl, sx_inT (sx_t4 (List.mem_of_getElem? (i := 4) rfl)) rfl, in_RX9, ⟨by decide, by decide, by decide⟩, by decide⟩
theorem mt_X9_likelihood : sx_MV yX9_likelihood cX9_likelihood 8 (some .long) 3 := ⟨sx_inT (sx_t4 (List.mem_of_getElem? (i := 9) rfl)) rfl, sx_inT (sx_t4 (List.mem_of_getElem? (i := 8) rfl)) rfl, sx_inT (sx_t0 (List.mem_of_getElem? (i := 9) rfl)) rfl, in_RX9, ⟨by decide, by decide, by decide⟩, by decide⟩
theorem mt_X11_read : sx_MV yX11_read cX11_read 5 (some .int) 1 := ⟨sx_inT (sx_t4 (List.mem_of_getElem? (i := 16) rfl)) rfl, sx_inT (sx_t4 (List.mem_of_getElem? (i := 14) rfl)) rfl, sx_inT (sx_t4 (List.mem_of_getElem? (i := 15) rfl)) rfl, in_RX11, ⟨by decide, by decide, by decide⟩, by decide⟩
theorem mt_X11_sheetAt : sx_MV yX11_sheetAt cX11_sheetAt 2 (some (.object "StonesAbove$Sheet")) 1 := ⟨sx_inT (sx_t4 (List.mem_of_getElem? (i := 20) rfl)) rfl, sx_inT (sx_t4 (List.mem_of_getElem? (i := 19) rfl)) rfl, sx_inT (sx_t0 (List.mem_of_getElem? (i := 10) rfl)) rfl, in_RX11, ⟨by decide, by decide, by decide⟩, by decide⟩
theorem mt_X7_isLost : sx_MV yX7_isLost cX7_isLost 1 (some .boolean) 0 := ⟨sx_inT (sx_t4 (List.mem_of_getElem? (i := 24) rfl)) rfl, sx_inT (sx_t4 (List.mem_of_getElem? (i := 22) rfl)) rfl, sx_inT (sx_t4 (List.mem_of_getElem? (i := 23) rfl)) rfl, in_RX7, ⟨by decide, by decide, by decide⟩, by decide⟩
theorem mt_X11_found : sx_MV yX11_found cX11_found 2 (some .int) 1 := ⟨sx_inT (sx_t4 (List.mem_of_getElem? (i := 28) rfl)) rfl, sx_inT (sx_t4 (List.mem_of_getElem? (i := 27) rfl)) rfl, sx_inT (sx_t0 (List.mem_of_getElem? (i := 11) rfl)) rfl, in_RX11, ⟨by decide, by decide, by decide⟩, by decide⟩
theorem mt_X7_size : sx_MV yX7_size cX7_size 1 (some .int) 0 := ⟨sx_inT (sx_t4 (List.mem_of_getElem? (i := 32) rfl)) rfl, sx_inT (sx_t4 (List.mem_of_getElem? (i := 30) rfl)) rfl, sx_inT (sx_t4 (List.mem_of_getElem? (i := 31) rfl)) rfl, in_RX7, ⟨by decide, by decide, by decide⟩, by decide⟩
theorem mt_X7_item : sx_MV yX7_item cX7_item 2 (some .int) 1 := ⟨sx_inT (sx_t4 (List.mem_of_getElem? (i := 36) rfl)) rfl, sx_inT (sx_t4 (List.mem_of_getElem? (i := 34) rfl)) rfl, sx_inT (sx_t4 (List.mem_of_getElem? (i := 35) rfl)) rfl, in_RX7, ⟨by decide, by decide, by decide⟩, by decide⟩
theorem mt_X11_morning : sx_MV yX11_morning cX11_morning 2 (some .int) 1 := ⟨sx_inT (sx_t4 (List.mem_of_getElem? (i := 40) rfl)) rfl, sx_inT (sx_t4 (List.mem_of_getElem? (i := 38) rfl)) rfl, sx_inT (sx_t4 (List.mem_of_getElem? (i := 39) rfl)) rfl, in_RX11, ⟨by decide, by decide, by decide⟩, by decide⟩
theorem mt_X2_play : sx_MV yX2_play cX2_play 4 (some .int) 1 := ⟨sx_inT (sx_t4 (List.mem_of_getElem? (i := 44) rfl)) rfl, sx_inT (sx_t4 (List.mem_of_getElem? (i := 42) rfl)) rfl, sx_inT (sx_t4 (List.mem_of_getElem? (i := 43) rfl)) rfl, in_RX2, ⟨by decide, by decide, by decide⟩, by decide⟩
theorem mt_X2_playFeet : sx_MV yX2_playFeet cX2_playFeet 4 none 1 := ⟨sx_inT (sx_t4 (List.mem_of_getElem? (i := 49) rfl)) rfl, sx_inT (sx_t4 (List.mem_of_getElem? (i := 48) rfl)) rfl, sx_inT (sx_t0 (List.mem_of_getElem? (i := 12) rfl)) rfl, in_RX2, ⟨by decide, by decide, by decide⟩, by decide⟩
theorem mt_X2_lotOfSixteen : sx_MV yX2_lotOfSixteen cX2_lotOfSixteen 1 (some .int) 0 := ⟨sx_inT (sx_t4 (List.mem_of_getElem? (i := 56) rfl)) rfl, sx_inT (sx_t4 (List.mem_of_getElem? (i := 55) rfl)) rfl, sx_inT (sx_t0 (List.mem_of_getElem? (i := 13) rfl)) rfl, in_RX2, ⟨by decide, by decide, by decide⟩, by decide⟩
theorem mt_X2_drop : sx_MV yX2_drop cX2_drop 7 none 3 := ⟨sx_inT (sx_t4 (List.mem_of_getElem? (i := 62) rfl)) rfl, sx_inT (sx_t4 (List.mem_of_getElem? (i := 61) rfl)) rfl, sx_inT (sx_t0 (List.mem_of_getElem? (i := 14) rfl)) rfl, in_RX2, ⟨by decide, by decide, by decide⟩, by decide⟩
theorem mt_X2_playSun : sx_MV yX2_playSun cX2_playSun 3 none 1 := ⟨sx_inT (sx_t4 (List.mem_of_getElem? (i := 70) rfl)) rfl, sx_inT (sx_t4 (List.mem_of_getElem? (i := 69) rfl)) rfl, sx_inT (sx_t0 (List.mem_of_getElem? (i := 15) rfl)) rfl, in_RX2, ⟨by decide, by decide, by decide⟩, by decide⟩
theorem mt_X11_sheet : sx_MV yX11_sheet cX11_sheet 5 (some .int) 3 := ⟨sx_inT (sx_t4 (List.mem_of_getElem? (i := 74) rfl)) rfl, sx_inT (sx_t4 (List.mem_of_getElem? (i := 72) rfl)) rfl, sx_inT (sx_t4 (List.mem_of_getElem? (i := 73) rfl)) rfl, in_RX11, ⟨by decide, by decide, by decide⟩, by decide⟩
theorem mt_X7_isForm : sx_MS yX7_isForm cX7_isForm 1 (some .boolean) 1 := ⟨sx_inT (sx_t4 (List.mem_of_getElem? (i := 77) rfl)) rfl, sx_inT (sx_t4 (List.mem_of_getElem? (i := 76) rfl)) rfl, in_RX7, ⟨by decide, by decide, by decide⟩, by decide⟩
theorem mt_X7_renew : sx_MV yX7_renew cX7_renew 3 none 2 := ⟨sx_inT (sx_t4 (List.mem_of_getElem? (i := 81) rfl)) rfl, sx_inT (sx_t4 (List.mem_of_getElem? (i := 79) rfl)) rfl, sx_inT (sx_t4 (List.mem_of_getElem? (i := 80) rfl)) rfl, in_RX7, ⟨by decide, by decide, by decide⟩, by decide⟩
theorem mt_J7_fill_53178 : sx_MS yJ7_fill_53178 cJ7_fill_53178 4 none 2 := ⟨sx_inT (sx_t4 (List.mem_of_getElem? (i := 86) rfl)) rfl, sx_inT (sx_t4 (List.mem_of_getElem? (i := 85) rfl)) rfl, in_RJ7, ⟨by decide, by decide, by decide⟩, by decide⟩
theorem mt_X11_lose : sx_MV yX11_lose cX11_lose 4 (some .int) 1 := ⟨sx_inT (sx_t4 (List.mem_of_getElem? (i := 90) rfl)) rfl, sx_inT (sx_t4 (List.mem_of_getElem? (i := 88) rfl)) rfl, sx_inT (sx_t4 (List.mem_of_getElem? (i := 89) rfl)) rfl, in_RX11, ⟨by decide, by decide, by decide⟩, by decide⟩
theorem mt_X7_drop : sx_MV yX7_drop cX7_drop 1 none 0 := ⟨sx_inT (sx_t4 (List.mem_of_getElem? (i := 94) rfl)) rfl, sx_inT (sx_t4 (List.mem_of_getElem? (i := 92) rfl)) rfl, sx_inT (sx_t4 (List.mem_of_getElem? (i := 93) rfl)) rfl, in_RX7, ⟨by decide, by decide, by decide⟩, by decide⟩
theorem mt_X11_lay : sx_MV yX11_lay cX11_lay 7 (some .int) 4 := ⟨sx_inT (sx_t4 (List.mem_of_getElem? (i := 98) rfl)) rfl, sx_inT (sx_t4 (List.mem_of_getElem? (i := 96) rfl)) rfl, sx_inT (sx_t4 (List.mem_of_getElem? (i := 97) rfl)) rfl, in_RX11, ⟨by decide, by decide, by decide⟩, by decide⟩
theorem mt_X7_wrongAt : sx_MV yX7_wrongAt cX7_wrongAt 3 (some .int) 2 := ⟨sx_inT (sx_t4 (List.mem_of_getElem? (i := 102) rfl)) rfl, sx_inT (sx_t4 (List.mem_of_getElem? (i := 100) rfl)) rfl, sx_inT (sx_t4 (List.mem_of_getElem? (i := 101) rfl)) rfl, in_RX7, ⟨by decide, by decide, by decide⟩, by decide⟩
theorem mt_X7_holds : sx_MV yX7_holds cX7_holds 3 (some .boolean) 2 := ⟨sx_inT (sx_t4 (List.mem_of_getElem? (i := 107) rfl)) rfl, sx_inT (sx_t4 (List.mem_of_getElem? (i := 105) rfl)) rfl, sx_inT (sx_t4 (List.mem_of_getElem? (i := 106) rfl)) rfl, in_RX7, ⟨by decide, by decide, by decide⟩, by decide⟩
theorem mt_X7_put : sx_MV yX7_put cX7_put 3 none 2 := ⟨sx_inT (sx_t4 (List.mem_of_getElem? (i := 111) rfl)) rfl, sx_inT (sx_t4 (List.mem_of_getElem? (i := 109) rfl)) rfl, sx_inT (sx_t4 (List.mem_of_getElem? (i := 110) rfl)) rfl, in_RX7, ⟨by decide, by decide, by decide⟩, by decide⟩
theorem mt_X7_cut : sx_MV yX7_cut cX7_cut 2 (some .int) 1 := ⟨sx_inT (sx_t4 (List.mem_of_getElem? (i := 115) rfl)) rfl, sx_inT (sx_t4 (List.mem_of_getElem? (i := 114) rfl)) rfl, sx_inT (sx_t0 (List.mem_of_getElem? (i := 16) rfl)) rfl, in_RX7, ⟨by decide, by decide, by decide⟩, by decide⟩
theorem mt_X11_get : sx_MV yX11_get cX11_get 6 (some .int) 3 := ⟨sx_inT (sx_t4 (List.mem_of_getElem? (i := 119) rfl)) rfl, sx_inT (sx_t4 (List.mem_of_getElem? (i := 117) rfl)) rfl, sx_inT (sx_t4 (List.mem_of_getElem? (i := 118) rfl)) rfl, in_RX11, ⟨by decide, by decide, by decide⟩, by decide⟩
theorem mt_X11_copy : sx_MV yX11_copy cX11_copy 8 (some .int) 5 := ⟨sx_inT (sx_t4 (List.mem_of_getElem? (i := 124) rfl)) rfl, sx_inT (sx_t4 (List.mem_of_getElem? (i := 122) rfl)) rfl, sx_inT (sx_t4 (List.mem_of_getElem? (i := 123) rfl)) rfl, in_RX11, ⟨by decide, by decide, by decide⟩, by decide⟩
theorem mt_X7_isLike : sx_MV yX7_isLike cX7_isLike 2 (some .boolean) 1 := ⟨sx_inT (sx_t4 (List.mem_of_getElem? (i := 128) rfl)) rfl, sx_inT (sx_t4 (List.mem_of_getElem? (i := 126) rfl)) rfl, sx_inT (sx_t4 (List.mem_of_getElem? (i := 127) rfl)) rfl, in_RX7, ⟨by decide, by decide, by decide⟩, by decide⟩
theorem mt_X7_takeFrom : sx_MV yX7_takeFrom cX7_takeFrom 5 none 4 := ⟨sx_inT (sx_t4 (List.mem_of_getElem? (i := 133) rfl)) rfl, sx_inT (sx_t4 (List.mem_of_getElem? (i := 131) rfl)) rfl, sx_inT (sx_t4 (List.mem_of_getElem? (i := 132) rfl)) rfl, in_RX7, ⟨by decide, by decide, by decide⟩, by decide⟩
theorem mt_X11_write : sx_MV yX11_write cX11_write 6 (some .int) 2 := ⟨sx_inT (sx_t4 (List.mem_of_getElem? (i := 138) rfl)) rfl, sx_inT (sx_t4 (List.mem_of_getElem? (i := 136) rfl)) rfl, sx_inT (sx_t4 (List.mem_of_getElem? (i := 137) rfl)) rfl, in_RX11, ⟨by decide, by decide, by decide⟩, by decide⟩
theorem mt_X11_count : sx_MV yX11_count cX11_count 2 (some .int) 1 := ⟨sx_inT (sx_t4 (List.mem_of_getElem? (i := 142) rfl)) rfl, sx_inT (sx_t4 (List.mem_of_getElem? (i := 140) rfl)) rfl, sx_inT (sx_t4 (List.mem_of_getElem? (i := 141) rfl)) rfl, in_RX11, ⟨by decide, by decide, by decide⟩, by decide⟩
theorem mt_X0_loosenessInAll : sx_MV yX0_loosenessInAll cX0_loosenessInAll 3 (some .int) 0 := ⟨sx_inT (sx_t4 (List.mem_of_getElem? (i := 146) rfl)) rfl, sx_inT (sx_t4 (List.mem_of_getElem? (i := 144) rfl)) rfl, sx_inT (sx_t4 (List.mem_of_getElem? (i := 145) rfl)) rfl, in_RX0, ⟨by decide, by decide, by decide⟩, by decide⟩
theorem mt_X5_helmetsInAll : sx_MV yX5_helmetsInAll cX5_helmetsInAll 3 (some .int) 0 := ⟨sx_inT (sx_t4 (List.mem_of_getElem? (i := 150) rfl)) rfl, sx_inT (sx_t4 (List.mem_of_getElem? (i := 148) rfl)) rfl, sx_inT (sx_t4 (List.mem_of_getElem? (i := 149) rfl)) rfl, in_RX5, ⟨by decide, by decide, by decide⟩, by decide⟩
theorem mt_X11_digest : sx_MV yX11_digest cX11_digest 4 (some .long) 0 := ⟨sx_inT (sx_t4 (List.mem_of_getElem? (i := 155) rfl)) rfl, sx_inT (sx_t4 (List.mem_of_getElem? (i := 153) rfl)) rfl, sx_inT (sx_t4 (List.mem_of_getElem? (i := 154) rfl)) rfl, in_RX11, ⟨by decide, by decide, by decide⟩, by decide⟩
theorem mt_X11_mix : sx_MS yX11_mix cX11_mix 4 (some .long) 2 := ⟨sx_inT (sx_t4 (List.mem_of_getElem? (i := 160) rfl)) rfl, sx_inT (sx_t4 (List.mem_of_getElem? (i := 159) rfl)) rfl, in_RX11, ⟨by decide, by decide, by decide⟩, by decide⟩
theorem mt_X11_mixPart : sx_MV yX11_mixPart cX11_mixPart 6 (some .long) 2 := ⟨sx_inT (sx_t4 (List.mem_of_getElem? (i := 166) rfl)) rfl, sx_inT (sx_t4 (List.mem_of_getElem? (i := 165) rfl)) rfl, sx_inT (sx_t0 (List.mem_of_getElem? (i := 17) rfl)) rfl, in_RX11, ⟨by decide, by decide, by decide⟩, by decide⟩
theorem mt_X11_mixWalker : sx_MV yX11_mixWalker cX11_mixWalker 6 (some .long) 2 := ⟨sx_inT (sx_t4 (List.mem_of_getElem? (i := 173) rfl)) rfl, sx_inT (sx_t4 (List.mem_of_getElem? (i := 172) rfl)) rfl, sx_inT (sx_t0 (List.mem_of_getElem? (i := 18) rfl)) rfl, in_RX11, ⟨by decide, by decide, by decide⟩, by decide⟩
theorem mt_X11_mixOrder : sx_MV yX11_mixOrder cX11_mixOrder 7 (some .long) 1 := ⟨sx_inT (sx_t4 (List.mem_of_getElem? (i := 186) rfl)) rfl, sx_inT (sx_t4 (List.mem_of_getElem? (i := 185) rfl)) rfl, sx_inT (sx_t0 (List.mem_of_getElem? (i := 19) rfl)) rfl, in_RX11, ⟨by decide, by decide, by decide⟩, by decide⟩
theorem mt_X12_init : sx_MI yX12_init cX12_init 2 0 := ⟨sx_inT (sx_t4 (List.mem_of_getElem? (i := 195) rfl)) rfl, sx_inT (sx_t4 (List.mem_of_getElem? (i := 194) rfl)) rfl, rfl, in_RX12, ⟨by decide, by decide, by decide⟩, by decide⟩
theorem mt_X12_sheet : sx_MV yX12_sheet cX12_sheet 5 (some .int) 3 := ⟨sx_inT (sx_t5 (List.mem_of_getElem? (i := 40) rfl)) rfl, sx_inT (sx_t5 (List.mem_of_getElem? (i := 38) rfl)) rfl, sx_inT (sx_t5 (List.mem_of_getElem? (i := 39) rfl)) rfl, in_RX12, ⟨by decide, by decide, by decide⟩, by decide⟩
theorem mt_X12_isSheet : sx_MS yX12_isSheet cX12_isSheet 1 (some .boolean) 1 := ⟨sx_inT (sx_t5 (List.mem_of_getElem? (i := 43) rfl)) rfl, sx_inT (sx_t5 (List.mem_of_getElem? (i := 42) rfl)) rfl, in_RX12, ⟨by decide, by decide, by decide⟩, by decide⟩
theorem mt_X12_in : sx_MS yX12_in cX12_in 6 (some .boolean) 3 := ⟨sx_inT (sx_t5 (List.mem_of_getElem? (i := 47) rfl)) rfl, sx_inT (sx_t5 (List.mem_of_getElem? (i := 46) rfl)) rfl, in_RX12, ⟨by decide, by decide, by decide⟩, by decide⟩
theorem mt_X12_met : sx_MV yX12_met cX12_met 2 (some .int) 1 := ⟨sx_inT (sx_t5 (List.mem_of_getElem? (i := 52) rfl)) rfl, sx_inT (sx_t5 (List.mem_of_getElem? (i := 51) rfl)) rfl, sx_inT (sx_t0 (List.mem_of_getElem? (i := 20) rfl)) rfl, in_RX12, ⟨by decide, by decide, by decide⟩, by decide⟩
theorem mt_X12_lose : sx_MV yX12_lose cX12_lose 2 (some .int) 1 := ⟨sx_inT (sx_t5 (List.mem_of_getElem? (i := 56) rfl)) rfl, sx_inT (sx_t5 (List.mem_of_getElem? (i := 54) rfl)) rfl, sx_inT (sx_t5 (List.mem_of_getElem? (i := 55) rfl)) rfl, in_RX12, ⟨by decide, by decide, by decide⟩, by decide⟩
theorem mt_X12_lay : sx_MV yX12_lay cX12_lay 6 (some .int) 4 := ⟨sx_inT (sx_t5 (List.mem_of_getElem? (i := 60) rfl)) rfl, sx_inT (sx_t5 (List.mem_of_getElem? (i := 58) rfl)) rfl, sx_inT (sx_t5 (List.mem_of_getElem? (i := 59) rfl)) rfl, in_RX12, ⟨by decide, by decide, by decide⟩, by decide⟩
theorem mt_X12_lacks : sx_MV yX12_lacks cX12_lacks 4 (some .int) 3 := ⟨sx_inT (sx_t5 (List.mem_of_getElem? (i := 64) rfl)) rfl, sx_inT (sx_t5 (List.mem_of_getElem? (i := 63) rfl)) rfl, sx_inT (sx_t0 (List.mem_of_getElem? (i := 21) rfl)) rfl, in_RX12, ⟨by decide, by decide, by decide⟩, by decide⟩
theorem mt_X12_cut : sx_MS yX12_cut cX12_cut 2 (some .int) 2 := ⟨sx_inT (sx_t5 (List.mem_of_getElem? (i := 67) rfl)) rfl, sx_inT (sx_t5 (List.mem_of_getElem? (i := 66) rfl)) rfl, in_RX12, ⟨by decide, by decide, by decide⟩, by decide⟩
theorem mt_X12_get : sx_MV yX12_get cX12_get 4 (some .int) 3 := ⟨sx_inT (sx_t5 (List.mem_of_getElem? (i := 71) rfl)) rfl, sx_inT (sx_t5 (List.mem_of_getElem? (i := 69) rfl)) rfl, sx_inT (sx_t5 (List.mem_of_getElem? (i := 70) rfl)) rfl, in_RX12, ⟨by decide, by decide, by decide⟩, by decide⟩
theorem mt_X12_copy : sx_MV yX12_copy cX12_copy 7 (some .int) 5 := ⟨sx_inT (sx_t5 (List.mem_of_getElem? (i := 76) rfl)) rfl, sx_inT (sx_t5 (List.mem_of_getElem? (i := 74) rfl)) rfl, sx_inT (sx_t5 (List.mem_of_getElem? (i := 75) rfl)) rfl, in_RX12, ⟨by decide, by decide, by decide⟩, by decide⟩
theorem mt_X12_type : sx_MV yX12_type cX12_type 3 (some .int) 2 := ⟨sx_inT (sx_t5 (List.mem_of_getElem? (i := 80) rfl)) rfl, sx_inT (sx_t5 (List.mem_of_getElem? (i := 78) rfl)) rfl, sx_inT (sx_t5 (List.mem_of_getElem? (i := 79) rfl)) rfl, in_RX12, ⟨by decide, by decide, by decide⟩, by decide⟩
theorem mt_X12_isTwo : sx_MS yX12_isTwo cX12_isTwo 1 (some .boolean) 1 := ⟨sx_inT (sx_t5 (List.mem_of_getElem? (i := 83) rfl)) rfl, sx_inT (sx_t5 (List.mem_of_getElem? (i := 82) rfl)) rfl, in_RX12, ⟨by decide, by decide, by decide⟩, by decide⟩
theorem mt_X12_wipe : sx_MV yX12_wipe cX12_wipe 3 (some .int) 1 := ⟨sx_inT (sx_t5 (List.mem_of_getElem? (i := 88) rfl)) rfl, sx_inT (sx_t5 (List.mem_of_getElem? (i := 86) rfl)) rfl, sx_inT (sx_t5 (List.mem_of_getElem? (i := 87) rfl)) rfl, in_RX12, ⟨by decide, by decide, by decide⟩, by decide⟩
theorem mt_X12_undo : sx_MV yX12_undo cX12_undo 2 (some .int) 1 := ⟨sx_inT (sx_t5 (List.mem_of_getElem? (i := 92) rfl)) rfl, sx_inT (sx_t5 (List.mem_of_getElem? (i := 90) rfl)) rfl, sx_inT (sx_t5 (List.mem_of_getElem? (i := 91) rfl)) rfl, in_RX12, ⟨by decide, by decide, by decide⟩, by decide⟩
theorem mt_X12_fault : sx_MV yX12_fault cX12_fault 2 (some .int) 1 := ⟨sx_inT (sx_t5 (List.mem_of_getElem? (i := 96) rfl)) rfl, sx_inT (sx_t5 (List.mem_of_getElem? (i := 94) rfl)) rfl, sx_inT (sx_t5 (List.mem_of_getElem? (i := 95) rfl)) rfl, in_RX12, ⟨by decide, by decide, by decide⟩, by decide⟩
theorem mt_X12_readsGully : sx_MV yX12_readsGully cX12_readsGully 4 (some .int) 0 := ⟨sx_inT (sx_t5 (List.mem_of_getElem? (i := 100) rfl)) rfl, sx_inT (sx_t5 (List.mem_of_getElem? (i := 99) rfl)) rfl, sx_inT (sx_t0 (List.mem_of_getElem? (i := 22) rfl)) rfl, in_RX12, ⟨by decide, by decide, by decide⟩, by decide⟩
theorem mt_X12_here : sx_MV yX12_here cX12_here 2 (some .int) 1 := ⟨sx_inT (sx_t5 (List.mem_of_getElem? (i := 104) rfl)) rfl, sx_inT (sx_t5 (List.mem_of_getElem? (i := 103) rfl)) rfl, sx_inT (sx_t0 (List.mem_of_getElem? (i := 23) rfl)) rfl, in_RX12, ⟨by decide, by decide, by decide⟩, by decide⟩
theorem mt_X12_kindOf : sx_MS yX12_kindOf cX12_kindOf 1 (some .int) 1 := ⟨sx_inT (sx_t5 (List.mem_of_getElem? (i := 107) rfl)) rfl, sx_inT (sx_t5 (List.mem_of_getElem? (i := 106) rfl)) rfl, in_RX12, ⟨by decide, by decide, by decide⟩, by decide⟩
theorem mt_X12_readsWalkers : sx_MV yX12_readsWalkers cX12_readsWalkers 3 (some .int) 0 := ⟨sx_inT (sx_t5 (List.mem_of_getElem? (i := 112) rfl)) rfl, sx_inT (sx_t5 (List.mem_of_getElem? (i := 111) rfl)) rfl, sx_inT (sx_t0 (List.mem_of_getElem? (i := 24) rfl)) rfl, in_RX12, ⟨by decide, by decide, by decide⟩, by decide⟩
theorem mt_X12_readsWalker : sx_MV yX12_readsWalker cX12_readsWalker 3 (some .boolean) 0 := ⟨sx_inT (sx_t5 (List.mem_of_getElem? (i := 116) rfl)) rfl, sx_inT (sx_t5 (List.mem_of_getElem? (i := 115) rfl)) rfl, sx_inT (sx_t0 (List.mem_of_getElem? (i := 25) rfl)) rfl, in_RX12, ⟨by decide, by decide, by decide⟩, by decide⟩
theorem mt_X12_part_ : sx_MV yX12_part_ cX12_part_ 3 (some .int) 2 := ⟨sx_inT (sx_t5 (List.mem_of_getElem? (i := 120) rfl)) rfl, sx_inT (sx_t5 (List.mem_of_getElem? (i := 118) rfl)) rfl, sx_inT (sx_t5 (List.mem_of_getElem? (i := 119) rfl)) rfl, in_RX12, ⟨by decide, by decide, by decide⟩, by decide⟩
theorem mt_X12_reads : sx_MV yX12_reads cX12_reads 1 none 0 := ⟨sx_inT (sx_t5 (List.mem_of_getElem? (i := 124) rfl)) rfl, sx_inT (sx_t5 (List.mem_of_getElem? (i := 123) rfl)) rfl, sx_inT (sx_t0 (List.mem_of_getElem? (i := 26) rfl)) rfl, in_RX12, ⟨by decide, by decide, by decide⟩, by decide⟩
theorem mt_X12_plain : sx_MV yX12_plain cX12_plain 2 none 0 := ⟨sx_inT (sx_t5 (List.mem_of_getElem? (i := 128) rfl)) rfl, sx_inT (sx_t5 (List.mem_of_getElem? (i := 127) rfl)) rfl, sx_inT (sx_t0 (List.mem_of_getElem? (i := 27) rfl)) rfl, in_RX12, ⟨by decide, by decide, by decide⟩, by decide⟩
theorem mt_X12_helmetsNow : sx_MV yX12_helmetsNow cX12_helmetsNow 3 (some .int) 0 := ⟨sx_inT (sx_t5 (List.mem_of_getElem? (i := 132) rfl)) rfl, sx_inT (sx_t5 (List.mem_of_getElem? (i := 131) rfl)) rfl, sx_inT (sx_t0 (List.mem_of_getElem? (i := 28) rfl)) rfl, in_RX12, ⟨by decide, by decide, by decide⟩, by decide⟩
theorem mt_X12_isPart : sx_MV yX12_isPart cX12_isPart 2 (some .boolean) 1 := ⟨sx_inT (sx_t5 (List.mem_of_getElem? (i := 136) rfl)) rfl, sx_inT (sx_t5 (List.mem_of_getElem? (i := 135) rfl)) rfl, sx_inT (sx_t0 (List.mem_of_getElem? (i := 29) rfl)) rfl, in_RX12, ⟨by decide, by decide, by decide⟩, by decide⟩
theorem mt_X12_walker : sx_MV yX12_walker cX12_walker 3 (some .int) 2 := ⟨sx_inT (sx_t5 (List.mem_of_getElem? (i := 140) rfl)) rfl, sx_inT (sx_t5 (List.mem_of_getElem? (i := 138) rfl)) rfl, sx_inT (sx_t5 (List.mem_of_getElem? (i := 139) rfl)) rfl, in_RX12, ⟨by decide, by decide, by decide⟩, by decide⟩
theorem mt_X12_isWalker : sx_MV yX12_isWalker cX12_isWalker 2 (some .boolean) 1 := ⟨sx_inT (sx_t5 (List.mem_of_getElem? (i := 144) rfl)) rfl, sx_inT (sx_t5 (List.mem_of_getElem? (i := 143) rfl)) rfl, sx_inT (sx_t0 (List.mem_of_getElem? (i := 30) rfl)) rfl, in_RX12, ⟨by decide, by decide, by decide⟩, by decide⟩
theorem mt_X12_walkerOf : sx_MV yX12_walkerOf cX12_walkerOf 3 (some .int) 2 := ⟨sx_inT (sx_t5 (List.mem_of_getElem? (i := 148) rfl)) rfl, sx_inT (sx_t5 (List.mem_of_getElem? (i := 147) rfl)) rfl, sx_inT (sx_t0 (List.mem_of_getElem? (i := 31) rfl)) rfl, in_RX12, ⟨by decide, by decide, by decide⟩, by decide⟩
theorem mt_X12_set : sx_MV yX12_set cX12_set 4 (some .int) 2 := ⟨sx_inT (sx_t5 (List.mem_of_getElem? (i := 152) rfl)) rfl, sx_inT (sx_t5 (List.mem_of_getElem? (i := 150) rfl)) rfl, sx_inT (sx_t5 (List.mem_of_getElem? (i := 151) rfl)) rfl, in_RX12, ⟨by decide, by decide, by decide⟩, by decide⟩
theorem mt_X12_most : sx_MS yX12_most cX12_most 1 (some .int) 1 := ⟨sx_inT (sx_t5 (List.mem_of_getElem? (i := 156) rfl)) rfl, sx_inT (sx_t5 (List.mem_of_getElem? (i := 155) rfl)) rfl, in_RX12, ⟨by decide, by decide, by decide⟩, by decide⟩
theorem mt_X12_place : sx_MV yX12_place cX12_place 3 (some .int) 2 := ⟨sx_inT (sx_t5 (List.mem_of_getElem? (i := 160) rfl)) rfl, sx_inT (sx_t5 (List.mem_of_getElem? (i := 158) rfl)) rfl, sx_inT (sx_t5 (List.mem_of_getElem? (i := 159) rfl)) rfl, in_RX12, ⟨by decide, by decide, by decide⟩, by decide⟩
theorem mt_X12_placeOf : sx_MV yX12_placeOf cX12_placeOf 4 (some .int) 2 := ⟨sx_inT (sx_t5 (List.mem_of_getElem? (i := 165) rfl)) rfl, sx_inT (sx_t5 (List.mem_of_getElem? (i := 164) rfl)) rfl, sx_inT (sx_t0 (List.mem_of_getElem? (i := 32) rfl)) rfl, in_RX12, ⟨by decide, by decide, by decide⟩, by decide⟩
theorem mt_X12_startOf : sx_MV yX12_startOf cX12_startOf 2 (some .int) 1 := ⟨sx_inT (sx_t5 (List.mem_of_getElem? (i := 169) rfl)) rfl, sx_inT (sx_t5 (List.mem_of_getElem? (i := 168) rfl)) rfl, sx_inT (sx_t0 (List.mem_of_getElem? (i := 33) rfl)) rfl, in_RX12, ⟨by decide, by decide, by decide⟩, by decide⟩
theorem mt_X12_pace : sx_MV yX12_pace cX12_pace 1 (some .int) 0 := ⟨sx_inT (sx_t5 (List.mem_of_getElem? (i := 173) rfl)) rfl, sx_inT (sx_t5 (List.mem_of_getElem? (i := 172) rfl)) rfl, sx_inT (sx_t0 (List.mem_of_getElem? (i := 34) rfl)) rfl, in_RX12, ⟨by decide, by decide, by decide⟩, by decide⟩
theorem mt_X12_treads : sx_MV yX12_treads cX12_treads 3 (some .int) 2 := ⟨sx_inT (sx_t5 (List.mem_of_getElem? (i := 177) rfl)) rfl, sx_inT (sx_t5 (List.mem_of_getElem? (i := 175) rfl)) rfl, sx_inT (sx_t5 (List.mem_of_getElem? (i := 176) rfl)) rfl, in_RX12, ⟨by decide, by decide, by decide⟩, by decide⟩
theorem mt_X12_treadsOf : sx_MV yX12_treadsOf cX12_treadsOf 3 (some .int) 2 := ⟨sx_inT (sx_t5 (List.mem_of_getElem? (i := 181) rfl)) rfl, sx_inT (sx_t5 (List.mem_of_getElem? (i := 180) rfl)) rfl, sx_inT (sx_t0 (List.mem_of_getElem? (i := 35) rfl)) rfl, in_RX12, ⟨by decide, by decide, by decide⟩, by decide⟩
theorem mt_X12_oddsBy : sx_MV yX12_oddsBy cX12_oddsBy 4 (some .int) 3 := ⟨sx_inT (sx_t5 (List.mem_of_getElem? (i := 185) rfl)) rfl, sx_inT (sx_t5 (List.mem_of_getElem? (i := 184) rfl)) rfl, sx_inT (sx_t0 (List.mem_of_getElem? (i := 36) rfl)) rfl, in_RX12, ⟨by decide, by decide, by decide⟩, by decide⟩
theorem mt_X12_greater : sx_MS yX12_greater cX12_greater 2 (some .int) 2 := ⟨sx_inT (sx_t5 (List.mem_of_getElem? (i := 188) rfl)) rfl, sx_inT (sx_t5 (List.mem_of_getElem? (i := 187) rfl)) rfl, in_RX12, ⟨by decide, by decide, by decide⟩, by decide⟩
theorem mt_X12_lesser : sx_MS yX12_lesser cX12_lesser 2 (some .int) 2 := ⟨sx_inT (sx_t5 (List.mem_of_getElem? (i := 191) rfl)) rfl, sx_inT (sx_t5 (List.mem_of_getElem? (i := 190) rfl)) rfl, in_RX12, ⟨by decide, by decide, by decide⟩, by decide⟩
theorem mt_X12_hits : sx_MV yX12_hits cX12_hits 4 (some .int) 3 := ⟨sx_inT (sx_t5 (List.mem_of_getElem? (i := 195) rfl)) rfl, sx_inT (sx_t5 (List.mem_of_getElem? (i := 193) rfl)) rfl, sx_inT (sx_t5 (List.mem_of_getElem? (i := 194) rfl)) rfl, in_RX12, ⟨by decide, by decide, by decide⟩, by decide⟩
theorem mt_X12_hitsOf : sx_MV yX12_hitsOf cX12_hitsOf 6 (some .int) 3 := ⟨sx_inT (sx_t5 (List.mem_of_getElem? (i := 199) rfl)) rfl, sx_inT (sx_t5 (List.mem_of_getElem? (i := 198) rfl)) rfl, sx_inT (sx_t0 (List.mem_of_getElem? (i := 37) rfl)) rfl, in_RX12, ⟨by decide, by decide, by decide⟩, by decide⟩
theorem mt_X12_harm : sx_MV yX12_harm cX12_harm 5 (some .long) 3 := ⟨sx_inT (sx_t5 (List.mem_of_getElem? (i := 203) rfl)) rfl, sx_inT (sx_t5 (List.mem_of_getElem? (i := 201) rfl)) rfl, sx_inT (sx_t5 (List.mem_of_getElem? (i := 202) rfl)) rfl, in_RX12, ⟨by decide, by decide, by decide⟩, by decide⟩
theorem mt_X12_sunOf : sx_MV yX12_sunOf cX12_sunOf 5 (some .int) 1 := ⟨sx_inT (sx_t5 (List.mem_of_getElem? (i := 207) rfl)) rfl, sx_inT (sx_t5 (List.mem_of_getElem? (i := 206) rfl)) rfl, sx_inT (sx_t0 (List.mem_of_getElem? (i := 38) rfl)) rfl, in_RX12, ⟨by decide, by decide, by decide⟩, by decide⟩
theorem mt_X12_hitsWho : sx_MV yX12_hitsWho cX12_hitsWho 5 (some .int) 3 := ⟨sx_inT (sx_t5 (List.mem_of_getElem? (i := 211) rfl)) rfl, sx_inT (sx_t5 (List.mem_of_getElem? (i := 210) rfl)) rfl, sx_inT (sx_t0 (List.mem_of_getElem? (i := 39) rfl)) rfl, in_RX12, ⟨by decide, by decide, by decide⟩, by decide⟩
theorem mt_X12_isIn : sx_MS yX12_isIn cX12_isIn 2 (some .boolean) 2 := ⟨sx_inT (sx_t5 (List.mem_of_getElem? (i := 214) rfl)) rfl, sx_inT (sx_t5 (List.mem_of_getElem? (i := 213) rfl)) rfl, in_RX12, ⟨by decide, by decide, by decide⟩, by decide⟩
theorem mt_X12_harmBy : sx_MV yX12_harmBy cX12_harmBy 5 (some .int) 2 := ⟨sx_inT (sx_t5 (List.mem_of_getElem? (i := 218) rfl)) rfl, sx_inT (sx_t5 (List.mem_of_getElem? (i := 217) rfl)) rfl, sx_inT (sx_t0 (List.mem_of_getElem? (i := 40) rfl)) rfl, in_RX12, ⟨by decide, by decide, by decide⟩, by decide⟩
theorem mt_X12_isAside : sx_MV yX12_isAside cX12_isAside 3 (some .boolean) 2 := ⟨sx_inT (sx_t5 (List.mem_of_getElem? (i := 222) rfl)) rfl, sx_inT (sx_t5 (List.mem_of_getElem? (i := 221) rfl)) rfl, sx_inT (sx_t0 (List.mem_of_getElem? (i := 41) rfl)) rfl, in_RX12, ⟨by decide, by decide, by decide⟩, by decide⟩
theorem mt_X12_part : sx_MS yX12_part cX12_part 11 (some .long) 3 := ⟨sx_inT (sx_t5 (List.mem_of_getElem? (i := 226) rfl)) rfl, sx_inT (sx_t5 (List.mem_of_getElem? (i := 225) rfl)) rfl, in_RX12, ⟨by decide, by decide, by decide⟩, by decide⟩
theorem mt_X12_no : sx_MS yX12_no cX12_no 1 (some .long) 1 := ⟨sx_inT (sx_t5 (List.mem_of_getElem? (i := 229) rfl)) rfl, sx_inT (sx_t5 (List.mem_of_getElem? (i := 228) rfl)) rfl, in_RX12, ⟨by decide, by decide, by decide⟩, by decide⟩
theorem mt_X12_all : sx_MV yX12_all cX12_all 3 (some .long) 2 := ⟨sx_inT (sx_t5 (List.mem_of_getElem? (i := 234) rfl)) rfl, sx_inT (sx_t5 (List.mem_of_getElem? (i := 232) rfl)) rfl, sx_inT (sx_t5 (List.mem_of_getElem? (i := 233) rfl)) rfl, in_RX12, ⟨by decide, by decide, by decide⟩, by decide⟩
theorem mt_X12_toAll : sx_MV yX12_toAll cX12_toAll 3 (some .int) 0 := ⟨sx_inT (sx_t5 (List.mem_of_getElem? (i := 238) rfl)) rfl, sx_inT (sx_t5 (List.mem_of_getElem? (i := 237) rfl)) rfl, sx_inT (sx_t0 (List.mem_of_getElem? (i := 42) rfl)) rfl, in_RX12, ⟨by decide, by decide, by decide⟩, by decide⟩
theorem mt_X12_toOne : sx_MV yX12_toOne cX12_toOne 4 (some .int) 1 := ⟨sx_inT (sx_t6 (List.mem_of_getElem? (i := 2) rfl)) rfl, sx_inT (sx_t6 (List.mem_of_getElem? (i := 1) rfl)) rfl, sx_inT (sx_t0 (List.mem_of_getElem? (i := 43) rfl)) rfl, in_RX12, ⟨by decide, by decide, by decide⟩, by decide⟩
theorem mt_X12_ends : sx_MV yX12_ends cX12_ends 1 (some .int) 0 := ⟨sx_inT (sx_t6 (List.mem_of_getElem? (i := 6) rfl)) rfl, sx_inT (sx_t6 (List.mem_of_getElem? (i := 4) rfl)) rfl, sx_inT (sx_t6 (List.mem_of_getElem? (i := 5) rfl)) rfl, in_RX12, ⟨by decide, by decide, by decide⟩, by decide⟩
theorem mt_X12_endsNow : sx_MV yX12_endsNow cX12_endsNow 1 (some .int) 0 := ⟨sx_inT (sx_t6 (List.mem_of_getElem? (i := 10) rfl)) rfl, sx_inT (sx_t6 (List.mem_of_getElem? (i := 9) rfl)) rfl, sx_inT (sx_t0 (List.mem_of_getElem? (i := 44) rfl)) rfl, in_RX12, ⟨by decide, by decide, by decide⟩, by decide⟩
theorem mt_X12_takes : sx_MV yX12_takes cX12_takes 1 (some .int) 0 := ⟨sx_inT (sx_t6 (List.mem_of_getElem? (i := 14) rfl)) rfl, sx_inT (sx_t6 (List.mem_of_getElem? (i := 13) rfl)) rfl, sx_inT (sx_t0 (List.mem_of_getElem? (i := 45) rfl)) rfl, in_RX12, ⟨by decide, by decide, by decide⟩, by decide⟩
theorem mt_X12_latest : sx_MV yX12_latest cX12_latest 1 (some .int) 0 := ⟨sx_inT (sx_t6 (List.mem_of_getElem? (i := 18) rfl)) rfl, sx_inT (sx_t6 (List.mem_of_getElem? (i := 16) rfl)) rfl, sx_inT (sx_t6 (List.mem_of_getElem? (i := 17) rfl)) rfl, in_RX12, ⟨by decide, by decide, by decide⟩, by decide⟩
theorem mt_X12_latestNow : sx_MV yX12_latestNow cX12_latestNow 2 (some .int) 0 := ⟨sx_inT (sx_t6 (List.mem_of_getElem? (i := 22) rfl)) rfl, sx_inT (sx_t6 (List.mem_of_getElem? (i := 21) rfl)) rfl, sx_inT (sx_t0 (List.mem_of_getElem? (i := 46) rfl)) rfl, in_RX12, ⟨by decide, by decide, by decide⟩, by decide⟩
theorem mt_X12_curve : sx_MV yX12_curve cX12_curve 3 (some .long) 2 := ⟨sx_inT (sx_t6 (List.mem_of_getElem? (i := 26) rfl)) rfl, sx_inT (sx_t6 (List.mem_of_getElem? (i := 24) rfl)) rfl, sx_inT (sx_t6 (List.mem_of_getElem? (i := 25) rfl)) rfl, in_RX12, ⟨by decide, by decide, by decide⟩, by decide⟩
theorem mt_X12_byGap : sx_MV yX12_byGap cX12_byGap 3 (some .int) 1 := ⟨sx_inT (sx_t6 (List.mem_of_getElem? (i := 31) rfl)) rfl, sx_inT (sx_t6 (List.mem_of_getElem? (i := 30) rfl)) rfl, sx_inT (sx_t0 (List.mem_of_getElem? (i := 47) rfl)) rfl, in_RX12, ⟨by decide, by decide, by decide⟩, by decide⟩
theorem mt_X12_gap : sx_MV yX12_gap cX12_gap 2 (some .int) 1 := ⟨sx_inT (sx_t6 (List.mem_of_getElem? (i := 35) rfl)) rfl, sx_inT (sx_t6 (List.mem_of_getElem? (i := 33) rfl)) rfl, sx_inT (sx_t6 (List.mem_of_getElem? (i := 34) rfl)) rfl, in_RX12, ⟨by decide, by decide, by decide⟩, by decide⟩
theorem mt_X12_gapOf : sx_MV yX12_gapOf cX12_gapOf 6 (some .int) 1 := ⟨sx_inT (sx_t6 (List.mem_of_getElem? (i := 39) rfl)) rfl, sx_inT (sx_t6 (List.mem_of_getElem? (i := 38) rfl)) rfl, sx_inT (sx_t0 (List.mem_of_getElem? (i := 48) rfl)) rfl, in_RX12, ⟨by decide, by decide, by decide⟩, by decide⟩
theorem mt_X12_order : sx_MV yX12_order cX12_order 2 (some .int) 1 := ⟨sx_inT (sx_t6 (List.mem_of_getElem? (i := 43) rfl)) rfl, sx_inT (sx_t6 (List.mem_of_getElem? (i := 41) rfl)) rfl, sx_inT (sx_t6 (List.mem_of_getElem? (i := 42) rfl)) rfl, in_RX12, ⟨by decide, by decide, by decide⟩, by decide⟩
theorem mt_X12_findOrder : sx_MV yX12_findOrder cX12_findOrder 6 (some .int) 0 := ⟨sx_inT (sx_t6 (List.mem_of_getElem? (i := 47) rfl)) rfl, sx_inT (sx_t6 (List.mem_of_getElem? (i := 46) rfl)) rfl, sx_inT (sx_t0 (List.mem_of_getElem? (i := 49) rfl)) rfl, in_RX12, ⟨by decide, by decide, by decide⟩, by decide⟩
theorem mt_X12_unfolds : sx_MV yX12_unfolds cX12_unfolds 5 none 1 := ⟨sx_inT (sx_t6 (List.mem_of_getElem? (i := 51) rfl)) rfl, sx_inT (sx_t6 (List.mem_of_getElem? (i := 50) rfl)) rfl, sx_inT (sx_t0 (List.mem_of_getElem? (i := 50) rfl)) rfl, in_RX12, ⟨by decide, by decide, by decide⟩, by decide⟩
theorem mt_X12_ordered : sx_MV yX12_ordered cX12_ordered 2 (some .long) 1 := ⟨sx_inT (sx_t6 (List.mem_of_getElem? (i := 55) rfl)) rfl, sx_inT (sx_t6 (List.mem_of_getElem? (i := 53) rfl)) rfl, sx_inT (sx_t6 (List.mem_of_getElem? (i := 54) rfl)) rfl, in_RX12, ⟨by decide, by decide, by decide⟩, by decide⟩
theorem mt_X12_helmets : sx_MV yX12_helmets cX12_helmets 3 (some .long) 2 := ⟨sx_inT (sx_t6 (List.mem_of_getElem? (i := 59) rfl)) rfl, sx_inT (sx_t6 (List.mem_of_getElem? (i := 57) rfl)) rfl, sx_inT (sx_t6 (List.mem_of_getElem? (i := 58) rfl)) rfl, in_RX12, ⟨by decide, by decide, by decide⟩, by decide⟩
theorem mt_X12_findHelmets : sx_MV yX12_findHelmets cX12_findHelmets 6 (some .int) 1 := ⟨sx_inT (sx_t6 (List.mem_of_getElem? (i := 63) rfl)) rfl, sx_inT (sx_t6 (List.mem_of_getElem? (i := 62) rfl)) rfl, sx_inT (sx_t0 (List.mem_of_getElem? (i := 51) rfl)) rfl, in_RX12, ⟨by decide, by decide, by decide⟩, by decide⟩
theorem mt_X12_ones : sx_MS yX12_ones cX12_ones 3 (some .int) 1 := ⟨sx_inT (sx_t6 (List.mem_of_getElem? (i := 66) rfl)) rfl, sx_inT (sx_t6 (List.mem_of_getElem? (i := 65) rfl)) rfl, in_RX12, ⟨by decide, by decide, by decide⟩, by decide⟩
theorem mt_X12_tellsHelmets : sx_MV yX12_tellsHelmets cX12_tellsHelmets 3 (some .long) 2 := ⟨sx_inT (sx_t6 (List.mem_of_getElem? (i := 70) rfl)) rfl, sx_inT (sx_t6 (List.mem_of_getElem? (i := 69) rfl)) rfl, sx_inT (sx_t0 (List.mem_of_getElem? (i := 52) rfl)) rfl, in_RX12, ⟨by decide, by decide, by decide⟩, by decide⟩
theorem mt_X12_waits : sx_MV yX12_waits cX12_waits 5 (some .long) 4 := ⟨sx_inT (sx_t6 (List.mem_of_getElem? (i := 74) rfl)) rfl, sx_inT (sx_t6 (List.mem_of_getElem? (i := 72) rfl)) rfl, sx_inT (sx_t6 (List.mem_of_getElem? (i := 73) rfl)) rfl, in_RX12, ⟨by decide, by decide, by decide⟩, by decide⟩
theorem mt_X12_findWait : sx_MV yX12_findWait cX12_findWait 7 none 3 := ⟨sx_inT (sx_t6 (List.mem_of_getElem? (i := 80) rfl)) rfl, sx_inT (sx_t6 (List.mem_of_getElem? (i := 79) rfl)) rfl, sx_inT (sx_t0 (List.mem_of_getElem? (i := 53) rfl)) rfl, in_RX12, ⟨by decide, by decide, by decide⟩, by decide⟩
theorem mt_X12_byOthers : sx_MV yX12_byOthers cX12_byOthers 8 (some .int) 3 := ⟨sx_inT (sx_t6 (List.mem_of_getElem? (i := 84) rfl)) rfl, sx_inT (sx_t6 (List.mem_of_getElem? (i := 83) rfl)) rfl, sx_inT (sx_t0 (List.mem_of_getElem? (i := 54) rfl)) rfl, in_RX12, ⟨by decide, by decide, by decide⟩, by decide⟩
theorem mt_X12_tellsWait : sx_MV yX12_tellsWait cX12_tellsWait 2 (some .long) 1 := ⟨sx_inT (sx_t6 (List.mem_of_getElem? (i := 88) rfl)) rfl, sx_inT (sx_t6 (List.mem_of_getElem? (i := 87) rfl)) rfl, sx_inT (sx_t0 (List.mem_of_getElem? (i := 55) rfl)) rfl, in_RX12, ⟨by decide, by decide, by decide⟩, by decide⟩
theorem mt_X12_foot : sx_MV yX12_foot cX12_foot 4 (some .long) 3 := ⟨sx_inT (sx_t6 (List.mem_of_getElem? (i := 92) rfl)) rfl, sx_inT (sx_t6 (List.mem_of_getElem? (i := 90) rfl)) rfl, sx_inT (sx_t6 (List.mem_of_getElem? (i := 91) rfl)) rfl, in_RX12, ⟨by decide, by decide, by decide⟩, by decide⟩
theorem mt_X12_footOf : sx_MV yX12_footOf cX12_footOf 6 (some .long) 3 := ⟨sx_inT (sx_t6 (List.mem_of_getElem? (i := 96) rfl)) rfl, sx_inT (sx_t6 (List.mem_of_getElem? (i := 95) rfl)) rfl, sx_inT (sx_t0 (List.mem_of_getElem? (i := 56) rfl)) rfl, in_RX12, ⟨by decide, by decide, by decide⟩, by decide⟩
theorem mt_X12_comesInto : sx_MV yX12_comesInto cX12_comesInto 4 (some .boolean) 3 := ⟨sx_inT (sx_t6 (List.mem_of_getElem? (i := 100) rfl)) rfl, sx_inT (sx_t6 (List.mem_of_getElem? (i := 99) rfl)) rfl, sx_inT (sx_t0 (List.mem_of_getElem? (i := 57) rfl)) rfl, in_RX12, ⟨by decide, by decide, by decide⟩, by decide⟩
theorem mt_X12_fell : sx_MV yX12_fell cX12_fell 4 (some .int) 3 := ⟨sx_inT (sx_t6 (List.mem_of_getElem? (i := 104) rfl)) rfl, sx_inT (sx_t6 (List.mem_of_getElem? (i := 102) rfl)) rfl, sx_inT (sx_t6 (List.mem_of_getElem? (i := 103) rfl)) rfl, in_RX12, ⟨by decide, by decide, by decide⟩, by decide⟩
theorem mt_X12_forget : sx_MV yX12_forget cX12_forget 2 (some .int) 0 := ⟨sx_inT (sx_t6 (List.mem_of_getElem? (i := 109) rfl)) rfl, sx_inT (sx_t6 (List.mem_of_getElem? (i := 107) rfl)) rfl, sx_inT (sx_t6 (List.mem_of_getElem? (i := 108) rfl)) rfl, in_RX12, ⟨by decide, by decide, by decide⟩, by decide⟩
theorem mt_X12_read : sx_MV yX12_read cX12_read 5 (some .int) 1 := ⟨sx_inT (sx_t6 (List.mem_of_getElem? (i := 113) rfl)) rfl, sx_inT (sx_t6 (List.mem_of_getElem? (i := 111) rfl)) rfl, sx_inT (sx_t6 (List.mem_of_getElem? (i := 112) rfl)) rfl, in_RX12, ⟨by decide, by decide, by decide⟩, by decide⟩
theorem mt_X12_loose : sx_MV yX12_loose cX12_loose 2 (some .int) 1 := ⟨sx_inT (sx_t6 (List.mem_of_getElem? (i := 118) rfl)) rfl, sx_inT (sx_t6 (List.mem_of_getElem? (i := 116) rfl)) rfl, sx_inT (sx_t6 (List.mem_of_getElem? (i := 117) rfl)) rfl, in_RX12, ⟨by decide, by decide, by decide⟩, by decide⟩
theorem mt_X12_looseOf : sx_MV yX12_looseOf cX12_looseOf 8 (some .int) 1 := ⟨sx_inT (sx_t6 (List.mem_of_getElem? (i := 122) rfl)) rfl, sx_inT (sx_t6 (List.mem_of_getElem? (i := 121) rfl)) rfl, sx_inT (sx_t0 (List.mem_of_getElem? (i := 58) rfl)) rfl, in_RX12, ⟨by decide, by decide, by decide⟩, by decide⟩
theorem mt_X12_likely : sx_MV yX12_likely cX12_likely 8 (some .long) 2 := ⟨sx_inT (sx_t6 (List.mem_of_getElem? (i := 126) rfl)) rfl, sx_inT (sx_t6 (List.mem_of_getElem? (i := 125) rfl)) rfl, sx_inT (sx_t0 (List.mem_of_getElem? (i := 59) rfl)) rfl, in_RX12, ⟨by decide, by decide, by decide⟩, by decide⟩
theorem mt_X12_morning : sx_MV yX12_morning cX12_morning 2 (some .int) 1 := ⟨sx_inT (sx_t6 (List.mem_of_getElem? (i := 130) rfl)) rfl, sx_inT (sx_t6 (List.mem_of_getElem? (i := 128) rfl)) rfl, sx_inT (sx_t6 (List.mem_of_getElem? (i := 129) rfl)) rfl, in_RX12, ⟨by decide, by decide, by decide⟩, by decide⟩
theorem mt_X12_morningOf : sx_MV yX12_morningOf cX12_morningOf 6 (some .int) 1 := ⟨sx_inT (sx_t6 (List.mem_of_getElem? (i := 134) rfl)) rfl, sx_inT (sx_t6 (List.mem_of_getElem? (i := 133) rfl)) rfl, sx_inT (sx_t0 (List.mem_of_getElem? (i := 60) rfl)) rfl, in_RX12, ⟨by decide, by decide, by decide⟩, by decide⟩
theorem mt_X12_lot : sx_MV yX12_lot cX12_lot 1 (some .int) 0 := ⟨sx_inT (sx_t6 (List.mem_of_getElem? (i := 138) rfl)) rfl, sx_inT (sx_t6 (List.mem_of_getElem? (i := 137) rfl)) rfl, sx_inT (sx_t0 (List.mem_of_getElem? (i := 61) rfl)) rfl, in_RX12, ⟨by decide, by decide, by decide⟩, by decide⟩
theorem mt_X12_falls : sx_MV yX12_falls cX12_falls 7 (some .int) 3 := ⟨sx_inT (sx_t6 (List.mem_of_getElem? (i := 143) rfl)) rfl, sx_inT (sx_t6 (List.mem_of_getElem? (i := 142) rfl)) rfl, sx_inT (sx_t0 (List.mem_of_getElem? (i := 62) rfl)) rfl, in_RX12, ⟨by decide, by decide, by decide⟩, by decide⟩
theorem mt_X12_write : sx_MV yX12_write cX12_write 5 (some .int) 2 := ⟨sx_inT (sx_t6 (List.mem_of_getElem? (i := 147) rfl)) rfl, sx_inT (sx_t6 (List.mem_of_getElem? (i := 145) rfl)) rfl, sx_inT (sx_t6 (List.mem_of_getElem? (i := 146) rfl)) rfl, in_RX12, ⟨by decide, by decide, by decide⟩, by decide⟩
theorem mt_X12_count : sx_MV yX12_count cX12_count 4 (some .int) 1 := ⟨sx_inT (sx_t6 (List.mem_of_getElem? (i := 151) rfl)) rfl, sx_inT (sx_t6 (List.mem_of_getElem? (i := 149) rfl)) rfl, sx_inT (sx_t6 (List.mem_of_getElem? (i := 150) rfl)) rfl, in_RX12, ⟨by decide, by decide, by decide⟩, by decide⟩
theorem mt_X12_digest : sx_MV yX12_digest cX12_digest 5 (some .long) 0 := ⟨sx_inT (sx_t6 (List.mem_of_getElem? (i := 155) rfl)) rfl, sx_inT (sx_t6 (List.mem_of_getElem? (i := 153) rfl)) rfl, sx_inT (sx_t6 (List.mem_of_getElem? (i := 154) rfl)) rfl, in_RX12, ⟨by decide, by decide, by decide⟩, by decide⟩
theorem mt_X12_tellsWalker : sx_MV yX12_tellsWalker cX12_tellsWalker 7 (some .long) 2 := ⟨sx_inT (sx_t6 (List.mem_of_getElem? (i := 163) rfl)) rfl, sx_inT (sx_t6 (List.mem_of_getElem? (i := 162) rfl)) rfl, sx_inT (sx_t0 (List.mem_of_getElem? (i := 63) rfl)) rfl, in_RX12, ⟨by decide, by decide, by decide⟩, by decide⟩
