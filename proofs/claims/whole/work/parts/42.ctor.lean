theorem g_min {X : sx_X} {h : sx_H} {a b : Int} (ha : -2147483648 ≤ a ∧ a ≤ 2147483647) (hb : -2147483648 ≤ b ∧ b ≤ 2147483647) : Ct X yJ9_min_7cf53 cJ9_min_7cf53 2 (some .int) 0 0 0 [vI a, vI b] (h) (sx_is (some (vI (min a b))) h) := by
  refine Ct.of false [some (vI a), some (vI b)] (by decide +kernel) (fun h => by cases h) (Nat.le_of_ble_eq_true rfl) (fun _ => rfl) (fun _ _ q => by rw [q.2]; rfl) ?_
  refine sx_iload_n (p1 := 1) dJ9_min_7cf53_0 rfl rfl ?_
  refine sx_iload_n (p1 := 2) dJ9_min_7cf53_1 rfl rfl ?_
  refine sx_icmp_gt (p1 := 5) (tg := 9) dJ9_min_7cf53_2 rfl rfl (by omega) (by omega) (fun q2 => ?_) (fun q2 => ?_)
  · refine sx_iload_n (p1 := 10) dJ9_min_7cf53_9 rfl rfl ?_
    exact sx_iret dJ9_min_7cf53_10 rfl ⟨congrArg (fun z : Int => some (vI z)) (by omega), rfl⟩
  · refine sx_iload_n (p1 := 6) dJ9_min_7cf53_5 rfl rfl ?_
    refine sx_goto (p1 := 10) (tg := 10) dJ9_min_7cf53_6 rfl rfl ?_
    exact sx_iret dJ9_min_7cf53_10 rfl ⟨congrArg (fun z : Int => some (vI z)) (by omega), rfl⟩
theorem dfX0 : ∀ j, j < 4 → defaultValue (tyX0 j) = vp_V [.null, .null, vI 0, vI 0] j := by
  intro j hj
  match j, hj with
  | 0, _ => rfl
  | 1, _ => rfl
  | 2, _ => rfl
  | 3, _ => rfl
  | q + 4, hq => omega
theorem dfX1 : ∀ j, j < 4 → defaultValue (tyX1 j) = vp_V [.null, .null, .null, .null] j := by
  intro j hj
  match j, hj with
  | 0, _ => rfl
  | 1, _ => rfl
  | 2, _ => rfl
  | 3, _ => rfl
  | q + 4, hq => omega
theorem dfX2 : ∀ j, j < 6 → defaultValue (tyX2 j) = vp_V [.null, .null, .null, .null, vI 0, vI 0] j := by
  intro j hj
  match j, hj with
  | 0, _ => rfl
  | 1, _ => rfl
  | 2, _ => rfl
  | 3, _ => rfl
  | 4, _ => rfl
  | 5, _ => rfl
  | q + 6, hq => omega
theorem dfX3 : ∀ j, j < 8 → defaultValue (tyX3 j) = vp_V [.null, .null, .null, .null, .null, .null, .null, vJ 0] j := by
  intro j hj
  match j, hj with
  | 0, _ => rfl
  | 1, _ => rfl
  | 2, _ => rfl
  | 3, _ => rfl
  | 4, _ => rfl
  | 5, _ => rfl
  | 6, _ => rfl
  | 7, _ => rfl
  | q + 8, hq => omega
theorem dfX4 : ∀ j, j < 3 → defaultValue (tyX4 j) = vp_V [.null, .null, .null] j := by
  intro j hj
  match j, hj with
  | 0, _ => rfl
  | 1, _ => rfl
  | 2, _ => rfl
  | q + 3, hq => omega
theorem dfX5 : ∀ j, j < 5 → defaultValue (tyX5 j) = vp_V [.null, .null, .null, vI 0, vI 0] j := by
  intro j hj
  match j, hj with
  | 0, _ => rfl
  | 1, _ => rfl
  | 2, _ => rfl
  | 3, _ => rfl
  | 4, _ => rfl
  | q + 5, hq => omega
theorem dfX6 : ∀ j, j < 6 → defaultValue (tyX6 j) = vp_V [vI 0, vI 0, vI 0, vI 0, vI 0, vI 0] j := by
  intro j hj
  match j, hj with
  | 0, _ => rfl
  | 1, _ => rfl
  | 2, _ => rfl
  | 3, _ => rfl
  | 4, _ => rfl
  | 5, _ => rfl
  | q + 6, hq => omega
theorem dfX7 : ∀ j, j < 3 → defaultValue (tyX7 j) = vp_V [.null, vI 0, vI 0] j := by
  intro j hj
  match j, hj with
  | 0, _ => rfl
  | 1, _ => rfl
  | 2, _ => rfl
  | q + 3, hq => omega
theorem dfX8 : ∀ j, j < 4 → defaultValue (tyX8 j) = vp_V [.null, .null, .null, .null] j := by
  intro j hj
  match j, hj with
  | 0, _ => rfl
  | 1, _ => rfl
  | 2, _ => rfl
  | 3, _ => rfl
  | q + 4, hq => omega
theorem dfX9 : ∀ j, j < 4 → defaultValue (tyX9 j) = vp_V [.null, .null, .null, vI 0] j := by
  intro j hj
  match j, hj with
  | 0, _ => rfl
  | 1, _ => rfl
  | 2, _ => rfl
  | 3, _ => rfl
  | q + 4, hq => omega
theorem dfX10 : ∀ j, j < 3 → defaultValue (tyX10 j) = vp_V [.null, vI 0, vI 0] j := by
  intro j hj
  match j, hj with
  | 0, _ => rfl
  | 1, _ => rfl
  | 2, _ => rfl
  | q + 3, hq => omega
theorem dfX11 : ∀ j, j < 13 → defaultValue (tyX11 j) = vp_V [.null, .null, .null, .null, .null, .null, .null, .null, .null, .null, .null, .null, vI 0] j := by
  intro j hj
  match j, hj with
  | 0, _ => rfl
  | 1, _ => rfl
  | 2, _ => rfl
  | 3, _ => rfl
  | 4, _ => rfl
  | 5, _ => rfl
  | 6, _ => rfl
  | 7, _ => rfl
  | 8, _ => rfl
  | 9, _ => rfl
  | 10, _ => rfl
  | 11, _ => rfl
  | 12, _ => rfl
  | q + 13, hq => omega
theorem dfX12 : ∀ j, j < 26 → defaultValue (tyX12 j) = vp_V [.null, .null, .null, .null, vI 0, .null, .null, vI 0, vI 0, .null, .null, vI 0, .null, .null, .null, .null, .null, vI 0, vI 0, .null, vI 0, vI 0, vI 0, vI 0, .null, vI 0] j := by
  intro j hj
  match j, hj with
  | 0, _ => rfl
  | 1, _ => rfl
  | 2, _ => rfl
  | 3, _ => rfl
  | 4, _ => rfl
  | 5, _ => rfl
  | 6, _ => rfl
  | 7, _ => rfl
  | 8, _ => rfl
  | 9, _ => rfl
  | 10, _ => rfl
  | 11, _ => rfl
  | 12, _ => rfl
  | 13, _ => rfl
  | 14, _ => rfl
  | 15, _ => rfl
  | 16, _ => rfl
  | 17, _ => rfl
  | 18, _ => rfl
  | 19, _ => rfl
  | 20, _ => rfl
  | 21, _ => rfl
  | 22, _ => rfl
  | 23, _ => rfl
  | 24, _ => rfl
  | 25, _ => rfl
  | q + 26, hq => omega
set_option maxRecDepth 20000 in
theorem k_X10_init_3 {X : sx_X} : Ct X yX10_init cX10_init 2 none 1 1 32 [.ref 3, vI 32] [.inr (11, [.null, .null, .null, .null, .null, .null, .null, .null, .null, .null, .null, .null, vI 0]), .inr (10, [.null, vI 0, vI 0])] (sx_is none [.inr (11, [.null, .null, .null, .null, .null, .null, .null, .null, .null, .null, .null, .null, vI 0]), .inr (10, [.ref 4, vI 32, vI 0]), .inl (2, 32, .inl (fun _ => Int32.ofInt 0))]) := by
  refine Ct.of true [some (.ref 3), some (vI 32)] (plainFor_of_name (by decide)) (fun _ => rfl) (Nat.le_of_ble_eq_true rfl) (fun _ => rfl) (fun _ _ q => by rw [q.2]; rfl) ?_
  refine sx_aload_n (p1 := 1) dX10_init_0 rfl rfl ?_
  refine sx_obj (p1 := 4) dX10_init_1 rfl ml_X10_3 im_obj co_obj (Nat.le_of_ble_eq_true rfl) (Nat.le_of_ble_eq_true rfl) ?_
  refine sx_aload_n (p1 := 5) dX10_init_4 rfl rfl ?_
  refine sx_bipush (p1 := 7) dX10_init_5 rfl (by decide) ?_
  refine sx_newB (N := 32) (p1 := 9) (a1 := 4) (k1 := 1) (n1 := 32) (h1 := [.inr (11, [.null, .null, .null, .null, .null, .null, .null, .null, .null, .null, .null, .null, vI 0]), .inr (10, [.null, vI 0, vI 0]), .inl (2, 32, .inl (fun _ => Int32.ofInt 0))]) dX10_init_7 rfl ac_byte (Nat.le_of_ble_eq_true rfl) rfl rfl (Nat.le_of_ble_eq_true rfl) (Nat.le_of_ble_eq_true rfl) rfl rfl ?_
  refine sx_putF (p1 := 12) (fs := [.null, vI 0, vI 0]) (h1 := [.inr (11, [.null, .null, .null, .null, .null, .null, .null, .null, .null, .null, .null, .null, vI 0]), .inr (10, [.ref 4, vI 0, vI 0]), .inl (2, 32, .inl (fun _ => Int32.ofInt 0))]) dX10_init_9 rfl fl_X10_9 rfl rfl (Nat.le_of_ble_eq_true rfl) (fun _ => rfl) (fun _ => rfl) rfl ?_
  refine sx_aload_n (p1 := 13) dX10_init_12 rfl rfl ?_
  refine sx_iload_n (p1 := 14) dX10_init_13 rfl rfl ?_
  refine sx_bipush (p1 := 16) dX10_init_14 rfl (by decide) ?_
  refine sx_callSr (p1 := 19) (As := [_, _]) (k1 := 1) (n1 := 32) dX10_init_16 rfl rfl (g_min (by decide) (by decide)) mt_J9_min_7cf53 ml_X10_15 (Nat.le_of_ble_eq_true rfl) rfl (Nat.le_of_ble_eq_true rfl) rfl rfl (Nat.le_of_ble_eq_true rfl) (Nat.le_of_ble_eq_true rfl) ?_
  rw [show min (32 : Int) 32 = 32 from by decide]
  refine sx_putF (p1 := 22) (fs := [.ref 4, vI 0, vI 0]) (h1 := [.inr (11, [.null, .null, .null, .null, .null, .null, .null, .null, .null, .null, .null, .null, vI 0]), .inr (10, [.ref 4, vI 32, vI 0]), .inl (2, 32, .inl (fun _ => Int32.ofInt 0))]) dX10_init_19 rfl fl_X10_21 rfl rfl (Nat.le_of_ble_eq_true rfl) (fun _ => rfl) (fun _ => rfl) rfl ?_
  exact sx_vret dX10_init_22 rfl ⟨rfl, rfl⟩
def zc3 : sx_C := .inr (10, [.ref 4, vI 32, vI 0])
def zc4 : sx_C := .inl (2, 32, .inl (fun _ => Int32.ofInt 0))
set_option maxRecDepth 20000 in
theorem k_X10_init_5 {X : sx_X} : Ct X yX10_init cX10_init 2 none 1 1 32 [.ref 5, vI 23] [.inr (11, [.ref 3, .null, .null, .null, .null, .null, .null, .null, .null, .null, .null, .null, vI 0]), zc3, zc4, .inr (10, [.null, vI 0, vI 0])] (sx_is none [.inr (11, [.ref 3, .null, .null, .null, .null, .null, .null, .null, .null, .null, .null, .null, vI 0]), zc3, zc4, .inr (10, [.ref 6, vI 23, vI 0]), .inl (2, 32, .inl (fun _ => Int32.ofInt 0))]) := by
  refine Ct.of true [some (.ref 5), some (vI 23)] (plainFor_of_name (by decide)) (fun _ => rfl) (Nat.le_of_ble_eq_true rfl) (fun _ => rfl) (fun _ _ q => by rw [q.2]; rfl) ?_
  refine sx_aload_n (p1 := 1) dX10_init_0 rfl rfl ?_
  refine sx_obj (p1 := 4) dX10_init_1 rfl ml_X10_3 im_obj co_obj (Nat.le_of_ble_eq_true rfl) (Nat.le_of_ble_eq_true rfl) ?_
  refine sx_aload_n (p1 := 5) dX10_init_4 rfl rfl ?_
  refine sx_bipush (p1 := 7) dX10_init_5 rfl (by decide) ?_
  refine sx_newB (N := 32) (p1 := 9) (a1 := 6) (k1 := 1) (n1 := 32) (h1 := [.inr (11, [.ref 3, .null, .null, .null, .null, .null, .null, .null, .null, .null, .null, .null, vI 0]), zc3, zc4, .inr (10, [.null, vI 0, vI 0]), .inl (2, 32, .inl (fun _ => Int32.ofInt 0))]) dX10_init_7 rfl ac_byte (Nat.le_of_ble_eq_true rfl) rfl rfl (Nat.le_of_ble_eq_true rfl) (Nat.le_of_ble_eq_true rfl) rfl rfl ?_
  refine sx_putF (p1 := 12) (fs := [.null, vI 0, vI 0]) (h1 := [.inr (11, [.ref 3, .null, .null, .null, .null, .null, .null, .null, .null, .null, .null, .null, vI 0]), zc3, zc4, .inr (10, [.ref 6, vI 0, vI 0]), .inl (2, 32, .inl (fun _ => Int32.ofInt 0))]) dX10_init_9 rfl fl_X10_9 rfl rfl (Nat.le_of_ble_eq_true rfl) (fun _ => rfl) (fun _ => rfl) rfl ?_
  refine sx_aload_n (p1 := 13) dX10_init_12 rfl rfl ?_
  refine sx_iload_n (p1 := 14) dX10_init_13 rfl rfl ?_
  refine sx_bipush (p1 := 16) dX10_init_14 rfl (by decide) ?_
  refine sx_callSr (p1 := 19) (As := [_, _]) (k1 := 1) (n1 := 32) dX10_init_16 rfl rfl (g_min (by decide) (by decide)) mt_J9_min_7cf53 ml_X10_15 (Nat.le_of_ble_eq_true rfl) rfl (Nat.le_of_ble_eq_true rfl) rfl rfl (Nat.le_of_ble_eq_true rfl) (Nat.le_of_ble_eq_true rfl) ?_
  rw [show min (23 : Int) 32 = 23 from by decide]
  refine sx_putF (p1 := 22) (fs := [.ref 6, vI 0, vI 0]) (h1 := [.inr (11, [.ref 3, .null, .null, .null, .null, .null, .null, .null, .null, .null, .null, .null, vI 0]), zc3, zc4, .inr (10, [.ref 6, vI 23, vI 0]), .inl (2, 32, .inl (fun _ => Int32.ofInt 0))]) dX10_init_19 rfl fl_X10_21 rfl rfl (Nat.le_of_ble_eq_true rfl) (fun _ => rfl) (fun _ => rfl) rfl ?_
  exact sx_vret dX10_init_22 rfl ⟨rfl, rfl⟩
def zc5 : sx_C := .inr (10, [.ref 6, vI 23, vI 0])
def zc6 : sx_C := .inl (2, 32, .inl (fun _ => Int32.ofInt 0))
set_option maxRecDepth 20000 in
theorem k_X0_init_7 {X : sx_X} : Ct X yX0_init cX0_init 1 none 1 2 32 [.ref 7] [.inr (11, [.ref 3, .ref 5, .null, .null, .null, .null, .null, .null, .null, .null, .null, .null, vI 0]), zc3, zc4, zc5, zc6, .inr (0, [.null, .null, vI 0, vI 0])] (sx_is none [.inr (11, [.ref 3, .ref 5, .null, .null, .null, .null, .null, .null, .null, .null, .null, .null, vI 0]), zc3, zc4, zc5, zc6, .inr (0, [.ref 8, .ref 9, vI 0, vI (-1)]), .inl (0, 16, .inl (fun _ => Int32.ofInt 0)), .inl (0, 16, .inl (fun _ => Int32.ofInt 0))]) := by
  refine Ct.of true [some (.ref 7)] (plainFor_of_name (by decide)) (fun _ => rfl) (Nat.le_of_ble_eq_true rfl) (fun _ => rfl) (fun _ _ q => by rw [q.2]; rfl) ?_
  refine sx_aload_n (p1 := 1) dX0_init_0 rfl rfl ?_
  refine sx_obj (p1 := 4) dX0_init_1 rfl ml_X0_3 im_obj co_obj (Nat.le_of_ble_eq_true rfl) (Nat.le_of_ble_eq_true rfl) ?_
  refine sx_aload_n (p1 := 5) dX0_init_4 rfl rfl ?_
  refine sx_bipush (p1 := 7) dX0_init_5 rfl (by decide) ?_
  refine sx_newI (N := 16) (p1 := 9) (a1 := 8) (k1 := 1) (n1 := 16) (h1 := [.inr (11, [.ref 3, .ref 5, .null, .null, .null, .null, .null, .null, .null, .null, .null, .null, vI 0]), zc3, zc4, zc5, zc6, .inr (0, [.null, .null, vI 0, vI 0]), .inl (0, 16, .inl (fun _ => Int32.ofInt 0))]) dX0_init_7 rfl ac_int (Nat.le_of_ble_eq_true rfl) rfl rfl (Nat.le_of_ble_eq_true rfl) (Nat.le_of_ble_eq_true rfl) rfl rfl ?_
  refine sx_putF (p1 := 12) (fs := [.null, .null, vI 0, vI 0]) (h1 := [.inr (11, [.ref 3, .ref 5, .null, .null, .null, .null, .null, .null, .null, .null, .null, .null, vI 0]), zc3, zc4, zc5, zc6, .inr (0, [.ref 8, .null, vI 0, vI 0]), .inl (0, 16, .inl (fun _ => Int32.ofInt 0))]) dX0_init_9 rfl fl_X0_9 rfl rfl (Nat.le_of_ble_eq_true rfl) (fun _ => rfl) (fun _ => rfl) rfl ?_
  refine sx_aload_n (p1 := 13) dX0_init_12 rfl rfl ?_
  refine sx_bipush (p1 := 15) dX0_init_13 rfl (by decide) ?_
  refine sx_newI (N := 16) (p1 := 17) (a1 := 9) (k1 := 2) (n1 := 32) (h1 := [.inr (11, [.ref 3, .ref 5, .null, .null, .null, .null, .null, .null, .null, .null, .null, .null, vI 0]), zc3, zc4, zc5, zc6, .inr (0, [.ref 8, .null, vI 0, vI 0]), .inl (0, 16, .inl (fun _ => Int32.ofInt 0)), .inl (0, 16, .inl (fun _ => Int32.ofInt 0))]) dX0_init_15 rfl ac_int (Nat.le_of_ble_eq_true rfl) rfl rfl (Nat.le_of_ble_eq_true rfl) (Nat.le_of_ble_eq_true rfl) rfl rfl ?_
  refine sx_putF (p1 := 20) (fs := [.ref 8, .null, vI 0, vI 0]) (h1 := [.inr (11, [.ref 3, .ref 5, .null, .null, .null, .null, .null, .null, .null, .null, .null, .null, vI 0]), zc3, zc4, zc5, zc6, .inr (0, [.ref 8, .ref 9, vI 0, vI 0]), .inl (0, 16, .inl (fun _ => Int32.ofInt 0)), .inl (0, 16, .inl (fun _ => Int32.ofInt 0))]) dX0_init_17 rfl fl_X0_15 rfl rfl (Nat.le_of_ble_eq_true rfl) (fun _ => rfl) (fun _ => rfl) rfl ?_
  refine sx_aload_n (p1 := 21) dX0_init_20 rfl rfl ?_
  refine sx_iconst (p1 := 22) dX0_init_21 rfl ?_
  refine sx_put (p1 := 25) (fs := [.ref 8, .ref 9, vI 0, vI 0]) (h1 := [.inr (11, [.ref 3, .ref 5, .null, .null, .null, .null, .null, .null, .null, .null, .null, .null, vI 0]), zc3, zc4, zc5, zc6, .inr (0, [.ref 8, .ref 9, vI 0, vI (-1)]), .inl (0, 16, .inl (fun _ => Int32.ofInt 0)), .inl (0, 16, .inl (fun _ => Int32.ofInt 0))]) dX0_init_22 rfl fl_X0_18 rfl (Nat.le_of_ble_eq_true rfl) (fun _ => rfl) (fun _ => rfl) rfl ?_
  exact sx_vret dX0_init_25 rfl ⟨rfl, rfl⟩
def zc7 : sx_C := .inr (0, [.ref 8, .ref 9, vI 0, vI (-1)])
def zc8 : sx_C := .inl (0, 16, .inl (fun _ => Int32.ofInt 0))
def zc9 : sx_C := .inl (0, 16, .inl (fun _ => Int32.ofInt 0))
set_option maxRecDepth 20000 in
theorem k_X5_init_10 {X : sx_X} : Ct X yX5_init cX5_init 1 none 1 3 18 [.ref 10] [.inr (11, [.ref 3, .ref 5, .ref 7, .null, .null, .null, .null, .null, .null, .null, .null, .null, vI 0]), zc3, zc4, zc5, zc6, zc7, zc8, zc9, .inr (5, [.null, .null, .null, vI 0, vI 0])] (sx_is none [.inr (11, [.ref 3, .ref 5, .ref 7, .null, .null, .null, .null, .null, .null, .null, .null, .null, vI 0]), zc3, zc4, zc5, zc6, zc7, zc8, zc9, .inr (5, [.ref 11, .ref 12, .ref 13, vI 0, vI (-1)]), .inl (0, 6, .inl (fun _ => Int32.ofInt 0)), .inl (0, 6, .inl (fun _ => Int32.ofInt 0)), .inl (0, 6, .inl (fun _ => Int32.ofInt 0))]) := by
  refine Ct.of true [some (.ref 10)] (plainFor_of_name (by decide)) (fun _ => rfl) (Nat.le_of_ble_eq_true rfl) (fun _ => rfl) (fun _ _ q => by rw [q.2]; rfl) ?_
  refine sx_aload_n (p1 := 1) dX5_init_0 rfl rfl ?_
  refine sx_obj (p1 := 4) dX5_init_1 rfl ml_X5_3 im_obj co_obj (Nat.le_of_ble_eq_true rfl) (Nat.le_of_ble_eq_true rfl) ?_
  refine sx_aload_n (p1 := 5) dX5_init_4 rfl rfl ?_
  refine sx_bipush (p1 := 7) dX5_init_5 rfl (by decide) ?_
  refine sx_newI (N := 6) (p1 := 9) (a1 := 11) (k1 := 1) (n1 := 6) (h1 := [.inr (11, [.ref 3, .ref 5, .ref 7, .null, .null, .null, .null, .null, .null, .null, .null, .null, vI 0]), zc3, zc4, zc5, zc6, zc7, zc8, zc9, .inr (5, [.null, .null, .null, vI 0, vI 0]), .inl (0, 6, .inl (fun _ => Int32.ofInt 0))]) dX5_init_7 rfl ac_int (Nat.le_of_ble_eq_true rfl) rfl rfl (Nat.le_of_ble_eq_true rfl) (Nat.le_of_ble_eq_true rfl) rfl rfl ?_
  refine sx_putF (p1 := 12) (fs := [.null, .null, .null, vI 0, vI 0]) (h1 := [.inr (11, [.ref 3, .ref 5, .ref 7, .null, .null, .null, .null, .null, .null, .null, .null, .null, vI 0]), zc3, zc4, zc5, zc6, zc7, zc8, zc9, .inr (5, [.ref 11, .null, .null, vI 0, vI 0]), .inl (0, 6, .inl (fun _ => Int32.ofInt 0))]) dX5_init_9 rfl fl_X5_9 rfl rfl (Nat.le_of_ble_eq_true rfl) (fun _ => rfl) (fun _ => rfl) rfl ?_
  refine sx_aload_n (p1 := 13) dX5_init_12 rfl rfl ?_
  refine sx_bipush (p1 := 15) dX5_init_13 rfl (by decide) ?_
  refine sx_newI (N := 6) (p1 := 17) (a1 := 12) (k1 := 2) (n1 := 12) (h1 := [.inr (11, [.ref 3, .ref 5, .ref 7, .null, .null, .null, .null, .null, .null, .null, .null, .null, vI 0]), zc3, zc4, zc5, zc6, zc7, zc8, zc9, .inr (5, [.ref 11, .null, .null, vI 0, vI 0]), .inl (0, 6, .inl (fun _ => Int32.ofInt 0)), .inl (0, 6, .inl (fun _ => Int32.ofInt 0))]) dX5_init_15 rfl ac_int (Nat.le_of_ble_eq_true rfl) rfl rfl (Nat.le_of_ble_eq_true rfl) (Nat.le_of_ble_eq_true rfl) rfl rfl ?_
  refine sx_putF (p1 := 20) (fs := [.ref 11, .null, .null, vI 0, vI 0]) (h1 := [.inr (11, [.ref 3, .ref 5, .ref 7, .null, .null, .null, .null, .null, .null, .null, .null, .null, vI 0]), zc3, zc4, zc5, zc6, zc7, zc8, zc9, .inr (5, [.ref 11, .ref 12, .null, vI 0, vI 0]), .inl (0, 6, .inl (fun _ => Int32.ofInt 0)), .inl (0, 6, .inl (fun _ => Int32.ofInt 0))]) dX5_init_17 rfl fl_X5_15 rfl rfl (Nat.le_of_ble_eq_true rfl) (fun _ => rfl) (fun _ => rfl) rfl ?_
  refine sx_aload_n (p1 := 21) dX5_init_20 rfl rfl ?_
  refine sx_bipush (p1 := 23) dX5_init_21 rfl (by decide) ?_
  refine sx_newI (N := 6) (p1 := 25) (a1 := 13) (k1 := 3) (n1 := 18) (h1 := [.inr (11, [.ref 3, .ref 5, .ref 7, .null, .null, .null, .null, .null, .null, .null, .null, .null, vI 0]), zc3, zc4, zc5, zc6, zc7, zc8, zc9, .inr (5, [.ref 11, .ref 12, .null, vI 0, vI 0]), .inl (0, 6, .inl (fun _ => Int32.ofInt 0)), .inl (0, 6, .inl (fun _ => Int32.ofInt 0)), .inl (0, 6, .inl (fun _ => Int32.ofInt 0))]) dX5_init_23 rfl ac_int (Nat.le_of_ble_eq_true rfl) rfl rfl (Nat.le_of_ble_eq_true rfl) (Nat.le_of_ble_eq_true rfl) rfl rfl ?_
  refine sx_putF (p1 := 28) (fs := [.ref 11, .ref 12, .null, vI 0, vI 0]) (h1 := [.inr (11, [.ref 3, .ref 5, .ref 7, .null, .null, .null, .null, .null, .null, .null, .null, .null, vI 0]), zc3, zc4, zc5, zc6, zc7, zc8, zc9, .inr (5, [.ref 11, .ref 12, .ref 13, vI 0, vI 0]), .inl (0, 6, .inl (fun _ => Int32.ofInt 0)), .inl (0, 6, .inl (fun _ => Int32.ofInt 0)), .inl (0, 6, .inl (fun _ => Int32.ofInt 0))]) dX5_init_25 rfl fl_X5_18 rfl rfl (Nat.le_of_ble_eq_true rfl) (fun _ => rfl) (fun _ => rfl) rfl ?_
  refine sx_aload_n (p1 := 29) dX5_init_28 rfl rfl ?_
  refine sx_iconst (p1 := 30) dX5_init_29 rfl ?_
  refine sx_put (p1 := 33) (fs := [.ref 11, .ref 12, .ref 13, vI 0, vI 0]) (h1 := [.inr (11, [.ref 3, .ref 5, .ref 7, .null, .null, .null, .null, .null, .null, .null, .null, .null, vI 0]), zc3, zc4, zc5, zc6, zc7, zc8, zc9, .inr (5, [.ref 11, .ref 12, .ref 13, vI 0, vI (-1)]), .inl (0, 6, .inl (fun _ => Int32.ofInt 0)), .inl (0, 6, .inl (fun _ => Int32.ofInt 0)), .inl (0, 6, .inl (fun _ => Int32.ofInt 0))]) dX5_init_30 rfl fl_X5_21 rfl (Nat.le_of_ble_eq_true rfl) (fun _ => rfl) (fun _ => rfl) rfl ?_
  exact sx_vret dX5_init_33 rfl ⟨rfl, rfl⟩
def zc10 : sx_C := .inr (5, [.ref 11, .ref 12, .ref 13, vI 0, vI (-1)])
def zc11 : sx_C := .inl (0, 6, .inl (fun _ => Int32.ofInt 0))
def zc12 : sx_C := .inl (0, 6, .inl (fun _ => Int32.ofInt 0))
def zc13 : sx_C := .inl (0, 6, .inl (fun _ => Int32.ofInt 0))
set_option maxRecDepth 20000 in
theorem k_X6_init_14 {X : sx_X} : Ct X yX6_init cX6_init 1 none 1 0 0 [.ref 14] [.inr (11, [.ref 3, .ref 5, .ref 7, .ref 10, .null, .null, .null, .null, .null, .null, .null, .null, vI 0]), zc3, zc4, zc5, zc6, zc7, zc8, zc9, zc10, zc11, zc12, zc13, .inr (6, [vI 0, vI 0, vI 0, vI 0, vI 0, vI 0])] (sx_is none [.inr (11, [.ref 3, .ref 5, .ref 7, .ref 10, .null, .null, .null, .null, .null, .null, .null, .null, vI 0]), zc3, zc4, zc5, zc6, zc7, zc8, zc9, zc10, zc11, zc12, zc13, .inr (6, [vI 1, vI 0, vI 16, vI 0, vI 1999, vI 1])]) := by
  refine Ct.of true [some (.ref 14)] (plainFor_of_name (by decide)) (fun _ => rfl) (Nat.le_of_ble_eq_true rfl) (fun _ => rfl) (fun _ _ q => by rw [q.2]; rfl) ?_
  refine sx_aload_n (p1 := 1) dX6_init_0 rfl rfl ?_
  refine sx_obj (p1 := 4) dX6_init_1 rfl ml_X6_3 im_obj co_obj (Nat.le_of_ble_eq_true rfl) (Nat.le_of_ble_eq_true rfl) ?_
  refine sx_aload_n (p1 := 5) dX6_init_4 rfl rfl ?_
  refine sx_iconst (p1 := 6) dX6_init_5 rfl ?_
  refine sx_put (p1 := 9) (fs := [vI 0, vI 0, vI 0, vI 0, vI 0, vI 0]) (h1 := [.inr (11, [.ref 3, .ref 5, .ref 7, .ref 10, .null, .null, .null, .null, .null, .null, .null, .null, vI 0]), zc3, zc4, zc5, zc6, zc7, zc8, zc9, zc10, zc11, zc12, zc13, .inr (6, [vI 1, vI 0, vI 0, vI 0, vI 0, vI 0])]) dX6_init_6 rfl fl_X6_9 rfl (Nat.le_of_ble_eq_true rfl) (fun _ => rfl) (fun _ => rfl) rfl ?_
  refine sx_aload_n (p1 := 10) dX6_init_9 rfl rfl ?_
  refine sx_iconst (p1 := 11) dX6_init_10 rfl ?_
  refine sx_put (p1 := 14) (fs := [vI 1, vI 0, vI 0, vI 0, vI 0, vI 0]) (h1 := [.inr (11, [.ref 3, .ref 5, .ref 7, .ref 10, .null, .null, .null, .null, .null, .null, .null, .null, vI 0]), zc3, zc4, zc5, zc6, zc7, zc8, zc9, zc10, zc11, zc12, zc13, .inr (6, [vI 1, vI 0, vI 0, vI 0, vI 0, vI 0])]) dX6_init_11 rfl fl_X6_15 rfl (Nat.le_of_ble_eq_true rfl) (fun _ => rfl) (fun _ => rfl) rfl ?_
  refine sx_aload_n (p1 := 15) dX6_init_14 rfl rfl ?_
  refine sx_bipush (p1 := 17) dX6_init_15 rfl (by decide) ?_
  refine sx_put (p1 := 20) (fs := [vI 1, vI 0, vI 0, vI 0, vI 0, vI 0]) (h1 := [.inr (11, [.ref 3, .ref 5, .ref 7, .ref 10, .null, .null, .null, .null, .null, .null, .null, .null, vI 0]), zc3, zc4, zc5, zc6, zc7, zc8, zc9, zc10, zc11, zc12, zc13, .inr (6, [vI 1, vI 0, vI 16, vI 0, vI 0, vI 0])]) dX6_init_17 rfl fl_X6_18 rfl (Nat.le_of_ble_eq_true rfl) (fun _ => rfl) (fun _ => rfl) rfl ?_
  refine sx_aload_n (p1 := 21) dX6_init_20 rfl rfl ?_
  refine sx_iconst (p1 := 22) dX6_init_21 rfl ?_
  refine sx_put (p1 := 25) (fs := [vI 1, vI 0, vI 16, vI 0, vI 0, vI 0]) (h1 := [.inr (11, [.ref 3, .ref 5, .ref 7, .ref 10, .null, .null, .null, .null, .null, .null, .null, .null, vI 0]), zc3, zc4, zc5, zc6, zc7, zc8, zc9, zc10, zc11, zc12, zc13, .inr (6, [vI 1, vI 0, vI 16, vI 0, vI 0, vI 0])]) dX6_init_22 rfl fl_X6_21 rfl (Nat.le_of_ble_eq_true rfl) (fun _ => rfl) (fun _ => rfl) rfl ?_
  refine sx_aload_n (p1 := 26) dX6_init_25 rfl rfl ?_
  refine sx_sipush (p1 := 29) dX6_init_26 rfl (by decide) ?_
  refine sx_put (p1 := 32) (fs := [vI 1, vI 0, vI 16, vI 0, vI 0, vI 0]) (h1 := [.inr (11, [.ref 3, .ref 5, .ref 7, .ref 10, .null, .null, .null, .null, .null, .null, .null, .null, vI 0]), zc3, zc4, zc5, zc6, zc7, zc8, zc9, zc10, zc11, zc12, zc13, .inr (6, [vI 1, vI 0, vI 16, vI 0, vI 1999, vI 0])]) dX6_init_29 rfl fl_X6_24 rfl (Nat.le_of_ble_eq_true rfl) (fun _ => rfl) (fun _ => rfl) rfl ?_
  refine sx_aload_n (p1 := 33) dX6_init_32 rfl rfl ?_
  refine sx_iconst (p1 := 34) dX6_init_33 rfl ?_
  refine sx_put (p1 := 37) (fs := [vI 1, vI 0, vI 16, vI 0, vI 1999, vI 0]) (h1 := [.inr (11, [.ref 3, .ref 5, .ref 7, .ref 10, .null, .null, .null, .null, .null, .null, .null, .null, vI 0]), zc3, zc4, zc5, zc6, zc7, zc8, zc9, zc10, zc11, zc12, zc13, .inr (6, [vI 1, vI 0, vI 16, vI 0, vI 1999, vI 1])]) dX6_init_34 rfl fl_X6_27 rfl (Nat.le_of_ble_eq_true rfl) (fun _ => rfl) (fun _ => rfl) rfl ?_
  exact sx_vret dX6_init_37 rfl ⟨rfl, rfl⟩
def zc14 : sx_C := .inr (6, [vI 1, vI 0, vI 16, vI 0, vI 1999, vI 1])
set_option maxRecDepth 20000 in
theorem k_X8_init_15 {X : sx_X} : Ct X yX8_init cX8_init 4 none 1 1 32 [.ref 15, .ref 7, .ref 10, .ref 14] [.inr (11, [.ref 3, .ref 5, .ref 7, .ref 10, .ref 14, .null, .null, .null, .null, .null, .null, .null, vI 0]), zc3, zc4, zc5, zc6, zc7, zc8, zc9, zc10, zc11, zc12, zc13, zc14, .inr (8, [.null, .null, .null, .null])] (sx_is none [.inr (11, [.ref 3, .ref 5, .ref 7, .ref 10, .ref 14, .null, .null, .null, .null, .null, .null, .null, vI 0]), zc3, zc4, zc5, zc6, zc7, zc8, zc9, zc10, zc11, zc12, zc13, zc14, .inr (8, [.ref 7, .ref 10, .ref 14, .ref 16]), .inl (0, 32, .inl (fun _ => Int32.ofInt 0))]) := by
  refine Ct.of true [some (.ref 15), some (.ref 7), some (.ref 10), some (.ref 14)] (plainFor_of_name (by decide)) (fun _ => rfl) (Nat.le_of_ble_eq_true rfl) (fun _ => rfl) (fun _ _ q => by rw [q.2]; rfl) ?_
  refine sx_aload_n (p1 := 1) dX8_init_0 rfl rfl ?_
  refine sx_obj (p1 := 4) dX8_init_1 rfl ml_X8_3 im_obj co_obj (Nat.le_of_ble_eq_true rfl) (Nat.le_of_ble_eq_true rfl) ?_
  refine sx_aload_n (p1 := 5) dX8_init_4 rfl rfl ?_
  refine sx_bipush (p1 := 7) dX8_init_5 rfl (by decide) ?_
  refine sx_newI (N := 32) (p1 := 9) (a1 := 16) (k1 := 1) (n1 := 32) (h1 := [.inr (11, [.ref 3, .ref 5, .ref 7, .ref 10, .ref 14, .null, .null, .null, .null, .null, .null, .null, vI 0]), zc3, zc4, zc5, zc6, zc7, zc8, zc9, zc10, zc11, zc12, zc13, zc14, .inr (8, [.null, .null, .null, .null]), .inl (0, 32, .inl (fun _ => Int32.ofInt 0))]) dX8_init_7 rfl ac_int (Nat.le_of_ble_eq_true rfl) rfl rfl (Nat.le_of_ble_eq_true rfl) (Nat.le_of_ble_eq_true rfl) rfl rfl ?_
  refine sx_putF (p1 := 12) (fs := [.null, .null, .null, .null]) (h1 := [.inr (11, [.ref 3, .ref 5, .ref 7, .ref 10, .ref 14, .null, .null, .null, .null, .null, .null, .null, vI 0]), zc3, zc4, zc5, zc6, zc7, zc8, zc9, zc10, zc11, zc12, zc13, zc14, .inr (8, [.null, .null, .null, .ref 16]), .inl (0, 32, .inl (fun _ => Int32.ofInt 0))]) dX8_init_9 rfl fl_X8_9 rfl rfl (Nat.le_of_ble_eq_true rfl) (fun _ => rfl) (fun _ => rfl) rfl ?_
  refine sx_aload_n (p1 := 13) dX8_init_12 rfl rfl ?_
  refine sx_aload_n (p1 := 14) dX8_init_13 rfl rfl ?_
  refine sx_putF (p1 := 17) (fs := [.null, .null, .null, .ref 16]) (h1 := [.inr (11, [.ref 3, .ref 5, .ref 7, .ref 10, .ref 14, .null, .null, .null, .null, .null, .null, .null, vI 0]), zc3, zc4, zc5, zc6, zc7, zc8, zc9, zc10, zc11, zc12, zc13, zc14, .inr (8, [.ref 7, .null, .null, .ref 16]), .inl (0, 32, .inl (fun _ => Int32.ofInt 0))]) dX8_init_14 rfl fl_X8_15 rfl rfl (Nat.le_of_ble_eq_true rfl) (fun _ => rfl) (fun _ => rfl) rfl ?_
  refine sx_aload_n (p1 := 18) dX8_init_17 rfl rfl ?_
  refine sx_aload_n (p1 := 19) dX8_init_18 rfl rfl ?_
  refine sx_putF (p1 := 22) (fs := [.ref 7, .null, .null, .ref 16]) (h1 := [.inr (11, [.ref 3, .ref 5, .ref 7, .ref 10, .ref 14, .null, .null, .null, .null, .null, .null, .null, vI 0]), zc3, zc4, zc5, zc6, zc7, zc8, zc9, zc10, zc11, zc12, zc13, zc14, .inr (8, [.ref 7, .ref 10, .null, .ref 16]), .inl (0, 32, .inl (fun _ => Int32.ofInt 0))]) dX8_init_19 rfl fl_X8_19 rfl rfl (Nat.le_of_ble_eq_true rfl) (fun _ => rfl) (fun _ => rfl) rfl ?_
  refine sx_aload_n (p1 := 23) dX8_init_22 rfl rfl ?_
  refine sx_aload_n (p1 := 24) dX8_init_23 rfl rfl ?_
  refine sx_putF (p1 := 27) (fs := [.ref 7, .ref 10, .null, .ref 16]) (h1 := [.inr (11, [.ref 3, .ref 5, .ref 7, .ref 10, .ref 14, .null, .null, .null, .null, .null, .null, .null, vI 0]), zc3, zc4, zc5, zc6, zc7, zc8, zc9, zc10, zc11, zc12, zc13, zc14, .inr (8, [.ref 7, .ref 10, .ref 14, .ref 16]), .inl (0, 32, .inl (fun _ => Int32.ofInt 0))]) dX8_init_24 rfl fl_X8_23 rfl rfl (Nat.le_of_ble_eq_true rfl) (fun _ => rfl) (fun _ => rfl) rfl ?_
  exact sx_vret dX8_init_27 rfl ⟨rfl, rfl⟩
def zc15 : sx_C := .inr (8, [.ref 7, .ref 10, .ref 14, .ref 16])
def zc16 : sx_C := .inl (0, 32, .inl (fun _ => Int32.ofInt 0))
set_option maxRecDepth 20000 in
theorem k_X3_init_17 {X : sx_X} : Ct X yX3_init cX3_init 4 none 1 4 96 [.ref 17, .ref 10, .ref 14, .ref 15] [.inr (11, [.ref 3, .ref 5, .ref 7, .ref 10, .ref 14, .ref 15, .null, .null, .null, .null, .null, .null, vI 0]), zc3, zc4, zc5, zc6, zc7, zc8, zc9, zc10, zc11, zc12, zc13, zc14, zc15, zc16, .inr (3, [.null, .null, .null, .null, .null, .null, .null, vJ 0])] (sx_is none [.inr (11, [.ref 3, .ref 5, .ref 7, .ref 10, .ref 14, .ref 15, .null, .null, .null, .null, .null, .null, vI 0]), zc3, zc4, zc5, zc6, zc7, zc8, zc9, zc10, zc11, zc12, zc13, zc14, zc15, zc16, .inr (3, [.ref 10, .ref 14, .ref 15, .ref 18, .ref 19, .ref 20, .ref 21, vJ 0]), .inl (1, 72, .inr (.inl (fun _ => Int64.ofInt 0))), .inl (1, 12, .inr (.inl (fun _ => Int64.ofInt 0))), .inl (0, 6, .inl (fun _ => Int32.ofInt 0)), .inl (0, 6, .inl (fun _ => Int32.ofInt 0))]) := by
  refine Ct.of true [some (.ref 17), some (.ref 10), some (.ref 14), some (.ref 15)] (plainFor_of_name (by decide)) (fun _ => rfl) (Nat.le_of_ble_eq_true rfl) (fun _ => rfl) (fun _ _ q => by rw [q.2]; rfl) ?_
  refine sx_aload_n (p1 := 1) dX3_init_0 rfl rfl ?_
  refine sx_obj (p1 := 4) dX3_init_1 rfl ml_X3_3 im_obj co_obj (Nat.le_of_ble_eq_true rfl) (Nat.le_of_ble_eq_true rfl) ?_
  refine sx_aload_n (p1 := 5) dX3_init_4 rfl rfl ?_
  refine sx_bipush (p1 := 7) dX3_init_5 rfl (by decide) ?_
  refine sx_newJ (N := 72) (p1 := 9) (a1 := 18) (k1 := 1) (n1 := 72) (h1 := [.inr (11, [.ref 3, .ref 5, .ref 7, .ref 10, .ref 14, .ref 15, .null, .null, .null, .null, .null, .null, vI 0]), zc3, zc4, zc5, zc6, zc7, zc8, zc9, zc10, zc11, zc12, zc13, zc14, zc15, zc16, .inr (3, [.null, .null, .null, .null, .null, .null, .null, vJ 0]), .inl (1, 72, .inr (.inl (fun _ => Int64.ofInt 0)))]) dX3_init_7 rfl ac_long (Nat.le_of_ble_eq_true rfl) rfl rfl (Nat.le_of_ble_eq_true rfl) (Nat.le_of_ble_eq_true rfl) rfl rfl ?_
  refine sx_putF (p1 := 12) (fs := [.null, .null, .null, .null, .null, .null, .null, vJ 0]) (h1 := [.inr (11, [.ref 3, .ref 5, .ref 7, .ref 10, .ref 14, .ref 15, .null, .null, .null, .null, .null, .null, vI 0]), zc3, zc4, zc5, zc6, zc7, zc8, zc9, zc10, zc11, zc12, zc13, zc14, zc15, zc16, .inr (3, [.null, .null, .null, .ref 18, .null, .null, .null, vJ 0]), .inl (1, 72, .inr (.inl (fun _ => Int64.ofInt 0)))]) dX3_init_9 rfl fl_X3_9 rfl rfl (Nat.le_of_ble_eq_true rfl) (fun _ => rfl) (fun _ => rfl) rfl ?_
  refine sx_aload_n (p1 := 13) dX3_init_12 rfl rfl ?_
  refine sx_bipush (p1 := 15) dX3_init_13 rfl (by decide) ?_
  refine sx_newJ (N := 12) (p1 := 17) (a1 := 19) (k1 := 2) (n1 := 84) (h1 := [.inr (11, [.ref 3, .ref 5, .ref 7, .ref 10, .ref 14, .ref 15, .null, .null, .null, .null, .null, .null, vI 0]), zc3, zc4, zc5, zc6, zc7, zc8, zc9, zc10, zc11, zc12, zc13, zc14, zc15, zc16, .inr (3, [.null, .null, .null, .ref 18, .null, .null, .null, vJ 0]), .inl (1, 72, .inr (.inl (fun _ => Int64.ofInt 0))), .inl (1, 12, .inr (.inl (fun _ => Int64.ofInt 0)))]) dX3_init_15 rfl ac_long (Nat.le_of_ble_eq_true rfl) rfl rfl (Nat.le_of_ble_eq_true rfl) (Nat.le_of_ble_eq_true rfl) rfl rfl ?_
  refine sx_putF (p1 := 20) (fs := [.null, .null, .null, .ref 18, .null, .null, .null, vJ 0]) (h1 := [.inr (11, [.ref 3, .ref 5, .ref 7, .ref 10, .ref 14, .ref 15, .null, .null, .null, .null, .null, .null, vI 0]), zc3, zc4, zc5, zc6, zc7, zc8, zc9, zc10, zc11, zc12, zc13, zc14, zc15, zc16, .inr (3, [.null, .null, .null, .ref 18, .ref 19, .null, .null, vJ 0]), .inl (1, 72, .inr (.inl (fun _ => Int64.ofInt 0))), .inl (1, 12, .inr (.inl (fun _ => Int64.ofInt 0)))]) dX3_init_17 rfl fl_X3_15 rfl rfl (Nat.le_of_ble_eq_true rfl) (fun _ => rfl) (fun _ => rfl) rfl ?_
  refine sx_aload_n (p1 := 21) dX3_init_20 rfl rfl ?_
  refine sx_bipush (p1 := 23) dX3_init_21 rfl (by decide) ?_
  refine sx_newI (N := 6) (p1 := 25) (a1 := 20) (k1 := 3) (n1 := 90) (h1 := [.inr (11, [.ref 3, .ref 5, .ref 7, .ref 10, .ref 14, .ref 15, .null, .null, .null, .null, .null, .null, vI 0]), zc3, zc4, zc5, zc6, zc7, zc8, zc9, zc10, zc11, zc12, zc13, zc14, zc15, zc16, .inr (3, [.null, .null, .null, .ref 18, .ref 19, .null, .null, vJ 0]), .inl (1, 72, .inr (.inl (fun _ => Int64.ofInt 0))), .inl (1, 12, .inr (.inl (fun _ => Int64.ofInt 0))), .inl (0, 6, .inl (fun _ => Int32.ofInt 0))]) dX3_init_23 rfl ac_int (Nat.le_of_ble_eq_true rfl) rfl rfl (Nat.le_of_ble_eq_true rfl) (Nat.le_of_ble_eq_true rfl) rfl rfl ?_
  refine sx_putF (p1 := 28) (fs := [.null, .null, .null, .ref 18, .ref 19, .null, .null, vJ 0]) (h1 := [.inr (11, [.ref 3, .ref 5, .ref 7, .ref 10, .ref 14, .ref 15, .null, .null, .null, .null, .null, .null, vI 0]), zc3, zc4, zc5, zc6, zc7, zc8, zc9, zc10, zc11, zc12, zc13, zc14, zc15, zc16, .inr (3, [.null, .null, .null, .ref 18, .ref 19, .ref 20, .null, vJ 0]), .inl (1, 72, .inr (.inl (fun _ => Int64.ofInt 0))), .inl (1, 12, .inr (.inl (fun _ => Int64.ofInt 0))), .inl (0, 6, .inl (fun _ => Int32.ofInt 0))]) dX3_init_25 rfl fl_X3_18 rfl rfl (Nat.le_of_ble_eq_true rfl) (fun _ => rfl) (fun _ => rfl) rfl ?_
  refine sx_aload_n (p1 := 29) dX3_init_28 rfl rfl ?_
  refine sx_bipush (p1 := 31) dX3_init_29 rfl (by decide) ?_
  refine sx_newI (N := 6) (p1 := 33) (a1 := 21) (k1 := 4) (n1 := 96) (h1 := [.inr (11, [.ref 3, .ref 5, .ref 7, .ref 10, .ref 14, .ref 15, .null, .null, .null, .null, .null, .null, vI 0]), zc3, zc4, zc5, zc6, zc7, zc8, zc9, zc10, zc11, zc12, zc13, zc14, zc15, zc16, .inr (3, [.null, .null, .null, .ref 18, .ref 19, .ref 20, .null, vJ 0]), .inl (1, 72, .inr (.inl (fun _ => Int64.ofInt 0))), .inl (1, 12, .inr (.inl (fun _ => Int64.ofInt 0))), .inl (0, 6, .inl (fun _ => Int32.ofInt 0)), .inl (0, 6, .inl (fun _ => Int32.ofInt 0))]) dX3_init_31 rfl ac_int (Nat.le_of_ble_eq_true rfl) rfl rfl (Nat.le_of_ble_eq_true rfl) (Nat.le_of_ble_eq_true rfl) rfl rfl ?_
  refine sx_putF (p1 := 36) (fs := [.null, .null, .null, .ref 18, .ref 19, .ref 20, .null, vJ 0]) (h1 := [.inr (11, [.ref 3, .ref 5, .ref 7, .ref 10, .ref 14, .ref 15, .null, .null, .null, .null, .null, .null, vI 0]), zc3, zc4, zc5, zc6, zc7, zc8, zc9, zc10, zc11, zc12, zc13, zc14, zc15, zc16, .inr (3, [.null, .null, .null, .ref 18, .ref 19, .ref 20, .ref 21, vJ 0]), .inl (1, 72, .inr (.inl (fun _ => Int64.ofInt 0))), .inl (1, 12, .inr (.inl (fun _ => Int64.ofInt 0))), .inl (0, 6, .inl (fun _ => Int32.ofInt 0)), .inl (0, 6, .inl (fun _ => Int32.ofInt 0))]) dX3_init_33 rfl fl_X3_22 rfl rfl (Nat.le_of_ble_eq_true rfl) (fun _ => rfl) (fun _ => rfl) rfl ?_
  refine sx_aload_n (p1 := 37) dX3_init_36 rfl rfl ?_
  refine sx_aload_n (p1 := 38) dX3_init_37 rfl rfl ?_
  refine sx_putF (p1 := 41) (fs := [.null, .null, .null, .ref 18, .ref 19, .ref 20, .ref 21, vJ 0]) (h1 := [.inr (11, [.ref 3, .ref 5, .ref 7, .ref 10, .ref 14, .ref 15, .null, .null, .null, .null, .null, .null, vI 0]), zc3, zc4, zc5, zc6, zc7, zc8, zc9, zc10, zc11, zc12, zc13, zc14, zc15, zc16, .inr (3, [.ref 10, .null, .null, .ref 18, .ref 19, .ref 20, .ref 21, vJ 0]), .inl (1, 72, .inr (.inl (fun _ => Int64.ofInt 0))), .inl (1, 12, .inr (.inl (fun _ => Int64.ofInt 0))), .inl (0, 6, .inl (fun _ => Int32.ofInt 0)), .inl (0, 6, .inl (fun _ => Int32.ofInt 0))]) dX3_init_38 rfl fl_X3_25 rfl rfl (Nat.le_of_ble_eq_true rfl) (fun _ => rfl) (fun _ => rfl) rfl ?_
  refine sx_aload_n (p1 := 42) dX3_init_41 rfl rfl ?_
  refine sx_aload_n (p1 := 43) dX3_init_42 rfl rfl ?_
  refine sx_putF (p1 := 46) (fs := [.ref 10, .null, .null, .ref 18, .ref 19, .ref 20, .ref 21, vJ 0]) (h1 := [.inr (11, [.ref 3, .ref 5, .ref 7, .ref 10, .ref 14, .ref 15, .null, .null, .null, .null, .null, .null, vI 0]), zc3, zc4, zc5, zc6, zc7, zc8, zc9, zc10, zc11, zc12, zc13, zc14, zc15, zc16, .inr (3, [.ref 10, .ref 14, .null, .ref 18, .ref 19, .ref 20, .ref 21, vJ 0]), .inl (1, 72, .inr (.inl (fun _ => Int64.ofInt 0))), .inl (1, 12, .inr (.inl (fun _ => Int64.ofInt 0))), .inl (0, 6, .inl (fun _ => Int32.ofInt 0)), .inl (0, 6, .inl (fun _ => Int32.ofInt 0))]) dX3_init_43 rfl fl_X3_29 rfl rfl (Nat.le_of_ble_eq_true rfl) (fun _ => rfl) (fun _ => rfl) rfl ?_
  refine sx_aload_n (p1 := 47) dX3_init_46 rfl rfl ?_
  refine sx_aload_n (p1 := 48) dX3_init_47 rfl rfl ?_
  refine sx_putF (p1 := 51) (fs := [.ref 10, .ref 14, .null, .ref 18, .ref 19, .ref 20, .ref 21, vJ 0]) (h1 := [.inr (11, [.ref 3, .ref 5, .ref 7, .ref 10, .ref 14, .ref 15, .null, .null, .null, .null, .null, .null, vI 0]), zc3, zc4, zc5, zc6, zc7, zc8, zc9, zc10, zc11, zc12, zc13, zc14, zc15, zc16, .inr (3, [.ref 10, .ref 14, .ref 15, .ref 18, .ref 19, .ref 20, .ref 21, vJ 0]), .inl (1, 72, .inr (.inl (fun _ => Int64.ofInt 0))), .inl (1, 12, .inr (.inl (fun _ => Int64.ofInt 0))), .inl (0, 6, .inl (fun _ => Int32.ofInt 0)), .inl (0, 6, .inl (fun _ => Int32.ofInt 0))]) dX3_init_48 rfl fl_X3_33 rfl rfl (Nat.le_of_ble_eq_true rfl) (fun _ => rfl) (fun _ => rfl) rfl ?_
  exact sx_vret dX3_init_51 rfl ⟨rfl, rfl⟩
def zc17 : sx_C := .inr (3, [.ref 10, .ref 14, .ref 15, .ref 18, .ref 19, .ref 20, .ref 21, vJ 0])
def zc18 : sx_C := .inl (1, 72, .inr (.inl (fun _ => Int64.ofInt 0)))
def zc19 : sx_C := .inl (1, 12, .inr (.inl (fun _ => Int64.ofInt 0)))
def zc20 : sx_C := .inl (0, 6, .inl (fun _ => Int32.ofInt 0))
def zc21 : sx_C := .inl (0, 6, .inl (fun _ => Int32.ofInt 0))
set_option maxRecDepth 20000 in
theorem k_X1_init_22 {X : sx_X} : Ct X yX1_init cX1_init 4 none 1 1 12 [.ref 22, .ref 10, .ref 14, .ref 15] [.inr (11, [.ref 3, .ref 5, .ref 7, .ref 10, .ref 14, .ref 15, .ref 17, .null, .null, .null, .null, .null, vI 0]), zc3, zc4, zc5, zc6, zc7, zc8, zc9, zc10, zc11, zc12, zc13, zc14, zc15, zc16, zc17, zc18, zc19, zc20, zc21, .inr (1, [.null, .null, .null, .null])] (sx_is none [.inr (11, [.ref 3, .ref 5, .ref 7, .ref 10, .ref 14, .ref 15, .ref 17, .null, .null, .null, .null, .null, vI 0]), zc3, zc4, zc5, zc6, zc7, zc8, zc9, zc10, zc11, zc12, zc13, zc14, zc15, zc16, zc17, zc18, zc19, zc20, zc21, .inr (1, [.ref 10, .ref 14, .ref 15, .ref 23]), .inl (1, 12, .inr (.inl (fun _ => Int64.ofInt 0)))]) := by
  refine Ct.of true [some (.ref 22), some (.ref 10), some (.ref 14), some (.ref 15)] (plainFor_of_name (by decide)) (fun _ => rfl) (Nat.le_of_ble_eq_true rfl) (fun _ => rfl) (fun _ _ q => by rw [q.2]; rfl) ?_
  refine sx_aload_n (p1 := 1) dX1_init_0 rfl rfl ?_
  refine sx_obj (p1 := 4) dX1_init_1 rfl ml_X1_3 im_obj co_obj (Nat.le_of_ble_eq_true rfl) (Nat.le_of_ble_eq_true rfl) ?_
  refine sx_aload_n (p1 := 5) dX1_init_4 rfl rfl ?_
  refine sx_bipush (p1 := 7) dX1_init_5 rfl (by decide) ?_
  refine sx_newJ (N := 12) (p1 := 9) (a1 := 23) (k1 := 1) (n1 := 12) (h1 := [.inr (11, [.ref 3, .ref 5, .ref 7, .ref 10, .ref 14, .ref 15, .ref 17, .null, .null, .null, .null, .null, vI 0]), zc3, zc4, zc5, zc6, zc7, zc8, zc9, zc10, zc11, zc12, zc13, zc14, zc15, zc16, zc17, zc18, zc19, zc20, zc21, .inr (1, [.null, .null, .null, .null]), .inl (1, 12, .inr (.inl (fun _ => Int64.ofInt 0)))]) dX1_init_7 rfl ac_long (Nat.le_of_ble_eq_true rfl) rfl rfl (Nat.le_of_ble_eq_true rfl) (Nat.le_of_ble_eq_true rfl) rfl rfl ?_
  refine sx_putF (p1 := 12) (fs := [.null, .null, .null, .null]) (h1 := [.inr (11, [.ref 3, .ref 5, .ref 7, .ref 10, .ref 14, .ref 15, .ref 17, .null, .null, .null, .null, .null, vI 0]), zc3, zc4, zc5, zc6, zc7, zc8, zc9, zc10, zc11, zc12, zc13, zc14, zc15, zc16, zc17, zc18, zc19, zc20, zc21, .inr (1, [.null, .null, .null, .ref 23]), .inl (1, 12, .inr (.inl (fun _ => Int64.ofInt 0)))]) dX1_init_9 rfl fl_X1_9 rfl rfl (Nat.le_of_ble_eq_true rfl) (fun _ => rfl) (fun _ => rfl) rfl ?_
  refine sx_aload_n (p1 := 13) dX1_init_12 rfl rfl ?_
  refine sx_aload_n (p1 := 14) dX1_init_13 rfl rfl ?_
  refine sx_putF (p1 := 17) (fs := [.null, .null, .null, .ref 23]) (h1 := [.inr (11, [.ref 3, .ref 5, .ref 7, .ref 10, .ref 14, .ref 15, .ref 17, .null, .null, .null, .null, .null, vI 0]), zc3, zc4, zc5, zc6, zc7, zc8, zc9, zc10, zc11, zc12, zc13, zc14, zc15, zc16, zc17, zc18, zc19, zc20, zc21, .inr (1, [.ref 10, .null, .null, .ref 23]), .inl (1, 12, .inr (.inl (fun _ => Int64.ofInt 0)))]) dX1_init_14 rfl fl_X1_15 rfl rfl (Nat.le_of_ble_eq_true rfl) (fun _ => rfl) (fun _ => rfl) rfl ?_
  refine sx_aload_n (p1 := 18) dX1_init_17 rfl rfl ?_
  refine sx_aload_n (p1 := 19) dX1_init_18 rfl rfl ?_
  refine sx_putF (p1 := 22) (fs := [.ref 10, .null, .null, .ref 23]) (h1 := [.inr (11, [.ref 3, .ref 5, .ref 7, .ref 10, .ref 14, .ref 15, .ref 17, .null, .null, .null, .null, .null, vI 0]), zc3, zc4, zc5, zc6, zc7, zc8, zc9, zc10, zc11, zc12, zc13, zc14, zc15, zc16, zc17, zc18, zc19, zc20, zc21, .inr (1, [.ref 10, .ref 14, .null, .ref 23]), .inl (1, 12, .inr (.inl (fun _ => Int64.ofInt 0)))]) dX1_init_19 rfl fl_X1_19 rfl rfl (Nat.le_of_ble_eq_true rfl) (fun _ => rfl) (fun _ => rfl) rfl ?_
  refine sx_aload_n (p1 := 23) dX1_init_22 rfl rfl ?_
  refine sx_aload_n (p1 := 24) dX1_init_23 rfl rfl ?_
  refine sx_putF (p1 := 27) (fs := [.ref 10, .ref 14, .null, .ref 23]) (h1 := [.inr (11, [.ref 3, .ref 5, .ref 7, .ref 10, .ref 14, .ref 15, .ref 17, .null, .null, .null, .null, .null, vI 0]), zc3, zc4, zc5, zc6, zc7, zc8, zc9, zc10, zc11, zc12, zc13, zc14, zc15, zc16, zc17, zc18, zc19, zc20, zc21, .inr (1, [.ref 10, .ref 14, .ref 15, .ref 23]), .inl (1, 12, .inr (.inl (fun _ => Int64.ofInt 0)))]) dX1_init_24 rfl fl_X1_23 rfl rfl (Nat.le_of_ble_eq_true rfl) (fun _ => rfl) (fun _ => rfl) rfl ?_
  exact sx_vret dX1_init_27 rfl ⟨rfl, rfl⟩
def zc22 : sx_C := .inr (1, [.ref 10, .ref 14, .ref 15, .ref 23])
def zc23 : sx_C := .inl (1, 12, .inr (.inl (fun _ => Int64.ofInt 0)))
set_option maxRecDepth 20000 in
theorem k_X4_init_24 {X : sx_X} : Ct X yX4_init cX4_init 4 none 1 0 0 [.ref 24, .ref 10, .ref 14, .ref 15] [.inr (11, [.ref 3, .ref 5, .ref 7, .ref 10, .ref 14, .ref 15, .ref 17, .ref 22, .null, .null, .null, .null, vI 0]), zc3, zc4, zc5, zc6, zc7, zc8, zc9, zc10, zc11, zc12, zc13, zc14, zc15, zc16, zc17, zc18, zc19, zc20, zc21, zc22, zc23, .inr (4, [.null, .null, .null])] (sx_is none [.inr (11, [.ref 3, .ref 5, .ref 7, .ref 10, .ref 14, .ref 15, .ref 17, .ref 22, .null, .null, .null, .null, vI 0]), zc3, zc4, zc5, zc6, zc7, zc8, zc9, zc10, zc11, zc12, zc13, zc14, zc15, zc16, zc17, zc18, zc19, zc20, zc21, zc22, zc23, .inr (4, [.ref 10, .ref 14, .ref 15])]) := by
  refine Ct.of true [some (.ref 24), some (.ref 10), some (.ref 14), some (.ref 15)] (plainFor_of_name (by decide)) (fun _ => rfl) (Nat.le_of_ble_eq_true rfl) (fun _ => rfl) (fun _ _ q => by rw [q.2]; rfl) ?_
  refine sx_aload_n (p1 := 1) dX4_init_0 rfl rfl ?_
  refine sx_obj (p1 := 4) dX4_init_1 rfl ml_X4_3 im_obj co_obj (Nat.le_of_ble_eq_true rfl) (Nat.le_of_ble_eq_true rfl) ?_
  refine sx_aload_n (p1 := 5) dX4_init_4 rfl rfl ?_
  refine sx_aload_n (p1 := 6) dX4_init_5 rfl rfl ?_
  refine sx_putF (p1 := 9) (fs := [.null, .null, .null]) (h1 := [.inr (11, [.ref 3, .ref 5, .ref 7, .ref 10, .ref 14, .ref 15, .ref 17, .ref 22, .null, .null, .null, .null, vI 0]), zc3, zc4, zc5, zc6, zc7, zc8, zc9, zc10, zc11, zc12, zc13, zc14, zc15, zc16, zc17, zc18, zc19, zc20, zc21, zc22, zc23, .inr (4, [.ref 10, .null, .null])]) dX4_init_6 rfl fl_X4_9 rfl rfl (Nat.le_of_ble_eq_true rfl) (fun _ => rfl) (fun _ => rfl) rfl ?_
  refine sx_aload_n (p1 := 10) dX4_init_9 rfl rfl ?_
  refine sx_aload_n (p1 := 11) dX4_init_10 rfl rfl ?_
  refine sx_putF (p1 := 14) (fs := [.ref 10, .null, .null]) (h1 := [.inr (11, [.ref 3, .ref 5, .ref 7, .ref 10, .ref 14, .ref 15, .ref 17, .ref 22, .null, .null, .null, .null, vI 0]), zc3, zc4, zc5, zc6, zc7, zc8, zc9, zc10, zc11, zc12, zc13, zc14, zc15, zc16, zc17, zc18, zc19, zc20, zc21, zc22, zc23, .inr (4, [.ref 10, .ref 14, .null])]) dX4_init_11 rfl fl_X4_15 rfl rfl (Nat.le_of_ble_eq_true rfl) (fun _ => rfl) (fun _ => rfl) rfl ?_
  refine sx_aload_n (p1 := 15) dX4_init_14 rfl rfl ?_
  refine sx_aload_n (p1 := 16) dX4_init_15 rfl rfl ?_
  refine sx_putF (p1 := 19) (fs := [.ref 10, .ref 14, .null]) (h1 := [.inr (11, [.ref 3, .ref 5, .ref 7, .ref 10, .ref 14, .ref 15, .ref 17, .ref 22, .null, .null, .null, .null, vI 0]), zc3, zc4, zc5, zc6, zc7, zc8, zc9, zc10, zc11, zc12, zc13, zc14, zc15, zc16, zc17, zc18, zc19, zc20, zc21, zc22, zc23, .inr (4, [.ref 10, .ref 14, .ref 15])]) dX4_init_16 rfl fl_X4_19 rfl rfl (Nat.le_of_ble_eq_true rfl) (fun _ => rfl) (fun _ => rfl) rfl ?_
  exact sx_vret dX4_init_19 rfl ⟨rfl, rfl⟩
def zc24 : sx_C := .inr (4, [.ref 10, .ref 14, .ref 15])
set_option maxRecDepth 20000 in
theorem k_X2_init_25 {X : sx_X} : Ct X yX2_init cX2_init 5 none 1 0 0 [.ref 25, .ref 7, .ref 10, .ref 14, .ref 15] [.inr (11, [.ref 3, .ref 5, .ref 7, .ref 10, .ref 14, .ref 15, .ref 17, .ref 22, .ref 24, .null, .null, .null, vI 0]), zc3, zc4, zc5, zc6, zc7, zc8, zc9, zc10, zc11, zc12, zc13, zc14, zc15, zc16, zc17, zc18, zc19, zc20, zc21, zc22, zc23, zc24, .inr (2, [.null, .null, .null, .null, vI 0, vI 0])] (sx_is none [.inr (11, [.ref 3, .ref 5, .ref 7, .ref 10, .ref 14, .ref 15, .ref 17, .ref 22, .ref 24, .null, .null, .null, vI 0]), zc3, zc4, zc5, zc6, zc7, zc8, zc9, zc10, zc11, zc12, zc13, zc14, zc15, zc16, zc17, zc18, zc19, zc20, zc21, zc22, zc23, zc24, .inr (2, [.ref 7, .ref 10, .ref 14, .ref 15, vI 0, vI 0])]) := by
  refine Ct.of true [some (.ref 25), some (.ref 7), some (.ref 10), some (.ref 14), some (.ref 15)] (plainFor_of_name (by decide)) (fun _ => rfl) (Nat.le_of_ble_eq_true rfl) (fun _ => rfl) (fun _ _ q => by rw [q.2]; rfl) ?_
  refine sx_aload_n (p1 := 1) dX2_init_0 rfl rfl ?_
  refine sx_obj (p1 := 4) dX2_init_1 rfl ml_X2_3 im_obj co_obj (Nat.le_of_ble_eq_true rfl) (Nat.le_of_ble_eq_true rfl) ?_
  refine sx_aload_n (p1 := 5) dX2_init_4 rfl rfl ?_
  refine sx_aload_n (p1 := 6) dX2_init_5 rfl rfl ?_
  refine sx_putF (p1 := 9) (fs := [.null, .null, .null, .null, vI 0, vI 0]) (h1 := [.inr (11, [.ref 3, .ref 5, .ref 7, .ref 10, .ref 14, .ref 15, .ref 17, .ref 22, .ref 24, .null, .null, .null, vI 0]), zc3, zc4, zc5, zc6, zc7, zc8, zc9, zc10, zc11, zc12, zc13, zc14, zc15, zc16, zc17, zc18, zc19, zc20, zc21, zc22, zc23, zc24, .inr (2, [.ref 7, .null, .null, .null, vI 0, vI 0])]) dX2_init_6 rfl fl_X2_9 rfl rfl (Nat.le_of_ble_eq_true rfl) (fun _ => rfl) (fun _ => rfl) rfl ?_
  refine sx_aload_n (p1 := 10) dX2_init_9 rfl rfl ?_
  refine sx_aload_n (p1 := 11) dX2_init_10 rfl rfl ?_
  refine sx_putF (p1 := 14) (fs := [.ref 7, .null, .null, .null, vI 0, vI 0]) (h1 := [.inr (11, [.ref 3, .ref 5, .ref 7, .ref 10, .ref 14, .ref 15, .ref 17, .ref 22, .ref 24, .null, .null, .null, vI 0]), zc3, zc4, zc5, zc6, zc7, zc8, zc9, zc10, zc11, zc12, zc13, zc14, zc15, zc16, zc17, zc18, zc19, zc20, zc21, zc22, zc23, zc24, .inr (2, [.ref 7, .ref 10, .null, .null, vI 0, vI 0])]) dX2_init_11 rfl fl_X2_15 rfl rfl (Nat.le_of_ble_eq_true rfl) (fun _ => rfl) (fun _ => rfl) rfl ?_
  refine sx_aload_n (p1 := 15) dX2_init_14 rfl rfl ?_
  refine sx_aload_n (p1 := 16) dX2_init_15 rfl rfl ?_
  refine sx_putF (p1 := 19) (fs := [.ref 7, .ref 10, .null, .null, vI 0, vI 0]) (h1 := [.inr (11, [.ref 3, .ref 5, .ref 7, .ref 10, .ref 14, .ref 15, .ref 17, .ref 22, .ref 24, .null, .null, .null, vI 0]), zc3, zc4, zc5, zc6, zc7, zc8, zc9, zc10, zc11, zc12, zc13, zc14, zc15, zc16, zc17, zc18, zc19, zc20, zc21, zc22, zc23, zc24, .inr (2, [.ref 7, .ref 10, .ref 14, .null, vI 0, vI 0])]) dX2_init_16 rfl fl_X2_19 rfl rfl (Nat.le_of_ble_eq_true rfl) (fun _ => rfl) (fun _ => rfl) rfl ?_
  refine sx_aload_n (p1 := 20) dX2_init_19 rfl rfl ?_
  refine sx_aload (p1 := 22) dX2_init_20 rfl rfl ?_
  refine sx_putF (p1 := 25) (fs := [.ref 7, .ref 10, .ref 14, .null, vI 0, vI 0]) (h1 := [.inr (11, [.ref 3, .ref 5, .ref 7, .ref 10, .ref 14, .ref 15, .ref 17, .ref 22, .ref 24, .null, .null, .null, vI 0]), zc3, zc4, zc5, zc6, zc7, zc8, zc9, zc10, zc11, zc12, zc13, zc14, zc15, zc16, zc17, zc18, zc19, zc20, zc21, zc22, zc23, zc24, .inr (2, [.ref 7, .ref 10, .ref 14, .ref 15, vI 0, vI 0])]) dX2_init_22 rfl fl_X2_23 rfl rfl (Nat.le_of_ble_eq_true rfl) (fun _ => rfl) (fun _ => rfl) rfl ?_
  exact sx_vret dX2_init_25 rfl ⟨rfl, rfl⟩
def zc25 : sx_C := .inr (2, [.ref 7, .ref 10, .ref 14, .ref 15, vI 0, vI 0])
set_option maxRecDepth 20000 in
theorem k_X9_init_26 {X : sx_X} : Ct X yX9_init cX9_init 1 none 1 3 24 [.ref 26] [.inr (11, [.ref 3, .ref 5, .ref 7, .ref 10, .ref 14, .ref 15, .ref 17, .ref 22, .ref 24, .ref 25, .null, .null, vI 0]), zc3, zc4, zc5, zc6, zc7, zc8, zc9, zc10, zc11, zc12, zc13, zc14, zc15, zc16, zc17, zc18, zc19, zc20, zc21, zc22, zc23, zc24, zc25, .inr (9, [.null, .null, .null, vI 0])] (sx_is none [.inr (11, [.ref 3, .ref 5, .ref 7, .ref 10, .ref 14, .ref 15, .ref 17, .ref 22, .ref 24, .ref 25, .null, .null, vI 0]), zc3, zc4, zc5, zc6, zc7, zc8, zc9, zc10, zc11, zc12, zc13, zc14, zc15, zc16, zc17, zc18, zc19, zc20, zc21, zc22, zc23, zc24, zc25, .inr (9, [.ref 27, .ref 28, .ref 29, vI 0]), .inl (0, 8, .inl (fun _ => Int32.ofInt 0)), .inl (0, 8, .inl (fun _ => Int32.ofInt 0)), .inl (0, 8, .inl (fun _ => Int32.ofInt 0))]) := by
  refine Ct.of true [some (.ref 26)] (plainFor_of_name (by decide)) (fun _ => rfl) (Nat.le_of_ble_eq_true rfl) (fun _ => rfl) (fun _ _ q => by rw [q.2]; rfl) ?_
  refine sx_aload_n (p1 := 1) dX9_init_0 rfl rfl ?_
  refine sx_obj (p1 := 4) dX9_init_1 rfl ml_X9_3 im_obj co_obj (Nat.le_of_ble_eq_true rfl) (Nat.le_of_ble_eq_true rfl) ?_
  refine sx_aload_n (p1 := 5) dX9_init_4 rfl rfl ?_
  refine sx_bipush (p1 := 7) dX9_init_5 rfl (by decide) ?_
  refine sx_newI (N := 8) (p1 := 9) (a1 := 27) (k1 := 1) (n1 := 8) (h1 := [.inr (11, [.ref 3, .ref 5, .ref 7, .ref 10, .ref 14, .ref 15, .ref 17, .ref 22, .ref 24, .ref 25, .null, .null, vI 0]), zc3, zc4, zc5, zc6, zc7, zc8, zc9, zc10, zc11, zc12, zc13, zc14, zc15, zc16, zc17, zc18, zc19, zc20, zc21, zc22, zc23, zc24, zc25, .inr (9, [.null, .null, .null, vI 0]), .inl (0, 8, .inl (fun _ => Int32.ofInt 0))]) dX9_init_7 rfl ac_int (Nat.le_of_ble_eq_true rfl) rfl rfl (Nat.le_of_ble_eq_true rfl) (Nat.le_of_ble_eq_true rfl) rfl rfl ?_
  refine sx_putF (p1 := 12) (fs := [.null, .null, .null, vI 0]) (h1 := [.inr (11, [.ref 3, .ref 5, .ref 7, .ref 10, .ref 14, .ref 15, .ref 17, .ref 22, .ref 24, .ref 25, .null, .null, vI 0]), zc3, zc4, zc5, zc6, zc7, zc8, zc9, zc10, zc11, zc12, zc13, zc14, zc15, zc16, zc17, zc18, zc19, zc20, zc21, zc22, zc23, zc24, zc25, .inr (9, [.ref 27, .null, .null, vI 0]), .inl (0, 8, .inl (fun _ => Int32.ofInt 0))]) dX9_init_9 rfl fl_X9_9 rfl rfl (Nat.le_of_ble_eq_true rfl) (fun _ => rfl) (fun _ => rfl) rfl ?_
  refine sx_aload_n (p1 := 13) dX9_init_12 rfl rfl ?_
  refine sx_bipush (p1 := 15) dX9_init_13 rfl (by decide) ?_
  refine sx_newI (N := 8) (p1 := 17) (a1 := 28) (k1 := 2) (n1 := 16) (h1 := [.inr (11, [.ref 3, .ref 5, .ref 7, .ref 10, .ref 14, .ref 15, .ref 17, .ref 22, .ref 24, .ref 25, .null, .null, vI 0]), zc3, zc4, zc5, zc6, zc7, zc8, zc9, zc10, zc11, zc12, zc13, zc14, zc15, zc16, zc17, zc18, zc19, zc20, zc21, zc22, zc23, zc24, zc25, .inr (9, [.ref 27, .null, .null, vI 0]), .inl (0, 8, .inl (fun _ => Int32.ofInt 0)), .inl (0, 8, .inl (fun _ => Int32.ofInt 0))]) dX9_init_15 rfl ac_int (Nat.le_of_ble_eq_true rfl) rfl rfl (Nat.le_of_ble_eq_true rfl) (Nat.le_of_ble_eq_true rfl) rfl rfl ?_
  refine sx_putF (p1 := 20) (fs := [.ref 27, .null, .null, vI 0]) (h1 := [.inr (11, [.ref 3, .ref 5, .ref 7, .ref 10, .ref 14, .ref 15, .ref 17, .ref 22, .ref 24, .ref 25, .null, .null, vI 0]), zc3, zc4, zc5, zc6, zc7, zc8, zc9, zc10, zc11, zc12, zc13, zc14, zc15, zc16, zc17, zc18, zc19, zc20, zc21, zc22, zc23, zc24, zc25, .inr (9, [.ref 27, .ref 28, .null, vI 0]), .inl (0, 8, .inl (fun _ => Int32.ofInt 0)), .inl (0, 8, .inl (fun _ => Int32.ofInt 0))]) dX9_init_17 rfl fl_X9_15 rfl rfl (Nat.le_of_ble_eq_true rfl) (fun _ => rfl) (fun _ => rfl) rfl ?_
  refine sx_aload_n (p1 := 21) dX9_init_20 rfl rfl ?_
  refine sx_bipush (p1 := 23) dX9_init_21 rfl (by decide) ?_
  refine sx_newI (N := 8) (p1 := 25) (a1 := 29) (k1 := 3) (n1 := 24) (h1 := [.inr (11, [.ref 3, .ref 5, .ref 7, .ref 10, .ref 14, .ref 15, .ref 17, .ref 22, .ref 24, .ref 25, .null, .null, vI 0]), zc3, zc4, zc5, zc6, zc7, zc8, zc9, zc10, zc11, zc12, zc13, zc14, zc15, zc16, zc17, zc18, zc19, zc20, zc21, zc22, zc23, zc24, zc25, .inr (9, [.ref 27, .ref 28, .null, vI 0]), .inl (0, 8, .inl (fun _ => Int32.ofInt 0)), .inl (0, 8, .inl (fun _ => Int32.ofInt 0)), .inl (0, 8, .inl (fun _ => Int32.ofInt 0))]) dX9_init_23 rfl ac_int (Nat.le_of_ble_eq_true rfl) rfl rfl (Nat.le_of_ble_eq_true rfl) (Nat.le_of_ble_eq_true rfl) rfl rfl ?_
  refine sx_putF (p1 := 28) (fs := [.ref 27, .ref 28, .null, vI 0]) (h1 := [.inr (11, [.ref 3, .ref 5, .ref 7, .ref 10, .ref 14, .ref 15, .ref 17, .ref 22, .ref 24, .ref 25, .null, .null, vI 0]), zc3, zc4, zc5, zc6, zc7, zc8, zc9, zc10, zc11, zc12, zc13, zc14, zc15, zc16, zc17, zc18, zc19, zc20, zc21, zc22, zc23, zc24, zc25, .inr (9, [.ref 27, .ref 28, .ref 29, vI 0]), .inl (0, 8, .inl (fun _ => Int32.ofInt 0)), .inl (0, 8, .inl (fun _ => Int32.ofInt 0)), .inl (0, 8, .inl (fun _ => Int32.ofInt 0))]) dX9_init_25 rfl fl_X9_18 rfl rfl (Nat.le_of_ble_eq_true rfl) (fun _ => rfl) (fun _ => rfl) rfl ?_
  exact sx_vret dX9_init_28 rfl ⟨rfl, rfl⟩
def zc26 : sx_C := .inr (9, [.ref 27, .ref 28, .ref 29, vI 0])
def zc27 : sx_C := .inl (0, 8, .inl (fun _ => Int32.ofInt 0))
def zc28 : sx_C := .inl (0, 8, .inl (fun _ => Int32.ofInt 0))
def zc29 : sx_C := .inl (0, 8, .inl (fun _ => Int32.ofInt 0))
set_option maxRecDepth 20000 in
theorem k_X7_init_31 {X : sx_X} : Ct X yX7_init cX7_init 1 none 1 1 60 [.ref 31] [.inr (11, [.ref 3, .ref 5, .ref 7, .ref 10, .ref 14, .ref 15, .ref 17, .ref 22, .ref 24, .ref 25, .ref 26, .ref 30, vI 0]), zc3, zc4, zc5, zc6, zc7, zc8, zc9, zc10, zc11, zc12, zc13, zc14, zc15, zc16, zc17, zc18, zc19, zc20, zc21, zc22, zc23, zc24, zc25, zc26, zc27, zc28, zc29, .inl (4, 4, .inr (.inr (.inr (.inr (fun _ => none))))), .inr (7, [.null, vI 0, vI 0])] (sx_is none [.inr (11, [.ref 3, .ref 5, .ref 7, .ref 10, .ref 14, .ref 15, .ref 17, .ref 22, .ref 24, .ref 25, .ref 26, .ref 30, vI 0]), zc3, zc4, zc5, zc6, zc7, zc8, zc9, zc10, zc11, zc12, zc13, zc14, zc15, zc16, zc17, zc18, zc19, zc20, zc21, zc22, zc23, zc24, zc25, zc26, zc27, zc28, zc29, .inl (4, 4, .inr (.inr (.inr (.inr (fun _ => none))))), .inr (7, [.ref 32, vI (-1), vI 0]), .inl (0, 60, .inl (fun _ => Int32.ofInt 0))]) := by
  refine Ct.of true [some (.ref 31)] (plainFor_of_name (by decide)) (fun _ => rfl) (Nat.le_of_ble_eq_true rfl) (fun _ => rfl) (fun _ _ q => by rw [q.2]; rfl) ?_
  refine sx_aload_n (p1 := 1) dX7_init_0 rfl rfl ?_
  refine sx_obj (p1 := 4) dX7_init_1 rfl ml_X7_3 im_obj co_obj (Nat.le_of_ble_eq_true rfl) (Nat.le_of_ble_eq_true rfl) ?_
  refine sx_aload_n (p1 := 5) dX7_init_4 rfl rfl ?_
  refine sx_bipush (p1 := 7) dX7_init_5 rfl (by decide) ?_
  refine sx_newI (N := 60) (p1 := 9) (a1 := 32) (k1 := 1) (n1 := 60) (h1 := [.inr (11, [.ref 3, .ref 5, .ref 7, .ref 10, .ref 14, .ref 15, .ref 17, .ref 22, .ref 24, .ref 25, .ref 26, .ref 30, vI 0]), zc3, zc4, zc5, zc6, zc7, zc8, zc9, zc10, zc11, zc12, zc13, zc14, zc15, zc16, zc17, zc18, zc19, zc20, zc21, zc22, zc23, zc24, zc25, zc26, zc27, zc28, zc29, .inl (4, 4, .inr (.inr (.inr (.inr (fun _ => none))))), .inr (7, [.null, vI 0, vI 0]), .inl (0, 60, .inl (fun _ => Int32.ofInt 0))]) dX7_init_7 rfl ac_int (Nat.le_of_ble_eq_true rfl) rfl rfl (Nat.le_of_ble_eq_true rfl) (Nat.le_of_ble_eq_true rfl) rfl rfl ?_
  refine sx_putF (p1 := 12) (fs := [.null, vI 0, vI 0]) (h1 := [.inr (11, [.ref 3, .ref 5, .ref 7, .ref 10, .ref 14, .ref 15, .ref 17, .ref 22, .ref 24, .ref 25, .ref 26, .ref 30, vI 0]), zc3, zc4, zc5, zc6, zc7, zc8, zc9, zc10, zc11, zc12, zc13, zc14, zc15, zc16, zc17, zc18, zc19, zc20, zc21, zc22, zc23, zc24, zc25, zc26, zc27, zc28, zc29, .inl (4, 4, .inr (.inr (.inr (.inr (fun _ => none))))), .inr (7, [.ref 32, vI 0, vI 0]), .inl (0, 60, .inl (fun _ => Int32.ofInt 0))]) dX7_init_9 rfl fl_X7_9 rfl rfl (Nat.le_of_ble_eq_true rfl) (fun _ => rfl) (fun _ => rfl) rfl ?_
  refine sx_aload_n (p1 := 13) dX7_init_12 rfl rfl ?_
  refine sx_iconst (p1 := 14) dX7_init_13 rfl ?_
  refine sx_put (p1 := 17) (fs := [.ref 32, vI 0, vI 0]) (h1 := [.inr (11, [.ref 3, .ref 5, .ref 7, .ref 10, .ref 14, .ref 15, .ref 17, .ref 22, .ref 24, .ref 25, .ref 26, .ref 30, vI 0]), zc3, zc4, zc5, zc6, zc7, zc8, zc9, zc10, zc11, zc12, zc13, zc14, zc15, zc16, zc17, zc18, zc19, zc20, zc21, zc22, zc23, zc24, zc25, zc26, zc27, zc28, zc29, .inl (4, 4, .inr (.inr (.inr (.inr (fun _ => none))))), .inr (7, [.ref 32, vI (-1), vI 0]), .inl (0, 60, .inl (fun _ => Int32.ofInt 0))]) dX7_init_14 rfl fl_X7_15 rfl (Nat.le_of_ble_eq_true rfl) (fun _ => rfl) (fun _ => rfl) rfl ?_
  exact sx_vret dX7_init_17 rfl ⟨rfl, rfl⟩
def zc31 : sx_C := .inr (7, [.ref 32, vI (-1), vI 0])
def zc32 : sx_C := .inl (0, 60, .inl (fun _ => Int32.ofInt 0))
set_option maxRecDepth 20000 in
theorem k_X7_init_33 {X : sx_X} : Ct X yX7_init cX7_init 1 none 1 1 60 [.ref 33] [.inr (11, [.ref 3, .ref 5, .ref 7, .ref 10, .ref 14, .ref 15, .ref 17, .ref 22, .ref 24, .ref 25, .ref 26, .ref 30, vI 0]), zc3, zc4, zc5, zc6, zc7, zc8, zc9, zc10, zc11, zc12, zc13, zc14, zc15, zc16, zc17, zc18, zc19, zc20, zc21, zc22, zc23, zc24, zc25, zc26, zc27, zc28, zc29, .inl (4, 4, .inr (.inr (.inr (.inr (va_up (fun _ => none) 0 (some 31)))))), zc31, zc32, .inr (7, [.null, vI 0, vI 0])] (sx_is none [.inr (11, [.ref 3, .ref 5, .ref 7, .ref 10, .ref 14, .ref 15, .ref 17, .ref 22, .ref 24, .ref 25, .ref 26, .ref 30, vI 0]), zc3, zc4, zc5, zc6, zc7, zc8, zc9, zc10, zc11, zc12, zc13, zc14, zc15, zc16, zc17, zc18, zc19, zc20, zc21, zc22, zc23, zc24, zc25, zc26, zc27, zc28, zc29, .inl (4, 4, .inr (.inr (.inr (.inr (va_up (fun _ => none) 0 (some 31)))))), zc31, zc32, .inr (7, [.ref 34, vI (-1), vI 0]), .inl (0, 60, .inl (fun _ => Int32.ofInt 0))]) := by
  refine Ct.of true [some (.ref 33)] (plainFor_of_name (by decide)) (fun _ => rfl) (Nat.le_of_ble_eq_true rfl) (fun _ => rfl) (fun _ _ q => by rw [q.2]; rfl) ?_
  refine sx_aload_n (p1 := 1) dX7_init_0 rfl rfl ?_
  refine sx_obj (p1 := 4) dX7_init_1 rfl ml_X7_3 im_obj co_obj (Nat.le_of_ble_eq_true rfl) (Nat.le_of_ble_eq_true rfl) ?_
  refine sx_aload_n (p1 := 5) dX7_init_4 rfl rfl ?_
  refine sx_bipush (p1 := 7) dX7_init_5 rfl (by decide) ?_
  refine sx_newI (N := 60) (p1 := 9) (a1 := 34) (k1 := 1) (n1 := 60) (h1 := [.inr (11, [.ref 3, .ref 5, .ref 7, .ref 10, .ref 14, .ref 15, .ref 17, .ref 22, .ref 24, .ref 25, .ref 26, .ref 30, vI 0]), zc3, zc4, zc5, zc6, zc7, zc8, zc9, zc10, zc11, zc12, zc13, zc14, zc15, zc16, zc17, zc18, zc19, zc20, zc21, zc22, zc23, zc24, zc25, zc26, zc27, zc28, zc29, .inl (4, 4, .inr (.inr (.inr (.inr (va_up (fun _ => none) 0 (some 31)))))), zc31, zc32, .inr (7, [.null, vI 0, vI 0]), .inl (0, 60, .inl (fun _ => Int32.ofInt 0))]) dX7_init_7 rfl ac_int (Nat.le_of_ble_eq_true rfl) rfl rfl (Nat.le_of_ble_eq_true rfl) (Nat.le_of_ble_eq_true rfl) rfl rfl ?_
  refine sx_putF (p1 := 12) (fs := [.null, vI 0, vI 0]) (h1 := [.inr (11, [.ref 3, .ref 5, .ref 7, .ref 10, .ref 14, .ref 15, .ref 17, .ref 22, .ref 24, .ref 25, .ref 26, .ref 30, vI 0]), zc3, zc4, zc5, zc6, zc7, zc8, zc9, zc10, zc11, zc12, zc13, zc14, zc15, zc16, zc17, zc18, zc19, zc20, zc21, zc22, zc23, zc24, zc25, zc26, zc27, zc28, zc29, .inl (4, 4, .inr (.inr (.inr (.inr (va_up (fun _ => none) 0 (some 31)))))), zc31, zc32, .inr (7, [.ref 34, vI 0, vI 0]), .inl (0, 60, .inl (fun _ => Int32.ofInt 0))]) dX7_init_9 rfl fl_X7_9 rfl rfl (Nat.le_of_ble_eq_true rfl) (fun _ => rfl) (fun _ => rfl) rfl ?_
  refine sx_aload_n (p1 := 13) dX7_init_12 rfl rfl ?_
  refine sx_iconst (p1 := 14) dX7_init_13 rfl ?_
  refine sx_put (p1 := 17) (fs := [.ref 34, vI 0, vI 0]) (h1 := [.inr (11, [.ref 3, .ref 5, .ref 7, .ref 10, .ref 14, .ref 15, .ref 17, .ref 22, .ref 24, .ref 25, .ref 26, .ref 30, vI 0]), zc3, zc4, zc5, zc6, zc7, zc8, zc9, zc10, zc11, zc12, zc13, zc14, zc15, zc16, zc17, zc18, zc19, zc20, zc21, zc22, zc23, zc24, zc25, zc26, zc27, zc28, zc29, .inl (4, 4, .inr (.inr (.inr (.inr (va_up (fun _ => none) 0 (some 31)))))), zc31, zc32, .inr (7, [.ref 34, vI (-1), vI 0]), .inl (0, 60, .inl (fun _ => Int32.ofInt 0))]) dX7_init_14 rfl fl_X7_15 rfl (Nat.le_of_ble_eq_true rfl) (fun _ => rfl) (fun _ => rfl) rfl ?_
  exact sx_vret dX7_init_17 rfl ⟨rfl, rfl⟩
def zc33 : sx_C := .inr (7, [.ref 34, vI (-1), vI 0])
def zc34 : sx_C := .inl (0, 60, .inl (fun _ => Int32.ofInt 0))
set_option maxRecDepth 20000 in
theorem k_X7_init_35 {X : sx_X} : Ct X yX7_init cX7_init 1 none 1 1 60 [.ref 35] [.inr (11, [.ref 3, .ref 5, .ref 7, .ref 10, .ref 14, .ref 15, .ref 17, .ref 22, .ref 24, .ref 25, .ref 26, .ref 30, vI 0]), zc3, zc4, zc5, zc6, zc7, zc8, zc9, zc10, zc11, zc12, zc13, zc14, zc15, zc16, zc17, zc18, zc19, zc20, zc21, zc22, zc23, zc24, zc25, zc26, zc27, zc28, zc29, .inl (4, 4, .inr (.inr (.inr (.inr (va_up (va_up (fun _ => none) 0 (some 31)) 1 (some 33)))))), zc31, zc32, zc33, zc34, .inr (7, [.null, vI 0, vI 0])] (sx_is none [.inr (11, [.ref 3, .ref 5, .ref 7, .ref 10, .ref 14, .ref 15, .ref 17, .ref 22, .ref 24, .ref 25, .ref 26, .ref 30, vI 0]), zc3, zc4, zc5, zc6, zc7, zc8, zc9, zc10, zc11, zc12, zc13, zc14, zc15, zc16, zc17, zc18, zc19, zc20, zc21, zc22, zc23, zc24, zc25, zc26, zc27, zc28, zc29, .inl (4, 4, .inr (.inr (.inr (.inr (va_up (va_up (fun _ => none) 0 (some 31)) 1 (some 33)))))), zc31, zc32, zc33, zc34, .inr (7, [.ref 36, vI (-1), vI 0]), .inl (0, 60, .inl (fun _ => Int32.ofInt 0))]) := by
  refine Ct.of true [some (.ref 35)] (plainFor_of_name (by decide)) (fun _ => rfl) (Nat.le_of_ble_eq_true rfl) (fun _ => rfl) (fun _ _ q => by rw [q.2]; rfl) ?_
  refine sx_aload_n (p1 := 1) dX7_init_0 rfl rfl ?_
  refine sx_obj (p1 := 4) dX7_init_1 rfl ml_X7_3 im_obj co_obj (Nat.le_of_ble_eq_true rfl) (Nat.le_of_ble_eq_true rfl) ?_
  refine sx_aload_n (p1 := 5) dX7_init_4 rfl rfl ?_
  refine sx_bipush (p1 := 7) dX7_init_5 rfl (by decide) ?_
  refine sx_newI (N := 60) (p1 := 9) (a1 := 36) (k1 := 1) (n1 := 60) (h1 := [.inr (11, [.ref 3, .ref 5, .ref 7, .ref 10, .ref 14, .ref 15, .ref 17, .ref 22, .ref 24, .ref 25, .ref 26, .ref 30, vI 0]), zc3, zc4, zc5, zc6, zc7, zc8, zc9, zc10, zc11, zc12, zc13, zc14, zc15, zc16, zc17, zc18, zc19, zc20, zc21, zc22, zc23, zc24, zc25, zc26, zc27, zc28, zc29, .inl (4, 4, .inr (.inr (.inr (.inr (va_up (va_up (fun _ => none) 0 (some 31)) 1 (some 33)))))), zc31, zc32, zc33, zc34, .inr (7, [.null, vI 0, vI 0]), .inl (0, 60, .inl (fun _ => Int32.ofInt 0))]) dX7_init_7 rfl ac_int (Nat.le_of_ble_eq_true rfl) rfl rfl (Nat.le_of_ble_eq_true rfl) (Nat.le_of_ble_eq_true rfl) rfl rfl ?_
  refine sx_putF (p1 := 12) (fs := [.null, vI 0, vI 0]) (h1 := [.inr (11, [.ref 3, .ref 5, .ref 7, .ref 10, .ref 14, .ref 15, .ref 17, .ref 22, .ref 24, .ref 25, .ref 26, .ref 30, vI 0]), zc3, zc4, zc5, zc6, zc7, zc8, zc9, zc10, zc11, zc12, zc13, zc14, zc15, zc16, zc17, zc18, zc19, zc20, zc21, zc22, zc23, zc24, zc25, zc26, zc27, zc28, zc29, .inl (4, 4, .inr (.inr (.inr (.inr (va_up (va_up (fun _ => none) 0 (some 31)) 1 (some 33)))))), zc31, zc32, zc33, zc34, .inr (7, [.ref 36, vI 0, vI 0]), .inl (0, 60, .inl (fun _ => Int32.ofInt 0))]) dX7_init_9 rfl fl_X7_9 rfl rfl (Nat.le_of_ble_eq_true rfl) (fun _ => rfl) (fun _ => rfl) rfl ?_
  refine sx_aload_n (p1 := 13) dX7_init_12 rfl rfl ?_
  refine sx_iconst (p1 := 14) dX7_init_13 rfl ?_
  refine sx_put (p1 := 17) (fs := [.ref 36, vI 0, vI 0]) (h1 := [.inr (11, [.ref 3, .ref 5, .ref 7, .ref 10, .ref 14, .ref 15, .ref 17, .ref 22, .ref 24, .ref 25, .ref 26, .ref 30, vI 0]), zc3, zc4, zc5, zc6, zc7, zc8, zc9, zc10, zc11, zc12, zc13, zc14, zc15, zc16, zc17, zc18, zc19, zc20, zc21, zc22, zc23, zc24, zc25, zc26, zc27, zc28, zc29, .inl (4, 4, .inr (.inr (.inr (.inr (va_up (va_up (fun _ => none) 0 (some 31)) 1 (some 33)))))), zc31, zc32, zc33, zc34, .inr (7, [.ref 36, vI (-1), vI 0]), .inl (0, 60, .inl (fun _ => Int32.ofInt 0))]) dX7_init_14 rfl fl_X7_15 rfl (Nat.le_of_ble_eq_true rfl) (fun _ => rfl) (fun _ => rfl) rfl ?_
  exact sx_vret dX7_init_17 rfl ⟨rfl, rfl⟩
def zc35 : sx_C := .inr (7, [.ref 36, vI (-1), vI 0])
def zc36 : sx_C := .inl (0, 60, .inl (fun _ => Int32.ofInt 0))
set_option maxRecDepth 20000 in
theorem k_X7_init_37 {X : sx_X} : Ct X yX7_init cX7_init 1 none 1 1 60 [.ref 37] [.inr (11, [.ref 3, .ref 5, .ref 7, .ref 10, .ref 14, .ref 15, .ref 17, .ref 22, .ref 24, .ref 25, .ref 26, .ref 30, vI 0]), zc3, zc4, zc5, zc6, zc7, zc8, zc9, zc10, zc11, zc12, zc13, zc14, zc15, zc16, zc17, zc18, zc19, zc20, zc21, zc22, zc23, zc24, zc25, zc26, zc27, zc28, zc29, .inl (4, 4, .inr (.inr (.inr (.inr (va_up (va_up (va_up (fun _ => none) 0 (some 31)) 1 (some 33)) 2 (some 35)))))), zc31, zc32, zc33, zc34, zc35, zc36, .inr (7, [.null, vI 0, vI 0])] (sx_is none [.inr (11, [.ref 3, .ref 5, .ref 7, .ref 10, .ref 14, .ref 15, .ref 17, .ref 22, .ref 24, .ref 25, .ref 26, .ref 30, vI 0]), zc3, zc4, zc5, zc6, zc7, zc8, zc9, zc10, zc11, zc12, zc13, zc14, zc15, zc16, zc17, zc18, zc19, zc20, zc21, zc22, zc23, zc24, zc25, zc26, zc27, zc28, zc29, .inl (4, 4, .inr (.inr (.inr (.inr (va_up (va_up (va_up (fun _ => none) 0 (some 31)) 1 (some 33)) 2 (some 35)))))), zc31, zc32, zc33, zc34, zc35, zc36, .inr (7, [.ref 38, vI (-1), vI 0]), .inl (0, 60, .inl (fun _ => Int32.ofInt 0))]) := by
  refine Ct.of true [some (.ref 37)] (plainFor_of_name (by decide)) (fun _ => rfl) (Nat.le_of_ble_eq_true rfl) (fun _ => rfl) (fun _ _ q => by rw [q.2]; rfl) ?_
  refine sx_aload_n (p1 := 1) dX7_init_0 rfl rfl ?_
  refine sx_obj (p1 := 4) dX7_init_1 rfl ml_X7_3 im_obj co_obj (Nat.le_of_ble_eq_true rfl) (Nat.le_of_ble_eq_true rfl) ?_
  refine sx_aload_n (p1 := 5) dX7_init_4 rfl rfl ?_
  refine sx_bipush (p1 := 7) dX7_init_5 rfl (by decide) ?_
  refine sx_newI (N := 60) (p1 := 9) (a1 := 38) (k1 := 1) (n1 := 60) (h1 := [.inr (11, [.ref 3, .ref 5, .ref 7, .ref 10, .ref 14, .ref 15, .ref 17, .ref 22, .ref 24, .ref 25, .ref 26, .ref 30, vI 0]), zc3, zc4, zc5, zc6, zc7, zc8, zc9, zc10, zc11, zc12, zc13, zc14, zc15, zc16, zc17, zc18, zc19, zc20, zc21, zc22, zc23, zc24, zc25, zc26, zc27, zc28, zc29, .inl (4, 4, .inr (.inr (.inr (.inr (va_up (va_up (va_up (fun _ => none) 0 (some 31)) 1 (some 33)) 2 (some 35)))))), zc31, zc32, zc33, zc34, zc35, zc36, .inr (7, [.null, vI 0, vI 0]), .inl (0, 60, .inl (fun _ => Int32.ofInt 0))]) dX7_init_7 rfl ac_int (Nat.le_of_ble_eq_true rfl) rfl rfl (Nat.le_of_ble_eq_true rfl) (Nat.le_of_ble_eq_true rfl) rfl rfl ?_
  refine sx_putF (p1 := 12) (fs := [.null, vI 0, vI 0]) (h1 := [.inr (11, [.ref 3, .ref 5, .ref 7, .ref 10, .ref 14, .ref 15, .ref 17, .ref 22, .ref 24, .ref 25, .ref 26, .ref 30, vI 0]), zc3, zc4, zc5, zc6, zc7, zc8, zc9, zc10, zc11, zc12, zc13, zc14, zc15, zc16, zc17, zc18, zc19, zc20, zc21, zc22, zc23, zc24, zc25, zc26, zc27, zc28, zc29, .inl (4, 4, .inr (.inr (.inr (.inr (va_up (va_up (va_up (fun _ => none) 0 (some 31)) 1 (some 33)) 2 (some 35)))))), zc31, zc32, zc33, zc34, zc35, zc36, .inr (7, [.ref 38, vI 0, vI 0]), .inl (0, 60, .inl (fun _ => Int32.ofInt 0))]) dX7_init_9 rfl fl_X7_9 rfl rfl (Nat.le_of_ble_eq_true rfl) (fun _ => rfl) (fun _ => rfl) rfl ?_
  refine sx_aload_n (p1 := 13) dX7_init_12 rfl rfl ?_
  refine sx_iconst (p1 := 14) dX7_init_13 rfl ?_
  refine sx_put (p1 := 17) (fs := [.ref 38, vI 0, vI 0]) (h1 := [.inr (11, [.ref 3, .ref 5, .ref 7, .ref 10, .ref 14, .ref 15, .ref 17, .ref 22, .ref 24, .ref 25, .ref 26, .ref 30, vI 0]), zc3, zc4, zc5, zc6, zc7, zc8, zc9, zc10, zc11, zc12, zc13, zc14, zc15, zc16, zc17, zc18, zc19, zc20, zc21, zc22, zc23, zc24, zc25, zc26, zc27, zc28, zc29, .inl (4, 4, .inr (.inr (.inr (.inr (va_up (va_up (va_up (fun _ => none) 0 (some 31)) 1 (some 33)) 2 (some 35)))))), zc31, zc32, zc33, zc34, zc35, zc36, .inr (7, [.ref 38, vI (-1), vI 0]), .inl (0, 60, .inl (fun _ => Int32.ofInt 0))]) dX7_init_14 rfl fl_X7_15 rfl (Nat.le_of_ble_eq_true rfl) (fun _ => rfl) (fun _ => rfl) rfl ?_
  exact sx_vret dX7_init_17 rfl ⟨rfl, rfl⟩
def zc37 : sx_C := .inr (7, [.ref 38, vI (-1), vI 0])
def zc38 : sx_C := .inl (0, 60, .inl (fun _ => Int32.ofInt 0))
set_option maxRecDepth 20000 in
theorem k_X11_init_2 {X : sx_X} : Ct X yX11_init cX11_init 2 none 2 36 584 [.ref 2] [.inr (11, [.null, .null, .null, .null, .null, .null, .null, .null, .null, .null, .null, .null, vI 0])] (sx_is none [.inr (11, [.ref 3, .ref 5, .ref 7, .ref 10, .ref 14, .ref 15, .ref 17, .ref 22, .ref 24, .ref 25, .ref 26, .ref 30, vI 0]), zc3, zc4, zc5, zc6, zc7, zc8, zc9, zc10, zc11, zc12, zc13, zc14, zc15, zc16, zc17, zc18, zc19, zc20, zc21, zc22, zc23, zc24, zc25, zc26, zc27, zc28, zc29, .inl (4, 4, .inr (.inr (.inr (.inr (va_up (va_up (va_up (va_up (fun _ => none) 0 (some 31)) 1 (some 33)) 2 (some 35)) 3 (some 37)))))), zc31, zc32, zc33, zc34, zc35, zc36, zc37, zc38]) := by
  refine Ct.of true [some (.ref 2), none] (plainFor_of_name (by decide)) (fun _ => rfl) (Nat.le_of_ble_eq_true rfl) (fun _ => rfl) (fun _ _ q => by rw [q.2]; rfl) ?_
  refine sx_aload_n (p1 := 1) dX11_init_0 rfl rfl ?_
  refine sx_obj (p1 := 4) dX11_init_1 rfl ml_X11_1 im_obj co_obj (Nat.le_of_ble_eq_true rfl) (Nat.le_of_ble_eq_true rfl) ?_
  refine sx_aload_n (p1 := 5) dX11_init_4 rfl rfl ?_
  refine sx_new (p1 := 8) (a1 := 3) (k1 := 1) (n1 := 3) (h1 := [.inr (11, [.null, .null, .null, .null, .null, .null, .null, .null, .null, .null, .null, .null, vI 0]), .inr (10, [.null, vI 0, vI 0])]) dX11_init_5 rfl clX10 kl_X11_7 itX10 in_RX10 dfX10 (fun _ => rfl) rfl rfl (Nat.le_of_ble_eq_true rfl) (Nat.le_of_ble_eq_true rfl) rfl rfl ?_
  refine sx_dup (p1 := 9) dX11_init_8 rfl rfl ?_
  refine sx_bipush (p1 := 11) dX11_init_9 rfl (by decide) ?_
  refine sx_callI (p1 := 14) (As := [vI 32]) (k1 := 2) (n1 := 35) dX11_init_11 rfl rfl (k_X10_init_3) mt_X10_init ml_X11_11 (Nat.le_of_ble_eq_true rfl) rfl (Nat.le_of_ble_eq_true rfl) rfl rfl (Nat.le_of_ble_eq_true rfl) (Nat.le_of_ble_eq_true rfl) ?_
  refine (show Rn X RX11 true cX11_init 2 2 36 584 none 14 [some (.ref 2), none] [.ref 3, .ref 2] [.inr (11, [.null, .null, .null, .null, .null, .null, .null, .null, .null, .null, .null, .null, vI 0]), zc3, zc4] 2 35 _ from ?_)
  refine sx_putF (p1 := 17) (fs := [.null, .null, .null, .null, .null, .null, .null, .null, .null, .null, .null, .null, vI 0]) (h1 := [.inr (11, [.ref 3, .null, .null, .null, .null, .null, .null, .null, .null, .null, .null, .null, vI 0]), zc3, zc4]) dX11_init_14 rfl fl_X11_14 rfl rfl (Nat.le_of_ble_eq_true rfl) (fun _ => rfl) (fun _ => rfl) rfl ?_
  refine sx_aload_n (p1 := 18) dX11_init_17 rfl rfl ?_
  refine sx_new (p1 := 21) (a1 := 5) (k1 := 3) (n1 := 38) (h1 := [.inr (11, [.ref 3, .null, .null, .null, .null, .null, .null, .null, .null, .null, .null, .null, vI 0]), zc3, zc4, .inr (10, [.null, vI 0, vI 0])]) dX11_init_18 rfl clX10 kl_X11_7 itX10 in_RX10 dfX10 (fun _ => rfl) rfl rfl (Nat.le_of_ble_eq_true rfl) (Nat.le_of_ble_eq_true rfl) rfl rfl ?_
  refine sx_dup (p1 := 22) dX11_init_21 rfl rfl ?_
  refine sx_bipush (p1 := 24) dX11_init_22 rfl (by decide) ?_
  refine sx_callI (p1 := 27) (As := [vI 23]) (k1 := 4) (n1 := 70) dX11_init_24 rfl rfl (k_X10_init_5) mt_X10_init ml_X11_11 (Nat.le_of_ble_eq_true rfl) rfl (Nat.le_of_ble_eq_true rfl) rfl rfl (Nat.le_of_ble_eq_true rfl) (Nat.le_of_ble_eq_true rfl) ?_
  refine (show Rn X RX11 true cX11_init 2 2 36 584 none 27 [some (.ref 2), none] [.ref 5, .ref 2] [.inr (11, [.ref 3, .null, .null, .null, .null, .null, .null, .null, .null, .null, .null, .null, vI 0]), zc3, zc4, zc5, zc6] 4 70 _ from ?_)
  refine sx_putF (p1 := 30) (fs := [.ref 3, .null, .null, .null, .null, .null, .null, .null, .null, .null, .null, .null, vI 0]) (h1 := [.inr (11, [.ref 3, .ref 5, .null, .null, .null, .null, .null, .null, .null, .null, .null, .null, vI 0]), zc3, zc4, zc5, zc6]) dX11_init_27 rfl fl_X11_18 rfl rfl (Nat.le_of_ble_eq_true rfl) (fun _ => rfl) (fun _ => rfl) rfl ?_
  refine sx_aload_n (p1 := 31) dX11_init_30 rfl rfl ?_
  refine sx_new (p1 := 34) (a1 := 7) (k1 := 5) (n1 := 74) (h1 := [.inr (11, [.ref 3, .ref 5, .null, .null, .null, .null, .null, .null, .null, .null, .null, .null, vI 0]), zc3, zc4, zc5, zc6, .inr (0, [.null, .null, vI 0, vI 0])]) dX11_init_31 rfl clX0 kl_X11_21 itX0 in_RX0 dfX0 (fun _ => rfl) rfl rfl (Nat.le_of_ble_eq_true rfl) (Nat.le_of_ble_eq_true rfl) rfl rfl ?_
  refine sx_dup (p1 := 35) dX11_init_34 rfl rfl ?_
  refine sx_callIN (p1 := 38) (As := []) (k1 := 7) (n1 := 106) dX11_init_35 rfl rfl (k_X0_init_7) mt_X0_init ml_X11_23 (Nat.le_of_ble_eq_true rfl) rfl (Nat.le_of_ble_eq_true rfl) rfl rfl (Nat.le_of_ble_eq_true rfl) (Nat.le_of_ble_eq_true rfl) ?_
  refine (show Rn X RX11 true cX11_init 2 2 36 584 none 38 [some (.ref 2), none] [.ref 7, .ref 2] [.inr (11, [.ref 3, .ref 5, .null, .null, .null, .null, .null, .null, .null, .null, .null, .null, vI 0]), zc3, zc4, zc5, zc6, zc7, zc8, zc9] 7 106 _ from ?_)
  refine sx_putF (p1 := 41) (fs := [.ref 3, .ref 5, .null, .null, .null, .null, .null, .null, .null, .null, .null, .null, vI 0]) (h1 := [.inr (11, [.ref 3, .ref 5, .ref 7, .null, .null, .null, .null, .null, .null, .null, .null, .null, vI 0]), zc3, zc4, zc5, zc6, zc7, zc8, zc9]) dX11_init_38 rfl fl_X11_24 rfl rfl (Nat.le_of_ble_eq_true rfl) (fun _ => rfl) (fun _ => rfl) rfl ?_
  refine sx_aload_n (p1 := 42) dX11_init_41 rfl rfl ?_
  refine sx_new (p1 := 45) (a1 := 10) (k1 := 8) (n1 := 111) (h1 := [.inr (11, [.ref 3, .ref 5, .ref 7, .null, .null, .null, .null, .null, .null, .null, .null, .null, vI 0]), zc3, zc4, zc5, zc6, zc7, zc8, zc9, .inr (5, [.null, .null, .null, vI 0, vI 0])]) dX11_init_42 rfl clX5 kl_X11_28 itX5 in_RX5 dfX5 (fun _ => rfl) rfl rfl (Nat.le_of_ble_eq_true rfl) (Nat.le_of_ble_eq_true rfl) rfl rfl ?_
  refine sx_dup (p1 := 46) dX11_init_45 rfl rfl ?_
  refine sx_callIN (p1 := 49) (As := []) (k1 := 11) (n1 := 129) dX11_init_46 rfl rfl (k_X5_init_10) mt_X5_init ml_X11_30 (Nat.le_of_ble_eq_true rfl) rfl (Nat.le_of_ble_eq_true rfl) rfl rfl (Nat.le_of_ble_eq_true rfl) (Nat.le_of_ble_eq_true rfl) ?_
  refine (show Rn X RX11 true cX11_init 2 2 36 584 none 49 [some (.ref 2), none] [.ref 10, .ref 2] [.inr (11, [.ref 3, .ref 5, .ref 7, .null, .null, .null, .null, .null, .null, .null, .null, .null, vI 0]), zc3, zc4, zc5, zc6, zc7, zc8, zc9, zc10, zc11, zc12, zc13] 11 129 _ from ?_)
  refine sx_putF (p1 := 52) (fs := [.ref 3, .ref 5, .ref 7, .null, .null, .null, .null, .null, .null, .null, .null, .null, vI 0]) (h1 := [.inr (11, [.ref 3, .ref 5, .ref 7, .ref 10, .null, .null, .null, .null, .null, .null, .null, .null, vI 0]), zc3, zc4, zc5, zc6, zc7, zc8, zc9, zc10, zc11, zc12, zc13]) dX11_init_49 rfl fl_X11_31 rfl rfl (Nat.le_of_ble_eq_true rfl) (fun _ => rfl) (fun _ => rfl) rfl ?_
  refine sx_aload_n (p1 := 53) dX11_init_52 rfl rfl ?_
  refine sx_new (p1 := 56) (a1 := 14) (k1 := 12) (n1 := 135) (h1 := [.inr (11, [.ref 3, .ref 5, .ref 7, .ref 10, .null, .null, .null, .null, .null, .null, .null, .null, vI 0]), zc3, zc4, zc5, zc6, zc7, zc8, zc9, zc10, zc11, zc12, zc13, .inr (6, [vI 0, vI 0, vI 0, vI 0, vI 0, vI 0])]) dX11_init_53 rfl clX6 kl_X11_35 itX6 in_RX6 dfX6 (fun _ => rfl) rfl rfl (Nat.le_of_ble_eq_true rfl) (Nat.le_of_ble_eq_true rfl) rfl rfl ?_
  refine sx_dup (p1 := 57) dX11_init_56 rfl rfl ?_
  refine sx_callIN (p1 := 60) (As := []) (k1 := 12) (n1 := 135) dX11_init_57 rfl rfl (k_X6_init_14) mt_X6_init ml_X11_37 (Nat.le_of_ble_eq_true rfl) rfl (Nat.le_of_ble_eq_true rfl) rfl rfl (Nat.le_of_ble_eq_true rfl) (Nat.le_of_ble_eq_true rfl) ?_
  refine (show Rn X RX11 true cX11_init 2 2 36 584 none 60 [some (.ref 2), none] [.ref 14, .ref 2] [.inr (11, [.ref 3, .ref 5, .ref 7, .ref 10, .null, .null, .null, .null, .null, .null, .null, .null, vI 0]), zc3, zc4, zc5, zc6, zc7, zc8, zc9, zc10, zc11, zc12, zc13, zc14] 12 135 _ from ?_)
  refine sx_putF (p1 := 63) (fs := [.ref 3, .ref 5, .ref 7, .ref 10, .null, .null, .null, .null, .null, .null, .null, .null, vI 0]) (h1 := [.inr (11, [.ref 3, .ref 5, .ref 7, .ref 10, .ref 14, .null, .null, .null, .null, .null, .null, .null, vI 0]), zc3, zc4, zc5, zc6, zc7, zc8, zc9, zc10, zc11, zc12, zc13, zc14]) dX11_init_60 rfl fl_X11_38 rfl rfl (Nat.le_of_ble_eq_true rfl) (fun _ => rfl) (fun _ => rfl) rfl ?_
  refine sx_aload_n (p1 := 64) dX11_init_63 rfl rfl ?_
  refine sx_new (p1 := 67) (a1 := 15) (k1 := 13) (n1 := 139) (h1 := [.inr (11, [.ref 3, .ref 5, .ref 7, .ref 10, .ref 14, .null, .null, .null, .null, .null, .null, .null, vI 0]), zc3, zc4, zc5, zc6, zc7, zc8, zc9, zc10, zc11, zc12, zc13, zc14, .inr (8, [.null, .null, .null, .null])]) dX11_init_64 rfl clX8 kl_X11_42 itX8 in_RX8 dfX8 (fun _ => rfl) rfl rfl (Nat.le_of_ble_eq_true rfl) (Nat.le_of_ble_eq_true rfl) rfl rfl ?_
  refine sx_dup (p1 := 68) dX11_init_67 rfl rfl ?_
  refine sx_aload_n (p1 := 69) dX11_init_68 rfl rfl ?_
  refine sx_get (p1 := 72) (v := .ref 7) (fs := [.ref 3, .ref 5, .ref 7, .ref 10, .ref 14, .null, .null, .null, .null, .null, .null, .null, vI 0]) dX11_init_69 rfl fl_X11_24 rfl rfl ?_
  refine sx_aload_n (p1 := 73) dX11_init_72 rfl rfl ?_
  refine sx_get (p1 := 76) (v := .ref 10) (fs := [.ref 3, .ref 5, .ref 7, .ref 10, .ref 14, .null, .null, .null, .null, .null, .null, .null, vI 0]) dX11_init_73 rfl fl_X11_31 rfl rfl ?_
  refine sx_aload_n (p1 := 77) dX11_init_76 rfl rfl ?_
  refine sx_get (p1 := 80) (v := .ref 14) (fs := [.ref 3, .ref 5, .ref 7, .ref 10, .ref 14, .null, .null, .null, .null, .null, .null, .null, vI 0]) dX11_init_77 rfl fl_X11_38 rfl rfl ?_
  refine sx_callI (p1 := 83) (As := [.ref 7, .ref 10, .ref 14]) (k1 := 14) (n1 := 171) dX11_init_80 rfl rfl (k_X8_init_15) mt_X8_init ml_X11_44 (Nat.le_of_ble_eq_true rfl) rfl (Nat.le_of_ble_eq_true rfl) rfl rfl (Nat.le_of_ble_eq_true rfl) (Nat.le_of_ble_eq_true rfl) ?_
  refine (show Rn X RX11 true cX11_init 2 2 36 584 none 83 [some (.ref 2), none] [.ref 15, .ref 2] [.inr (11, [.ref 3, .ref 5, .ref 7, .ref 10, .ref 14, .null, .null, .null, .null, .null, .null, .null, vI 0]), zc3, zc4, zc5, zc6, zc7, zc8, zc9, zc10, zc11, zc12, zc13, zc14, zc15, zc16] 14 171 _ from ?_)
  refine sx_putF (p1 := 86) (fs := [.ref 3, .ref 5, .ref 7, .ref 10, .ref 14, .null, .null, .null, .null, .null, .null, .null, vI 0]) (h1 := [.inr (11, [.ref 3, .ref 5, .ref 7, .ref 10, .ref 14, .ref 15, .null, .null, .null, .null, .null, .null, vI 0]), zc3, zc4, zc5, zc6, zc7, zc8, zc9, zc10, zc11, zc12, zc13, zc14, zc15, zc16]) dX11_init_83 rfl fl_X11_47 rfl rfl (Nat.le_of_ble_eq_true rfl) (fun _ => rfl) (fun _ => rfl) rfl ?_
  refine sx_aload_n (p1 := 87) dX11_init_86 rfl rfl ?_
  refine sx_new (p1 := 90) (a1 := 17) (k1 := 15) (n1 := 179) (h1 := [.inr (11, [.ref 3, .ref 5, .ref 7, .ref 10, .ref 14, .ref 15, .null, .null, .null, .null, .null, .null, vI 0]), zc3, zc4, zc5, zc6, zc7, zc8, zc9, zc10, zc11, zc12, zc13, zc14, zc15, zc16, .inr (3, [.null, .null, .null, .null, .null, .null, .null, vJ 0])]) dX11_init_87 rfl clX3 kl_X11_51 itX3 in_RX3 dfX3 (fun _ => rfl) rfl rfl (Nat.le_of_ble_eq_true rfl) (Nat.le_of_ble_eq_true rfl) rfl rfl ?_
  refine sx_dup (p1 := 91) dX11_init_90 rfl rfl ?_
  refine sx_aload_n (p1 := 92) dX11_init_91 rfl rfl ?_
  refine sx_get (p1 := 95) (v := .ref 10) (fs := [.ref 3, .ref 5, .ref 7, .ref 10, .ref 14, .ref 15, .null, .null, .null, .null, .null, .null, vI 0]) dX11_init_92 rfl fl_X11_31 rfl rfl ?_
  refine sx_aload_n (p1 := 96) dX11_init_95 rfl rfl ?_
  refine sx_get (p1 := 99) (v := .ref 14) (fs := [.ref 3, .ref 5, .ref 7, .ref 10, .ref 14, .ref 15, .null, .null, .null, .null, .null, .null, vI 0]) dX11_init_96 rfl fl_X11_38 rfl rfl ?_
  refine sx_aload_n (p1 := 100) dX11_init_99 rfl rfl ?_
  refine sx_get (p1 := 103) (v := .ref 15) (fs := [.ref 3, .ref 5, .ref 7, .ref 10, .ref 14, .ref 15, .null, .null, .null, .null, .null, .null, vI 0]) dX11_init_100 rfl fl_X11_47 rfl rfl ?_
  refine sx_callI (p1 := 106) (As := [.ref 10, .ref 14, .ref 15]) (k1 := 19) (n1 := 275) dX11_init_103 rfl rfl (k_X3_init_17) mt_X3_init ml_X11_53 (Nat.le_of_ble_eq_true rfl) rfl (Nat.le_of_ble_eq_true rfl) rfl rfl (Nat.le_of_ble_eq_true rfl) (Nat.le_of_ble_eq_true rfl) ?_
  refine (show Rn X RX11 true cX11_init 2 2 36 584 none 106 [some (.ref 2), none] [.ref 17, .ref 2] [.inr (11, [.ref 3, .ref 5, .ref 7, .ref 10, .ref 14, .ref 15, .null, .null, .null, .null, .null, .null, vI 0]), zc3, zc4, zc5, zc6, zc7, zc8, zc9, zc10, zc11, zc12, zc13, zc14, zc15, zc16, zc17, zc18, zc19, zc20, zc21] 19 275 _ from ?_)
  refine sx_putF (p1 := 109) (fs := [.ref 3, .ref 5, .ref 7, .ref 10, .ref 14, .ref 15, .null, .null, .null, .null, .null, .null, vI 0]) (h1 := [.inr (11, [.ref 3, .ref 5, .ref 7, .ref 10, .ref 14, .ref 15, .ref 17, .null, .null, .null, .null, .null, vI 0]), zc3, zc4, zc5, zc6, zc7, zc8, zc9, zc10, zc11, zc12, zc13, zc14, zc15, zc16, zc17, zc18, zc19, zc20, zc21]) dX11_init_106 rfl fl_X11_56 rfl rfl (Nat.le_of_ble_eq_true rfl) (fun _ => rfl) (fun _ => rfl) rfl ?_
  refine sx_aload_n (p1 := 110) dX11_init_109 rfl rfl ?_
  refine sx_new (p1 := 113) (a1 := 22) (k1 := 20) (n1 := 279) (h1 := [.inr (11, [.ref 3, .ref 5, .ref 7, .ref 10, .ref 14, .ref 15, .ref 17, .null, .null, .null, .null, .null, vI 0]), zc3, zc4, zc5, zc6, zc7, zc8, zc9, zc10, zc11, zc12, zc13, zc14, zc15, zc16, zc17, zc18, zc19, zc20, zc21, .inr (1, [.null, .null, .null, .null])]) dX11_init_110 rfl clX1 kl_X11_60 itX1 in_RX1 dfX1 (fun _ => rfl) rfl rfl (Nat.le_of_ble_eq_true rfl) (Nat.le_of_ble_eq_true rfl) rfl rfl ?_
  refine sx_dup (p1 := 114) dX11_init_113 rfl rfl ?_
  refine sx_aload_n (p1 := 115) dX11_init_114 rfl rfl ?_
  refine sx_get (p1 := 118) (v := .ref 10) (fs := [.ref 3, .ref 5, .ref 7, .ref 10, .ref 14, .ref 15, .ref 17, .null, .null, .null, .null, .null, vI 0]) dX11_init_115 rfl fl_X11_31 rfl rfl ?_
  refine sx_aload_n (p1 := 119) dX11_init_118 rfl rfl ?_
  refine sx_get (p1 := 122) (v := .ref 14) (fs := [.ref 3, .ref 5, .ref 7, .ref 10, .ref 14, .ref 15, .ref 17, .null, .null, .null, .null, .null, vI 0]) dX11_init_119 rfl fl_X11_38 rfl rfl ?_
  refine sx_aload_n (p1 := 123) dX11_init_122 rfl rfl ?_
  refine sx_get (p1 := 126) (v := .ref 15) (fs := [.ref 3, .ref 5, .ref 7, .ref 10, .ref 14, .ref 15, .ref 17, .null, .null, .null, .null, .null, vI 0]) dX11_init_123 rfl fl_X11_47 rfl rfl ?_
  refine sx_callI (p1 := 129) (As := [.ref 10, .ref 14, .ref 15]) (k1 := 21) (n1 := 291) dX11_init_126 rfl rfl (k_X1_init_22) mt_X1_init ml_X11_62 (Nat.le_of_ble_eq_true rfl) rfl (Nat.le_of_ble_eq_true rfl) rfl rfl (Nat.le_of_ble_eq_true rfl) (Nat.le_of_ble_eq_true rfl) ?_
  refine (show Rn X RX11 true cX11_init 2 2 36 584 none 129 [some (.ref 2), none] [.ref 22, .ref 2] [.inr (11, [.ref 3, .ref 5, .ref 7, .ref 10, .ref 14, .ref 15, .ref 17, .null, .null, .null, .null, .null, vI 0]), zc3, zc4, zc5, zc6, zc7, zc8, zc9, zc10, zc11, zc12, zc13, zc14, zc15, zc16, zc17, zc18, zc19, zc20, zc21, zc22, zc23] 21 291 _ from ?_)
  refine sx_putF (p1 := 132) (fs := [.ref 3, .ref 5, .ref 7, .ref 10, .ref 14, .ref 15, .ref 17, .null, .null, .null, .null, .null, vI 0]) (h1 := [.inr (11, [.ref 3, .ref 5, .ref 7, .ref 10, .ref 14, .ref 15, .ref 17, .ref 22, .null, .null, .null, .null, vI 0]), zc3, zc4, zc5, zc6, zc7, zc8, zc9, zc10, zc11, zc12, zc13, zc14, zc15, zc16, zc17, zc18, zc19, zc20, zc21, zc22, zc23]) dX11_init_129 rfl fl_X11_63 rfl rfl (Nat.le_of_ble_eq_true rfl) (fun _ => rfl) (fun _ => rfl) rfl ?_
  refine sx_aload_n (p1 := 133) dX11_init_132 rfl rfl ?_
  refine sx_new (p1 := 136) (a1 := 24) (k1 := 22) (n1 := 294) (h1 := [.inr (11, [.ref 3, .ref 5, .ref 7, .ref 10, .ref 14, .ref 15, .ref 17, .ref 22, .null, .null, .null, .null, vI 0]), zc3, zc4, zc5, zc6, zc7, zc8, zc9, zc10, zc11, zc12, zc13, zc14, zc15, zc16, zc17, zc18, zc19, zc20, zc21, zc22, zc23, .inr (4, [.null, .null, .null])]) dX11_init_133 rfl clX4 kl_X11_67 itX4 in_RX4 dfX4 (fun _ => rfl) rfl rfl (Nat.le_of_ble_eq_true rfl) (Nat.le_of_ble_eq_true rfl) rfl rfl ?_
  refine sx_dup (p1 := 137) dX11_init_136 rfl rfl ?_
  refine sx_aload_n (p1 := 138) dX11_init_137 rfl rfl ?_
  refine sx_get (p1 := 141) (v := .ref 10) (fs := [.ref 3, .ref 5, .ref 7, .ref 10, .ref 14, .ref 15, .ref 17, .ref 22, .null, .null, .null, .null, vI 0]) dX11_init_138 rfl fl_X11_31 rfl rfl ?_
  refine sx_aload_n (p1 := 142) dX11_init_141 rfl rfl ?_
  refine sx_get (p1 := 145) (v := .ref 14) (fs := [.ref 3, .ref 5, .ref 7, .ref 10, .ref 14, .ref 15, .ref 17, .ref 22, .null, .null, .null, .null, vI 0]) dX11_init_142 rfl fl_X11_38 rfl rfl ?_
  refine sx_aload_n (p1 := 146) dX11_init_145 rfl rfl ?_
  refine sx_get (p1 := 149) (v := .ref 15) (fs := [.ref 3, .ref 5, .ref 7, .ref 10, .ref 14, .ref 15, .ref 17, .ref 22, .null, .null, .null, .null, vI 0]) dX11_init_146 rfl fl_X11_47 rfl rfl ?_
  refine sx_callI (p1 := 152) (As := [.ref 10, .ref 14, .ref 15]) (k1 := 22) (n1 := 294) dX11_init_149 rfl rfl (k_X4_init_24) mt_X4_init ml_X11_69 (Nat.le_of_ble_eq_true rfl) rfl (Nat.le_of_ble_eq_true rfl) rfl rfl (Nat.le_of_ble_eq_true rfl) (Nat.le_of_ble_eq_true rfl) ?_
  refine (show Rn X RX11 true cX11_init 2 2 36 584 none 152 [some (.ref 2), none] [.ref 24, .ref 2] [.inr (11, [.ref 3, .ref 5, .ref 7, .ref 10, .ref 14, .ref 15, .ref 17, .ref 22, .null, .null, .null, .null, vI 0]), zc3, zc4, zc5, zc6, zc7, zc8, zc9, zc10, zc11, zc12, zc13, zc14, zc15, zc16, zc17, zc18, zc19, zc20, zc21, zc22, zc23, zc24] 22 294 _ from ?_)
  refine sx_putF (p1 := 155) (fs := [.ref 3, .ref 5, .ref 7, .ref 10, .ref 14, .ref 15, .ref 17, .ref 22, .null, .null, .null, .null, vI 0]) (h1 := [.inr (11, [.ref 3, .ref 5, .ref 7, .ref 10, .ref 14, .ref 15, .ref 17, .ref 22, .ref 24, .null, .null, .null, vI 0]), zc3, zc4, zc5, zc6, zc7, zc8, zc9, zc10, zc11, zc12, zc13, zc14, zc15, zc16, zc17, zc18, zc19, zc20, zc21, zc22, zc23, zc24]) dX11_init_152 rfl fl_X11_70 rfl rfl (Nat.le_of_ble_eq_true rfl) (fun _ => rfl) (fun _ => rfl) rfl ?_
  refine sx_aload_n (p1 := 156) dX11_init_155 rfl rfl ?_
  refine sx_new (p1 := 159) (a1 := 25) (k1 := 23) (n1 := 300) (h1 := [.inr (11, [.ref 3, .ref 5, .ref 7, .ref 10, .ref 14, .ref 15, .ref 17, .ref 22, .ref 24, .null, .null, .null, vI 0]), zc3, zc4, zc5, zc6, zc7, zc8, zc9, zc10, zc11, zc12, zc13, zc14, zc15, zc16, zc17, zc18, zc19, zc20, zc21, zc22, zc23, zc24, .inr (2, [.null, .null, .null, .null, vI 0, vI 0])]) dX11_init_156 rfl clX2 kl_X11_74 itX2 in_RX2 dfX2 (fun _ => rfl) rfl rfl (Nat.le_of_ble_eq_true rfl) (Nat.le_of_ble_eq_true rfl) rfl rfl ?_
  refine sx_dup (p1 := 160) dX11_init_159 rfl rfl ?_
  refine sx_aload_n (p1 := 161) dX11_init_160 rfl rfl ?_
  refine sx_get (p1 := 164) (v := .ref 7) (fs := [.ref 3, .ref 5, .ref 7, .ref 10, .ref 14, .ref 15, .ref 17, .ref 22, .ref 24, .null, .null, .null, vI 0]) dX11_init_161 rfl fl_X11_24 rfl rfl ?_
  refine sx_aload_n (p1 := 165) dX11_init_164 rfl rfl ?_
  refine sx_get (p1 := 168) (v := .ref 10) (fs := [.ref 3, .ref 5, .ref 7, .ref 10, .ref 14, .ref 15, .ref 17, .ref 22, .ref 24, .null, .null, .null, vI 0]) dX11_init_165 rfl fl_X11_31 rfl rfl ?_
  refine sx_aload_n (p1 := 169) dX11_init_168 rfl rfl ?_
  refine sx_get (p1 := 172) (v := .ref 14) (fs := [.ref 3, .ref 5, .ref 7, .ref 10, .ref 14, .ref 15, .ref 17, .ref 22, .ref 24, .null, .null, .null, vI 0]) dX11_init_169 rfl fl_X11_38 rfl rfl ?_
  refine sx_aload_n (p1 := 173) dX11_init_172 rfl rfl ?_
  refine sx_get (p1 := 176) (v := .ref 15) (fs := [.ref 3, .ref 5, .ref 7, .ref 10, .ref 14, .ref 15, .ref 17, .ref 22, .ref 24, .null, .null, .null, vI 0]) dX11_init_173 rfl fl_X11_47 rfl rfl ?_
  refine sx_callI (p1 := 179) (As := [.ref 7, .ref 10, .ref 14, .ref 15]) (k1 := 23) (n1 := 300) dX11_init_176 rfl rfl (k_X2_init_25) mt_X2_init ml_X11_76 (Nat.le_of_ble_eq_true rfl) rfl (Nat.le_of_ble_eq_true rfl) rfl rfl (Nat.le_of_ble_eq_true rfl) (Nat.le_of_ble_eq_true rfl) ?_
  refine (show Rn X RX11 true cX11_init 2 2 36 584 none 179 [some (.ref 2), none] [.ref 25, .ref 2] [.inr (11, [.ref 3, .ref 5, .ref 7, .ref 10, .ref 14, .ref 15, .ref 17, .ref 22, .ref 24, .null, .null, .null, vI 0]), zc3, zc4, zc5, zc6, zc7, zc8, zc9, zc10, zc11, zc12, zc13, zc14, zc15, zc16, zc17, zc18, zc19, zc20, zc21, zc22, zc23, zc24, zc25] 23 300 _ from ?_)
  refine sx_putF (p1 := 182) (fs := [.ref 3, .ref 5, .ref 7, .ref 10, .ref 14, .ref 15, .ref 17, .ref 22, .ref 24, .null, .null, .null, vI 0]) (h1 := [.inr (11, [.ref 3, .ref 5, .ref 7, .ref 10, .ref 14, .ref 15, .ref 17, .ref 22, .ref 24, .ref 25, .null, .null, vI 0]), zc3, zc4, zc5, zc6, zc7, zc8, zc9, zc10, zc11, zc12, zc13, zc14, zc15, zc16, zc17, zc18, zc19, zc20, zc21, zc22, zc23, zc24, zc25]) dX11_init_179 rfl fl_X11_79 rfl rfl (Nat.le_of_ble_eq_true rfl) (fun _ => rfl) (fun _ => rfl) rfl ?_
  refine sx_aload_n (p1 := 183) dX11_init_182 rfl rfl ?_
  refine sx_new (p1 := 186) (a1 := 26) (k1 := 24) (n1 := 304) (h1 := [.inr (11, [.ref 3, .ref 5, .ref 7, .ref 10, .ref 14, .ref 15, .ref 17, .ref 22, .ref 24, .ref 25, .null, .null, vI 0]), zc3, zc4, zc5, zc6, zc7, zc8, zc9, zc10, zc11, zc12, zc13, zc14, zc15, zc16, zc17, zc18, zc19, zc20, zc21, zc22, zc23, zc24, zc25, .inr (9, [.null, .null, .null, vI 0])]) dX11_init_183 rfl clX9 kl_X11_83 itX9 in_RX9 dfX9 (fun _ => rfl) rfl rfl (Nat.le_of_ble_eq_true rfl) (Nat.le_of_ble_eq_true rfl) rfl rfl ?_
  refine sx_dup (p1 := 187) dX11_init_186 rfl rfl ?_
  refine sx_callIN (p1 := 190) (As := []) (k1 := 27) (n1 := 328) dX11_init_187 rfl rfl (k_X9_init_26) mt_X9_init ml_X11_85 (Nat.le_of_ble_eq_true rfl) rfl (Nat.le_of_ble_eq_true rfl) rfl rfl (Nat.le_of_ble_eq_true rfl) (Nat.le_of_ble_eq_true rfl) ?_
  refine (show Rn X RX11 true cX11_init 2 2 36 584 none 190 [some (.ref 2), none] [.ref 26, .ref 2] [.inr (11, [.ref 3, .ref 5, .ref 7, .ref 10, .ref 14, .ref 15, .ref 17, .ref 22, .ref 24, .ref 25, .null, .null, vI 0]), zc3, zc4, zc5, zc6, zc7, zc8, zc9, zc10, zc11, zc12, zc13, zc14, zc15, zc16, zc17, zc18, zc19, zc20, zc21, zc22, zc23, zc24, zc25, zc26, zc27, zc28, zc29] 27 328 _ from ?_)
  refine sx_putF (p1 := 193) (fs := [.ref 3, .ref 5, .ref 7, .ref 10, .ref 14, .ref 15, .ref 17, .ref 22, .ref 24, .ref 25, .null, .null, vI 0]) (h1 := [.inr (11, [.ref 3, .ref 5, .ref 7, .ref 10, .ref 14, .ref 15, .ref 17, .ref 22, .ref 24, .ref 25, .ref 26, .null, vI 0]), zc3, zc4, zc5, zc6, zc7, zc8, zc9, zc10, zc11, zc12, zc13, zc14, zc15, zc16, zc17, zc18, zc19, zc20, zc21, zc22, zc23, zc24, zc25, zc26, zc27, zc28, zc29]) dX11_init_190 rfl fl_X11_86 rfl rfl (Nat.le_of_ble_eq_true rfl) (fun _ => rfl) (fun _ => rfl) rfl ?_
  refine sx_aload_n (p1 := 194) dX11_init_193 rfl rfl ?_
  refine sx_iconst (p1 := 195) dX11_init_194 rfl ?_
  refine sx_newA (N := 4) (p1 := 198) (a1 := 30) (k1 := 28) (n1 := 332) (h1 := [.inr (11, [.ref 3, .ref 5, .ref 7, .ref 10, .ref 14, .ref 15, .ref 17, .ref 22, .ref 24, .ref 25, .ref 26, .null, vI 0]), zc3, zc4, zc5, zc6, zc7, zc8, zc9, zc10, zc11, zc12, zc13, zc14, zc15, zc16, zc17, zc18, zc19, zc20, zc21, zc22, zc23, zc24, zc25, zc26, zc27, zc28, zc29, .inl (4, 4, .inr (.inr (.inr (.inr (fun _ => none)))))]) dX11_init_195 rfl kl_X11_90 (Nat.le_of_ble_eq_true rfl) rfl rfl (Nat.le_of_ble_eq_true rfl) (Nat.le_of_ble_eq_true rfl) rfl rfl ?_
  refine sx_putF (p1 := 201) (fs := [.ref 3, .ref 5, .ref 7, .ref 10, .ref 14, .ref 15, .ref 17, .ref 22, .ref 24, .ref 25, .ref 26, .null, vI 0]) (h1 := [.inr (11, [.ref 3, .ref 5, .ref 7, .ref 10, .ref 14, .ref 15, .ref 17, .ref 22, .ref 24, .ref 25, .ref 26, .ref 30, vI 0]), zc3, zc4, zc5, zc6, zc7, zc8, zc9, zc10, zc11, zc12, zc13, zc14, zc15, zc16, zc17, zc18, zc19, zc20, zc21, zc22, zc23, zc24, zc25, zc26, zc27, zc28, zc29, .inl (4, 4, .inr (.inr (.inr (.inr (fun _ => none)))))]) dX11_init_198 rfl fl_X11_92 rfl rfl (Nat.le_of_ble_eq_true rfl) (fun _ => rfl) (fun _ => rfl) rfl ?_
  refine sx_iconst (p1 := 202) dX11_init_201 rfl ?_
  refine sx_istore_n (lo1 := [some _, some _]) (p1 := 203) dX11_init_202 rfl (by decide) rfl ?_
  refine sx_iload_n (p1 := 204) dX11_init_203 rfl rfl ?_
  refine sx_aload_n (p1 := 205) dX11_init_204 rfl rfl ?_
  refine sx_get (p1 := 208) (v := .ref 30) (fs := [.ref 3, .ref 5, .ref 7, .ref 10, .ref 14, .ref 15, .ref 17, .ref 22, .ref 24, .ref 25, .ref 26, .ref 30, vI 0]) dX11_init_205 rfl fl_X11_92 rfl rfl ?_
  refine sx_alen (p1 := 209) (t := 4) (N := 4) dX11_init_208 rfl rfl (fun _ => rfl) ?_
  refine sx_icmp_ge (p1 := 212) (tg := 231) dX11_init_209 rfl rfl (by omega) (by omega) (fun q => absurd q (by omega)) (fun _ => ?_)
  refine sx_aload_n (p1 := 213) dX11_init_212 rfl rfl ?_
  refine sx_get (p1 := 216) (v := .ref 30) (fs := [.ref 3, .ref 5, .ref 7, .ref 10, .ref 14, .ref 15, .ref 17, .ref 22, .ref 24, .ref 25, .ref 26, .ref 30, vI 0]) dX11_init_213 rfl fl_X11_92 rfl rfl ?_
  refine sx_iload_n (p1 := 217) dX11_init_216 rfl rfl ?_
  refine sx_new (p1 := 220) (a1 := 31) (k1 := 29) (n1 := 335) (h1 := [.inr (11, [.ref 3, .ref 5, .ref 7, .ref 10, .ref 14, .ref 15, .ref 17, .ref 22, .ref 24, .ref 25, .ref 26, .ref 30, vI 0]), zc3, zc4, zc5, zc6, zc7, zc8, zc9, zc10, zc11, zc12, zc13, zc14, zc15, zc16, zc17, zc18, zc19, zc20, zc21, zc22, zc23, zc24, zc25, zc26, zc27, zc28, zc29, .inl (4, 4, .inr (.inr (.inr (.inr (fun _ => none))))), .inr (7, [.null, vI 0, vI 0])]) dX11_init_217 rfl clX7 kl_X11_90 itX7 in_RX7 dfX7 (fun _ => rfl) rfl rfl (Nat.le_of_ble_eq_true rfl) (Nat.le_of_ble_eq_true rfl) rfl rfl ?_
  refine sx_dup (p1 := 221) dX11_init_220 rfl rfl ?_
  refine sx_callIN (p1 := 224) (As := []) (k1 := 30) (n1 := 395) dX11_init_221 rfl rfl (k_X7_init_31) mt_X7_init ml_X11_96 (Nat.le_of_ble_eq_true rfl) rfl (Nat.le_of_ble_eq_true rfl) rfl rfl (Nat.le_of_ble_eq_true rfl) (Nat.le_of_ble_eq_true rfl) ?_
  refine (show Rn X RX11 true cX11_init 2 2 36 584 none 224 [some (.ref 2), some (vI 0)] [.ref 31, vI 0, .ref 30] [.inr (11, [.ref 3, .ref 5, .ref 7, .ref 10, .ref 14, .ref 15, .ref 17, .ref 22, .ref 24, .ref 25, .ref 26, .ref 30, vI 0]), zc3, zc4, zc5, zc6, zc7, zc8, zc9, zc10, zc11, zc12, zc13, zc14, zc15, zc16, zc17, zc18, zc19, zc20, zc21, zc22, zc23, zc24, zc25, zc26, zc27, zc28, zc29, .inl (4, 4, .inr (.inr (.inr (.inr (fun _ => none))))), zc31, zc32] 30 395 _ from ?_)
  refine sx_aast (p1 := 225) (a := 30) (qv := 29) (N := 4) (f := fun _ => none) (ci := 7) (vs := [.ref 32, vI (-1), vI 0]) (h1 := [.inr (11, [.ref 3, .ref 5, .ref 7, .ref 10, .ref 14, .ref 15, .ref 17, .ref 22, .ref 24, .ref 25, .ref 26, .ref 30, vI 0]), zc3, zc4, zc5, zc6, zc7, zc8, zc9, zc10, zc11, zc12, zc13, zc14, zc15, zc16, zc17, zc18, zc19, zc20, zc21, zc22, zc23, zc24, zc25, zc26, zc27, zc28, zc29, .inl (4, 4, .inr (.inr (.inr (.inr (va_up (fun _ => none) 0 (some 31)))))), zc31, zc32]) dX11_init_224 rfl rfl (by decide) (by decide) rfl rfl rfl rfl ?_
  refine sx_iinc (lo1 := [some _, some _]) (p1 := 228) dX11_init_225 rfl (by decide) rfl rfl ?_
  rw [show (0 : Int) + 1 = 1 from rfl]
  refine sx_goto (p1 := 203) (tg := 203) dX11_init_228 rfl rfl ?_
  refine sx_iload_n (p1 := 204) dX11_init_203 rfl rfl ?_
  refine sx_aload_n (p1 := 205) dX11_init_204 rfl rfl ?_
  refine sx_get (p1 := 208) (v := .ref 30) (fs := [.ref 3, .ref 5, .ref 7, .ref 10, .ref 14, .ref 15, .ref 17, .ref 22, .ref 24, .ref 25, .ref 26, .ref 30, vI 0]) dX11_init_205 rfl fl_X11_92 rfl rfl ?_
  refine sx_alen (p1 := 209) (t := 4) (N := 4) dX11_init_208 rfl rfl (fun _ => rfl) ?_
  refine sx_icmp_ge (p1 := 212) (tg := 231) dX11_init_209 rfl rfl (by omega) (by omega) (fun q => absurd q (by omega)) (fun _ => ?_)
  refine sx_aload_n (p1 := 213) dX11_init_212 rfl rfl ?_
  refine sx_get (p1 := 216) (v := .ref 30) (fs := [.ref 3, .ref 5, .ref 7, .ref 10, .ref 14, .ref 15, .ref 17, .ref 22, .ref 24, .ref 25, .ref 26, .ref 30, vI 0]) dX11_init_213 rfl fl_X11_92 rfl rfl ?_
  refine sx_iload_n (p1 := 217) dX11_init_216 rfl rfl ?_
  refine sx_new (p1 := 220) (a1 := 33) (k1 := 31) (n1 := 398) (h1 := [.inr (11, [.ref 3, .ref 5, .ref 7, .ref 10, .ref 14, .ref 15, .ref 17, .ref 22, .ref 24, .ref 25, .ref 26, .ref 30, vI 0]), zc3, zc4, zc5, zc6, zc7, zc8, zc9, zc10, zc11, zc12, zc13, zc14, zc15, zc16, zc17, zc18, zc19, zc20, zc21, zc22, zc23, zc24, zc25, zc26, zc27, zc28, zc29, .inl (4, 4, .inr (.inr (.inr (.inr (va_up (fun _ => none) 0 (some 31)))))), zc31, zc32, .inr (7, [.null, vI 0, vI 0])]) dX11_init_217 rfl clX7 kl_X11_90 itX7 in_RX7 dfX7 (fun _ => rfl) rfl rfl (Nat.le_of_ble_eq_true rfl) (Nat.le_of_ble_eq_true rfl) rfl rfl ?_
  refine sx_dup (p1 := 221) dX11_init_220 rfl rfl ?_
  refine sx_callIN (p1 := 224) (As := []) (k1 := 32) (n1 := 458) dX11_init_221 rfl rfl (k_X7_init_33) mt_X7_init ml_X11_96 (Nat.le_of_ble_eq_true rfl) rfl (Nat.le_of_ble_eq_true rfl) rfl rfl (Nat.le_of_ble_eq_true rfl) (Nat.le_of_ble_eq_true rfl) ?_
  refine (show Rn X RX11 true cX11_init 2 2 36 584 none 224 [some (.ref 2), some (vI 1)] [.ref 33, vI 1, .ref 30] [.inr (11, [.ref 3, .ref 5, .ref 7, .ref 10, .ref 14, .ref 15, .ref 17, .ref 22, .ref 24, .ref 25, .ref 26, .ref 30, vI 0]), zc3, zc4, zc5, zc6, zc7, zc8, zc9, zc10, zc11, zc12, zc13, zc14, zc15, zc16, zc17, zc18, zc19, zc20, zc21, zc22, zc23, zc24, zc25, zc26, zc27, zc28, zc29, .inl (4, 4, .inr (.inr (.inr (.inr (va_up (fun _ => none) 0 (some 31)))))), zc31, zc32, zc33, zc34] 32 458 _ from ?_)
  refine sx_aast (p1 := 225) (a := 30) (qv := 31) (N := 4) (f := va_up (fun _ => none) 0 (some 31)) (ci := 7) (vs := [.ref 34, vI (-1), vI 0]) (h1 := [.inr (11, [.ref 3, .ref 5, .ref 7, .ref 10, .ref 14, .ref 15, .ref 17, .ref 22, .ref 24, .ref 25, .ref 26, .ref 30, vI 0]), zc3, zc4, zc5, zc6, zc7, zc8, zc9, zc10, zc11, zc12, zc13, zc14, zc15, zc16, zc17, zc18, zc19, zc20, zc21, zc22, zc23, zc24, zc25, zc26, zc27, zc28, zc29, .inl (4, 4, .inr (.inr (.inr (.inr (va_up (va_up (fun _ => none) 0 (some 31)) 1 (some 33)))))), zc31, zc32, zc33, zc34]) dX11_init_224 rfl rfl (by decide) (by decide) rfl rfl rfl rfl ?_
  refine sx_iinc (lo1 := [some _, some _]) (p1 := 228) dX11_init_225 rfl (by decide) rfl rfl ?_
  rw [show (1 : Int) + 1 = 2 from rfl]
  refine sx_goto (p1 := 203) (tg := 203) dX11_init_228 rfl rfl ?_
  refine sx_iload_n (p1 := 204) dX11_init_203 rfl rfl ?_
  refine sx_aload_n (p1 := 205) dX11_init_204 rfl rfl ?_
  refine sx_get (p1 := 208) (v := .ref 30) (fs := [.ref 3, .ref 5, .ref 7, .ref 10, .ref 14, .ref 15, .ref 17, .ref 22, .ref 24, .ref 25, .ref 26, .ref 30, vI 0]) dX11_init_205 rfl fl_X11_92 rfl rfl ?_
  refine sx_alen (p1 := 209) (t := 4) (N := 4) dX11_init_208 rfl rfl (fun _ => rfl) ?_
  refine sx_icmp_ge (p1 := 212) (tg := 231) dX11_init_209 rfl rfl (by omega) (by omega) (fun q => absurd q (by omega)) (fun _ => ?_)
  refine sx_aload_n (p1 := 213) dX11_init_212 rfl rfl ?_
  refine sx_get (p1 := 216) (v := .ref 30) (fs := [.ref 3, .ref 5, .ref 7, .ref 10, .ref 14, .ref 15, .ref 17, .ref 22, .ref 24, .ref 25, .ref 26, .ref 30, vI 0]) dX11_init_213 rfl fl_X11_92 rfl rfl ?_
  refine sx_iload_n (p1 := 217) dX11_init_216 rfl rfl ?_
  refine sx_new (p1 := 220) (a1 := 35) (k1 := 33) (n1 := 461) (h1 := [.inr (11, [.ref 3, .ref 5, .ref 7, .ref 10, .ref 14, .ref 15, .ref 17, .ref 22, .ref 24, .ref 25, .ref 26, .ref 30, vI 0]), zc3, zc4, zc5, zc6, zc7, zc8, zc9, zc10, zc11, zc12, zc13, zc14, zc15, zc16, zc17, zc18, zc19, zc20, zc21, zc22, zc23, zc24, zc25, zc26, zc27, zc28, zc29, .inl (4, 4, .inr (.inr (.inr (.inr (va_up (va_up (fun _ => none) 0 (some 31)) 1 (some 33)))))), zc31, zc32, zc33, zc34, .inr (7, [.null, vI 0, vI 0])]) dX11_init_217 rfl clX7 kl_X11_90 itX7 in_RX7 dfX7 (fun _ => rfl) rfl rfl (Nat.le_of_ble_eq_true rfl) (Nat.le_of_ble_eq_true rfl) rfl rfl ?_
  refine sx_dup (p1 := 221) dX11_init_220 rfl rfl ?_
  refine sx_callIN (p1 := 224) (As := []) (k1 := 34) (n1 := 521) dX11_init_221 rfl rfl (k_X7_init_35) mt_X7_init ml_X11_96 (Nat.le_of_ble_eq_true rfl) rfl (Nat.le_of_ble_eq_true rfl) rfl rfl (Nat.le_of_ble_eq_true rfl) (Nat.le_of_ble_eq_true rfl) ?_
  refine (show Rn X RX11 true cX11_init 2 2 36 584 none 224 [some (.ref 2), some (vI 2)] [.ref 35, vI 2, .ref 30] [.inr (11, [.ref 3, .ref 5, .ref 7, .ref 10, .ref 14, .ref 15, .ref 17, .ref 22, .ref 24, .ref 25, .ref 26, .ref 30, vI 0]), zc3, zc4, zc5, zc6, zc7, zc8, zc9, zc10, zc11, zc12, zc13, zc14, zc15, zc16, zc17, zc18, zc19, zc20, zc21, zc22, zc23, zc24, zc25, zc26, zc27, zc28, zc29, .inl (4, 4, .inr (.inr (.inr (.inr (va_up (va_up (fun _ => none) 0 (some 31)) 1 (some 33)))))), zc31, zc32, zc33, zc34, zc35, zc36] 34 521 _ from ?_)
  refine sx_aast (p1 := 225) (a := 30) (qv := 33) (N := 4) (f := va_up (va_up (fun _ => none) 0 (some 31)) 1 (some 33)) (ci := 7) (vs := [.ref 36, vI (-1), vI 0]) (h1 := [.inr (11, [.ref 3, .ref 5, .ref 7, .ref 10, .ref 14, .ref 15, .ref 17, .ref 22, .ref 24, .ref 25, .ref 26, .ref 30, vI 0]), zc3, zc4, zc5, zc6, zc7, zc8, zc9, zc10, zc11, zc12, zc13, zc14, zc15, zc16, zc17, zc18, zc19, zc20, zc21, zc22, zc23, zc24, zc25, zc26, zc27, zc28, zc29, .inl (4, 4, .inr (.inr (.inr (.inr (va_up (va_up (va_up (fun _ => none) 0 (some 31)) 1 (some 33)) 2 (some 35)))))), zc31, zc32, zc33, zc34, zc35, zc36]) dX11_init_224 rfl rfl (by decide) (by decide) rfl rfl rfl rfl ?_
  refine sx_iinc (lo1 := [some _, some _]) (p1 := 228) dX11_init_225 rfl (by decide) rfl rfl ?_
  rw [show (2 : Int) + 1 = 3 from rfl]
  refine sx_goto (p1 := 203) (tg := 203) dX11_init_228 rfl rfl ?_
  refine sx_iload_n (p1 := 204) dX11_init_203 rfl rfl ?_
  refine sx_aload_n (p1 := 205) dX11_init_204 rfl rfl ?_
  refine sx_get (p1 := 208) (v := .ref 30) (fs := [.ref 3, .ref 5, .ref 7, .ref 10, .ref 14, .ref 15, .ref 17, .ref 22, .ref 24, .ref 25, .ref 26, .ref 30, vI 0]) dX11_init_205 rfl fl_X11_92 rfl rfl ?_
  refine sx_alen (p1 := 209) (t := 4) (N := 4) dX11_init_208 rfl rfl (fun _ => rfl) ?_
  refine sx_icmp_ge (p1 := 212) (tg := 231) dX11_init_209 rfl rfl (by omega) (by omega) (fun q => absurd q (by omega)) (fun _ => ?_)
  refine sx_aload_n (p1 := 213) dX11_init_212 rfl rfl ?_
  refine sx_get (p1 := 216) (v := .ref 30) (fs := [.ref 3, .ref 5, .ref 7, .ref 10, .ref 14, .ref 15, .ref 17, .ref 22, .ref 24, .ref 25, .ref 26, .ref 30, vI 0]) dX11_init_213 rfl fl_X11_92 rfl rfl ?_
  refine sx_iload_n (p1 := 217) dX11_init_216 rfl rfl ?_
  refine sx_new (p1 := 220) (a1 := 37) (k1 := 35) (n1 := 524) (h1 := [.inr (11, [.ref 3, .ref 5, .ref 7, .ref 10, .ref 14, .ref 15, .ref 17, .ref 22, .ref 24, .ref 25, .ref 26, .ref 30, vI 0]), zc3, zc4, zc5, zc6, zc7, zc8, zc9, zc10, zc11, zc12, zc13, zc14, zc15, zc16, zc17, zc18, zc19, zc20, zc21, zc22, zc23, zc24, zc25, zc26, zc27, zc28, zc29, .inl (4, 4, .inr (.inr (.inr (.inr (va_up (va_up (va_up (fun _ => none) 0 (some 31)) 1 (some 33)) 2 (some 35)))))), zc31, zc32, zc33, zc34, zc35, zc36, .inr (7, [.null, vI 0, vI 0])]) dX11_init_217 rfl clX7 kl_X11_90 itX7 in_RX7 dfX7 (fun _ => rfl) rfl rfl (Nat.le_of_ble_eq_true rfl) (Nat.le_of_ble_eq_true rfl) rfl rfl ?_
  refine sx_dup (p1 := 221) dX11_init_220 rfl rfl ?_
  refine sx_callIN (p1 := 224) (As := []) (k1 := 36) (n1 := 584) dX11_init_221 rfl rfl (k_X7_init_37) mt_X7_init ml_X11_96 (Nat.le_of_ble_eq_true rfl) rfl (Nat.le_of_ble_eq_true rfl) rfl rfl (Nat.le_of_ble_eq_true rfl) (Nat.le_of_ble_eq_true rfl) ?_
  refine (show Rn X RX11 true cX11_init 2 2 36 584 none 224 [some (.ref 2), some (vI 3)] [.ref 37, vI 3, .ref 30] [.inr (11, [.ref 3, .ref 5, .ref 7, .ref 10, .ref 14, .ref 15, .ref 17, .ref 22, .ref 24, .ref 25, .ref 26, .ref 30, vI 0]), zc3, zc4, zc5, zc6, zc7, zc8, zc9, zc10, zc11, zc12, zc13, zc14, zc15, zc16, zc17, zc18, zc19, zc20, zc21, zc22, zc23, zc24, zc25, zc26, zc27, zc28, zc29, .inl (4, 4, .inr (.inr (.inr (.inr (va_up (va_up (va_up (fun _ => none) 0 (some 31)) 1 (some 33)) 2 (some 35)))))), zc31, zc32, zc33, zc34, zc35, zc36, zc37, zc38] 36 584 _ from ?_)
  refine sx_aast (p1 := 225) (a := 30) (qv := 35) (N := 4) (f := va_up (va_up (va_up (fun _ => none) 0 (some 31)) 1 (some 33)) 2 (some 35)) (ci := 7) (vs := [.ref 38, vI (-1), vI 0]) (h1 := [.inr (11, [.ref 3, .ref 5, .ref 7, .ref 10, .ref 14, .ref 15, .ref 17, .ref 22, .ref 24, .ref 25, .ref 26, .ref 30, vI 0]), zc3, zc4, zc5, zc6, zc7, zc8, zc9, zc10, zc11, zc12, zc13, zc14, zc15, zc16, zc17, zc18, zc19, zc20, zc21, zc22, zc23, zc24, zc25, zc26, zc27, zc28, zc29, .inl (4, 4, .inr (.inr (.inr (.inr (va_up (va_up (va_up (va_up (fun _ => none) 0 (some 31)) 1 (some 33)) 2 (some 35)) 3 (some 37)))))), zc31, zc32, zc33, zc34, zc35, zc36, zc37, zc38]) dX11_init_224 rfl rfl (by decide) (by decide) rfl rfl rfl rfl ?_
  refine sx_iinc (lo1 := [some _, some _]) (p1 := 228) dX11_init_225 rfl (by decide) rfl rfl ?_
  rw [show (3 : Int) + 1 = 4 from rfl]
  refine sx_goto (p1 := 203) (tg := 203) dX11_init_228 rfl rfl ?_
  refine sx_iload_n (p1 := 204) dX11_init_203 rfl rfl ?_
  refine sx_aload_n (p1 := 205) dX11_init_204 rfl rfl ?_
  refine sx_get (p1 := 208) (v := .ref 30) (fs := [.ref 3, .ref 5, .ref 7, .ref 10, .ref 14, .ref 15, .ref 17, .ref 22, .ref 24, .ref 25, .ref 26, .ref 30, vI 0]) dX11_init_205 rfl fl_X11_92 rfl rfl ?_
  refine sx_alen (p1 := 209) (t := 4) (N := 4) dX11_init_208 rfl rfl (fun _ => rfl) ?_
  refine sx_icmp_ge (p1 := 212) (tg := 231) dX11_init_209 rfl rfl (by omega) (by omega) (fun _ => ?_) (fun q => absurd q (by omega))
  exact sx_vret dX11_init_231 rfl ⟨rfl, rfl⟩
def zc2 : sx_C := .inr (11, [.ref 3, .ref 5, .ref 7, .ref 10, .ref 14, .ref 15, .ref 17, .ref 22, .ref 24, .ref 25, .ref 26, .ref 30, vI 0])
def zc30 : sx_C := .inl (4, 4, .inr (.inr (.inr (.inr (va_up (va_up (va_up (va_up (fun _ => none) 0 (some 31)) 1 (some 33)) 2 (some 35)) 3 (some 37))))))
def zH : sx_H := [zc2, zc3, zc4, zc5, zc6, zc7, zc8, zc9, zc10, zc11, zc12, zc13, zc14, zc15, zc16, zc17, zc18, zc19, zc20, zc21, zc22, zc23, zc24, zc25, zc26, zc27, zc28, zc29, zc30, zc31, zc32, zc33, zc34, zc35, zc36, zc37, zc38]
def S00 : St := (fun k => match k with
  | 3 => -1
  | 5 => -1
  | 6 => 1
  | 8 => 16
  | 10 => 1999
  | 11 => 1
  | 16 => -1
  | 18 => -1
  | 20 => -1
  | 22 => -1
  | _ => 0, fun _ _ => 0)
def S0 : St := sa (sa (sa (sa (sa (sa (sa (sa S00 40 0 (-1)) 40 1 (-1)) 40 2 (-1)) 40 3 (-1)) 51 0 1) 51 2 16) 51 4 1999) 51 5 1
set_option maxRecDepth 20000 in
theorem zH_hp : ([zc2, zc3, zc4, zc5, zc6, zc7, zc8, zc9, zc10, zc11, zc12, zc13, zc14, zc15, zc16, zc17, zc18, zc19, zc20, zc21, zc22, zc23, zc24, zc25, zc26, zc27, zc28, zc29, zc30, zc31, zc32, zc33, zc34, zc35, zc36, zc37, zc38, .inr (12, [.ref 40, .ref 41, .ref 42, .ref 43, vI 0, .ref 44, .ref 45, vI 0, vI 0, .ref 46, .ref 47, vI 0, .ref 48, .ref 49, .ref 50, .ref 51, .ref 52, vI 0, vI 0, .ref 53, vI 0, vI 0, vI 0, vI 0, .ref 54, vI 0]), .inl (0, 4, .inl (fun _ => Int32.ofInt 0)), .inl (0, 4, .inl (fun _ => Int32.ofInt 0)), .inl (0, 240, .inl (fun _ => Int32.ofInt 0)), .inl (0, 60, .inl (fun _ => Int32.ofInt 0)), .inl (0, 80, .inl (fun _ => Int32.ofInt 0)), .inl (0, 2, .inl (fun _ => Int32.ofInt 0)), .inl (0, 16, .inl (fun _ => Int32.ofInt 0)), .inl (0, 16, .inl (fun _ => Int32.ofInt 0)), .inl (0, 6, .inl (fun _ => Int32.ofInt 0)), .inl (0, 6, .inl (fun _ => Int32.ofInt 0)), .inl (3, 6, .inl (fun _ => Int32.ofInt 0)), .inl (0, 6, .inl (fun _ => Int32.ofInt 0)), .inl (0, 6, .inl (fun _ => Int32.ofInt 0)), .inl (0, 6, .inl (fun _ => Int32.ofInt 0)), .inl (0, 24, .inl (fun _ => Int32.ofInt 0))] : sx_H) = hp S00 := rfl
set_option maxRecDepth 20000 in
theorem k_X12_init {X : sx_X} : Ct X yX12_init cX12_init 2 none 1 15 482 [.ref 39] [zc2, zc3, zc4, zc5, zc6, zc7, zc8, zc9, zc10, zc11, zc12, zc13, zc14, zc15, zc16, zc17, zc18, zc19, zc20, zc21, zc22, zc23, zc24, zc25, zc26, zc27, zc28, zc29, zc30, zc31, zc32, zc33, zc34, zc35, zc36, zc37, zc38, .inr (12, [.null, .null, .null, .null, vI 0, .null, .null, vI 0, vI 0, .null, .null, vI 0, .null, .null, .null, .null, .null, vI 0, vI 0, .null, vI 0, vI 0, vI 0, vI 0, .null, vI 0])] (sx_is none (hp S0)) := by
  refine Ct.of true [some (.ref 39), none] (plainFor_of_name (by decide)) (fun _ => rfl) (Nat.le_of_ble_eq_true rfl) (fun _ => rfl) (fun _ _ q => by rw [q.2]; rfl) ?_
  refine sx_aload_n (p1 := 1) dX12_init_0 rfl rfl ?_
  refine sx_obj (p1 := 4) dX12_init_1 rfl ml_X12_1 im_obj co_obj (Nat.le_of_ble_eq_true rfl) (Nat.le_of_ble_eq_true rfl) ?_
  refine sx_aload_n (p1 := 5) dX12_init_4 rfl rfl ?_
  refine sx_iconst (p1 := 6) dX12_init_5 rfl ?_
  refine sx_newI (N := 4) (p1 := 8) (a1 := 40) (k1 := 1) (n1 := 4) (h1 := [zc2, zc3, zc4, zc5, zc6, zc7, zc8, zc9, zc10, zc11, zc12, zc13, zc14, zc15, zc16, zc17, zc18, zc19, zc20, zc21, zc22, zc23, zc24, zc25, zc26, zc27, zc28, zc29, zc30, zc31, zc32, zc33, zc34, zc35, zc36, zc37, zc38, .inr (12, [.null, .null, .null, .null, vI 0, .null, .null, vI 0, vI 0, .null, .null, vI 0, .null, .null, .null, .null, .null, vI 0, vI 0, .null, vI 0, vI 0, vI 0, vI 0, .null, vI 0]), .inl (0, 4, .inl (fun _ => Int32.ofInt 0))]) dX12_init_6 rfl ac_int (Nat.le_of_ble_eq_true rfl) rfl rfl (Nat.le_of_ble_eq_true rfl) (Nat.le_of_ble_eq_true rfl) rfl rfl ?_
  refine sx_putF (p1 := 11) (fs := [.null, .null, .null, .null, vI 0, .null, .null, vI 0, vI 0, .null, .null, vI 0, .null, .null, .null, .null, .null, vI 0, vI 0, .null, vI 0, vI 0, vI 0, vI 0, .null, vI 0]) (h1 := [zc2, zc3, zc4, zc5, zc6, zc7, zc8, zc9, zc10, zc11, zc12, zc13, zc14, zc15, zc16, zc17, zc18, zc19, zc20, zc21, zc22, zc23, zc24, zc25, zc26, zc27, zc28, zc29, zc30, zc31, zc32, zc33, zc34, zc35, zc36, zc37, zc38, .inr (12, [.ref 40, .null, .null, .null, vI 0, .null, .null, vI 0, vI 0, .null, .null, vI 0, .null, .null, .null, .null, .null, vI 0, vI 0, .null, vI 0, vI 0, vI 0, vI 0, .null, vI 0]), .inl (0, 4, .inl (fun _ => Int32.ofInt 0))]) dX12_init_8 rfl fl_X12_7 rfl rfl (Nat.le_of_ble_eq_true rfl) (fun _ => rfl) (fun _ => rfl) rfl ?_
  refine sx_aload_n (p1 := 12) dX12_init_11 rfl rfl ?_
  refine sx_iconst (p1 := 13) dX12_init_12 rfl ?_
  refine sx_newI (N := 4) (p1 := 15) (a1 := 41) (k1 := 2) (n1 := 8) (h1 := [zc2, zc3, zc4, zc5, zc6, zc7, zc8, zc9, zc10, zc11, zc12, zc13, zc14, zc15, zc16, zc17, zc18, zc19, zc20, zc21, zc22, zc23, zc24, zc25, zc26, zc27, zc28, zc29, zc30, zc31, zc32, zc33, zc34, zc35, zc36, zc37, zc38, .inr (12, [.ref 40, .null, .null, .null, vI 0, .null, .null, vI 0, vI 0, .null, .null, vI 0, .null, .null, .null, .null, .null, vI 0, vI 0, .null, vI 0, vI 0, vI 0, vI 0, .null, vI 0]), .inl (0, 4, .inl (fun _ => Int32.ofInt 0)), .inl (0, 4, .inl (fun _ => Int32.ofInt 0))]) dX12_init_13 rfl ac_int (Nat.le_of_ble_eq_true rfl) rfl rfl (Nat.le_of_ble_eq_true rfl) (Nat.le_of_ble_eq_true rfl) rfl rfl ?_
  refine sx_putF (p1 := 18) (fs := [.ref 40, .null, .null, .null, vI 0, .null, .null, vI 0, vI 0, .null, .null, vI 0, .null, .null, .null, .null, .null, vI 0, vI 0, .null, vI 0, vI 0, vI 0, vI 0, .null, vI 0]) (h1 := [zc2, zc3, zc4, zc5, zc6, zc7, zc8, zc9, zc10, zc11, zc12, zc13, zc14, zc15, zc16, zc17, zc18, zc19, zc20, zc21, zc22, zc23, zc24, zc25, zc26, zc27, zc28, zc29, zc30, zc31, zc32, zc33, zc34, zc35, zc36, zc37, zc38, .inr (12, [.ref 40, .ref 41, .null, .null, vI 0, .null, .null, vI 0, vI 0, .null, .null, vI 0, .null, .null, .null, .null, .null, vI 0, vI 0, .null, vI 0, vI 0, vI 0, vI 0, .null, vI 0]), .inl (0, 4, .inl (fun _ => Int32.ofInt 0)), .inl (0, 4, .inl (fun _ => Int32.ofInt 0))]) dX12_init_15 rfl fl_X12_13 rfl rfl (Nat.le_of_ble_eq_true rfl) (fun _ => rfl) (fun _ => rfl) rfl ?_
  refine sx_aload_n (p1 := 19) dX12_init_18 rfl rfl ?_
  refine sx_sipush (p1 := 22) dX12_init_19 rfl (by decide) ?_
  refine sx_newI (N := 240) (p1 := 24) (a1 := 42) (k1 := 3) (n1 := 248) (h1 := [zc2, zc3, zc4, zc5, zc6, zc7, zc8, zc9, zc10, zc11, zc12, zc13, zc14, zc15, zc16, zc17, zc18, zc19, zc20, zc21, zc22, zc23, zc24, zc25, zc26, zc27, zc28, zc29, zc30, zc31, zc32, zc33, zc34, zc35, zc36, zc37, zc38, .inr (12, [.ref 40, .ref 41, .null, .null, vI 0, .null, .null, vI 0, vI 0, .null, .null, vI 0, .null, .null, .null, .null, .null, vI 0, vI 0, .null, vI 0, vI 0, vI 0, vI 0, .null, vI 0]), .inl (0, 4, .inl (fun _ => Int32.ofInt 0)), .inl (0, 4, .inl (fun _ => Int32.ofInt 0)), .inl (0, 240, .inl (fun _ => Int32.ofInt 0))]) dX12_init_22 rfl ac_int (Nat.le_of_ble_eq_true rfl) rfl rfl (Nat.le_of_ble_eq_true rfl) (Nat.le_of_ble_eq_true rfl) rfl rfl ?_
  refine sx_putF (p1 := 27) (fs := [.ref 40, .ref 41, .null, .null, vI 0, .null, .null, vI 0, vI 0, .null, .null, vI 0, .null, .null, .null, .null, .null, vI 0, vI 0, .null, vI 0, vI 0, vI 0, vI 0, .null, vI 0]) (h1 := [zc2, zc3, zc4, zc5, zc6, zc7, zc8, zc9, zc10, zc11, zc12, zc13, zc14, zc15, zc16, zc17, zc18, zc19, zc20, zc21, zc22, zc23, zc24, zc25, zc26, zc27, zc28, zc29, zc30, zc31, zc32, zc33, zc34, zc35, zc36, zc37, zc38, .inr (12, [.ref 40, .ref 41, .ref 42, .null, vI 0, .null, .null, vI 0, vI 0, .null, .null, vI 0, .null, .null, .null, .null, .null, vI 0, vI 0, .null, vI 0, vI 0, vI 0, vI 0, .null, vI 0]), .inl (0, 4, .inl (fun _ => Int32.ofInt 0)), .inl (0, 4, .inl (fun _ => Int32.ofInt 0)), .inl (0, 240, .inl (fun _ => Int32.ofInt 0))]) dX12_init_24 rfl fl_X12_16 rfl rfl (Nat.le_of_ble_eq_true rfl) (fun _ => rfl) (fun _ => rfl) rfl ?_
  refine sx_aload_n (p1 := 28) dX12_init_27 rfl rfl ?_
  refine sx_bipush (p1 := 30) dX12_init_28 rfl (by decide) ?_
  refine sx_newI (N := 60) (p1 := 32) (a1 := 43) (k1 := 4) (n1 := 308) (h1 := [zc2, zc3, zc4, zc5, zc6, zc7, zc8, zc9, zc10, zc11, zc12, zc13, zc14, zc15, zc16, zc17, zc18, zc19, zc20, zc21, zc22, zc23, zc24, zc25, zc26, zc27, zc28, zc29, zc30, zc31, zc32, zc33, zc34, zc35, zc36, zc37, zc38, .inr (12, [.ref 40, .ref 41, .ref 42, .null, vI 0, .null, .null, vI 0, vI 0, .null, .null, vI 0, .null, .null, .null, .null, .null, vI 0, vI 0, .null, vI 0, vI 0, vI 0, vI 0, .null, vI 0]), .inl (0, 4, .inl (fun _ => Int32.ofInt 0)), .inl (0, 4, .inl (fun _ => Int32.ofInt 0)), .inl (0, 240, .inl (fun _ => Int32.ofInt 0)), .inl (0, 60, .inl (fun _ => Int32.ofInt 0))]) dX12_init_30 rfl ac_int (Nat.le_of_ble_eq_true rfl) rfl rfl (Nat.le_of_ble_eq_true rfl) (Nat.le_of_ble_eq_true rfl) rfl rfl ?_
  refine sx_putF (p1 := 35) (fs := [.ref 40, .ref 41, .ref 42, .null, vI 0, .null, .null, vI 0, vI 0, .null, .null, vI 0, .null, .null, .null, .null, .null, vI 0, vI 0, .null, vI 0, vI 0, vI 0, vI 0, .null, vI 0]) (h1 := [zc2, zc3, zc4, zc5, zc6, zc7, zc8, zc9, zc10, zc11, zc12, zc13, zc14, zc15, zc16, zc17, zc18, zc19, zc20, zc21, zc22, zc23, zc24, zc25, zc26, zc27, zc28, zc29, zc30, zc31, zc32, zc33, zc34, zc35, zc36, zc37, zc38, .inr (12, [.ref 40, .ref 41, .ref 42, .ref 43, vI 0, .null, .null, vI 0, vI 0, .null, .null, vI 0, .null, .null, .null, .null, .null, vI 0, vI 0, .null, vI 0, vI 0, vI 0, vI 0, .null, vI 0]), .inl (0, 4, .inl (fun _ => Int32.ofInt 0)), .inl (0, 4, .inl (fun _ => Int32.ofInt 0)), .inl (0, 240, .inl (fun _ => Int32.ofInt 0)), .inl (0, 60, .inl (fun _ => Int32.ofInt 0))]) dX12_init_32 rfl fl_X12_19 rfl rfl (Nat.le_of_ble_eq_true rfl) (fun _ => rfl) (fun _ => rfl) rfl ?_
  refine sx_aload_n (p1 := 36) dX12_init_35 rfl rfl ?_
  refine sx_bipush (p1 := 38) dX12_init_36 rfl (by decide) ?_
  refine sx_newI (N := 80) (p1 := 40) (a1 := 44) (k1 := 5) (n1 := 388) (h1 := [zc2, zc3, zc4, zc5, zc6, zc7, zc8, zc9, zc10, zc11, zc12, zc13, zc14, zc15, zc16, zc17, zc18, zc19, zc20, zc21, zc22, zc23, zc24, zc25, zc26, zc27, zc28, zc29, zc30, zc31, zc32, zc33, zc34, zc35, zc36, zc37, zc38, .inr (12, [.ref 40, .ref 41, .ref 42, .ref 43, vI 0, .null, .null, vI 0, vI 0, .null, .null, vI 0, .null, .null, .null, .null, .null, vI 0, vI 0, .null, vI 0, vI 0, vI 0, vI 0, .null, vI 0]), .inl (0, 4, .inl (fun _ => Int32.ofInt 0)), .inl (0, 4, .inl (fun _ => Int32.ofInt 0)), .inl (0, 240, .inl (fun _ => Int32.ofInt 0)), .inl (0, 60, .inl (fun _ => Int32.ofInt 0)), .inl (0, 80, .inl (fun _ => Int32.ofInt 0))]) dX12_init_38 rfl ac_int (Nat.le_of_ble_eq_true rfl) rfl rfl (Nat.le_of_ble_eq_true rfl) (Nat.le_of_ble_eq_true rfl) rfl rfl ?_
  refine sx_putF (p1 := 43) (fs := [.ref 40, .ref 41, .ref 42, .ref 43, vI 0, .null, .null, vI 0, vI 0, .null, .null, vI 0, .null, .null, .null, .null, .null, vI 0, vI 0, .null, vI 0, vI 0, vI 0, vI 0, .null, vI 0]) (h1 := [zc2, zc3, zc4, zc5, zc6, zc7, zc8, zc9, zc10, zc11, zc12, zc13, zc14, zc15, zc16, zc17, zc18, zc19, zc20, zc21, zc22, zc23, zc24, zc25, zc26, zc27, zc28, zc29, zc30, zc31, zc32, zc33, zc34, zc35, zc36, zc37, zc38, .inr (12, [.ref 40, .ref 41, .ref 42, .ref 43, vI 0, .ref 44, .null, vI 0, vI 0, .null, .null, vI 0, .null, .null, .null, .null, .null, vI 0, vI 0, .null, vI 0, vI 0, vI 0, vI 0, .null, vI 0]), .inl (0, 4, .inl (fun _ => Int32.ofInt 0)), .inl (0, 4, .inl (fun _ => Int32.ofInt 0)), .inl (0, 240, .inl (fun _ => Int32.ofInt 0)), .inl (0, 60, .inl (fun _ => Int32.ofInt 0)), .inl (0, 80, .inl (fun _ => Int32.ofInt 0))]) dX12_init_40 rfl fl_X12_22 rfl rfl (Nat.le_of_ble_eq_true rfl) (fun _ => rfl) (fun _ => rfl) rfl ?_
  refine sx_aload_n (p1 := 44) dX12_init_43 rfl rfl ?_
  refine sx_iconst (p1 := 45) dX12_init_44 rfl ?_
  refine sx_newI (N := 2) (p1 := 47) (a1 := 45) (k1 := 6) (n1 := 390) (h1 := [zc2, zc3, zc4, zc5, zc6, zc7, zc8, zc9, zc10, zc11, zc12, zc13, zc14, zc15, zc16, zc17, zc18, zc19, zc20, zc21, zc22, zc23, zc24, zc25, zc26, zc27, zc28, zc29, zc30, zc31, zc32, zc33, zc34, zc35, zc36, zc37, zc38, .inr (12, [.ref 40, .ref 41, .ref 42, .ref 43, vI 0, .ref 44, .null, vI 0, vI 0, .null, .null, vI 0, .null, .null, .null, .null, .null, vI 0, vI 0, .null, vI 0, vI 0, vI 0, vI 0, .null, vI 0]), .inl (0, 4, .inl (fun _ => Int32.ofInt 0)), .inl (0, 4, .inl (fun _ => Int32.ofInt 0)), .inl (0, 240, .inl (fun _ => Int32.ofInt 0)), .inl (0, 60, .inl (fun _ => Int32.ofInt 0)), .inl (0, 80, .inl (fun _ => Int32.ofInt 0)), .inl (0, 2, .inl (fun _ => Int32.ofInt 0))]) dX12_init_45 rfl ac_int (Nat.le_of_ble_eq_true rfl) rfl rfl (Nat.le_of_ble_eq_true rfl) (Nat.le_of_ble_eq_true rfl) rfl rfl ?_
  refine sx_putF (p1 := 50) (fs := [.ref 40, .ref 41, .ref 42, .ref 43, vI 0, .ref 44, .null, vI 0, vI 0, .null, .null, vI 0, .null, .null, .null, .null, .null, vI 0, vI 0, .null, vI 0, vI 0, vI 0, vI 0, .null, vI 0]) (h1 := [zc2, zc3, zc4, zc5, zc6, zc7, zc8, zc9, zc10, zc11, zc12, zc13, zc14, zc15, zc16, zc17, zc18, zc19, zc20, zc21, zc22, zc23, zc24, zc25, zc26, zc27, zc28, zc29, zc30, zc31, zc32, zc33, zc34, zc35, zc36, zc37, zc38, .inr (12, [.ref 40, .ref 41, .ref 42, .ref 43, vI 0, .ref 44, .ref 45, vI 0, vI 0, .null, .null, vI 0, .null, .null, .null, .null, .null, vI 0, vI 0, .null, vI 0, vI 0, vI 0, vI 0, .null, vI 0]), .inl (0, 4, .inl (fun _ => Int32.ofInt 0)), .inl (0, 4, .inl (fun _ => Int32.ofInt 0)), .inl (0, 240, .inl (fun _ => Int32.ofInt 0)), .inl (0, 60, .inl (fun _ => Int32.ofInt 0)), .inl (0, 80, .inl (fun _ => Int32.ofInt 0)), .inl (0, 2, .inl (fun _ => Int32.ofInt 0))]) dX12_init_47 rfl fl_X12_25 rfl rfl (Nat.le_of_ble_eq_true rfl) (fun _ => rfl) (fun _ => rfl) rfl ?_
  refine sx_aload_n (p1 := 51) dX12_init_50 rfl rfl ?_
  refine sx_bipush (p1 := 53) dX12_init_51 rfl (by decide) ?_
  refine sx_newI (N := 16) (p1 := 55) (a1 := 46) (k1 := 7) (n1 := 406) (h1 := [zc2, zc3, zc4, zc5, zc6, zc7, zc8, zc9, zc10, zc11, zc12, zc13, zc14, zc15, zc16, zc17, zc18, zc19, zc20, zc21, zc22, zc23, zc24, zc25, zc26, zc27, zc28, zc29, zc30, zc31, zc32, zc33, zc34, zc35, zc36, zc37, zc38, .inr (12, [.ref 40, .ref 41, .ref 42, .ref 43, vI 0, .ref 44, .ref 45, vI 0, vI 0, .null, .null, vI 0, .null, .null, .null, .null, .null, vI 0, vI 0, .null, vI 0, vI 0, vI 0, vI 0, .null, vI 0]), .inl (0, 4, .inl (fun _ => Int32.ofInt 0)), .inl (0, 4, .inl (fun _ => Int32.ofInt 0)), .inl (0, 240, .inl (fun _ => Int32.ofInt 0)), .inl (0, 60, .inl (fun _ => Int32.ofInt 0)), .inl (0, 80, .inl (fun _ => Int32.ofInt 0)), .inl (0, 2, .inl (fun _ => Int32.ofInt 0)), .inl (0, 16, .inl (fun _ => Int32.ofInt 0))]) dX12_init_53 rfl ac_int (Nat.le_of_ble_eq_true rfl) rfl rfl (Nat.le_of_ble_eq_true rfl) (Nat.le_of_ble_eq_true rfl) rfl rfl ?_
  refine sx_putF (p1 := 58) (fs := [.ref 40, .ref 41, .ref 42, .ref 43, vI 0, .ref 44, .ref 45, vI 0, vI 0, .null, .null, vI 0, .null, .null, .null, .null, .null, vI 0, vI 0, .null, vI 0, vI 0, vI 0, vI 0, .null, vI 0]) (h1 := [zc2, zc3, zc4, zc5, zc6, zc7, zc8, zc9, zc10, zc11, zc12, zc13, zc14, zc15, zc16, zc17, zc18, zc19, zc20, zc21, zc22, zc23, zc24, zc25, zc26, zc27, zc28, zc29, zc30, zc31, zc32, zc33, zc34, zc35, zc36, zc37, zc38, .inr (12, [.ref 40, .ref 41, .ref 42, .ref 43, vI 0, .ref 44, .ref 45, vI 0, vI 0, .ref 46, .null, vI 0, .null, .null, .null, .null, .null, vI 0, vI 0, .null, vI 0, vI 0, vI 0, vI 0, .null, vI 0]), .inl (0, 4, .inl (fun _ => Int32.ofInt 0)), .inl (0, 4, .inl (fun _ => Int32.ofInt 0)), .inl (0, 240, .inl (fun _ => Int32.ofInt 0)), .inl (0, 60, .inl (fun _ => Int32.ofInt 0)), .inl (0, 80, .inl (fun _ => Int32.ofInt 0)), .inl (0, 2, .inl (fun _ => Int32.ofInt 0)), .inl (0, 16, .inl (fun _ => Int32.ofInt 0))]) dX12_init_55 rfl fl_X12_28 rfl rfl (Nat.le_of_ble_eq_true rfl) (fun _ => rfl) (fun _ => rfl) rfl ?_
  refine sx_aload_n (p1 := 59) dX12_init_58 rfl rfl ?_
  refine sx_bipush (p1 := 61) dX12_init_59 rfl (by decide) ?_
  refine sx_newI (N := 16) (p1 := 63) (a1 := 47) (k1 := 8) (n1 := 422) (h1 := [zc2, zc3, zc4, zc5, zc6, zc7, zc8, zc9, zc10, zc11, zc12, zc13, zc14, zc15, zc16, zc17, zc18, zc19, zc20, zc21, zc22, zc23, zc24, zc25, zc26, zc27, zc28, zc29, zc30, zc31, zc32, zc33, zc34, zc35, zc36, zc37, zc38, .inr (12, [.ref 40, .ref 41, .ref 42, .ref 43, vI 0, .ref 44, .ref 45, vI 0, vI 0, .ref 46, .null, vI 0, .null, .null, .null, .null, .null, vI 0, vI 0, .null, vI 0, vI 0, vI 0, vI 0, .null, vI 0]), .inl (0, 4, .inl (fun _ => Int32.ofInt 0)), .inl (0, 4, .inl (fun _ => Int32.ofInt 0)), .inl (0, 240, .inl (fun _ => Int32.ofInt 0)), .inl (0, 60, .inl (fun _ => Int32.ofInt 0)), .inl (0, 80, .inl (fun _ => Int32.ofInt 0)), .inl (0, 2, .inl (fun _ => Int32.ofInt 0)), .inl (0, 16, .inl (fun _ => Int32.ofInt 0)), .inl (0, 16, .inl (fun _ => Int32.ofInt 0))]) dX12_init_61 rfl ac_int (Nat.le_of_ble_eq_true rfl) rfl rfl (Nat.le_of_ble_eq_true rfl) (Nat.le_of_ble_eq_true rfl) rfl rfl ?_
  refine sx_putF (p1 := 66) (fs := [.ref 40, .ref 41, .ref 42, .ref 43, vI 0, .ref 44, .ref 45, vI 0, vI 0, .ref 46, .null, vI 0, .null, .null, .null, .null, .null, vI 0, vI 0, .null, vI 0, vI 0, vI 0, vI 0, .null, vI 0]) (h1 := [zc2, zc3, zc4, zc5, zc6, zc7, zc8, zc9, zc10, zc11, zc12, zc13, zc14, zc15, zc16, zc17, zc18, zc19, zc20, zc21, zc22, zc23, zc24, zc25, zc26, zc27, zc28, zc29, zc30, zc31, zc32, zc33, zc34, zc35, zc36, zc37, zc38, .inr (12, [.ref 40, .ref 41, .ref 42, .ref 43, vI 0, .ref 44, .ref 45, vI 0, vI 0, .ref 46, .ref 47, vI 0, .null, .null, .null, .null, .null, vI 0, vI 0, .null, vI 0, vI 0, vI 0, vI 0, .null, vI 0]), .inl (0, 4, .inl (fun _ => Int32.ofInt 0)), .inl (0, 4, .inl (fun _ => Int32.ofInt 0)), .inl (0, 240, .inl (fun _ => Int32.ofInt 0)), .inl (0, 60, .inl (fun _ => Int32.ofInt 0)), .inl (0, 80, .inl (fun _ => Int32.ofInt 0)), .inl (0, 2, .inl (fun _ => Int32.ofInt 0)), .inl (0, 16, .inl (fun _ => Int32.ofInt 0)), .inl (0, 16, .inl (fun _ => Int32.ofInt 0))]) dX12_init_63 rfl fl_X12_31 rfl rfl (Nat.le_of_ble_eq_true rfl) (fun _ => rfl) (fun _ => rfl) rfl ?_
  refine sx_aload_n (p1 := 67) dX12_init_66 rfl rfl ?_
  refine sx_bipush (p1 := 69) dX12_init_67 rfl (by decide) ?_
  refine sx_newI (N := 6) (p1 := 71) (a1 := 48) (k1 := 9) (n1 := 428) (h1 := [zc2, zc3, zc4, zc5, zc6, zc7, zc8, zc9, zc10, zc11, zc12, zc13, zc14, zc15, zc16, zc17, zc18, zc19, zc20, zc21, zc22, zc23, zc24, zc25, zc26, zc27, zc28, zc29, zc30, zc31, zc32, zc33, zc34, zc35, zc36, zc37, zc38, .inr (12, [.ref 40, .ref 41, .ref 42, .ref 43, vI 0, .ref 44, .ref 45, vI 0, vI 0, .ref 46, .ref 47, vI 0, .null, .null, .null, .null, .null, vI 0, vI 0, .null, vI 0, vI 0, vI 0, vI 0, .null, vI 0]), .inl (0, 4, .inl (fun _ => Int32.ofInt 0)), .inl (0, 4, .inl (fun _ => Int32.ofInt 0)), .inl (0, 240, .inl (fun _ => Int32.ofInt 0)), .inl (0, 60, .inl (fun _ => Int32.ofInt 0)), .inl (0, 80, .inl (fun _ => Int32.ofInt 0)), .inl (0, 2, .inl (fun _ => Int32.ofInt 0)), .inl (0, 16, .inl (fun _ => Int32.ofInt 0)), .inl (0, 16, .inl (fun _ => Int32.ofInt 0)), .inl (0, 6, .inl (fun _ => Int32.ofInt 0))]) dX12_init_69 rfl ac_int (Nat.le_of_ble_eq_true rfl) rfl rfl (Nat.le_of_ble_eq_true rfl) (Nat.le_of_ble_eq_true rfl) rfl rfl ?_
  refine sx_putF (p1 := 74) (fs := [.ref 40, .ref 41, .ref 42, .ref 43, vI 0, .ref 44, .ref 45, vI 0, vI 0, .ref 46, .ref 47, vI 0, .null, .null, .null, .null, .null, vI 0, vI 0, .null, vI 0, vI 0, vI 0, vI 0, .null, vI 0]) (h1 := [zc2, zc3, zc4, zc5, zc6, zc7, zc8, zc9, zc10, zc11, zc12, zc13, zc14, zc15, zc16, zc17, zc18, zc19, zc20, zc21, zc22, zc23, zc24, zc25, zc26, zc27, zc28, zc29, zc30, zc31, zc32, zc33, zc34, zc35, zc36, zc37, zc38, .inr (12, [.ref 40, .ref 41, .ref 42, .ref 43, vI 0, .ref 44, .ref 45, vI 0, vI 0, .ref 46, .ref 47, vI 0, .ref 48, .null, .null, .null, .null, vI 0, vI 0, .null, vI 0, vI 0, vI 0, vI 0, .null, vI 0]), .inl (0, 4, .inl (fun _ => Int32.ofInt 0)), .inl (0, 4, .inl (fun _ => Int32.ofInt 0)), .inl (0, 240, .inl (fun _ => Int32.ofInt 0)), .inl (0, 60, .inl (fun _ => Int32.ofInt 0)), .inl (0, 80, .inl (fun _ => Int32.ofInt 0)), .inl (0, 2, .inl (fun _ => Int32.ofInt 0)), .inl (0, 16, .inl (fun _ => Int32.ofInt 0)), .inl (0, 16, .inl (fun _ => Int32.ofInt 0)), .inl (0, 6, .inl (fun _ => Int32.ofInt 0))]) dX12_init_71 rfl fl_X12_34 rfl rfl (Nat.le_of_ble_eq_true rfl) (fun _ => rfl) (fun _ => rfl) rfl ?_
  refine sx_aload_n (p1 := 75) dX12_init_74 rfl rfl ?_
  refine sx_bipush (p1 := 77) dX12_init_75 rfl (by decide) ?_
  refine sx_newI (N := 6) (p1 := 79) (a1 := 49) (k1 := 10) (n1 := 434) (h1 := [zc2, zc3, zc4, zc5, zc6, zc7, zc8, zc9, zc10, zc11, zc12, zc13, zc14, zc15, zc16, zc17, zc18, zc19, zc20, zc21, zc22, zc23, zc24, zc25, zc26, zc27, zc28, zc29, zc30, zc31, zc32, zc33, zc34, zc35, zc36, zc37, zc38, .inr (12, [.ref 40, .ref 41, .ref 42, .ref 43, vI 0, .ref 44, .ref 45, vI 0, vI 0, .ref 46, .ref 47, vI 0, .ref 48, .null, .null, .null, .null, vI 0, vI 0, .null, vI 0, vI 0, vI 0, vI 0, .null, vI 0]), .inl (0, 4, .inl (fun _ => Int32.ofInt 0)), .inl (0, 4, .inl (fun _ => Int32.ofInt 0)), .inl (0, 240, .inl (fun _ => Int32.ofInt 0)), .inl (0, 60, .inl (fun _ => Int32.ofInt 0)), .inl (0, 80, .inl (fun _ => Int32.ofInt 0)), .inl (0, 2, .inl (fun _ => Int32.ofInt 0)), .inl (0, 16, .inl (fun _ => Int32.ofInt 0)), .inl (0, 16, .inl (fun _ => Int32.ofInt 0)), .inl (0, 6, .inl (fun _ => Int32.ofInt 0)), .inl (0, 6, .inl (fun _ => Int32.ofInt 0))]) dX12_init_77 rfl ac_int (Nat.le_of_ble_eq_true rfl) rfl rfl (Nat.le_of_ble_eq_true rfl) (Nat.le_of_ble_eq_true rfl) rfl rfl ?_
  refine sx_putF (p1 := 82) (fs := [.ref 40, .ref 41, .ref 42, .ref 43, vI 0, .ref 44, .ref 45, vI 0, vI 0, .ref 46, .ref 47, vI 0, .ref 48, .null, .null, .null, .null, vI 0, vI 0, .null, vI 0, vI 0, vI 0, vI 0, .null, vI 0]) (h1 := [zc2, zc3, zc4, zc5, zc6, zc7, zc8, zc9, zc10, zc11, zc12, zc13, zc14, zc15, zc16, zc17, zc18, zc19, zc20, zc21, zc22, zc23, zc24, zc25, zc26, zc27, zc28, zc29, zc30, zc31, zc32, zc33, zc34, zc35, zc36, zc37, zc38, .inr (12, [.ref 40, .ref 41, .ref 42, .ref 43, vI 0, .ref 44, .ref 45, vI 0, vI 0, .ref 46, .ref 47, vI 0, .ref 48, .ref 49, .null, .null, .null, vI 0, vI 0, .null, vI 0, vI 0, vI 0, vI 0, .null, vI 0]), .inl (0, 4, .inl (fun _ => Int32.ofInt 0)), .inl (0, 4, .inl (fun _ => Int32.ofInt 0)), .inl (0, 240, .inl (fun _ => Int32.ofInt 0)), .inl (0, 60, .inl (fun _ => Int32.ofInt 0)), .inl (0, 80, .inl (fun _ => Int32.ofInt 0)), .inl (0, 2, .inl (fun _ => Int32.ofInt 0)), .inl (0, 16, .inl (fun _ => Int32.ofInt 0)), .inl (0, 16, .inl (fun _ => Int32.ofInt 0)), .inl (0, 6, .inl (fun _ => Int32.ofInt 0)), .inl (0, 6, .inl (fun _ => Int32.ofInt 0))]) dX12_init_79 rfl fl_X12_37 rfl rfl (Nat.le_of_ble_eq_true rfl) (fun _ => rfl) (fun _ => rfl) rfl ?_
  refine sx_aload_n (p1 := 83) dX12_init_82 rfl rfl ?_
  refine sx_bipush (p1 := 85) dX12_init_83 rfl (by decide) ?_
  refine sx_newZ (N := 6) (p1 := 87) (a1 := 50) (k1 := 11) (n1 := 440) (h1 := [zc2, zc3, zc4, zc5, zc6, zc7, zc8, zc9, zc10, zc11, zc12, zc13, zc14, zc15, zc16, zc17, zc18, zc19, zc20, zc21, zc22, zc23, zc24, zc25, zc26, zc27, zc28, zc29, zc30, zc31, zc32, zc33, zc34, zc35, zc36, zc37, zc38, .inr (12, [.ref 40, .ref 41, .ref 42, .ref 43, vI 0, .ref 44, .ref 45, vI 0, vI 0, .ref 46, .ref 47, vI 0, .ref 48, .ref 49, .null, .null, .null, vI 0, vI 0, .null, vI 0, vI 0, vI 0, vI 0, .null, vI 0]), .inl (0, 4, .inl (fun _ => Int32.ofInt 0)), .inl (0, 4, .inl (fun _ => Int32.ofInt 0)), .inl (0, 240, .inl (fun _ => Int32.ofInt 0)), .inl (0, 60, .inl (fun _ => Int32.ofInt 0)), .inl (0, 80, .inl (fun _ => Int32.ofInt 0)), .inl (0, 2, .inl (fun _ => Int32.ofInt 0)), .inl (0, 16, .inl (fun _ => Int32.ofInt 0)), .inl (0, 16, .inl (fun _ => Int32.ofInt 0)), .inl (0, 6, .inl (fun _ => Int32.ofInt 0)), .inl (0, 6, .inl (fun _ => Int32.ofInt 0)), .inl (3, 6, .inl (fun _ => Int32.ofInt 0))]) dX12_init_85 rfl ac_boolean (Nat.le_of_ble_eq_true rfl) rfl rfl (Nat.le_of_ble_eq_true rfl) (Nat.le_of_ble_eq_true rfl) rfl rfl ?_
  refine sx_putF (p1 := 90) (fs := [.ref 40, .ref 41, .ref 42, .ref 43, vI 0, .ref 44, .ref 45, vI 0, vI 0, .ref 46, .ref 47, vI 0, .ref 48, .ref 49, .null, .null, .null, vI 0, vI 0, .null, vI 0, vI 0, vI 0, vI 0, .null, vI 0]) (h1 := [zc2, zc3, zc4, zc5, zc6, zc7, zc8, zc9, zc10, zc11, zc12, zc13, zc14, zc15, zc16, zc17, zc18, zc19, zc20, zc21, zc22, zc23, zc24, zc25, zc26, zc27, zc28, zc29, zc30, zc31, zc32, zc33, zc34, zc35, zc36, zc37, zc38, .inr (12, [.ref 40, .ref 41, .ref 42, .ref 43, vI 0, .ref 44, .ref 45, vI 0, vI 0, .ref 46, .ref 47, vI 0, .ref 48, .ref 49, .ref 50, .null, .null, vI 0, vI 0, .null, vI 0, vI 0, vI 0, vI 0, .null, vI 0]), .inl (0, 4, .inl (fun _ => Int32.ofInt 0)), .inl (0, 4, .inl (fun _ => Int32.ofInt 0)), .inl (0, 240, .inl (fun _ => Int32.ofInt 0)), .inl (0, 60, .inl (fun _ => Int32.ofInt 0)), .inl (0, 80, .inl (fun _ => Int32.ofInt 0)), .inl (0, 2, .inl (fun _ => Int32.ofInt 0)), .inl (0, 16, .inl (fun _ => Int32.ofInt 0)), .inl (0, 16, .inl (fun _ => Int32.ofInt 0)), .inl (0, 6, .inl (fun _ => Int32.ofInt 0)), .inl (0, 6, .inl (fun _ => Int32.ofInt 0)), .inl (3, 6, .inl (fun _ => Int32.ofInt 0))]) dX12_init_87 rfl fl_X12_40 rfl rfl (Nat.le_of_ble_eq_true rfl) (fun _ => rfl) (fun _ => rfl) rfl ?_
  refine sx_aload_n (p1 := 91) dX12_init_90 rfl rfl ?_
  refine sx_bipush (p1 := 93) dX12_init_91 rfl (by decide) ?_
  refine sx_newI (N := 6) (p1 := 95) (a1 := 51) (k1 := 12) (n1 := 446) (h1 := [zc2, zc3, zc4, zc5, zc6, zc7, zc8, zc9, zc10, zc11, zc12, zc13, zc14, zc15, zc16, zc17, zc18, zc19, zc20, zc21, zc22, zc23, zc24, zc25, zc26, zc27, zc28, zc29, zc30, zc31, zc32, zc33, zc34, zc35, zc36, zc37, zc38, .inr (12, [.ref 40, .ref 41, .ref 42, .ref 43, vI 0, .ref 44, .ref 45, vI 0, vI 0, .ref 46, .ref 47, vI 0, .ref 48, .ref 49, .ref 50, .null, .null, vI 0, vI 0, .null, vI 0, vI 0, vI 0, vI 0, .null, vI 0]), .inl (0, 4, .inl (fun _ => Int32.ofInt 0)), .inl (0, 4, .inl (fun _ => Int32.ofInt 0)), .inl (0, 240, .inl (fun _ => Int32.ofInt 0)), .inl (0, 60, .inl (fun _ => Int32.ofInt 0)), .inl (0, 80, .inl (fun _ => Int32.ofInt 0)), .inl (0, 2, .inl (fun _ => Int32.ofInt 0)), .inl (0, 16, .inl (fun _ => Int32.ofInt 0)), .inl (0, 16, .inl (fun _ => Int32.ofInt 0)), .inl (0, 6, .inl (fun _ => Int32.ofInt 0)), .inl (0, 6, .inl (fun _ => Int32.ofInt 0)), .inl (3, 6, .inl (fun _ => Int32.ofInt 0)), .inl (0, 6, .inl (fun _ => Int32.ofInt 0))]) dX12_init_93 rfl ac_int (Nat.le_of_ble_eq_true rfl) rfl rfl (Nat.le_of_ble_eq_true rfl) (Nat.le_of_ble_eq_true rfl) rfl rfl ?_
  refine sx_putF (p1 := 98) (fs := [.ref 40, .ref 41, .ref 42, .ref 43, vI 0, .ref 44, .ref 45, vI 0, vI 0, .ref 46, .ref 47, vI 0, .ref 48, .ref 49, .ref 50, .null, .null, vI 0, vI 0, .null, vI 0, vI 0, vI 0, vI 0, .null, vI 0]) (h1 := [zc2, zc3, zc4, zc5, zc6, zc7, zc8, zc9, zc10, zc11, zc12, zc13, zc14, zc15, zc16, zc17, zc18, zc19, zc20, zc21, zc22, zc23, zc24, zc25, zc26, zc27, zc28, zc29, zc30, zc31, zc32, zc33, zc34, zc35, zc36, zc37, zc38, .inr (12, [.ref 40, .ref 41, .ref 42, .ref 43, vI 0, .ref 44, .ref 45, vI 0, vI 0, .ref 46, .ref 47, vI 0, .ref 48, .ref 49, .ref 50, .ref 51, .null, vI 0, vI 0, .null, vI 0, vI 0, vI 0, vI 0, .null, vI 0]), .inl (0, 4, .inl (fun _ => Int32.ofInt 0)), .inl (0, 4, .inl (fun _ => Int32.ofInt 0)), .inl (0, 240, .inl (fun _ => Int32.ofInt 0)), .inl (0, 60, .inl (fun _ => Int32.ofInt 0)), .inl (0, 80, .inl (fun _ => Int32.ofInt 0)), .inl (0, 2, .inl (fun _ => Int32.ofInt 0)), .inl (0, 16, .inl (fun _ => Int32.ofInt 0)), .inl (0, 16, .inl (fun _ => Int32.ofInt 0)), .inl (0, 6, .inl (fun _ => Int32.ofInt 0)), .inl (0, 6, .inl (fun _ => Int32.ofInt 0)), .inl (3, 6, .inl (fun _ => Int32.ofInt 0)), .inl (0, 6, .inl (fun _ => Int32.ofInt 0))]) dX12_init_95 rfl fl_X12_44 rfl rfl (Nat.le_of_ble_eq_true rfl) (fun _ => rfl) (fun _ => rfl) rfl ?_
  refine sx_aload_n (p1 := 99) dX12_init_98 rfl rfl ?_
  refine sx_bipush (p1 := 101) dX12_init_99 rfl (by decide) ?_
  refine sx_newI (N := 6) (p1 := 103) (a1 := 52) (k1 := 13) (n1 := 452) (h1 := [zc2, zc3, zc4, zc5, zc6, zc7, zc8, zc9, zc10, zc11, zc12, zc13, zc14, zc15, zc16, zc17, zc18, zc19, zc20, zc21, zc22, zc23, zc24, zc25, zc26, zc27, zc28, zc29, zc30, zc31, zc32, zc33, zc34, zc35, zc36, zc37, zc38, .inr (12, [.ref 40, .ref 41, .ref 42, .ref 43, vI 0, .ref 44, .ref 45, vI 0, vI 0, .ref 46, .ref 47, vI 0, .ref 48, .ref 49, .ref 50, .ref 51, .null, vI 0, vI 0, .null, vI 0, vI 0, vI 0, vI 0, .null, vI 0]), .inl (0, 4, .inl (fun _ => Int32.ofInt 0)), .inl (0, 4, .inl (fun _ => Int32.ofInt 0)), .inl (0, 240, .inl (fun _ => Int32.ofInt 0)), .inl (0, 60, .inl (fun _ => Int32.ofInt 0)), .inl (0, 80, .inl (fun _ => Int32.ofInt 0)), .inl (0, 2, .inl (fun _ => Int32.ofInt 0)), .inl (0, 16, .inl (fun _ => Int32.ofInt 0)), .inl (0, 16, .inl (fun _ => Int32.ofInt 0)), .inl (0, 6, .inl (fun _ => Int32.ofInt 0)), .inl (0, 6, .inl (fun _ => Int32.ofInt 0)), .inl (3, 6, .inl (fun _ => Int32.ofInt 0)), .inl (0, 6, .inl (fun _ => Int32.ofInt 0)), .inl (0, 6, .inl (fun _ => Int32.ofInt 0))]) dX12_init_101 rfl ac_int (Nat.le_of_ble_eq_true rfl) rfl rfl (Nat.le_of_ble_eq_true rfl) (Nat.le_of_ble_eq_true rfl) rfl rfl ?_
  refine sx_putF (p1 := 106) (fs := [.ref 40, .ref 41, .ref 42, .ref 43, vI 0, .ref 44, .ref 45, vI 0, vI 0, .ref 46, .ref 47, vI 0, .ref 48, .ref 49, .ref 50, .ref 51, .null, vI 0, vI 0, .null, vI 0, vI 0, vI 0, vI 0, .null, vI 0]) (h1 := [zc2, zc3, zc4, zc5, zc6, zc7, zc8, zc9, zc10, zc11, zc12, zc13, zc14, zc15, zc16, zc17, zc18, zc19, zc20, zc21, zc22, zc23, zc24, zc25, zc26, zc27, zc28, zc29, zc30, zc31, zc32, zc33, zc34, zc35, zc36, zc37, zc38, .inr (12, [.ref 40, .ref 41, .ref 42, .ref 43, vI 0, .ref 44, .ref 45, vI 0, vI 0, .ref 46, .ref 47, vI 0, .ref 48, .ref 49, .ref 50, .ref 51, .ref 52, vI 0, vI 0, .null, vI 0, vI 0, vI 0, vI 0, .null, vI 0]), .inl (0, 4, .inl (fun _ => Int32.ofInt 0)), .inl (0, 4, .inl (fun _ => Int32.ofInt 0)), .inl (0, 240, .inl (fun _ => Int32.ofInt 0)), .inl (0, 60, .inl (fun _ => Int32.ofInt 0)), .inl (0, 80, .inl (fun _ => Int32.ofInt 0)), .inl (0, 2, .inl (fun _ => Int32.ofInt 0)), .inl (0, 16, .inl (fun _ => Int32.ofInt 0)), .inl (0, 16, .inl (fun _ => Int32.ofInt 0)), .inl (0, 6, .inl (fun _ => Int32.ofInt 0)), .inl (0, 6, .inl (fun _ => Int32.ofInt 0)), .inl (3, 6, .inl (fun _ => Int32.ofInt 0)), .inl (0, 6, .inl (fun _ => Int32.ofInt 0)), .inl (0, 6, .inl (fun _ => Int32.ofInt 0))]) dX12_init_103 rfl fl_X12_47 rfl rfl (Nat.le_of_ble_eq_true rfl) (fun _ => rfl) (fun _ => rfl) rfl ?_
  refine sx_aload_n (p1 := 107) dX12_init_106 rfl rfl ?_
  refine sx_bipush (p1 := 109) dX12_init_107 rfl (by decide) ?_
  refine sx_newI (N := 6) (p1 := 111) (a1 := 53) (k1 := 14) (n1 := 458) (h1 := [zc2, zc3, zc4, zc5, zc6, zc7, zc8, zc9, zc10, zc11, zc12, zc13, zc14, zc15, zc16, zc17, zc18, zc19, zc20, zc21, zc22, zc23, zc24, zc25, zc26, zc27, zc28, zc29, zc30, zc31, zc32, zc33, zc34, zc35, zc36, zc37, zc38, .inr (12, [.ref 40, .ref 41, .ref 42, .ref 43, vI 0, .ref 44, .ref 45, vI 0, vI 0, .ref 46, .ref 47, vI 0, .ref 48, .ref 49, .ref 50, .ref 51, .ref 52, vI 0, vI 0, .null, vI 0, vI 0, vI 0, vI 0, .null, vI 0]), .inl (0, 4, .inl (fun _ => Int32.ofInt 0)), .inl (0, 4, .inl (fun _ => Int32.ofInt 0)), .inl (0, 240, .inl (fun _ => Int32.ofInt 0)), .inl (0, 60, .inl (fun _ => Int32.ofInt 0)), .inl (0, 80, .inl (fun _ => Int32.ofInt 0)), .inl (0, 2, .inl (fun _ => Int32.ofInt 0)), .inl (0, 16, .inl (fun _ => Int32.ofInt 0)), .inl (0, 16, .inl (fun _ => Int32.ofInt 0)), .inl (0, 6, .inl (fun _ => Int32.ofInt 0)), .inl (0, 6, .inl (fun _ => Int32.ofInt 0)), .inl (3, 6, .inl (fun _ => Int32.ofInt 0)), .inl (0, 6, .inl (fun _ => Int32.ofInt 0)), .inl (0, 6, .inl (fun _ => Int32.ofInt 0)), .inl (0, 6, .inl (fun _ => Int32.ofInt 0))]) dX12_init_109 rfl ac_int (Nat.le_of_ble_eq_true rfl) rfl rfl (Nat.le_of_ble_eq_true rfl) (Nat.le_of_ble_eq_true rfl) rfl rfl ?_
  refine sx_putF (p1 := 114) (fs := [.ref 40, .ref 41, .ref 42, .ref 43, vI 0, .ref 44, .ref 45, vI 0, vI 0, .ref 46, .ref 47, vI 0, .ref 48, .ref 49, .ref 50, .ref 51, .ref 52, vI 0, vI 0, .null, vI 0, vI 0, vI 0, vI 0, .null, vI 0]) (h1 := [zc2, zc3, zc4, zc5, zc6, zc7, zc8, zc9, zc10, zc11, zc12, zc13, zc14, zc15, zc16, zc17, zc18, zc19, zc20, zc21, zc22, zc23, zc24, zc25, zc26, zc27, zc28, zc29, zc30, zc31, zc32, zc33, zc34, zc35, zc36, zc37, zc38, .inr (12, [.ref 40, .ref 41, .ref 42, .ref 43, vI 0, .ref 44, .ref 45, vI 0, vI 0, .ref 46, .ref 47, vI 0, .ref 48, .ref 49, .ref 50, .ref 51, .ref 52, vI 0, vI 0, .ref 53, vI 0, vI 0, vI 0, vI 0, .null, vI 0]), .inl (0, 4, .inl (fun _ => Int32.ofInt 0)), .inl (0, 4, .inl (fun _ => Int32.ofInt 0)), .inl (0, 240, .inl (fun _ => Int32.ofInt 0)), .inl (0, 60, .inl (fun _ => Int32.ofInt 0)), .inl (0, 80, .inl (fun _ => Int32.ofInt 0)), .inl (0, 2, .inl (fun _ => Int32.ofInt 0)), .inl (0, 16, .inl (fun _ => Int32.ofInt 0)), .inl (0, 16, .inl (fun _ => Int32.ofInt 0)), .inl (0, 6, .inl (fun _ => Int32.ofInt 0)), .inl (0, 6, .inl (fun _ => Int32.ofInt 0)), .inl (3, 6, .inl (fun _ => Int32.ofInt 0)), .inl (0, 6, .inl (fun _ => Int32.ofInt 0)), .inl (0, 6, .inl (fun _ => Int32.ofInt 0)), .inl (0, 6, .inl (fun _ => Int32.ofInt 0))]) dX12_init_111 rfl fl_X12_50 rfl rfl (Nat.le_of_ble_eq_true rfl) (fun _ => rfl) (fun _ => rfl) rfl ?_
  refine sx_aload_n (p1 := 115) dX12_init_114 rfl rfl ?_
  refine sx_bipush (p1 := 117) dX12_init_115 rfl (by decide) ?_
  refine sx_newI (N := 24) (p1 := 119) (a1 := 54) (k1 := 15) (n1 := 482) (h1 := [zc2, zc3, zc4, zc5, zc6, zc7, zc8, zc9, zc10, zc11, zc12, zc13, zc14, zc15, zc16, zc17, zc18, zc19, zc20, zc21, zc22, zc23, zc24, zc25, zc26, zc27, zc28, zc29, zc30, zc31, zc32, zc33, zc34, zc35, zc36, zc37, zc38, .inr (12, [.ref 40, .ref 41, .ref 42, .ref 43, vI 0, .ref 44, .ref 45, vI 0, vI 0, .ref 46, .ref 47, vI 0, .ref 48, .ref 49, .ref 50, .ref 51, .ref 52, vI 0, vI 0, .ref 53, vI 0, vI 0, vI 0, vI 0, .null, vI 0]), .inl (0, 4, .inl (fun _ => Int32.ofInt 0)), .inl (0, 4, .inl (fun _ => Int32.ofInt 0)), .inl (0, 240, .inl (fun _ => Int32.ofInt 0)), .inl (0, 60, .inl (fun _ => Int32.ofInt 0)), .inl (0, 80, .inl (fun _ => Int32.ofInt 0)), .inl (0, 2, .inl (fun _ => Int32.ofInt 0)), .inl (0, 16, .inl (fun _ => Int32.ofInt 0)), .inl (0, 16, .inl (fun _ => Int32.ofInt 0)), .inl (0, 6, .inl (fun _ => Int32.ofInt 0)), .inl (0, 6, .inl (fun _ => Int32.ofInt 0)), .inl (3, 6, .inl (fun _ => Int32.ofInt 0)), .inl (0, 6, .inl (fun _ => Int32.ofInt 0)), .inl (0, 6, .inl (fun _ => Int32.ofInt 0)), .inl (0, 6, .inl (fun _ => Int32.ofInt 0)), .inl (0, 24, .inl (fun _ => Int32.ofInt 0))]) dX12_init_117 rfl ac_int (Nat.le_of_ble_eq_true rfl) rfl rfl (Nat.le_of_ble_eq_true rfl) (Nat.le_of_ble_eq_true rfl) rfl rfl ?_
  refine sx_putF (p1 := 122) (fs := [.ref 40, .ref 41, .ref 42, .ref 43, vI 0, .ref 44, .ref 45, vI 0, vI 0, .ref 46, .ref 47, vI 0, .ref 48, .ref 49, .ref 50, .ref 51, .ref 52, vI 0, vI 0, .ref 53, vI 0, vI 0, vI 0, vI 0, .null, vI 0]) (h1 := [zc2, zc3, zc4, zc5, zc6, zc7, zc8, zc9, zc10, zc11, zc12, zc13, zc14, zc15, zc16, zc17, zc18, zc19, zc20, zc21, zc22, zc23, zc24, zc25, zc26, zc27, zc28, zc29, zc30, zc31, zc32, zc33, zc34, zc35, zc36, zc37, zc38, .inr (12, [.ref 40, .ref 41, .ref 42, .ref 43, vI 0, .ref 44, .ref 45, vI 0, vI 0, .ref 46, .ref 47, vI 0, .ref 48, .ref 49, .ref 50, .ref 51, .ref 52, vI 0, vI 0, .ref 53, vI 0, vI 0, vI 0, vI 0, .ref 54, vI 0]), .inl (0, 4, .inl (fun _ => Int32.ofInt 0)), .inl (0, 4, .inl (fun _ => Int32.ofInt 0)), .inl (0, 240, .inl (fun _ => Int32.ofInt 0)), .inl (0, 60, .inl (fun _ => Int32.ofInt 0)), .inl (0, 80, .inl (fun _ => Int32.ofInt 0)), .inl (0, 2, .inl (fun _ => Int32.ofInt 0)), .inl (0, 16, .inl (fun _ => Int32.ofInt 0)), .inl (0, 16, .inl (fun _ => Int32.ofInt 0)), .inl (0, 6, .inl (fun _ => Int32.ofInt 0)), .inl (0, 6, .inl (fun _ => Int32.ofInt 0)), .inl (3, 6, .inl (fun _ => Int32.ofInt 0)), .inl (0, 6, .inl (fun _ => Int32.ofInt 0)), .inl (0, 6, .inl (fun _ => Int32.ofInt 0)), .inl (0, 6, .inl (fun _ => Int32.ofInt 0)), .inl (0, 24, .inl (fun _ => Int32.ofInt 0))]) dX12_init_119 rfl fl_X12_53 rfl rfl (Nat.le_of_ble_eq_true rfl) (fun _ => rfl) (fun _ => rfl) rfl ?_
  rw [zH_hp]
  refine sx_iconst (p1 := 123) dX12_init_122 rfl ?_
  refine sx_istore_n (lo1 := [some _, some _]) (p1 := 124) dX12_init_123 rfl (by decide) rfl ?_
  refine sx_iload_n (p1 := 125) dX12_init_124 rfl rfl ?_
  refine sx_iconst (p1 := 126) dX12_init_125 rfl ?_
  refine sx_icmp_ge (p1 := 129) (tg := 142) dX12_init_126 rfl rfl (by omega) (by omega) (fun q126 => absurd q126 (by omega)) (fun q126 => ?_)
  refine sx_aload_n (p1 := 130) dX12_init_129 rfl rfl ?_
  refine sx_get (p1 := 133) dX12_init_130 rfl fl_X12_7 (hp_c39 _) rfl ?_
  refine sx_iload_n (p1 := 134) dX12_init_133 rfl rfl ?_
  refine sx_iconst (p1 := 135) dX12_init_134 rfl ?_
  refine sx_iast (p1 := 136) dX12_init_135 rfl (hp_c40 _) (by omega) (by decide) (hp_a40 _ _ _) ?_
  refine sx_iinc (lo1 := [some _, some _]) (p1 := 139) dX12_init_136 rfl (by decide) rfl rfl ?_
  rw [show (0 : Int) + 1 = 1 from rfl]
  refine sx_goto (p1 := 124) (tg := 124) dX12_init_139 rfl rfl ?_
  refine sx_iload_n (p1 := 125) dX12_init_124 rfl rfl ?_
  refine sx_iconst (p1 := 126) dX12_init_125 rfl ?_
  refine sx_icmp_ge (p1 := 129) (tg := 142) dX12_init_126 rfl rfl (by omega) (by omega) (fun q126 => absurd q126 (by omega)) (fun q126 => ?_)
  refine sx_aload_n (p1 := 130) dX12_init_129 rfl rfl ?_
  refine sx_get (p1 := 133) dX12_init_130 rfl fl_X12_7 (hp_c39 _) rfl ?_
  refine sx_iload_n (p1 := 134) dX12_init_133 rfl rfl ?_
  refine sx_iconst (p1 := 135) dX12_init_134 rfl ?_
  refine sx_iast (p1 := 136) dX12_init_135 rfl (hp_c40 _) (by omega) (by decide) (hp_a40 _ _ _) ?_
  refine sx_iinc (lo1 := [some _, some _]) (p1 := 139) dX12_init_136 rfl (by decide) rfl rfl ?_
  rw [show (1 : Int) + 1 = 2 from rfl]
  refine sx_goto (p1 := 124) (tg := 124) dX12_init_139 rfl rfl ?_
  refine sx_iload_n (p1 := 125) dX12_init_124 rfl rfl ?_
  refine sx_iconst (p1 := 126) dX12_init_125 rfl ?_
  refine sx_icmp_ge (p1 := 129) (tg := 142) dX12_init_126 rfl rfl (by omega) (by omega) (fun q126 => absurd q126 (by omega)) (fun q126 => ?_)
  refine sx_aload_n (p1 := 130) dX12_init_129 rfl rfl ?_
  refine sx_get (p1 := 133) dX12_init_130 rfl fl_X12_7 (hp_c39 _) rfl ?_
  refine sx_iload_n (p1 := 134) dX12_init_133 rfl rfl ?_
  refine sx_iconst (p1 := 135) dX12_init_134 rfl ?_
  refine sx_iast (p1 := 136) dX12_init_135 rfl (hp_c40 _) (by omega) (by decide) (hp_a40 _ _ _) ?_
  refine sx_iinc (lo1 := [some _, some _]) (p1 := 139) dX12_init_136 rfl (by decide) rfl rfl ?_
  rw [show (2 : Int) + 1 = 3 from rfl]
  refine sx_goto (p1 := 124) (tg := 124) dX12_init_139 rfl rfl ?_
  refine sx_iload_n (p1 := 125) dX12_init_124 rfl rfl ?_
  refine sx_iconst (p1 := 126) dX12_init_125 rfl ?_
  refine sx_icmp_ge (p1 := 129) (tg := 142) dX12_init_126 rfl rfl (by omega) (by omega) (fun q126 => absurd q126 (by omega)) (fun q126 => ?_)
  refine sx_aload_n (p1 := 130) dX12_init_129 rfl rfl ?_
  refine sx_get (p1 := 133) dX12_init_130 rfl fl_X12_7 (hp_c39 _) rfl ?_
  refine sx_iload_n (p1 := 134) dX12_init_133 rfl rfl ?_
  refine sx_iconst (p1 := 135) dX12_init_134 rfl ?_
  refine sx_iast (p1 := 136) dX12_init_135 rfl (hp_c40 _) (by omega) (by decide) (hp_a40 _ _ _) ?_
  refine sx_iinc (lo1 := [some _, some _]) (p1 := 139) dX12_init_136 rfl (by decide) rfl rfl ?_
  rw [show (3 : Int) + 1 = 4 from rfl]
  refine sx_goto (p1 := 124) (tg := 124) dX12_init_139 rfl rfl ?_
  refine sx_iload_n (p1 := 125) dX12_init_124 rfl rfl ?_
  refine sx_iconst (p1 := 126) dX12_init_125 rfl ?_
  refine sx_icmp_ge (p1 := 129) (tg := 142) dX12_init_126 rfl rfl (by omega) (by omega) (fun q126 => ?_) (fun q126 => absurd q126 (by omega))
  refine sx_aload_n (p1 := 143) dX12_init_142 rfl rfl ?_
  refine sx_get (p1 := 146) dX12_init_143 rfl fl_X12_44 (hp_c39 _) rfl ?_
  refine sx_iconst (p1 := 147) dX12_init_146 rfl ?_
  refine sx_iconst (p1 := 148) dX12_init_147 rfl ?_
  refine sx_iast (p1 := 149) dX12_init_148 rfl (hp_c51 _) (by omega) (by decide) (hp_a51 _ _ _) ?_
  refine sx_aload_n (p1 := 150) dX12_init_149 rfl rfl ?_
  refine sx_get (p1 := 153) dX12_init_150 rfl fl_X12_44 (hp_c39 _) rfl ?_
  refine sx_iconst (p1 := 154) dX12_init_153 rfl ?_
  refine sx_bipush (p1 := 156) dX12_init_154 rfl (by decide) ?_
  refine sx_iast (p1 := 157) dX12_init_156 rfl (hp_c51 _) (by omega) (by decide) (hp_a51 _ _ _) ?_
  refine sx_aload_n (p1 := 158) dX12_init_157 rfl rfl ?_
  refine sx_get (p1 := 161) dX12_init_158 rfl fl_X12_44 (hp_c39 _) rfl ?_
  refine sx_iconst (p1 := 162) dX12_init_161 rfl ?_
  refine sx_sipush (p1 := 165) dX12_init_162 rfl (by decide) ?_
  refine sx_iast (p1 := 166) dX12_init_165 rfl (hp_c51 _) (by omega) (by decide) (hp_a51 _ _ _) ?_
  refine sx_aload_n (p1 := 167) dX12_init_166 rfl rfl ?_
  refine sx_get (p1 := 170) dX12_init_167 rfl fl_X12_44 (hp_c39 _) rfl ?_
  refine sx_iconst (p1 := 171) dX12_init_170 rfl ?_
  refine sx_iconst (p1 := 172) dX12_init_171 rfl ?_
  refine sx_iast (p1 := 173) dX12_init_172 rfl (hp_c51 _) (by omega) (by decide) (hp_a51 _ _ _) ?_
  exact sx_vret dX12_init_173 rfl (sx_rv (by rfl))
-- 36 584 15 482
