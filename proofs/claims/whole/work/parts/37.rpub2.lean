set_option maxRecDepth 20000 in
theorem c_X12_order {X : sx_X} {S : St} {i : Int} {T : St} {b : Nat} (hT : rdS S = T) (hY : okY S) (hQ : okQ T b) (hi : -2147483648 ≤ i ∧ i ≤ 2147483647) : Ct X yX12_order cX12_order 2 (some .int) 7 0 0 [.ref 39, vI i] (hp S) (sx_is (some (vI (if 0 ≤ i ∧ i ≤ 5 then aOrd (mV T) (rO T (T.1 33).toNat (fc ((T.1 33).toNat - 1))).2 i else -2))) (hp (if 0 ≤ i ∧ i ≤ 5 then sA T 53 (rO T (T.1 33).toNat (fc ((T.1 33).toNat - 1))).2 else T))) := by
  have hV := hQ.1
  have hW := okQ_W hQ
  have b0 : 0 ≤ T.1 32 ∧ T.1 32 ≤ 16 := hV.1
  have c0 : 0 ≤ (mV T).1 0 ∧ (mV T).1 0 ≤ 16 := hV.1
  have b1 : 0 ≤ T.1 33 ∧ T.1 33 ≤ 6 := hV.2.1
  have c1 : 0 ≤ (mV T).1 1 ∧ (mV T).1 1 ≤ 6 := hV.2.1
  have b2 : 0 ≤ T.1 34 ∧ T.1 34 ≤ 99 := hV.2.2.1
  have c2 : 0 ≤ (mV T).1 2 ∧ (mV T).1 2 ≤ 99 := hV.2.2.1
  have b3 : 0 ≤ T.2 51 1 ∧ T.2 51 1 ≤ 1 := hV.2.2.2.1
  have c3 : 0 ≤ (mV T).1 3 ∧ (mV T).1 3 ≤ 1 := hV.2.2.2.1
  have b4 : 0 ≤ T.2 51 2 ∧ T.2 51 2 ≤ 16 := hV.2.2.2.2.1
  have c4 : 0 ≤ (mV T).1 4 ∧ (mV T).1 4 ≤ 16 := hV.2.2.2.2.1
  have b5 : 0 ≤ T.2 51 3 ∧ T.2 51 3 ≤ 999 := hV.2.2.2.2.2.1
  have c5 : 0 ≤ (mV T).1 5 ∧ (mV T).1 5 ≤ 999 := hV.2.2.2.2.2.1
  have b6 : 0 ≤ T.2 51 4 ∧ T.2 51 4 ≤ 1999 := hV.2.2.2.2.2.2.1
  have c6 : 0 ≤ (mV T).1 6 ∧ (mV T).1 6 ≤ 1999 := hV.2.2.2.2.2.2.1
  have b7 : 0 ≤ T.2 51 5 ∧ T.2 51 5 ≤ 16 := hV.2.2.2.2.2.2.2.1
  have c7 : 0 ≤ (mV T).1 7 ∧ (mV T).1 7 ≤ 16 := hV.2.2.2.2.2.2.2.1
  have bK : ∀ q, 0 ≤ rK T q ∧ rK T q ≤ 3 := hV.2.2.2.2.2.2.2.2.1
  have bL : ∀ q, 0 ≤ rL T q ∧ rL T q ≤ 9 := hV.2.2.2.2.2.2.2.2.2.1
  have bW : ∀ q, 0 ≤ rW T q ∧ rW T q ≤ 9 := hV.2.2.2.2.2.2.2.2.2.2.1
  have bS : ∀ q, 0 ≤ rS T q ∧ rS T q ≤ 9 := hV.2.2.2.2.2.2.2.2.2.2.2.1
  have bH : ∀ q, 0 ≤ rH T q ∧ rH T q ≤ 1 := hV.2.2.2.2.2.2.2.2.2.2.2.2
  have n0 : (mV T).1 0 = T.1 32 := rfl
  have n1 : (mV T).1 1 = T.1 33 := rfl
  have n2 : (mV T).1 2 = T.1 34 := rfl
  have n3 : (mV T).1 3 = T.2 51 1 := rfl
  have n4 : (mV T).1 4 = T.2 51 2 := rfl
  have n5 : (mV T).1 5 = T.2 51 3 := rfl
  have n6 : (mV T).1 6 = T.2 51 4 := rfl
  have n7 : (mV T).1 7 = T.2 51 5 := rfl
  have hWT : T.1 33 = ((T.1 33).toNat : Int) := by omega
  refine Ct.of false [some (.ref 39), some (vI i)] (plainFor_of_name (by decide)) (fun h => by cases h) (Nat.le_of_ble_eq_true rfl) (fun _ => rfl) sx_isl ?_
  refine sx_aload_n (p1 := 1) dX12_order_0 rfl rfl ?_
  refine sx_callVn (p1 := 4) (As := []) (k1 := 0) (n1 := 0) dX12_order_1 rfl rfl (r_X12_reads hT hY) mt_X12_reads ml_X12_120 (hp_c39 _) rfl rfl (Nat.le_of_ble_eq_true rfl) rfl (Nat.le_of_ble_eq_true rfl) rfl rfl (Nat.le_of_ble_eq_true rfl) (Nat.le_of_ble_eq_true rfl) ?_
  refine sx_iload_n (p1 := 5) dX12_order_4 rfl rfl ?_
  refine sx_i2l (p1 := 6) dX12_order_5 rfl (by omega) ?_
  refine sx_lconst (y := 0) (p1 := 7) dX12_order_6 rfl (by decide) ?_
  refine sx_ldc2 (z := 5) (p1 := 10) dX12_order_7 rfl kc_X12_132 (by decide) ?_
  refine sx_callSr (p1 := 13) (As := [_, _, _]) (k1 := 0) (n1 := 0) dX12_order_10 rfl rfl (c_X12_in (by omega) (by omega) (by omega)) mt_X12_in ml_X12_58 (Nat.le_of_ble_eq_true rfl) rfl (Nat.le_of_ble_eq_true rfl) rfl rfl (Nat.le_of_ble_eq_true rfl) (Nat.le_of_ble_eq_true rfl) ?_
  refine sx_if_ne (p1 := 16) (tg := 19) dX12_order_13 rfl rfl (by omega) (fun q13 => ?_) (fun q13 => ?_)
  · refine sx_aload_n (p1 := 20) dX12_order_19 rfl rfl ?_
    refine sx_callVr (p1 := 23) (As := []) (k1 := 0) (n1 := 0) dX12_order_20 rfl rfl (c_X12_findOrder (W := (T.1 33).toNat) hQ hWT) mt_X12_findOrder ml_X12_229 (hp_c39 _) rfl rfl (Nat.le_of_ble_eq_true rfl) rfl (Nat.le_of_ble_eq_true rfl) rfl rfl (Nat.le_of_ble_eq_true rfl) (Nat.le_of_ble_eq_true rfl) ?_
    refine sx_pop (p1 := 24) dX12_order_23 rfl rfl ?_
    refine sx_iload_n (p1 := 25) dX12_order_24 rfl rfl ?_
    refine sx_aload_n (p1 := 26) dX12_order_25 rfl rfl ?_
    refine sx_get (v := vI (T.1 33)) (p1 := 29) dX12_order_26 rfl fl_X12_106 (hp_c39 _) rfl ?_
    refine sx_icmp_ge (p1 := 32) (tg := 41) dX12_order_29 rfl rfl (by omega) (by omega) (fun q29 => ?_) (fun q29 => ?_)
    · refine sx_iconst (p1 := 42) dX12_order_41 rfl ?_
      exact sx_iret dX12_order_42 rfl (sx_ri (by unfold aOrd; (repeat' split) <;> first | omega | rfl) (by (repeat' split) <;> first | rfl | omega))
    · refine sx_aload_n (p1 := 33) dX12_order_32 rfl rfl ?_
      refine sx_get (p1 := 36) dX12_order_33 rfl fl_X12_50 (hp_c39 _) rfl ?_
      refine sx_iload_n (p1 := 37) dX12_order_36 rfl rfl ?_
      refine sx_iald (g := (rO T (T.1 33).toNat (fc ((T.1 33).toNat - 1))).2) (p1 := 38) dX12_order_37 rfl (hp_c53 _) (by omega) (by decide) ?_
      refine sx_goto (p1 := 42) (tg := 42) dX12_order_38 rfl rfl ?_
      exact sx_iret dX12_order_42 rfl (sx_ri (by unfold aOrd; (repeat' split) <;> first | omega | rfl) (by (repeat' split) <;> first | rfl | omega))
  · refine sx_bipush (p1 := 18) dX12_order_16 rfl (by decide) ?_
    exact sx_iret dX12_order_18 rfl (sx_ri (by unfold aOrd; (repeat' split) <;> first | omega | rfl) (by (repeat' split) <;> first | rfl | omega))
set_option maxRecDepth 20000 in
theorem c_X12_ordered {X : sx_X} {S : St} {i : Int} {T : St} {b : Nat} (hT : rdS S = T) (hY : okY S) (hQ : okQ T b) (hi : -2147483648 ≤ i ∧ i ≤ 2147483647) : Ct X yX12_ordered cX12_ordered 2 (some .long) 7 0 0 [.ref 39, vI i] (hp S) (sx_is (some (vJ (if 0 ≤ i ∧ i ≤ 1 then mFrac (rO T (T.1 33).toNat (fc ((T.1 33).toNat - 1))).1 256 i else -9223372036854775806))) (hp (if 0 ≤ i ∧ i ≤ 1 then sA T 53 (rO T (T.1 33).toNat (fc ((T.1 33).toNat - 1))).2 else T))) := by
  have hV := hQ.1
  have hW := okQ_W hQ
  have b0 : 0 ≤ T.1 32 ∧ T.1 32 ≤ 16 := hV.1
  have c0 : 0 ≤ (mV T).1 0 ∧ (mV T).1 0 ≤ 16 := hV.1
  have b1 : 0 ≤ T.1 33 ∧ T.1 33 ≤ 6 := hV.2.1
  have c1 : 0 ≤ (mV T).1 1 ∧ (mV T).1 1 ≤ 6 := hV.2.1
  have b2 : 0 ≤ T.1 34 ∧ T.1 34 ≤ 99 := hV.2.2.1
  have c2 : 0 ≤ (mV T).1 2 ∧ (mV T).1 2 ≤ 99 := hV.2.2.1
  have b3 : 0 ≤ T.2 51 1 ∧ T.2 51 1 ≤ 1 := hV.2.2.2.1
  have c3 : 0 ≤ (mV T).1 3 ∧ (mV T).1 3 ≤ 1 := hV.2.2.2.1
  have b4 : 0 ≤ T.2 51 2 ∧ T.2 51 2 ≤ 16 := hV.2.2.2.2.1
  have c4 : 0 ≤ (mV T).1 4 ∧ (mV T).1 4 ≤ 16 := hV.2.2.2.2.1
  have b5 : 0 ≤ T.2 51 3 ∧ T.2 51 3 ≤ 999 := hV.2.2.2.2.2.1
  have c5 : 0 ≤ (mV T).1 5 ∧ (mV T).1 5 ≤ 999 := hV.2.2.2.2.2.1
  have b6 : 0 ≤ T.2 51 4 ∧ T.2 51 4 ≤ 1999 := hV.2.2.2.2.2.2.1
  have c6 : 0 ≤ (mV T).1 6 ∧ (mV T).1 6 ≤ 1999 := hV.2.2.2.2.2.2.1
  have b7 : 0 ≤ T.2 51 5 ∧ T.2 51 5 ≤ 16 := hV.2.2.2.2.2.2.2.1
  have c7 : 0 ≤ (mV T).1 7 ∧ (mV T).1 7 ≤ 16 := hV.2.2.2.2.2.2.2.1
  have bK : ∀ q, 0 ≤ rK T q ∧ rK T q ≤ 3 := hV.2.2.2.2.2.2.2.2.1
  have bL : ∀ q, 0 ≤ rL T q ∧ rL T q ≤ 9 := hV.2.2.2.2.2.2.2.2.2.1
  have bW : ∀ q, 0 ≤ rW T q ∧ rW T q ≤ 9 := hV.2.2.2.2.2.2.2.2.2.2.1
  have bS : ∀ q, 0 ≤ rS T q ∧ rS T q ≤ 9 := hV.2.2.2.2.2.2.2.2.2.2.2.1
  have bH : ∀ q, 0 ≤ rH T q ∧ rH T q ≤ 1 := hV.2.2.2.2.2.2.2.2.2.2.2.2
  have n0 : (mV T).1 0 = T.1 32 := rfl
  have n1 : (mV T).1 1 = T.1 33 := rfl
  have n2 : (mV T).1 2 = T.1 34 := rfl
  have n3 : (mV T).1 3 = T.2 51 1 := rfl
  have n4 : (mV T).1 4 = T.2 51 2 := rfl
  have n5 : (mV T).1 5 = T.2 51 3 := rfl
  have n6 : (mV T).1 6 = T.2 51 4 := rfl
  have n7 : (mV T).1 7 = T.2 51 5 := rfl
  have hWT : T.1 33 = ((T.1 33).toNat : Int) := by omega
  have rb := rO_b hV (W := (T.1 33).toNat) (by omega) (fc ((T.1 33).toNat - 1))
  have rc := (rO_end hV hWT (fun _ => 0)).1
  refine Ct.of false [some (.ref 39), some (vI i)] (plainFor_of_name (by decide)) (fun h => by cases h) (Nat.le_of_ble_eq_true rfl) (fun _ => rfl) sx_isl ?_
  refine sx_aload_n (p1 := 1) dX12_ordered_0 rfl rfl ?_
  refine sx_callVn (p1 := 4) (As := []) (k1 := 0) (n1 := 0) dX12_ordered_1 rfl rfl (r_X12_reads hT hY) mt_X12_reads ml_X12_120 (hp_c39 _) rfl rfl (Nat.le_of_ble_eq_true rfl) rfl (Nat.le_of_ble_eq_true rfl) rfl rfl (Nat.le_of_ble_eq_true rfl) (Nat.le_of_ble_eq_true rfl) ?_
  refine sx_iload_n (p1 := 5) dX12_ordered_4 rfl rfl ?_
  refine sx_callSr (p1 := 8) (As := [_]) (k1 := 0) (n1 := 0) dX12_ordered_5 rfl rfl (c_X12_isTwo (by omega)) mt_X12_isTwo ml_X12_87 (Nat.le_of_ble_eq_true rfl) rfl (Nat.le_of_ble_eq_true rfl) rfl rfl (Nat.le_of_ble_eq_true rfl) (Nat.le_of_ble_eq_true rfl) ?_
  refine sx_if_eq (p1 := 11) (tg := 26) dX12_ordered_8 rfl rfl (by omega) (fun q8 => ?_) (fun q8 => ?_)
  · refine sx_bipush (p1 := 28) dX12_ordered_26 rfl (by decide) ?_
    refine sx_callSr (p1 := 31) (As := [_]) (k1 := 0) (n1 := 0) dX12_ordered_28 rfl rfl (c_X12_no (by omega)) mt_X12_no ml_X12_201 (Nat.le_of_ble_eq_true rfl) rfl (Nat.le_of_ble_eq_true rfl) rfl rfl (Nat.le_of_ble_eq_true rfl) (Nat.le_of_ble_eq_true rfl) ?_
    exact sx_lret dX12_ordered_31 rfl (sx_rj (by (repeat' split) <;> first | omega | rfl) (by (repeat' split) <;> first | rfl | omega))
  · refine sx_aload_n (p1 := 12) dX12_ordered_11 rfl rfl ?_
    refine sx_callVr (p1 := 15) (As := []) (k1 := 0) (n1 := 0) dX12_ordered_12 rfl rfl (c_X12_findOrder (W := (T.1 33).toNat) hQ hWT) mt_X12_findOrder ml_X12_229 (hp_c39 _) rfl rfl (Nat.le_of_ble_eq_true rfl) rfl (Nat.le_of_ble_eq_true rfl) rfl rfl (Nat.le_of_ble_eq_true rfl) (Nat.le_of_ble_eq_true rfl) ?_
    refine sx_i2l (p1 := 16) dX12_ordered_15 rfl (by omega) ?_
    refine sx_ldc2 (z := 256) (p1 := 19) dX12_ordered_16 rfl kc_X12_195 (by decide) ?_
    refine sx_iload_n (p1 := 20) dX12_ordered_19 rfl rfl ?_
    refine sx_callSr (p1 := 23) (As := [_, _, _]) (k1 := 0) (n1 := 0) dX12_ordered_20 rfl rfl (c_X12_part (by omega) (by omega) (by omega)) mt_X12_part ml_X12_197 (Nat.le_of_ble_eq_true rfl) rfl (Nat.le_of_ble_eq_true rfl) rfl rfl (Nat.le_of_ble_eq_true rfl) (Nat.le_of_ble_eq_true rfl) ?_
    refine sx_goto (p1 := 31) (tg := 31) dX12_ordered_23 rfl rfl ?_
    exact sx_lret dX12_ordered_31 rfl (sx_rj (by (repeat' split) <;> first | omega | rfl) (by (repeat' split) <;> first | rfl | omega))
set_option maxRecDepth 20000 in
theorem c_X12_helmets {X : sx_X} {S : St} {i j : Int} {T : St} {b : Nat} (hT : rdS S = T) (hY : okY S) (hQ : okQ T b) (h36 : -2147483648 ≤ T.1 36 ∧ T.1 36 ≤ 2147483647) (hi : -2147483648 ≤ i ∧ i ≤ 2147483647) (hj : -2147483648 ≤ j ∧ j ≤ 2147483647) : Ct X yX12_helmets cX12_helmets 3 (some .long) 7 0 0 [.ref 39, vI i, vI j] (hp S) (sx_is (some (vJ (aHelm (mV T) i j))) (hp (if (0 ≤ i ∧ i ≤ T.1 33) ∧ 0 ≤ j ∧ j ≤ 2 then si T 36 (fh (mV T) (T.1 34) i (T.1 36) (T.1 35) (2 ^ (T.1 33).toNat)).2.1 else T))) := by
  have hV := hQ.1
  have hW := okQ_W hQ
  have b0 : 0 ≤ T.1 32 ∧ T.1 32 ≤ 16 := hV.1
  have c0 : 0 ≤ (mV T).1 0 ∧ (mV T).1 0 ≤ 16 := hV.1
  have b1 : 0 ≤ T.1 33 ∧ T.1 33 ≤ 6 := hV.2.1
  have c1 : 0 ≤ (mV T).1 1 ∧ (mV T).1 1 ≤ 6 := hV.2.1
  have b2 : 0 ≤ T.1 34 ∧ T.1 34 ≤ 99 := hV.2.2.1
  have c2 : 0 ≤ (mV T).1 2 ∧ (mV T).1 2 ≤ 99 := hV.2.2.1
  have b3 : 0 ≤ T.2 51 1 ∧ T.2 51 1 ≤ 1 := hV.2.2.2.1
  have c3 : 0 ≤ (mV T).1 3 ∧ (mV T).1 3 ≤ 1 := hV.2.2.2.1
  have b4 : 0 ≤ T.2 51 2 ∧ T.2 51 2 ≤ 16 := hV.2.2.2.2.1
  have c4 : 0 ≤ (mV T).1 4 ∧ (mV T).1 4 ≤ 16 := hV.2.2.2.2.1
  have b5 : 0 ≤ T.2 51 3 ∧ T.2 51 3 ≤ 999 := hV.2.2.2.2.2.1
  have c5 : 0 ≤ (mV T).1 5 ∧ (mV T).1 5 ≤ 999 := hV.2.2.2.2.2.1
  have b6 : 0 ≤ T.2 51 4 ∧ T.2 51 4 ≤ 1999 := hV.2.2.2.2.2.2.1
  have c6 : 0 ≤ (mV T).1 6 ∧ (mV T).1 6 ≤ 1999 := hV.2.2.2.2.2.2.1
  have b7 : 0 ≤ T.2 51 5 ∧ T.2 51 5 ≤ 16 := hV.2.2.2.2.2.2.2.1
  have c7 : 0 ≤ (mV T).1 7 ∧ (mV T).1 7 ≤ 16 := hV.2.2.2.2.2.2.2.1
  have bK : ∀ q, 0 ≤ rK T q ∧ rK T q ≤ 3 := hV.2.2.2.2.2.2.2.2.1
  have bL : ∀ q, 0 ≤ rL T q ∧ rL T q ≤ 9 := hV.2.2.2.2.2.2.2.2.2.1
  have bW : ∀ q, 0 ≤ rW T q ∧ rW T q ≤ 9 := hV.2.2.2.2.2.2.2.2.2.2.1
  have bS : ∀ q, 0 ≤ rS T q ∧ rS T q ≤ 9 := hV.2.2.2.2.2.2.2.2.2.2.2.1
  have bH : ∀ q, 0 ≤ rH T q ∧ rH T q ≤ 1 := hV.2.2.2.2.2.2.2.2.2.2.2.2
  have n0 : (mV T).1 0 = T.1 32 := rfl
  have n1 : (mV T).1 1 = T.1 33 := rfl
  have n2 : (mV T).1 2 = T.1 34 := rfl
  have n3 : (mV T).1 3 = T.2 51 1 := rfl
  have n4 : (mV T).1 4 = T.2 51 2 := rfl
  have n5 : (mV T).1 5 = T.2 51 3 := rfl
  have n6 : (mV T).1 6 = T.2 51 4 := rfl
  have n7 : (mV T).1 7 = T.2 51 5 := rfl
  have fe : 0 ≤ i ∧ i ≤ T.1 33 → (fh (mV T) (T.1 34) i (T.1 36) (T.1 35) (2 ^ (T.1 33).toNat)).1 = aHb (mV T) i ∧ (fh (mV T) (T.1 34) i (T.1 36) (T.1 35) (2 ^ (T.1 33).toNat)).2.1 = mHelm (mV T) (T.1 34) (aHb (mV T) i).toNat := fun q => fh_end hV (gap := T.1 34) (T.1 36) (T.1 35) q
  have hm := mHelm_b hV (T.1 34) (aHb (mV T) i).toNat
  have hb := mHb_lt (V := mV T) (T.1 34) i (pow_b b1).1 (pow_b b1).2
  have hb2 : 0 ≤ aHb (mV T) i ∧ aHb (mV T) i < 64 := hb
  refine Ct.of false [some (.ref 39), some (vI i), some (vI j)] (plainFor_of_name (by decide)) (fun h => by cases h) (Nat.le_of_ble_eq_true rfl) (fun _ => rfl) sx_isl ?_
  refine sx_aload_n (p1 := 1) dX12_helmets_0 rfl rfl ?_
  refine sx_callVn (p1 := 4) (As := []) (k1 := 0) (n1 := 0) dX12_helmets_1 rfl rfl (r_X12_reads hT hY) mt_X12_reads ml_X12_120 (hp_c39 _) rfl rfl (Nat.le_of_ble_eq_true rfl) rfl (Nat.le_of_ble_eq_true rfl) rfl rfl (Nat.le_of_ble_eq_true rfl) (Nat.le_of_ble_eq_true rfl) ?_
  refine sx_iload_n (p1 := 5) dX12_helmets_4 rfl rfl ?_
  refine sx_i2l (p1 := 6) dX12_helmets_5 rfl (by omega) ?_
  refine sx_lconst (y := 0) (p1 := 7) dX12_helmets_6 rfl (by decide) ?_
  refine sx_aload_n (p1 := 8) dX12_helmets_7 rfl rfl ?_
  refine sx_get (v := vI (T.1 33)) (p1 := 11) dX12_helmets_8 rfl fl_X12_106 (hp_c39 _) rfl ?_
  refine sx_i2l (p1 := 12) dX12_helmets_11 rfl (by omega) ?_
  refine sx_callSr (p1 := 15) (As := [_, _, _]) (k1 := 0) (n1 := 0) dX12_helmets_12 rfl rfl (c_X12_in (by omega) (by omega) (by omega)) mt_X12_in ml_X12_58 (Nat.le_of_ble_eq_true rfl) rfl (Nat.le_of_ble_eq_true rfl) rfl rfl (Nat.le_of_ble_eq_true rfl) (Nat.le_of_ble_eq_true rfl) ?_
  refine sx_if_eq (p1 := 18) (tg := 43) dX12_helmets_15 rfl rfl (by omega) (fun q15 => ?_) (fun q15 => ?_)
  · refine sx_bipush (p1 := 45) dX12_helmets_43 rfl (by decide) ?_
    refine sx_callSr (p1 := 48) (As := [_]) (k1 := 0) (n1 := 0) dX12_helmets_45 rfl rfl (c_X12_no (by omega)) mt_X12_no ml_X12_201 (Nat.le_of_ble_eq_true rfl) rfl (Nat.le_of_ble_eq_true rfl) rfl rfl (Nat.le_of_ble_eq_true rfl) (Nat.le_of_ble_eq_true rfl) ?_
    exact sx_lret dX12_helmets_48 rfl (sx_rj (by unfold aHelm; first | (rw [if_neg (by omega)]; omega) | (rw [if_pos (by omega), fi.1, show (si T 36 (fh (mV T) (T.1 34) i (T.1 36) (T.1 35) (2 ^ (T.1 33).toNat)).2.1).1 36 = (fh (mV T) (T.1 34) i (T.1 36) (T.1 35) (2 ^ (T.1 33).toNat)).2.1 from rfl, fi.2]; rfl)) (by (repeat' split) <;> first | rfl | omega))
  · refine sx_iload_n (p1 := 19) dX12_helmets_18 rfl rfl ?_
    refine sx_i2l (p1 := 20) dX12_helmets_19 rfl (by omega) ?_
    refine sx_lconst (y := 0) (p1 := 21) dX12_helmets_20 rfl (by decide) ?_
    refine sx_ldc2 (z := 2) (p1 := 24) dX12_helmets_21 rfl kc_X12_72 (by decide) ?_
    refine sx_callSr (p1 := 27) (As := [_, _, _]) (k1 := 0) (n1 := 0) dX12_helmets_24 rfl rfl (c_X12_in (by omega) (by omega) (by omega)) mt_X12_in ml_X12_58 (Nat.le_of_ble_eq_true rfl) rfl (Nat.le_of_ble_eq_true rfl) rfl rfl (Nat.le_of_ble_eq_true rfl) (Nat.le_of_ble_eq_true rfl) ?_
    refine sx_if_eq (p1 := 30) (tg := 43) dX12_helmets_27 rfl rfl (by omega) (fun q27 => ?_) (fun q27 => ?_)
    · refine sx_bipush (p1 := 45) dX12_helmets_43 rfl (by decide) ?_
      refine sx_callSr (p1 := 48) (As := [_]) (k1 := 0) (n1 := 0) dX12_helmets_45 rfl rfl (c_X12_no (by omega)) mt_X12_no ml_X12_201 (Nat.le_of_ble_eq_true rfl) rfl (Nat.le_of_ble_eq_true rfl) rfl rfl (Nat.le_of_ble_eq_true rfl) (Nat.le_of_ble_eq_true rfl) ?_
      exact sx_lret dX12_helmets_48 rfl (sx_rj (by unfold aHelm; first | (rw [if_neg (by omega)]; omega) | (rw [if_pos (by omega), fi.1, show (si T 36 (fh (mV T) (T.1 34) i (T.1 36) (T.1 35) (2 ^ (T.1 33).toNat)).2.1).1 36 = (fh (mV T) (T.1 34) i (T.1 36) (T.1 35) (2 ^ (T.1 33).toNat)).2.1 from rfl, fi.2]; rfl)) (by (repeat' split) <;> first | rfl | omega))
    · have fi := fe (by omega)
      refine sx_aload_n (p1 := 31) dX12_helmets_30 rfl rfl ?_
      refine sx_aload_n (p1 := 32) dX12_helmets_31 rfl rfl ?_
      refine sx_iload_n (p1 := 33) dX12_helmets_32 rfl rfl ?_
      refine sx_callVr (p1 := 36) (As := [_]) (k1 := 0) (n1 := 0) dX12_helmets_33 rfl rfl (c_X12_findHelmets hQ h36 (by omega)) mt_X12_findHelmets ml_X12_238 (hp_c39 _) rfl rfl (Nat.le_of_ble_eq_true rfl) rfl (Nat.le_of_ble_eq_true rfl) rfl rfl (Nat.le_of_ble_eq_true rfl) (Nat.le_of_ble_eq_true rfl) ?_
      refine sx_iload_n (p1 := 37) dX12_helmets_36 rfl rfl ?_
      refine sx_callVr (p1 := 40) (As := [_, _]) (k1 := 0) (n1 := 0) dX12_helmets_37 rfl rfl (c_X12_tellsHelmets (S := si T 36 (fh (mV T) (T.1 34) i (T.1 36) (T.1 35) (2 ^ (T.1 33).toNat)).2.1) (show 0 ≤ (fh (mV T) (T.1 34) i (T.1 36) (T.1 35) (2 ^ (T.1 33).toNat)).2.1 ∧ (fh (mV T) (T.1 34) i (T.1 36) (T.1 35) (2 ^ (T.1 33).toNat)).2.1 ≤ 2147483647 by omega) (by omega) (by omega)) mt_X12_tellsHelmets ml_X12_241 (hp_c39 _) rfl rfl (Nat.le_of_ble_eq_true rfl) rfl (Nat.le_of_ble_eq_true rfl) rfl rfl (Nat.le_of_ble_eq_true rfl) (Nat.le_of_ble_eq_true rfl) ?_
      refine sx_goto (p1 := 48) (tg := 48) dX12_helmets_40 rfl rfl ?_
      exact sx_lret dX12_helmets_48 rfl (sx_rj (by unfold aHelm; first | (rw [if_neg (by omega)]; omega) | (rw [if_pos (by omega), fi.1, show (si T 36 (fh (mV T) (T.1 34) i (T.1 36) (T.1 35) (2 ^ (T.1 33).toNat)).2.1).1 36 = (fh (mV T) (T.1 34) i (T.1 36) (T.1 35) (2 ^ (T.1 33).toNat)).2.1 from rfl, fi.2]; rfl)) (by (repeat' split) <;> first | rfl | omega))
set_option maxRecDepth 20000 in
theorem c_X12_waits {X : sx_X} {S : St} {i j k l : Int} {T : St} {b : Nat} (hT : rdS S = T) (hY : okY S) (hQ : okQ T b) (hi : -2147483648 ≤ i ∧ i ≤ 2147483647) (hj : -2147483648 ≤ j ∧ j ≤ 2147483647) (hk : -2147483648 ≤ k ∧ k ≤ 2147483647) (hl : -2147483648 ≤ l ∧ l ≤ 2147483647) : Ct X yX12_waits cX12_waits 5 (some .long) 5 0 0 [.ref 39, vI i, vI j, vI k, vI l] (hp S) (sx_is (some (vJ (aWaits (mV T) i j k l))) (hp (if (1 ≤ i ∧ i ≤ 6) ∧ (0 ≤ j ∧ j ≤ 99) ∧ (0 ≤ k ∧ k ≤ 999) ∧ 0 ≤ l ∧ l ≤ 2 then fw T (mWb (mV T) i j k 99) else T))) := by
  have hV := hQ.1
  have hW := okQ_W hQ
  have b0 : 0 ≤ T.1 32 ∧ T.1 32 ≤ 16 := hV.1
  have c0 : 0 ≤ (mV T).1 0 ∧ (mV T).1 0 ≤ 16 := hV.1
  have b1 : 0 ≤ T.1 33 ∧ T.1 33 ≤ 6 := hV.2.1
  have c1 : 0 ≤ (mV T).1 1 ∧ (mV T).1 1 ≤ 6 := hV.2.1
  have b2 : 0 ≤ T.1 34 ∧ T.1 34 ≤ 99 := hV.2.2.1
  have c2 : 0 ≤ (mV T).1 2 ∧ (mV T).1 2 ≤ 99 := hV.2.2.1
  have b3 : 0 ≤ T.2 51 1 ∧ T.2 51 1 ≤ 1 := hV.2.2.2.1
  have c3 : 0 ≤ (mV T).1 3 ∧ (mV T).1 3 ≤ 1 := hV.2.2.2.1
  have b4 : 0 ≤ T.2 51 2 ∧ T.2 51 2 ≤ 16 := hV.2.2.2.2.1
  have c4 : 0 ≤ (mV T).1 4 ∧ (mV T).1 4 ≤ 16 := hV.2.2.2.2.1
  have b5 : 0 ≤ T.2 51 3 ∧ T.2 51 3 ≤ 999 := hV.2.2.2.2.2.1
  have c5 : 0 ≤ (mV T).1 5 ∧ (mV T).1 5 ≤ 999 := hV.2.2.2.2.2.1
  have b6 : 0 ≤ T.2 51 4 ∧ T.2 51 4 ≤ 1999 := hV.2.2.2.2.2.2.1
  have c6 : 0 ≤ (mV T).1 6 ∧ (mV T).1 6 ≤ 1999 := hV.2.2.2.2.2.2.1
  have b7 : 0 ≤ T.2 51 5 ∧ T.2 51 5 ≤ 16 := hV.2.2.2.2.2.2.2.1
  have c7 : 0 ≤ (mV T).1 7 ∧ (mV T).1 7 ≤ 16 := hV.2.2.2.2.2.2.2.1
  have bK : ∀ q, 0 ≤ rK T q ∧ rK T q ≤ 3 := hV.2.2.2.2.2.2.2.2.1
  have bL : ∀ q, 0 ≤ rL T q ∧ rL T q ≤ 9 := hV.2.2.2.2.2.2.2.2.2.1
  have bW : ∀ q, 0 ≤ rW T q ∧ rW T q ≤ 9 := hV.2.2.2.2.2.2.2.2.2.2.1
  have bS : ∀ q, 0 ≤ rS T q ∧ rS T q ≤ 9 := hV.2.2.2.2.2.2.2.2.2.2.2.1
  have bH : ∀ q, 0 ≤ rH T q ∧ rH T q ≤ 1 := hV.2.2.2.2.2.2.2.2.2.2.2.2
  have n0 : (mV T).1 0 = T.1 32 := rfl
  have n1 : (mV T).1 1 = T.1 33 := rfl
  have n2 : (mV T).1 2 = T.1 34 := rfl
  have n3 : (mV T).1 3 = T.2 51 1 := rfl
  have n4 : (mV T).1 4 = T.2 51 2 := rfl
  have n5 : (mV T).1 5 = T.2 51 3 := rfl
  have n6 : (mV T).1 6 = T.2 51 4 := rfl
  have n7 : (mV T).1 7 = T.2 51 5 := rfl
  refine Ct.of false [some (.ref 39), some (vI i), some (vI j), some (vI k), some (vI l)] (plainFor_of_name (by decide)) (fun h => by cases h) (Nat.le_of_ble_eq_true rfl) (fun _ => rfl) sx_isl ?_
  refine sx_aload_n (p1 := 1) dX12_waits_0 rfl rfl ?_
  refine sx_callVn (p1 := 4) (As := []) (k1 := 0) (n1 := 0) dX12_waits_1 rfl rfl (r_X12_reads hT hY) mt_X12_reads ml_X12_120 (hp_c39 _) rfl rfl (Nat.le_of_ble_eq_true rfl) rfl (Nat.le_of_ble_eq_true rfl) rfl rfl (Nat.le_of_ble_eq_true rfl) (Nat.le_of_ble_eq_true rfl) ?_
  refine sx_iload_n (p1 := 5) dX12_waits_4 rfl rfl ?_
  refine sx_i2l (p1 := 6) dX12_waits_5 rfl (by omega) ?_
  refine sx_lconst (y := 1) (p1 := 7) dX12_waits_6 rfl (by decide) ?_
  refine sx_ldc2 (z := 6) (p1 := 10) dX12_waits_7 rfl kc_X12_254 (by decide) ?_
  refine sx_callSr (p1 := 13) (As := [_, _, _]) (k1 := 0) (n1 := 0) dX12_waits_10 rfl rfl (c_X12_in (by omega) (by omega) (by omega)) mt_X12_in ml_X12_58 (Nat.le_of_ble_eq_true rfl) rfl (Nat.le_of_ble_eq_true rfl) rfl rfl (Nat.le_of_ble_eq_true rfl) (Nat.le_of_ble_eq_true rfl) ?_
  refine sx_if_eq (p1 := 16) (tg := 53) dX12_waits_13 rfl rfl (by omega) (fun q13 => ?_) (fun q13 => ?_)
  · refine sx_bipush (p1 := 55) dX12_waits_53 rfl (by decide) ?_
    refine sx_callSr (p1 := 58) (As := [_]) (k1 := 0) (n1 := 0) dX12_waits_55 rfl rfl (c_X12_no (by omega)) mt_X12_no ml_X12_201 (Nat.le_of_ble_eq_true rfl) rfl (Nat.le_of_ble_eq_true rfl) rfl rfl (Nat.le_of_ble_eq_true rfl) (Nat.le_of_ble_eq_true rfl) ?_
    exact sx_lret dX12_waits_58 rfl (sx_rj (by unfold aWaits; first | (rw [if_neg (by omega)]; omega) | (rw [if_pos (by omega), show (fw T (mWb (mV T) i j k 99)).1 37 = (mWb (mV T) i j k 99).1 from rfl, show (fw T (mWb (mV T) i j k 99)).1 38 = (mWb (mV T) i j k 99).2 from rfl, ← mWb_p]; rfl)) (by (repeat' split) <;> first | rfl | omega))
  · refine sx_iload_n (p1 := 17) dX12_waits_16 rfl rfl ?_
    refine sx_i2l (p1 := 18) dX12_waits_17 rfl (by omega) ?_
    refine sx_lconst (y := 0) (p1 := 19) dX12_waits_18 rfl (by decide) ?_
    refine sx_ldc2 (z := 99) (p1 := 22) dX12_waits_19 rfl kc_X12_217 (by decide) ?_
    refine sx_callSr (p1 := 25) (As := [_, _, _]) (k1 := 0) (n1 := 0) dX12_waits_22 rfl rfl (c_X12_in (by omega) (by omega) (by omega)) mt_X12_in ml_X12_58 (Nat.le_of_ble_eq_true rfl) rfl (Nat.le_of_ble_eq_true rfl) rfl rfl (Nat.le_of_ble_eq_true rfl) (Nat.le_of_ble_eq_true rfl) ?_
    refine sx_if_eq (p1 := 28) (tg := 53) dX12_waits_25 rfl rfl (by omega) (fun q25 => ?_) (fun q25 => ?_)
    · refine sx_bipush (p1 := 55) dX12_waits_53 rfl (by decide) ?_
      refine sx_callSr (p1 := 58) (As := [_]) (k1 := 0) (n1 := 0) dX12_waits_55 rfl rfl (c_X12_no (by omega)) mt_X12_no ml_X12_201 (Nat.le_of_ble_eq_true rfl) rfl (Nat.le_of_ble_eq_true rfl) rfl rfl (Nat.le_of_ble_eq_true rfl) (Nat.le_of_ble_eq_true rfl) ?_
      exact sx_lret dX12_waits_58 rfl (sx_rj (by unfold aWaits; first | (rw [if_neg (by omega)]; omega) | (rw [if_pos (by omega), show (fw T (mWb (mV T) i j k 99)).1 37 = (mWb (mV T) i j k 99).1 from rfl, show (fw T (mWb (mV T) i j k 99)).1 38 = (mWb (mV T) i j k 99).2 from rfl, ← mWb_p]; rfl)) (by (repeat' split) <;> first | rfl | omega))
    · refine sx_iload_n (p1 := 29) dX12_waits_28 rfl rfl ?_
      refine sx_i2l (p1 := 30) dX12_waits_29 rfl (by omega) ?_
      refine sx_lconst (y := 0) (p1 := 31) dX12_waits_30 rfl (by decide) ?_
      refine sx_ldc2 (z := 999) (p1 := 34) dX12_waits_31 rfl kc_X12_256 (by decide) ?_
      refine sx_callSr (p1 := 37) (As := [_, _, _]) (k1 := 0) (n1 := 0) dX12_waits_34 rfl rfl (c_X12_in (by omega) (by omega) (by omega)) mt_X12_in ml_X12_58 (Nat.le_of_ble_eq_true rfl) rfl (Nat.le_of_ble_eq_true rfl) rfl rfl (Nat.le_of_ble_eq_true rfl) (Nat.le_of_ble_eq_true rfl) ?_
      refine sx_if_eq (p1 := 40) (tg := 53) dX12_waits_37 rfl rfl (by omega) (fun q37 => ?_) (fun q37 => ?_)
      · refine sx_bipush (p1 := 55) dX12_waits_53 rfl (by decide) ?_
        refine sx_callSr (p1 := 58) (As := [_]) (k1 := 0) (n1 := 0) dX12_waits_55 rfl rfl (c_X12_no (by omega)) mt_X12_no ml_X12_201 (Nat.le_of_ble_eq_true rfl) rfl (Nat.le_of_ble_eq_true rfl) rfl rfl (Nat.le_of_ble_eq_true rfl) (Nat.le_of_ble_eq_true rfl) ?_
        exact sx_lret dX12_waits_58 rfl (sx_rj (by unfold aWaits; first | (rw [if_neg (by omega)]; omega) | (rw [if_pos (by omega), show (fw T (mWb (mV T) i j k 99)).1 37 = (mWb (mV T) i j k 99).1 from rfl, show (fw T (mWb (mV T) i j k 99)).1 38 = (mWb (mV T) i j k 99).2 from rfl, ← mWb_p]; rfl)) (by (repeat' split) <;> first | rfl | omega))
      · refine sx_iload (p1 := 42) dX12_waits_40 rfl rfl ?_
        refine sx_i2l (p1 := 43) dX12_waits_42 rfl (by omega) ?_
        refine sx_lconst (y := 0) (p1 := 44) dX12_waits_43 rfl (by decide) ?_
        refine sx_ldc2 (z := 2) (p1 := 47) dX12_waits_44 rfl kc_X12_72 (by decide) ?_
        refine sx_callSr (p1 := 50) (As := [_, _, _]) (k1 := 0) (n1 := 0) dX12_waits_47 rfl rfl (c_X12_in (by omega) (by omega) (by omega)) mt_X12_in ml_X12_58 (Nat.le_of_ble_eq_true rfl) rfl (Nat.le_of_ble_eq_true rfl) rfl rfl (Nat.le_of_ble_eq_true rfl) (Nat.le_of_ble_eq_true rfl) ?_
        refine sx_if_ne (p1 := 53) (tg := 59) dX12_waits_50 rfl rfl (by omega) (fun q50 => ?_) (fun q50 => ?_)
        · have wb := mWb_b hV (n := i) (co := k) (by omega) (by omega) j 99 (by decide)
          refine sx_aload_n (p1 := 60) dX12_waits_59 rfl rfl ?_
          refine sx_iload_n (p1 := 61) dX12_waits_60 rfl rfl ?_
          refine sx_iload_n (p1 := 62) dX12_waits_61 rfl rfl ?_
          refine sx_iload_n (p1 := 63) dX12_waits_62 rfl rfl ?_
          refine sx_callVn (p1 := 66) (As := [_, _, _]) (k1 := 0) (n1 := 0) dX12_waits_63 rfl rfl (c_X12_findWait hQ (by omega) (by omega) (by omega)) mt_X12_findWait ml_X12_258 (hp_c39 _) rfl rfl (Nat.le_of_ble_eq_true rfl) rfl (Nat.le_of_ble_eq_true rfl) rfl rfl (Nat.le_of_ble_eq_true rfl) (Nat.le_of_ble_eq_true rfl) ?_
          refine sx_aload_n (p1 := 67) dX12_waits_66 rfl rfl ?_
          refine sx_iload (p1 := 69) dX12_waits_67 rfl rfl ?_
          refine sx_callVr (p1 := 72) (As := [_]) (k1 := 0) (n1 := 0) dX12_waits_69 rfl rfl (c_X12_tellsWait (S := fw T (mWb (mV T) i j k 99)) (show -2147483648 ≤ (mWb (mV T) i j k 99).1 ∧ (mWb (mV T) i j k 99).1 ≤ 2147483647 by omega) (show 0 ≤ (mWb (mV T) i j k 99).2 ∧ (mWb (mV T) i j k 99).2 ≤ 2147483647 by omega) (by omega)) mt_X12_tellsWait ml_X12_262 (hp_c39 _) rfl rfl (Nat.le_of_ble_eq_true rfl) rfl (Nat.le_of_ble_eq_true rfl) rfl rfl (Nat.le_of_ble_eq_true rfl) (Nat.le_of_ble_eq_true rfl) ?_
          exact sx_lret dX12_waits_72 rfl (sx_rj (by unfold aWaits; first | (rw [if_neg (by omega)]; omega) | (rw [if_pos (by omega), show (fw T (mWb (mV T) i j k 99)).1 37 = (mWb (mV T) i j k 99).1 from rfl, show (fw T (mWb (mV T) i j k 99)).1 38 = (mWb (mV T) i j k 99).2 from rfl, ← mWb_p]; rfl)) (by (repeat' split) <;> first | rfl | omega))
        · refine sx_bipush (p1 := 55) dX12_waits_53 rfl (by decide) ?_
          refine sx_callSr (p1 := 58) (As := [_]) (k1 := 0) (n1 := 0) dX12_waits_55 rfl rfl (c_X12_no (by omega)) mt_X12_no ml_X12_201 (Nat.le_of_ble_eq_true rfl) rfl (Nat.le_of_ble_eq_true rfl) rfl rfl (Nat.le_of_ble_eq_true rfl) (Nat.le_of_ble_eq_true rfl) ?_
          exact sx_lret dX12_waits_58 rfl (sx_rj (by unfold aWaits; first | (rw [if_neg (by omega)]; omega) | (rw [if_pos (by omega), show (fw T (mWb (mV T) i j k 99)).1 37 = (mWb (mV T) i j k 99).1 from rfl, show (fw T (mWb (mV T) i j k 99)).1 38 = (mWb (mV T) i j k 99).2 from rfl, ← mWb_p]; rfl)) (by (repeat' split) <;> first | rfl | omega))
