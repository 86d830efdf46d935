set_option maxRecDepth 20000 in
theorem c_X12_order {X : sx_X} {S : St} {i : Int} {T : St} {b : Nat} (hT : rdS S = T) (hY : okY S) (hQ : okQ T b) (hi : -2147483648 ≤ i ∧ i ≤ 2147483647) : Ct X yX12_order cX12_order 2 (some .int) 7 0 0 [.ref 39, vI i] (hp S) (sx_is (some (vI (if 0 ≤ i ∧ i ≤ 5 then aOrd (mV T) (rO T (T.1 33).toNat (fc ((T.1 33).toNat - 1))).2 i else -2))) (hp (if 0 ≤ i ∧ i ≤ 5 then sA T 53 (rO T (T.1 33).toNat (fc ((T.1 33).toNat - 1))).2 else T))) := by
  have hV := hQ.1
  have hW := okQ_W hQ
  have b0 : 0 ≤ T.1 32 ∧ T.1 32 ≤ 16 := hV.1
  have c0 : 0 ≤ (mV T).1 0 ∧ (mV T).1 0 ≤ 16 := hV.1
  have b1 : 0 ≤ T.1 33 ∧ T.1 33 ≤ 6 := hV.2.1
  have c1 : 0 ≤ (mV T).1 1 ∧ (mV T).1 1 ≤ 6 := hV.2.1
  have b2 : 0 ≤ T.1 34 ∧ T.1 34 ≤ 99 := hV.2.2.1
  have c2 : 0 ≤ (mV T).1 2 ∧ (mV T).1 2 ≤ 99 := hV.2.2.1
  have b3 : 0 ≤ T.2 51 1 ∧ T.2 51 1 ≤ 1 := hV.2.2.2.1
  have c3 : 0 ≤ (mV T).1 3 ∧ (mV T).1 3 ≤ 1 := hV.2.2.2.1
  have b4 : 0 ≤ T.2 51 2 ∧ T.2 51 2 ≤ 16 := hV.2.2.2.2.1
  have c4 : 0 ≤ (mV T).1 4 ∧ (mV T).1 4 ≤ 16 := hV.2.2.2.2.1
  have b5 : 0 ≤ T.2 51 3 ∧ T.2 51 3 ≤ 999 := hV.2.2.2.2.2.1
  have c5 : 0 ≤ (mV T).1 5 ∧ (mV T).1 5 ≤ 999 := hV.2.2.2.2.2.1
  have b6 : 0 ≤ T.2 51 4 ∧ T.2 51 4 ≤ 1999 := hV.2.2.2.2.2.2.1
  have c6 : 0 ≤ (mV T).1 6 ∧ (mV T).1 6 ≤ 1999 := hV.2.2.2.2.2.2.1
  have b7 : 0 ≤ T.2 51 5 ∧ T.2 51 5 ≤ 16 := hV.2.2.2.2.2.2.2.1
  have c7 : 0 ≤ (mV T).1 7 ∧ (mV T).1 7 ≤ 16 := hV.2.2.2.2.2.2.2.1
  have bK : ∀ q, 0 ≤ rK T q ∧ rK T q ≤ 3 := hV.2.2.2.2.2.2.2.2.1
  have bL : ∀ q, 0 ≤ rL T q ∧ rL T q ≤ 9 := hV.2.2.2.2.2.2.2.2.2.1
  have bW : ∀ q, 0 ≤ rW T q ∧ rW T q ≤ 9 := hV.2.2.2.2.2.2.2.2.2.2.1
  have bS : ∀ q, 0 ≤ rS T q ∧ rS T q ≤ 9 := hV.2.2.2.2.2.2.2.2.2.2.2.1
  have bH : ∀ q, 0 ≤ rH T q ∧ rH T q ≤ 1 := hV.2.2.2.2.2.2.2.2.2.2.2.2
  have n0 : (mV T).1 0 = T.1 32 := rfl
  have n1 : (mV T).1 1 = T.1 33 := rfl
  have n2 : (mV T).1 2 = T.1 34 := rfl
  have n3 : (mV T).1 3 = T.2 51 1 := rfl
  have n4 : (mV T).1 4 = T.2 51 2 := rfl
  have n5 : (mV T).1 5 = T.2 51 3 := rfl
  have n6 : (mV T).1 6 = T.2 51 4 := rfl
  have n7 : (mV T).1 7 = T.2 51 5 := rfl
  have hWT : T.1 33 = ((T.1 33).toNat : Int) := by omega
  refine Ct.of false [some (.ref 39), some (vI i)] (plainFor_of_name (by decide)) (fun h => by cases h) (Nat.le_of_ble_eq_true rfl) (fun _ => rfl) sx_isl ?_
  refine sx_aload_n (p1 := 1) dX12_order_0 rfl rfl ?_
  refine sx_callVn (p1 := 4) (As := []) (k1 := 0) (n1 := 0) dX12_order_1 rfl rfl (r_X12_reads hT hY) mt_X12_reads ml_X12_120 (hp_c39 _) rfl rfl (Nat.le_of_ble_eq_true rfl) rfl (Nat.le_of_ble_eq_true rfl) rfl rfl (Nat.le_of_ble_eq_true rfl) (Nat.le_of_ble_eq_true rfl) ?_
  refine sx_iload_n (p1 := 5) dX12_order_4 rfl rfl ?_
  refine sx_i2l (p1 := 6) dX12_order_5 rfl (by omega) ?_
  refine sx_lconst (y := 0) (p1 := 7) dX12_order_6 rfl (by decide) ?_
  refine sx_ldc2 (z := 5) (p1 := 10) dX12_order_7 rfl kc_X12_132 (by decide) ?_
  refine sx_callSr (p1 := 13) (As := [_, _, _]) (k1 := 0) (n1 := 0) dX12_order_10 rfl rfl (c_X12_in (by omega) (by omega) (by omega)) mt_X12_in ml_X12_58 (Nat.le_of_ble_eq_true rfl) rfl (Nat.le_of_ble_eq_true rfl) rfl rfl (Nat.le_of_ble_eq_true rfl) (Nat.le_of_ble_eq_true rfl) ?_
  refine sx_if_ne (p1 := 16) (tg := 19) dX12_order_13 rfl rfl (by omega) (fun q13 => ?_) (fun q13 => ?_)
  · refine sx_aload_n (p1 := 20) dX12_order_19 rfl rfl ?_
    refine sx_callVr (p1 := 23) (As := []) (k1 := 0) (n1 := 0) dX12_order_20 rfl rfl (c_X12_findOrder (W := (T.1 33).toNat) hQ hWT) mt_X12_findOrder ml_X12_229 (hp_c39 _) rfl rfl (Nat.le_of_ble_eq_true rfl) rfl (Nat.le_of_ble_eq_true rfl) rfl rfl (Nat.le_of_ble_eq_true rfl) (Nat.le_of_ble_eq_true rfl) ?_
    refine sx_pop (p1 := 24) dX12_order_23 rfl rfl ?_
    refine sx_iload_n (p1 := 25) dX12_order_24 rfl rfl ?_
    refine sx_aload_n (p1 := 26) dX12_order_25 rfl rfl ?_
    refine sx_get (v := vI (T.1 33)) (p1 := 29) dX12_order_26 rfl fl_X12_106 (hp_c39 _) rfl ?_
    refine sx_icmp_ge (p1 := 32) (tg := 41) dX12_order_29 rfl rfl (by omega) (by omega) (fun q29 => ?_) (fun q29 => ?_)
    · refine sx_iconst (p1 := 42) dX12_order_41 rfl ?_
      exact sx_iret dX12_order_42 rfl (sx_ri (by unfold aOrd; (repeat' split) <;> first | omega | rfl) (by (repeat' split) <;> first | rfl | omega))
    · refine sx_aload_n (p1 := 33) dX12_order_32 rfl rfl ?_
      refine sx_get (p1 := 36) dX12_order_33 rfl fl_X12_50 (hp_c39 _) rfl ?_
      refine sx_iload_n (p1 := 37) dX12_order_36 rfl rfl ?_
      refine sx_iald (g := (rO T (T.1 33).toNat (fc ((T.1 33).toNat - 1))).2) (p1 := 38) dX12_order_37 rfl (hp_c53 _) (by omega) (by decide) ?_
      refine sx_goto (p1 := 42) (tg := 42) dX12_order_38 rfl rfl ?_
      exact sx_iret dX12_order_42 rfl (sx_ri (by unfold aOrd; (repeat' split) <;> first | omega | rfl) (by (repeat' split) <;> first | rfl | omega))
  · refine sx_bipush (p1 := 18) dX12_order_16 rfl (by decide) ?_
    exact sx_iret dX12_order_18 rfl (sx_ri (by unfold aOrd; (repeat' split) <;> first | omega | rfl) (by (repeat' split) <;> first | rfl | omega))
set_option maxRecDepth 20000 in
theorem c_X12_ordered {X : sx_X} {S : St} {i : Int} {T : St} {b : Nat} (hT : rdS S = T) (hY : okY S) (hQ : okQ T b) (hi : -2147483648 ≤ i ∧ i ≤ 2147483647) : Ct X yX12_ordered cX12_ordered 2 (some .long) 7 0 0 [.ref 39, vI i] (hp S) (sx_is (some (vJ (if 0 ≤ i ∧ i ≤ 1 then mFrac (rO T (T.1 33).toNat (fc ((T.1 33).toNat - 1))).1 256 i else -9223372036854775806))) (hp (if 0 ≤ i ∧ i ≤ 1 then sA T 53 (rO T (T.1 33).toNat (fc ((T.1 33).toNat - 1))).2 else T))) := by
  have hV := hQ.1
  have hW := okQ_W hQ
  have b0 : 0 ≤ T.1 32 ∧ T.1 32 ≤ 16 := hV.1
  have c0 : 0 ≤ (mV T).1 0 ∧ (mV T).1 0 ≤ 16 := hV.1
  have b1 : 0 ≤ T.1 33 ∧ T.1 33 ≤ 6 := hV.2.1
  have c1 : 0 ≤ (mV T).1 1 ∧ (mV T).1 1 ≤ 6 := hV.2.1
  have b2 : 0 ≤ T.1 34 ∧ T.1 34 ≤ 99 := hV.2.2.1
  have c2 : 0 ≤ (mV T).1 2 ∧ (mV T).1 2 ≤ 99 := hV.2.2.1
  have b3 : 0 ≤ T.2 51 1 ∧ T.2 51 1 ≤ 1 := hV.2.2.2.1
  have c3 : 0 ≤ (mV T).1 3 ∧ (mV T).1 3 ≤ 1 := hV.2.2.2.1
  have b4 : 0 ≤ T.2 51 2 ∧ T.2 51 2 ≤ 16 := hV.2.2.2.2.1
  have c4 : 0 ≤ (mV T).1 4 ∧ (mV T).1 4 ≤ 16 := hV.2.2.2.2.1
  have b5 : 0 ≤ T.2 51 3 ∧ T.2 51 3 ≤ 999 := hV.2.2.2.2.2.1
  have c5 : 0 ≤ (mV T).1 5 ∧ (mV T).1 5 ≤ 999 := hV.2.2.2.2.2.1
  have b6 : 0 ≤ T.2 51 4 ∧ T.2 51 4 ≤ 1999 := hV.2.2.2.2.2.2.1
  have c6 : 0 ≤ (mV T).1 6 ∧ (mV T).1 6 ≤ 1999 := hV.2.2.2.2.2.2.1
  have b7 : 0 ≤ T.2 51 5 ∧ T.2 51 5 ≤ 16 := hV.2.2.2.2.2.2.2.1
  have c7 : 0 ≤ (mV T).1 7 ∧ (mV T).1 7 ≤ 16 := hV.2.2.2.2.2.2.2.1
  have bK : ∀ q, 0 ≤ rK T q ∧ rK T q ≤ 3 := hV.2.2.2.2.2.2.2.2.1
  have bL : ∀ q, 0 ≤ rL T q ∧ rL T q ≤ 9 := hV.2.2.2.2.2.2.2.2.2.1
  have bW : ∀ q, 0 ≤ rW T q ∧ rW T q ≤ 9 := hV.2.2.2.2.2.2.2.2.2.2.1
  have bS : ∀ q, 0 ≤ rS T q ∧ rS T q ≤ 9 := hV.2.2.2.2.2.2.2.2.2.2.2.1
  have bH : ∀ q, 0 ≤ rH T q ∧ rH T q ≤ 1 := hV.2.2.2.2.2.2.2.2.2.2.2.2
  have n0 : (mV T).1 0 = T.1 32 := rfl
  have n1 : (mV T).1 1 = T.1 33 := rfl
  have n2 : (mV T).1 2 = T.1 34 := rfl
  have n3 : (mV T).1 3 = T.2 51 1 := rfl
  have n4 : (mV T).1 4 = T.2 51 2 := rfl
  have n5 : (mV T).1 5 = T.2 51 3 := rfl
  have n6 : (mV T).1 6 = T.2 51 4 := rfl
  have n7 : (mV T).1 7 = T.2 51 5 := rfl
  have hWT : T.1 33 = ((T.1 33).toNat : Int) := by omega
  have rb := rO_b hV (W := (T.1 33).toNat) (by omega) (fc ((T.1 33).toNat - 1))
  have rc := (rO_end hV hWT (fun _ => 0)).1
  refine Ct.of false [some (.ref 39), some (vI i)] (plainFor_of_name (by decide)) (fun h => by cases h) (Nat.le_of_ble_eq_true rfl) (fun _ => rfl) sx_isl ?_
  refine sx_aload_n (p1 := 1) dX12_ordered_0 rfl rfl ?_
  refine sx_callVn (p1 := 4) (As := []) (k1 := 0) (n1 := 0) dX12_ordered_1 rfl rfl (r_X12_reads hT hY) mt_X12_reads ml_X12_120 (hp_c39 _) rfl rfl (Nat.le_of_ble_eq_true rfl) rfl (Nat.le_of_ble_eq_true rfl) rfl rfl (Nat.le_of_ble_eq_true rfl) (Nat.le_of_ble_eq_true rfl) ?_
  refine sx_iload_n (p1 := 5) dX12_ordered_4 rfl rfl ?_
  refine sx_callSr (p1 := 8) (As := [_]) (k1 := 0) (n1 := 0) dX12_ordered_5 rfl rfl (c_X12_isTwo (by omega)) mt_X12_isTwo ml_X12_87 (Nat.le_of_ble_eq_true rfl) rfl (Nat.le_of_ble_eq_true rfl) rfl rfl (Nat.le_of_ble_eq_true rfl) (Nat.le_of_ble_eq_true rfl) ?_
  refine sx_if_eq (p1 := 11) (tg := 26) dX12_ordered_8 rfl rfl (by omega) (fun q8 => ?_) (fun q8 => ?_)
  · refine sx_bipush (p1 := 28) dX12_ordered_26 rfl (by decide) ?_
    refine sx_callSr (p1 := 31) (As := [_]) (k1 := 0) (n1 := 0) dX12_ordered_28 rfl rfl (c_X12_no (by omega)) mt_X12_no ml_X12_201 (Nat.le_of_ble_eq_true rfl) rfl (Nat.le_of_ble_eq_true rfl) rfl rfl (Nat.le_of_ble_eq_true rfl) (Nat.le_of_ble_eq_true rfl) ?_
    exact sx_lret dX12_ordered_31 rfl (sx_rj (by (repeat' split) <;> first | omega | rfl) (by (repeat' split) <;> first | rfl | omega))
  · refine sx_aload_n (p1 := 12) dX12_ordered_11 rfl rfl ?_
    refine sx_callVr (p1 := 15) (As := []) (k1 := 0) (n1 := 0) dX12_ordered_12 rfl rfl (c_X12_findOrder (W := (T.1 33).toNat) hQ hWT) mt_X12_findOrder ml_X12_229 (hp_c39 _) rfl rfl (Nat.le_of_ble_eq_true rfl) rfl (Nat.le_of_ble_eq_true rfl) rfl rfl (Nat.le_of_ble_eq_true rfl) (Nat.le_of_ble_eq_true rfl) ?_
    refine sx_i2l (p1 := 16) dX12_ordered_15 rfl (by omega) ?_
    refine sx_ldc2 (z := 256) (p1 := 19) dX12_ordered_16 rfl kc_X12_195 (by decide) ?_
    refine sx_iload_n (p1 := 20) dX12_ordered_19 rfl rfl ?_
    refine sx_callSr (p1 := 23) (As := [_, _, _]) (k1 := 0) (n1 := 0) dX12_ordered_20 rfl rfl (c_X12_part (by omega) (by omega) (by omega)) mt_X12_part ml_X12_197 (Nat.le_of_ble_eq_true rfl) rfl (Nat.le_of_ble_eq_true rfl) rfl rfl (Nat.le_of_ble_eq_true rfl) (Nat.le_of_ble_eq_true rfl) ?_
    refine sx_goto (p1 := 31) (tg := 31) dX12_ordered_23 rfl rfl ?_
    exact sx_lret dX12_ordered_31 rfl (sx_rj (by (repeat' split) <;> first | omega | rfl) (by (repeat' split) <;> first | rfl | omega))
set_option maxRecDepth 20000 in
theorem c_X12_helmets {X : sx_X} {S : St} {i j : Int} {T : St} {b : Nat} (hT : rdS S = T) (hY : okY S) (hQ : okQ T b) (h36 : -2147483648 ≤ T.1 36 ∧ T.1 36 ≤ 2147483647) (hi : -2147483648 ≤ i ∧ i ≤ 2147483647) (hj : -2147483648 ≤ j ∧ j ≤ 2147483647) : Ct X yX12_helmets cX12_helmets 3 (some .long) 7 0 0 [.ref 39, vI i, vI j] (hp S) (sx_is (some (vJ (aHelm (mV T) i j))) (hp (if (0 ≤ i ∧ i ≤ T.1 33) ∧ 0 ≤ j ∧ j ≤ 2 then si T 36 (fh (mV T) (T.1 34) i (T.1 36) (T.1 35) (2 ^ (T.1 33).toNat)).2.1 else T))) := by
  have hV := hQ.1
  have hW := okQ_W hQ
  have b0 : 0 ≤ T.1 32 ∧ T.1 32 ≤ 16 := hV.1
  have c0 : 0 ≤ (mV T).1 0 ∧ (mV T).1 0 ≤ 16 := hV.1
  have b1 : 0 ≤ T.1 33 ∧ T.1 33 ≤ 6 := hV.2.1
  have c1 : 0 ≤ (mV T).1 1 ∧ (mV T).1 1 ≤ 6 := hV.2.1
  have b2 : 0 ≤ T.1 34 ∧ T.1 34 ≤ 99 := hV.2.2.1
  have c2 : 0 ≤ (mV T).1 2 ∧ (mV T).1 2 ≤ 99 := hV.2.2.1
  have b3 : 0 ≤ T.2 51 1 ∧ T.2 51 1 ≤ 1 := hV.2.2.2.1
  have c3 : 0 ≤ (mV T).1 3 ∧ (mV T).1 3 ≤ 1 := hV.2.2.2.1
  have b4 : 0 ≤ T.2 51 2 ∧ T.2 51 2 ≤ 16 := hV.2.2.2.2.1
  have c4 : 0 ≤ (mV T).1 4 ∧ (mV T).1 4 ≤ 16 := hV.2.2.2.2.1
  have b5 : 0 ≤ T.2 51 3 ∧ T.2 51 3 ≤ 999 := hV.2.2.2.2.2.1
  have c5 : 0 ≤ (mV T).1 5 ∧ (mV T).1 5 ≤ 999 := hV.2.2.2.2.2.1
  have b6 : 0 ≤ T.2 51 4 ∧ T.2 51 4 ≤ 1999 := hV.2.2.2.2.2.2.1
  have c6 : 0 ≤ (mV T).1 6 ∧ (mV T).1 6 ≤ 1999 := hV.2.2.2.2.2.2.1
  have b7 : 0 ≤ T.2 51 5 ∧ T.2 51 5 ≤ 16 := hV.2.2.2.2.2.2.2.1
  have c7 : 0 ≤ (mV T).1 7 ∧ (mV T).1 7 ≤ 16 := hV.2.2.2.2.2.2.2.1
  have bK : ∀ q, 0 ≤ rK T q ∧ rK T q ≤ 3 := hV.2.2.2.2.2.2.2.2.1
  have bL : ∀ q, 0 ≤ rL T q ∧ rL T q ≤ 9 := hV.2.2.2.2.2.2.2.2.2.1
  have bW : ∀ q, 0 ≤ rW T q ∧ rW T q ≤ 9 := hV.2.2.2.2.2.2.2.2.2.2.1
  have bS : ∀ q, 0 ≤ rS T q ∧ rS T q ≤ 9 := hV.2.2.2.2.2.2.2.2.2.2.2.1
  have bH : ∀ q, 0 ≤ rH T q ∧ rH T q ≤ 1 := hV.2.2.2.2.2.2.2.2.2.2.2.2
  have n0 : (mV T).1 0 = T.1 32 := rfl
  have n1 : (mV T).1 1 = T.1 33 := rfl
  have n2 : (mV T).1 2 = T.1 34 := rfl
  have n3 : (mV T).1 3 = T.2 51 1 := rfl
  have n4 : (mV T).1 4 = T.2 51 2 := rfl
  have n5 : (mV T).1 5 = T.2 51 3 := rfl
  have n6 : (mV T).1 6 = T.2 51 4 := rfl
  have n7 : (mV T).1 7 = T.2 51 5 := rfl
  have fe : 0 ≤ i ∧ i ≤ T.1 33 → (fh (mV T) (T.1 34) i (T.1 36) (T.1 35) (2 ^ (T.1 33).toNat)).1 = aHb (mV T) i ∧ (fh (mV T) (T.1 34) i (T.1 36) (T.1 35) (2 ^ (T.1 33).toNat)).2.1 = mHelm (mV T) (T.1 34) (aHb (mV T) i).toNat := fun q => fh_end hV (gap := T.1 34) (T.1 36) (T.1 35) q
  have hm := mHelm_b hV (T.1 34) (aHb (mV T) i).toNat
  have hb := mHb_lt (V := mV T) (T.1 34) i (pow_b b1).1 (pow_b b1).2
  have hb2 : 0 ≤ aHb (mV T) i ∧ aHb (mV T) i < 64 := hb
  refine Ct.of false [some (.ref 39), some (vI i), some (vI j)] (plainFor_of_name (by decide)) (fun h => by cases h) (Nat.le_of_ble_eq_true rfl) (fun _ => rfl) sx_isl ?_
  refine sx_aload_n (p1 := 1) dX12_helmets_0 rfl rfl ?_
  refine sx_callVn (p1 := 4) (As := []) (k1 := 0) (n1 := 0) dX12_helmets_1 rfl rfl (r_X12_reads hT hY) mt_X12_reads ml_X12_120 (hp_c39 _) rfl rfl (Nat.le_of_ble_eq_true rfl) rfl (Nat.le_of_ble_eq_true rfl) rfl rfl (Nat.le_of_ble_eq_true rfl) (Nat.le_of_ble_eq_true rfl) ?_
  refine sx_iload_n (p1 := 5) dX12_helmets_4 rfl rfl ?_
  refine sx_i2l (p1 := 6) dX12_helmets_5 rfl (by omega) ?_
  refine sx_lconst (y := 0) (p1 := 7) dX12_helmets_6 rfl (by decide) ?_
  refine sx_aload_n (p1 := 8) dX12_helmets_7 rfl rfl ?_
  refine sx_get (v := vI (T.1 33)) (p1 := 11) dX12_helmets_8 rfl fl_X12_106 (hp_c39 _) rfl ?_
  refine sx_i2l (p1 := 12) dX12_helmets_11 rfl (by omega) ?_
  refine sx_callSr (p1 := 15) (As := [_, _, _]) (k1 := 0) (n1 := 0) dX12_helmets_12 rfl rfl (c_X12_in (by omega) (by omega) (by omega)) mt_X12_in ml_X12_58 (Nat.le_of_ble_eq_true rfl) rfl (Nat.le_of_ble_eq_true rfl) rfl rfl (Nat.le_of_ble_eq_true rfl) (Nat.le_of_ble_eq_true rfl) ?_
  refine sx_if_eq (p1 := 18) (tg := 43) dX12_helmets_15 rfl rfl (by omega) (fun q15 => ?_) (fun q15 => ?_)
  · refine sx_bipush (p1 := 45) dX12_helmets_43 rfl (by decide) ?_
    refine sx_callSr (p1 := 48) (As := [_]) (k1 := 0) (n1 := 0) dX12_helmets_45 rfl rfl (c_X12_no (by omega)) mt_X12_no ml_X12_201 (Nat.le_of_ble_eq_true rfl) rfl (Nat.le_of_ble_eq_true rfl) rfl rfl (Nat.le_of_ble_eq_true rfl) (Nat.le_of_ble_eq_true rfl) ?_
    exact sx_lret dX12_helmets_48 rfl (sx_rj (by unfold aHelm; first | (rw [if_neg (by omega)]; omega) | (rw [if_pos (show (0 ≤ i ∧ i ≤ (mV T).1 1) ∧ 0 ≤ j ∧ j ≤ 2 by omega), fi.1, show (si T 36 (fh (mV T) (T.1 34) i (T.1 36) (T.1 35) (2 ^ (T.1 33).toNat)).2.1).1 36 = (fh (mV T) (T.1 34) i (T.1 36) (T.1 35) (2 ^ (T.1 33).toNat)).2.1 from rfl, fi.2]; rfl)) (by (repeat' split) <;> first | rfl | omega))
  · refine sx_iload_n (p1 := 19) dX12_helmets_18 rfl rfl ?_
    refine sx_i2l (p1 := 20) dX12_helmets_19 rfl (by omega) ?_
    refine sx_lconst (y := 0) (p1 := 21) dX12_helmets_20 rfl (by decide) ?_
    refine sx_ldc2 (z := 2) (p1 := 24) dX12_helmets_21 rfl kc_X12_72 (by decide) ?_
    refine sx_callSr (p1 := 27) (As := [_, _, _]) (k1 := 0) (n1 := 0) dX12_helmets_24 rfl rfl (c_X12_in (by omega) (by omega) (by omega)) mt_X12_in ml_X12_58 (Nat.le_of_ble_eq_true rfl) rfl (Nat.le_of_ble_eq_true rfl) rfl rfl (Nat.le_of_ble_eq_true rfl) (Nat.le_of_ble_eq_true rfl) ?_
    refine sx_if_eq (p1 := 30) (tg := 43) dX12_helmets_27 rfl rfl (by omega) (fun q27 => ?_) (fun q27 => ?_)
    · refine sx_bipush (p1 := 45) dX12_helmets_43 rfl (by decide) ?_
      refine sx_callSr (p1 := 48) (As := [_]) (k1 := 0) (n1 := 0) dX12_helmets_45 rfl rfl (c_X12_no (by omega)) mt_X12_no ml_X12_201 (Nat.le_of_ble_eq_true rfl) rfl (Nat.le_of_ble_eq_true rfl) rfl rfl (Nat.le_of_ble_eq_true rfl) (Nat.le_of_ble_eq_true rfl) ?_
      exact sx_lret dX12_helmets_48 rfl (sx_rj (by unfold aHelm; first | (rw [if_neg (by omega)]; omega) | (rw [if_pos (show (0 ≤ i ∧ i ≤ (mV T).1 1) ∧ 0 ≤ j ∧ j ≤ 2 by omega), fi.1, show (si T 36 (fh (mV T) (T.1 34) i (T.1 36) (T.1 35) (2 ^ (T.1 33).toNat)).2.1).1 36 = (fh (mV T) (T.1 34) i (T.1 36) (T.1 35) (2 ^ (T.1 33).toNat)).2.1 from rfl, fi.2]; rfl)) (by (repeat' split) <;> first | rfl | omega))
    · have fi := fe (by omega)
      refine sx_aload_n (p1 := 31) dX12_helmets_30 rfl rfl ?_
      refine sx_aload_n (p1 := 32) dX12_helmets_31 rfl rfl ?_
      refine sx_iload_n (p1 := 33) dX12_helmets_32 rfl rfl ?_
      refine sx_callVr (p1 := 36) (As := [_]) (k1 := 0) (n1 := 0) dX12_helmets_33 rfl rfl (c_X12_findHelmets hQ h36 (by omega)) mt_X12_findHelmets ml_X12_238 (hp_c39 _) rfl rfl (Nat.le_of_ble_eq_true rfl) rfl (Nat.le_of_ble_eq_true rfl) rfl rfl (Nat.le_of_ble_eq_true rfl) (Nat.le_of_ble_eq_true rfl) ?_
      refine sx_iload_n (p1 := 37) dX12_helmets_36 rfl rfl ?_
      refine sx_callVr (p1 := 40) (As := [_, _]) (k1 := 0) (n1 := 0) dX12_helmets_37 rfl rfl (c_X12_tellsHelmets (S := si T 36 (fh (mV T) (T.1 34) i (T.1 36) (T.1 35) (2 ^ (T.1 33).toNat)).2.1) (show 0 ≤ (fh (mV T) (T.1 34) i (T.1 36) (T.1 35) (2 ^ (T.1 33).toNat)).2.1 ∧ (fh (mV T) (T.1 34) i (T.1 36) (T.1 35) (2 ^ (T.1 33).toNat)).2.1 ≤ 2147483647 by omega) (by omega) (by omega)) mt_X12_tellsHelmets ml_X12_241 (hp_c39 _) rfl rfl (Nat.le_of_ble_eq_true rfl) rfl (Nat.le_of_ble_eq_true rfl) rfl rfl (Nat.le_of_ble_eq_true rfl) (Nat.le_of_ble_eq_true rfl) ?_
      refine sx_goto (p1 := 48) (tg := 48) dX12_helmets_40 rfl rfl ?_
      exact sx_lret dX12_helmets_48 rfl (sx_rj (by unfold aHelm; first | (rw [if_neg (by omega)]; omega) | (rw [if_pos (show (0 ≤ i ∧ i ≤ (mV T).1 1) ∧ 0 ≤ j ∧ j ≤ 2 by omega), fi.1, show (si T 36 (fh (mV T) (T.1 34) i (T.1 36) (T.1 35) (2 ^ (T.1 33).toNat)).2.1).1 36 = (fh (mV T) (T.1 34) i (T.1 36) (T.1 35) (2 ^ (T.1 33).toNat)).2.1 from rfl, fi.2]; rfl)) (by (repeat' split) <;> first | rfl | omega))
set_option maxRecDepth 20000 in
theorem c_X12_waits {X : sx_X} {S : St} {i j k l : Int} {T : St} {b : Nat} (hT : rdS S = T) (hY : okY S) (hQ : okQ T b) (hi : -2147483648 ≤ i ∧ i ≤ 2147483647) (hj : -2147483648 ≤ j ∧ j ≤ 2147483647) (hk : -2147483648 ≤ k ∧ k ≤ 2147483647) (hl : -2147483648 ≤ l ∧ l ≤ 2147483647) : Ct X yX12_waits cX12_waits 5 (some .long) 5 0 0 [.ref 39, vI i, vI j, vI k, vI l] (hp S) (sx_is (some (vJ (aWaits (mV T) i j k l))) (hp (if (1 ≤ i ∧ i ≤ 6) ∧ (0 ≤ j ∧ j ≤ 99) ∧ (0 ≤ k ∧ k ≤ 999) ∧ 0 ≤ l ∧ l ≤ 2 then fw T (mWb (mV T) i j k 99) else T))) := by
  have hV := hQ.1
  have hW := okQ_W hQ
  have b0 : 0 ≤ T.1 32 ∧ T.1 32 ≤ 16 := hV.1
  have c0 : 0 ≤ (mV T).1 0 ∧ (mV T).1 0 ≤ 16 := hV.1
  have b1 : 0 ≤ T.1 33 ∧ T.1 33 ≤ 6 := hV.2.1
  have c1 : 0 ≤ (mV T).1 1 ∧ (mV T).1 1 ≤ 6 := hV.2.1
  have b2 : 0 ≤ T.1 34 ∧ T.1 34 ≤ 99 := hV.2.2.1
  have c2 : 0 ≤ (mV T).1 2 ∧ (mV T).1 2 ≤ 99 := hV.2.2.1
  have b3 : 0 ≤ T.2 51 1 ∧ T.2 51 1 ≤ 1 := hV.2.2.2.1
  have c3 : 0 ≤ (mV T).1 3 ∧ (mV T).1 3 ≤ 1 := hV.2.2.2.1
  have b4 : 0 ≤ T.2 51 2 ∧ T.2 51 2 ≤ 16 := hV.2.2.2.2.1
  have c4 : 0 ≤ (mV T).1 4 ∧ (mV T).1 4 ≤ 16 := hV.2.2.2.2.1
  have b5 : 0 ≤ T.2 51 3 ∧ T.2 51 3 ≤ 999 := hV.2.2.2.2.2.1
  have c5 : 0 ≤ (mV T).1 5 ∧ (mV T).1 5 ≤ 999 := hV.2.2.2.2.2.1
  have b6 : 0 ≤ T.2 51 4 ∧ T.2 51 4 ≤ 1999 := hV.2.2.2.2.2.2.1
  have c6 : 0 ≤ (mV T).1 6 ∧ (mV T).1 6 ≤ 1999 := hV.2.2.2.2.2.2.1
  have b7 : 0 ≤ T.2 51 5 ∧ T.2 51 5 ≤ 16 := hV.2.2.2.2.2.2.2.1
  have c7 : 0 ≤ (mV T).1 7 ∧ (mV T).1 7 ≤ 16 := hV.2.2.2.2.2.2.2.1
  have bK : ∀ q, 0 ≤ rK T q ∧ rK T q ≤ 3 := hV.2.2.2.2.2.2.2.2.1
  have bL : ∀ q, 0 ≤ rL T q ∧ rL T q ≤ 9 := hV.2.2.2.2.2.2.2.2.2.1
  have bW : ∀ q, 0 ≤ rW T q ∧ rW T q ≤ 9 := hV.2.2.2.2.2.2.2.2.2.2.1
  have bS : ∀ q, 0 ≤ rS T q ∧ rS T q ≤ 9 := hV.2.2.2.2.2.2.2.2.2.2.2.1
  have bH : ∀ q, 0 ≤ rH T q ∧ rH T q ≤ 1 := hV.2.2.2.2.2.2.2.2.2.2.2.2
  have n0 : (mV T).1 0 = T.1 32 := rfl
  have n1 : (mV T).1 1 = T.1 33 := rfl
  have n2 : (mV T).1 2 = T.1 34 := rfl
  have n3 : (mV T).1 3 = T.2 51 1 := rfl
  have n4 : (mV T).1 4 = T.2 51 2 := rfl
  have n5 : (mV T).1 5 = T.2 51 3 := rfl
  have n6 : (mV T).1 6 = T.2 51 4 := rfl
  have n7 : (mV T).1 7 = T.2 51 5 := rfl
  refine Ct.of false [some (.ref 39), some (vI i), some (vI j), some (vI k), some (vI l)] (plainFor_of_name (by decide)) (fun h => by cases h) (Nat.le_of_ble_eq_true rfl) (fun _ => rfl) sx_isl ?_
  refine sx_aload_n (p1 := 1) dX12_waits_0 rfl rfl ?_
  refine sx_callVn (p1 := 4) (As := []) (k1 := 0) (n1 := 0) dX12_waits_1 rfl rfl (r_X12_reads hT hY) mt_X12_reads ml_X12_120 (hp_c39 _) rfl rfl (Nat.le_of_ble_eq_true rfl) rfl (Nat.le_of_ble_eq_true rfl) rfl rfl (Nat.le_of_ble_eq_true rfl) (Nat.le_of_ble_eq_true rfl) ?_
  refine sx_iload_n (p1 := 5) dX12_waits_4 rfl rfl ?_
  refine sx_i2l (p1 := 6) dX12_waits_5 rfl (by omega) ?_
  refine sx_lconst (y := 1) (p1 := 7) dX12_waits_6 rfl (by decide) ?_
  refine sx_ldc2 (z := 6) (p1 := 10) dX12_waits_7 rfl kc_X12_254 (by decide) ?_
  refine sx_callSr (p1 := 13) (As := [_, _, _]) (k1 := 0) (n1 := 0) dX12_waits_10 rfl rfl (c_X12_in (by omega) (by omega) (by omega)) mt_X12_in ml_X12_58 (Nat.le_of_ble_eq_true rfl) rfl (Nat.le_of_ble_eq_true rfl) rfl rfl (Nat.le_of_ble_eq_true rfl) (Nat.le_of_ble_eq_true rfl) ?_
  refine sx_if_eq (p1 := 16) (tg := 53) dX12_waits_13 rfl rfl (by omega) (fun q13 => ?_) (fun q13 => ?_)
  · refine sx_bipush (p1 := 55) dX12_waits_53 rfl (by decide) ?_
    refine sx_callSr (p1 := 58) (As := [_]) (k1 := 0) (n1 := 0) dX12_waits_55 rfl rfl (c_X12_no (by omega)) mt_X12_no ml_X12_201 (Nat.le_of_ble_eq_true rfl) rfl (Nat.le_of_ble_eq_true rfl) rfl rfl (Nat.le_of_ble_eq_true rfl) (Nat.le_of_ble_eq_true rfl) ?_
    exact sx_lret dX12_waits_58 rfl (sx_rj (by unfold aWaits; first | (rw [if_neg (by omega)]; omega) | (rw [if_pos (show (1 ≤ i ∧ i ≤ 6) ∧ (0 ≤ j ∧ j ≤ 99) ∧ (0 ≤ k ∧ k ≤ 999) ∧ 0 ≤ l ∧ l ≤ 2 by omega), show (fw T (mWb (mV T) i j k 99)).1 37 = (mWb (mV T) i j k 99).1 from rfl, show (fw T (mWb (mV T) i j k 99)).1 38 = (mWb (mV T) i j k 99).2 from rfl, ← mWb_p])) (by (repeat' split) <;> first | rfl | omega))
  · refine sx_iload_n (p1 := 17) dX12_waits_16 rfl rfl ?_
    refine sx_i2l (p1 := 18) dX12_waits_17 rfl (by omega) ?_
    refine sx_lconst (y := 0) (p1 := 19) dX12_waits_18 rfl (by decide) ?_
    refine sx_ldc2 (z := 99) (p1 := 22) dX12_waits_19 rfl kc_X12_217 (by decide) ?_
    refine sx_callSr (p1 := 25) (As := [_, _, _]) (k1 := 0) (n1 := 0) dX12_waits_22 rfl rfl (c_X12_in (by omega) (by omega) (by omega)) mt_X12_in ml_X12_58 (Nat.le_of_ble_eq_true rfl) rfl (Nat.le_of_ble_eq_true rfl) rfl rfl (Nat.le_of_ble_eq_true rfl) (Nat.le_of_ble_eq_true rfl) ?_
    refine sx_if_eq (p1 := 28) (tg := 53) dX12_waits_25 rfl rfl (by omega) (fun q25 => ?_) (fun q25 => ?_)
    · refine sx_bipush (p1 := 55) dX12_waits_53 rfl (by decide) ?_
      refine sx_callSr (p1 := 58) (As := [_]) (k1 := 0) (n1 := 0) dX12_waits_55 rfl rfl (c_X12_no (by omega)) mt_X12_no ml_X12_201 (Nat.le_of_ble_eq_true rfl) rfl (Nat.le_of_ble_eq_true rfl) rfl rfl (Nat.le_of_ble_eq_true rfl) (Nat.le_of_ble_eq_true rfl) ?_
      exact sx_lret dX12_waits_58 rfl (sx_rj (by unfold aWaits; first | (rw [if_neg (by omega)]; omega) | (rw [if_pos (show (1 ≤ i ∧ i ≤ 6) ∧ (0 ≤ j ∧ j ≤ 99) ∧ (0 ≤ k ∧ k ≤ 999) ∧ 0 ≤ l ∧ l ≤ 2 by omega), show (fw T (mWb (mV T) i j k 99)).1 37 = (mWb (mV T) i j k 99).1 from rfl, show (fw T (mWb (mV T) i j k 99)).1 38 = (mWb (mV T) i j k 99).2 from rfl, ← mWb_p])) (by (repeat' split) <;> first | rfl | omega))
    · refine sx_iload_n (p1 := 29) dX12_waits_28 rfl rfl ?_
      refine sx_i2l (p1 := 30) dX12_waits_29 rfl (by omega) ?_
      refine sx_lconst (y := 0) (p1 := 31) dX12_waits_30 rfl (by decide) ?_
      refine sx_ldc2 (z := 999) (p1 := 34) dX12_waits_31 rfl kc_X12_256 (by decide) ?_
      refine sx_callSr (p1 := 37) (As := [_, _, _]) (k1 := 0) (n1 := 0) dX12_waits_34 rfl rfl (c_X12_in (by omega) (by omega) (by omega)) mt_X12_in ml_X12_58 (Nat.le_of_ble_eq_true rfl) rfl (Nat.le_of_ble_eq_true rfl) rfl rfl (Nat.le_of_ble_eq_true rfl) (Nat.le_of_ble_eq_true rfl) ?_
      refine sx_if_eq (p1 := 40) (tg := 53) dX12_waits_37 rfl rfl (by omega) (fun q37 => ?_) (fun q37 => ?_)
      · refine sx_bipush (p1 := 55) dX12_waits_53 rfl (by decide) ?_
        refine sx_callSr (p1 := 58) (As := [_]) (k1 := 0) (n1 := 0) dX12_waits_55 rfl rfl (c_X12_no (by omega)) mt_X12_no ml_X12_201 (Nat.le_of_ble_eq_true rfl) rfl (Nat.le_of_ble_eq_true rfl) rfl rfl (Nat.le_of_ble_eq_true rfl) (Nat.le_of_ble_eq_true rfl) ?_
        exact sx_lret dX12_waits_58 rfl (sx_rj (by unfold aWaits; first | (rw [if_neg (by omega)]; omega) | (rw [if_pos (show (1 ≤ i ∧ i ≤ 6) ∧ (0 ≤ j ∧ j ≤ 99) ∧ (0 ≤ k ∧ k ≤ 999) ∧ 0 ≤ l ∧ l ≤ 2 by omega), show (fw T (mWb (mV T) i j k 99)).1 37 = (mWb (mV T) i j k 99).1 from rfl, show (fw T (mWb (mV T) i j k 99)).1 38 = (mWb (mV T) i j k 99).2 from rfl, ← mWb_p])) (by (repeat' split) <;> first | rfl | omega))
      · refine sx_iload (p1 := 42) dX12_waits_40 rfl rfl ?_
        refine sx_i2l (p1 := 43) dX12_waits_42 rfl (by omega) ?_
        refine sx_lconst (y := 0) (p1 := 44) dX12_waits_43 rfl (by decide) ?_
        refine sx_ldc2 (z := 2) (p1 := 47) dX12_waits_44 rfl kc_X12_72 (by decide) ?_
        refine sx_callSr (p1 := 50) (As := [_, _, _]) (k1 := 0) (n1 := 0) dX12_waits_47 rfl rfl (c_X12_in (by omega) (by omega) (by omega)) mt_X12_in ml_X12_58 (Nat.le_of_ble_eq_true rfl) rfl (Nat.le_of_ble_eq_true rfl) rfl rfl (Nat.le_of_ble_eq_true rfl) (Nat.le_of_ble_eq_true rfl) ?_
        refine sx_if_ne (p1 := 53) (tg := 59) dX12_waits_50 rfl rfl (by omega) (fun q50 => ?_) (fun q50 => ?_)
        · have wb := mWb_b hV (n := i) (co := k) (by omega) (by omega) j 99 (by decide)
          refine sx_aload_n (p1 := 60) dX12_waits_59 rfl rfl ?_
          refine sx_iload_n (p1 := 61) dX12_waits_60 rfl rfl ?_
          refine sx_iload_n (p1 := 62) dX12_waits_61 rfl rfl ?_
          refine sx_iload_n (p1 := 63) dX12_waits_62 rfl rfl ?_
          refine sx_callVn (p1 := 66) (As := [_, _, _]) (k1 := 0) (n1 := 0) dX12_waits_63 rfl rfl (c_X12_findWait hQ (by omega) (by omega) (by omega)) mt_X12_findWait ml_X12_258 (hp_c39 _) rfl rfl (Nat.le_of_ble_eq_true rfl) rfl (Nat.le_of_ble_eq_true rfl) rfl rfl (Nat.le_of_ble_eq_true rfl) (Nat.le_of_ble_eq_true rfl) ?_
          refine sx_aload_n (p1 := 67) dX12_waits_66 rfl rfl ?_
          refine sx_iload (p1 := 69) dX12_waits_67 rfl rfl ?_
          refine sx_callVr (p1 := 72) (As := [_]) (k1 := 0) (n1 := 0) dX12_waits_69 rfl rfl (c_X12_tellsWait (S := fw T (mWb (mV T) i j k 99)) (show -2147483648 ≤ (mWb (mV T) i j k 99).1 ∧ (mWb (mV T) i j k 99).1 ≤ 2147483647 by omega) (show 0 ≤ (mWb (mV T) i j k 99).2 ∧ (mWb (mV T) i j k 99).2 ≤ 2147483647 by omega) (by omega)) mt_X12_tellsWait ml_X12_262 (hp_c39 _) rfl rfl (Nat.le_of_ble_eq_true rfl) rfl (Nat.le_of_ble_eq_true rfl) rfl rfl (Nat.le_of_ble_eq_true rfl) (Nat.le_of_ble_eq_true rfl) ?_
          exact sx_lret dX12_waits_72 rfl (sx_rj (by unfold aWaits; first | (rw [if_neg (by omega)]; omega) | (rw [if_pos (show (1 ≤ i ∧ i ≤ 6) ∧ (0 ≤ j ∧ j ≤ 99) ∧ (0 ≤ k ∧ k ≤ 999) ∧ 0 ≤ l ∧ l ≤ 2 by omega), show (fw T (mWb (mV T) i j k 99)).1 37 = (mWb (mV T) i j k 99).1 from rfl, show (fw T (mWb (mV T) i j k 99)).1 38 = (mWb (mV T) i j k 99).2 from rfl, ← mWb_p])) (by (repeat' split) <;> first | rfl | omega))
        · refine sx_bipush (p1 := 55) dX12_waits_53 rfl (by decide) ?_
          refine sx_callSr (p1 := 58) (As := [_]) (k1 := 0) (n1 := 0) dX12_waits_55 rfl rfl (c_X12_no (by omega)) mt_X12_no ml_X12_201 (Nat.le_of_ble_eq_true rfl) rfl (Nat.le_of_ble_eq_true rfl) rfl rfl (Nat.le_of_ble_eq_true rfl) (Nat.le_of_ble_eq_true rfl) ?_
          exact sx_lret dX12_waits_58 rfl (sx_rj (by unfold aWaits; first | (rw [if_neg (by omega)]; omega) | (rw [if_pos (show (1 ≤ i ∧ i ≤ 6) ∧ (0 ≤ j ∧ j ≤ 99) ∧ (0 ≤ k ∧ k ≤ 999) ∧ 0 ≤ l ∧ l ≤ 2 by omega), show (fw T (mWb (mV T) i j k 99)).1 37 = (mWb (mV T) i j k 99).1 from rfl, show (fw T (mWb (mV T) i j k 99)).1 38 = (mWb (mV T) i j k 99).2 from rfl, ← mWb_p])) (by (repeat' split) <;> first | rfl | omega))
set_option maxRecDepth 20000 in
theorem n_X12_type {X : sx_X} {S : St} {i j : Int} (hn : i ≠ 0 ∧ i ≠ 1) (hi : -2147483648 ≤ i ∧ i ≤ 2147483647) (hj : -2147483648 ≤ j ∧ j ≤ 2147483647) : Ct X yX12_type cX12_type 3 (some .int) 2 0 0 [.ref 39, vI i, vI j] (hp S) (sx_is (some (vI (-2))) (hp (S))) := by
  refine Ct.of false [some (.ref 39), some (vI i), some (vI j)] (plainFor_of_name (by decide)) (fun h => by cases h) (Nat.le_of_ble_eq_true rfl) (fun _ => rfl) sx_isl ?_
  refine sx_iload_n (p1 := 1) dX12_type_0 rfl rfl ?_
  refine sx_callSr (p1 := 4) (As := [_]) (k1 := 0) (n1 := 0) dX12_type_1 rfl rfl (c_X12_isTwo (by omega)) mt_X12_isTwo ml_X12_87 (Nat.le_of_ble_eq_true rfl) rfl (Nat.le_of_ble_eq_true rfl) rfl rfl (Nat.le_of_ble_eq_true rfl) (Nat.le_of_ble_eq_true rfl) ?_
  refine sx_if_eq (p1 := 7) (tg := 19) dX12_type_4 rfl rfl (by split <;> omega) (fun q4 => ?_) (fun q4 => absurd q4 (by rw [if_neg (by omega)]; omega))
  refine sx_bipush (p1 := 21) dX12_type_19 rfl (by decide) ?_
  exact sx_iret dX12_type_21 rfl (sx_ri (by first | rfl | omega) (by rfl))
set_option maxRecDepth 20000 in
theorem n_X12_wipe {X : sx_X} {S : St} {i : Int} (hn : i ≠ 0 ∧ i ≠ 1) (hi : -2147483648 ≤ i ∧ i ≤ 2147483647) : Ct X yX12_wipe cX12_wipe 3 (some .int) 2 0 0 [.ref 39, vI i] (hp S) (sx_is (some (vI (-2))) (hp (S))) := by
  refine Ct.of false [some (.ref 39), some (vI i), none] (plainFor_of_name (by decide)) (fun h => by cases h) (Nat.le_of_ble_eq_true rfl) (fun _ => rfl) sx_isl ?_
  refine sx_iload_n (p1 := 1) dX12_wipe_0 rfl rfl ?_
  refine sx_callSr (p1 := 4) (As := [_]) (k1 := 0) (n1 := 0) dX12_wipe_1 rfl rfl (c_X12_isTwo (by omega)) mt_X12_isTwo ml_X12_87 (Nat.le_of_ble_eq_true rfl) rfl (Nat.le_of_ble_eq_true rfl) rfl rfl (Nat.le_of_ble_eq_true rfl) (Nat.le_of_ble_eq_true rfl) ?_
  refine sx_if_ne (p1 := 7) (tg := 10) dX12_wipe_4 rfl rfl (by split <;> omega) (fun q4 => absurd q4 (by rw [if_neg (by omega)]; omega)) (fun q4 => ?_)
  refine sx_bipush (p1 := 9) dX12_wipe_7 rfl (by decide) ?_
  exact sx_iret dX12_wipe_9 rfl (sx_ri (by first | rfl | omega) (by rfl))
set_option maxRecDepth 20000 in
theorem n_X12_undo {X : sx_X} {S : St} {i : Int} (hn : i ≠ 0 ∧ i ≠ 1) (hi : -2147483648 ≤ i ∧ i ≤ 2147483647) : Ct X yX12_undo cX12_undo 2 (some .int) 2 0 0 [.ref 39, vI i] (hp S) (sx_is (some (vI (-2))) (hp (S))) := by
  refine Ct.of false [some (.ref 39), some (vI i)] (plainFor_of_name (by decide)) (fun h => by cases h) (Nat.le_of_ble_eq_true rfl) (fun _ => rfl) sx_isl ?_
  refine sx_iload_n (p1 := 1) dX12_undo_0 rfl rfl ?_
  refine sx_callSr (p1 := 4) (As := [_]) (k1 := 0) (n1 := 0) dX12_undo_1 rfl rfl (c_X12_isTwo (by omega)) mt_X12_isTwo ml_X12_87 (Nat.le_of_ble_eq_true rfl) rfl (Nat.le_of_ble_eq_true rfl) rfl rfl (Nat.le_of_ble_eq_true rfl) (Nat.le_of_ble_eq_true rfl) ?_
  refine sx_if_ne (p1 := 7) (tg := 10) dX12_undo_4 rfl rfl (by split <;> omega) (fun q4 => absurd q4 (by rw [if_neg (by omega)]; omega)) (fun q4 => ?_)
  refine sx_bipush (p1 := 9) dX12_undo_7 rfl (by decide) ?_
  exact sx_iret dX12_undo_9 rfl (sx_ri (by first | rfl | omega) (by rfl))
set_option maxRecDepth 20000 in
theorem c_X12_type {X : sx_X} {S : St} {t : Nat} {j : Int} (ht : t < 2) (hl : 0 ≤ S.2 45 t ∧ S.2 45 t ≤ txM t) (hj : -2147483648 ≤ j ∧ j ≤ 2147483647) : Ct X yX12_type cX12_type 3 (some .int) 2 0 0 [.ref 39, vI (t : Int), vI j] (hp S) (sx_is (some (vI (if 0 ≤ j ∧ j ≤ 255 then (if txM t ≤ S.2 45 t then -4 else S.2 45 t + 1) else -2))) (hp (if 0 ≤ j ∧ j ≤ 255 ∧ S.2 45 t < txM t then sa (sa S 44 (40 * t + (S.2 45 t).toNat) j) 45 t (S.2 45 t + 1) else S))) := by
  have tm := txM_o t
  have tz : txM t = if (t : Int) = 0 then 32 else 23 := by
    unfold txM
    by_cases c : t = 0
    · rw [if_pos c, if_pos (by omega)]
    · rw [if_neg c, if_neg (by omega)]
  have ti : -2147483648 ≤ (t : Int) ∧ (t : Int) ≤ 2147483647 := by omega
  refine Ct.of false [some (.ref 39), some (vI (t : Int)), some (vI j)] (plainFor_of_name (by decide)) (fun h => by cases h) (Nat.le_of_ble_eq_true rfl) (fun _ => rfl) sx_isl ?_
  refine sx_iload_n (p1 := 1) dX12_type_0 rfl rfl ?_
  refine sx_callSr (p1 := 4) (As := [_]) (k1 := 0) (n1 := 0) dX12_type_1 rfl rfl (c_X12_isTwo (by omega)) mt_X12_isTwo ml_X12_87 (Nat.le_of_ble_eq_true rfl) rfl (Nat.le_of_ble_eq_true rfl) rfl rfl (Nat.le_of_ble_eq_true rfl) (Nat.le_of_ble_eq_true rfl) ?_
  refine sx_if_eq (p1 := 7) (tg := 19) dX12_type_4 rfl rfl (by split <;> omega) (fun q4 => absurd q4 (by rw [if_pos (by omega)]; omega)) (fun q4 => ?_)
  refine sx_iload_n (p1 := 8) dX12_type_7 rfl rfl ?_
  refine sx_i2l (p1 := 9) dX12_type_8 rfl (by omega) ?_
  refine sx_lconst (y := 0) (p1 := 10) dX12_type_9 rfl (by decide) ?_
  refine sx_ldc2 (z := 255) (p1 := 13) dX12_type_10 rfl kc_X12_90 (by decide) ?_
  refine sx_callSr (p1 := 16) (As := [_, _, _]) (k1 := 0) (n1 := 0) dX12_type_13 rfl rfl (c_X12_in (by omega) (by omega) (by omega)) mt_X12_in ml_X12_58 (Nat.le_of_ble_eq_true rfl) rfl (Nat.le_of_ble_eq_true rfl) rfl rfl (Nat.le_of_ble_eq_true rfl) (Nat.le_of_ble_eq_true rfl) ?_
  refine sx_if_ne (p1 := 19) (tg := 22) dX12_type_16 rfl rfl (by split <;> omega) (fun q16 => ?_) (fun q16 => ?_)
  · refine sx_aload_n (p1 := 23) dX12_type_22 rfl rfl ?_
    refine sx_get (p1 := 26) dX12_type_23 rfl fl_X12_25 (hp_c39 _) rfl ?_
    refine sx_iload_n (p1 := 27) dX12_type_26 rfl rfl ?_
    refine sx_iald (g := S.2 45) (p1 := 28) dX12_type_27 rfl (hp_c45 _) (by omega) (by decide) ?_
    rw [Int.toNat_natCast]
    refine sx_iload_n (p1 := 29) dX12_type_28 rfl rfl ?_
    refine sx_if_ne (p1 := 32) (tg := 37) dX12_type_29 rfl rfl (by omega) (fun q29 => ?_) (fun q29 => ?_)
    · refine sx_bipush (p1 := 39) dX12_type_37 rfl (by decide) ?_
      refine sx_icmp_ne (p1 := 42) (tg := 45) dX12_type_39 rfl rfl (by omega) (by omega) (fun q39 => ?_) (fun q39 => ?_)
      · refine sx_aload_n (p1 := 46) dX12_type_45 rfl rfl ?_
        refine sx_get (p1 := 49) dX12_type_46 rfl fl_X12_22 (hp_c39 _) rfl ?_
        refine sx_bipush (p1 := 51) dX12_type_49 rfl (by decide) ?_
        refine sx_iload_n (p1 := 52) dX12_type_51 rfl rfl ?_
        refine sx_imul (p1 := 53) dX12_type_52 rfl ?_
        refine sx_aload_n (p1 := 54) dX12_type_53 rfl rfl ?_
        refine sx_get (p1 := 57) dX12_type_54 rfl fl_X12_25 (hp_c39 _) rfl ?_
        refine sx_iload_n (p1 := 58) dX12_type_57 rfl rfl ?_
        refine sx_iald (g := S.2 45) (p1 := 59) dX12_type_58 rfl (hp_c45 _) (by omega) (by decide) ?_
        rw [Int.toNat_natCast]
        refine sx_iadd (p1 := 60) dX12_type_59 rfl ?_
        refine sx_iload_n (p1 := 61) dX12_type_60 rfl rfl ?_
        refine sx_iast (p1 := 62) dX12_type_61 rfl (hp_c44 _) (by omega) (by decide) (hp_a44 _ _ _) ?_
        rw [show (40 * (t : Int) + S.2 45 t).toNat = 40 * t + (S.2 45 t).toNat by omega]
        refine sx_aload_n (p1 := 63) dX12_type_62 rfl rfl ?_
        refine sx_get (p1 := 66) dX12_type_63 rfl fl_X12_25 (hp_c39 _) rfl ?_
        refine sx_iload_n (p1 := 67) dX12_type_66 rfl rfl ?_
        refine sx_dup2 (p1 := 68) dX12_type_67 rfl rfl rfl ?_
        refine sx_iald (g := S.2 45) (p1 := 69) dX12_type_68 rfl (hp_c45 _) (by omega) (by decide) ?_
        refine sx_iconst (p1 := 70) dX12_type_69 rfl ?_
        refine sx_iadd (p1 := 71) dX12_type_70 rfl ?_
        refine sx_iast (p1 := 72) dX12_type_71 rfl (hp_c45 _) (by omega) (by decide) (hp_a45 _ _ _) ?_
        rw [Int.toNat_natCast]
        refine sx_aload_n (p1 := 73) dX12_type_72 rfl rfl ?_
        refine sx_get (p1 := 76) dX12_type_73 rfl fl_X12_25 (hp_c39 _) rfl ?_
        refine sx_iload_n (p1 := 77) dX12_type_76 rfl rfl ?_
        refine sx_iald (g := sx_u (S.2 45) t (S.2 45 t + 1)) (p1 := 78) dX12_type_77 rfl (hp_c45 _) (by omega) (by decide) ?_
        rw [Int.toNat_natCast]
        exact sx_iret dX12_type_78 rfl (sx_ri (by rw [if_pos (by omega), if_neg (by omega)]; simp [sa, sx_u]) (by rw [if_pos (by omega)]))
      · refine sx_bipush (p1 := 44) dX12_type_42 rfl (by decide) ?_
        exact sx_iret dX12_type_44 rfl (sx_ri (by rw [if_pos (by omega), if_pos (by omega)]) (by rw [if_neg (by omega)]))
    · refine sx_bipush (p1 := 34) dX12_type_32 rfl (by decide) ?_
      refine sx_goto (p1 := 39) (tg := 39) dX12_type_34 rfl rfl ?_
      refine sx_icmp_ne (p1 := 42) (tg := 45) dX12_type_39 rfl rfl (by omega) (by omega) (fun q39 => ?_) (fun q39 => ?_)
      · refine sx_aload_n (p1 := 46) dX12_type_45 rfl rfl ?_
        refine sx_get (p1 := 49) dX12_type_46 rfl fl_X12_22 (hp_c39 _) rfl ?_
        refine sx_bipush (p1 := 51) dX12_type_49 rfl (by decide) ?_
        refine sx_iload_n (p1 := 52) dX12_type_51 rfl rfl ?_
        refine sx_imul (p1 := 53) dX12_type_52 rfl ?_
        refine sx_aload_n (p1 := 54) dX12_type_53 rfl rfl ?_
        refine sx_get (p1 := 57) dX12_type_54 rfl fl_X12_25 (hp_c39 _) rfl ?_
        refine sx_iload_n (p1 := 58) dX12_type_57 rfl rfl ?_
        refine sx_iald (g := S.2 45) (p1 := 59) dX12_type_58 rfl (hp_c45 _) (by omega) (by decide) ?_
        rw [Int.toNat_natCast]
        refine sx_iadd (p1 := 60) dX12_type_59 rfl ?_
        refine sx_iload_n (p1 := 61) dX12_type_60 rfl rfl ?_
        refine sx_iast (p1 := 62) dX12_type_61 rfl (hp_c44 _) (by omega) (by decide) (hp_a44 _ _ _) ?_
        rw [show (40 * (t : Int) + S.2 45 t).toNat = 40 * t + (S.2 45 t).toNat by omega]
        refine sx_aload_n (p1 := 63) dX12_type_62 rfl rfl ?_
        refine sx_get (p1 := 66) dX12_type_63 rfl fl_X12_25 (hp_c39 _) rfl ?_
        refine sx_iload_n (p1 := 67) dX12_type_66 rfl rfl ?_
        refine sx_dup2 (p1 := 68) dX12_type_67 rfl rfl rfl ?_
        refine sx_iald (g := S.2 45) (p1 := 69) dX12_type_68 rfl (hp_c45 _) (by omega) (by decide) ?_
        refine sx_iconst (p1 := 70) dX12_type_69 rfl ?_
        refine sx_iadd (p1 := 71) dX12_type_70 rfl ?_
        refine sx_iast (p1 := 72) dX12_type_71 rfl (hp_c45 _) (by omega) (by decide) (hp_a45 _ _ _) ?_
        rw [Int.toNat_natCast]
        refine sx_aload_n (p1 := 73) dX12_type_72 rfl rfl ?_
        refine sx_get (p1 := 76) dX12_type_73 rfl fl_X12_25 (hp_c39 _) rfl ?_
        refine sx_iload_n (p1 := 77) dX12_type_76 rfl rfl ?_
        refine sx_iald (g := sx_u (S.2 45) t (S.2 45 t + 1)) (p1 := 78) dX12_type_77 rfl (hp_c45 _) (by omega) (by decide) ?_
        rw [Int.toNat_natCast]
        exact sx_iret dX12_type_78 rfl (sx_ri (by rw [if_pos (by omega), if_neg (by omega)]; simp [sa, sx_u]) (by rw [if_pos (by omega)]))
      · refine sx_bipush (p1 := 44) dX12_type_42 rfl (by decide) ?_
        exact sx_iret dX12_type_44 rfl (sx_ri (by rw [if_pos (by omega), if_pos (by omega)]) (by rw [if_neg (by omega)]))
  · refine sx_bipush (p1 := 21) dX12_type_19 rfl (by decide) ?_
    exact sx_iret dX12_type_21 rfl (sx_ri (by rw [if_neg (by omega)]) (by rw [if_neg (by omega)]))
set_option maxRecDepth 20000 in
theorem c_X12_wipe {X : sx_X} {S : St} {t : Nat} (ht : t < 2)  : Ct X yX12_wipe cX12_wipe 3 (some .int) 2 0 0 [.ref 39, vI (t : Int)] (hp S) (sx_is (some (vI (S.2 45 t))) (hp (sa S 45 t 0))) := by
  have ti : -2147483648 ≤ (t : Int) ∧ (t : Int) ≤ 2147483647 := by omega
  refine Ct.of false [some (.ref 39), some (vI (t : Int)), none] (plainFor_of_name (by decide)) (fun h => by cases h) (Nat.le_of_ble_eq_true rfl) (fun _ => rfl) sx_isl ?_
  refine sx_iload_n (p1 := 1) dX12_wipe_0 rfl rfl ?_
  refine sx_callSr (p1 := 4) (As := [_]) (k1 := 0) (n1 := 0) dX12_wipe_1 rfl rfl (c_X12_isTwo (by omega)) mt_X12_isTwo ml_X12_87 (Nat.le_of_ble_eq_true rfl) rfl (Nat.le_of_ble_eq_true rfl) rfl rfl (Nat.le_of_ble_eq_true rfl) (Nat.le_of_ble_eq_true rfl) ?_
  refine sx_if_ne (p1 := 7) (tg := 10) dX12_wipe_4 rfl rfl (by split <;> omega) (fun q4 => ?_) (fun q4 => absurd q4 (by rw [if_pos (by omega)]; omega))
  refine sx_aload_n (p1 := 11) dX12_wipe_10 rfl rfl ?_
  refine sx_get (p1 := 14) dX12_wipe_11 rfl fl_X12_25 (hp_c39 _) rfl ?_
  refine sx_iload_n (p1 := 15) dX12_wipe_14 rfl rfl ?_
  refine sx_iald (g := S.2 45) (p1 := 16) dX12_wipe_15 rfl (hp_c45 _) (by omega) (by decide) ?_
  rw [Int.toNat_natCast]
  refine sx_istore_n (lo1 := [some _, some _, some _]) (p1 := 17) dX12_wipe_16 rfl (by decide) rfl ?_
  refine sx_aload_n (p1 := 18) dX12_wipe_17 rfl rfl ?_
  refine sx_get (p1 := 21) dX12_wipe_18 rfl fl_X12_25 (hp_c39 _) rfl ?_
  refine sx_iload_n (p1 := 22) dX12_wipe_21 rfl rfl ?_
  refine sx_iconst (p1 := 23) dX12_wipe_22 rfl ?_
  refine sx_iast (p1 := 24) dX12_wipe_23 rfl (hp_c45 _) (by omega) (by decide) (hp_a45 _ _ _) ?_
  rw [Int.toNat_natCast]
  refine sx_iload_n (p1 := 25) dX12_wipe_24 rfl rfl ?_
  exact sx_iret dX12_wipe_25 rfl (sx_ri (by rfl) (by rfl))
set_option maxRecDepth 20000 in
theorem c_X12_undo {X : sx_X} {S : St} {t : Nat} (ht : t < 2) (hl : 0 ≤ S.2 45 t ∧ S.2 45 t ≤ txM t)  : Ct X yX12_undo cX12_undo 2 (some .int) 2 0 0 [.ref 39, vI (t : Int)] (hp S) (sx_is (some (vI (if S.2 45 t = 0 then -3 else S.2 45 t - 1))) (hp (if S.2 45 t = 0 then S else sa S 45 t (S.2 45 t - 1)))) := by
  have tm := txM_o t
  have ti : -2147483648 ≤ (t : Int) ∧ (t : Int) ≤ 2147483647 := by omega
  refine Ct.of false [some (.ref 39), some (vI (t : Int))] (plainFor_of_name (by decide)) (fun h => by cases h) (Nat.le_of_ble_eq_true rfl) (fun _ => rfl) sx_isl ?_
  refine sx_iload_n (p1 := 1) dX12_undo_0 rfl rfl ?_
  refine sx_callSr (p1 := 4) (As := [_]) (k1 := 0) (n1 := 0) dX12_undo_1 rfl rfl (c_X12_isTwo (by omega)) mt_X12_isTwo ml_X12_87 (Nat.le_of_ble_eq_true rfl) rfl (Nat.le_of_ble_eq_true rfl) rfl rfl (Nat.le_of_ble_eq_true rfl) (Nat.le_of_ble_eq_true rfl) ?_
  refine sx_if_ne (p1 := 7) (tg := 10) dX12_undo_4 rfl rfl (by split <;> omega) (fun q4 => ?_) (fun q4 => absurd q4 (by rw [if_pos (by omega)]; omega))
  refine sx_aload_n (p1 := 11) dX12_undo_10 rfl rfl ?_
  refine sx_get (p1 := 14) dX12_undo_11 rfl fl_X12_25 (hp_c39 _) rfl ?_
  refine sx_iload_n (p1 := 15) dX12_undo_14 rfl rfl ?_
  refine sx_iald (g := S.2 45) (p1 := 16) dX12_undo_15 rfl (hp_c45 _) (by omega) (by decide) ?_
  rw [Int.toNat_natCast]
  refine sx_if_ne (p1 := 19) (tg := 22) dX12_undo_16 rfl rfl (by omega) (fun q16 => ?_) (fun q16 => ?_)
  · refine sx_aload_n (p1 := 23) dX12_undo_22 rfl rfl ?_
    refine sx_get (p1 := 26) dX12_undo_23 rfl fl_X12_25 (hp_c39 _) rfl ?_
    refine sx_iload_n (p1 := 27) dX12_undo_26 rfl rfl ?_
    refine sx_dup2 (p1 := 28) dX12_undo_27 rfl rfl rfl ?_
    refine sx_iald (g := S.2 45) (p1 := 29) dX12_undo_28 rfl (hp_c45 _) (by omega) (by decide) ?_
    rw [Int.toNat_natCast]
    refine sx_iconst (p1 := 30) dX12_undo_29 rfl ?_
    refine sx_isub (p1 := 31) dX12_undo_30 rfl ?_
    refine sx_iast (p1 := 32) dX12_undo_31 rfl (hp_c45 _) (by omega) (by decide) (hp_a45 _ _ _) ?_
    rw [Int.toNat_natCast]
    refine sx_aload_n (p1 := 33) dX12_undo_32 rfl rfl ?_
    refine sx_get (p1 := 36) dX12_undo_33 rfl fl_X12_25 (hp_c39 _) rfl ?_
    refine sx_iload_n (p1 := 37) dX12_undo_36 rfl rfl ?_
    refine sx_iald (g := sx_u (S.2 45) t (S.2 45 t - 1)) (p1 := 38) dX12_undo_37 rfl (hp_c45 _) (by omega) (by decide) ?_
    rw [Int.toNat_natCast]
    exact sx_iret dX12_undo_38 rfl (sx_ri (by rw [if_neg (by omega)]; simp [sa, sx_u]) (by rw [if_neg (by omega)]))
  · refine sx_bipush (p1 := 21) dX12_undo_19 rfl (by decide) ?_
    exact sx_iret dX12_undo_21 rfl (sx_ri (by rw [if_pos (by omega)]) (by rw [if_pos (by omega)]))
set_option maxRecDepth 20000 in
theorem n_X12_set {X : sx_X} {S : St} {i j : Int} (hi : -2147483648 ≤ i ∧ i ≤ 2147483647) (hj : -2147483648 ≤ j ∧ j ≤ 2147483647) (hn : ¬ ((0 ≤ i ∧ i < 6) ∧ 0 ≤ j ∧ j ≤ sx_most i.toNat)) : Ct X yX12_set cX12_set 4 (some .int) 1 0 0 [.ref 39, vI i, vI j] (hp S) (sx_is (some (vI (-2))) (hp (S))) := by
  have hm : ∀ k, 1 ≤ sx_most k ∧ sx_most k ≤ 1999 := by
    intro k
    unfold sx_most
    split <;> omega
  have hm2 := hm i.toNat
  refine Ct.of false [some (.ref 39), some (vI i), some (vI j), none] (plainFor_of_name (by decide)) (fun h => by cases h) (Nat.le_of_ble_eq_true rfl) (fun _ => rfl) sx_isl ?_
  refine sx_iload_n (p1 := 1) dX12_set_0 rfl rfl ?_
  refine sx_i2l (p1 := 2) dX12_set_1 rfl (by omega) ?_
  refine sx_lconst (y := 0) (p1 := 3) dX12_set_2 rfl (by decide) ?_
  refine sx_ldc2 (z := 5) (p1 := 6) dX12_set_3 rfl kc_X12_132 (by decide) ?_
  refine sx_callSr (p1 := 9) (As := [_, _, _]) (k1 := 0) (n1 := 0) dX12_set_6 rfl rfl (c_X12_in (by omega) (by omega) (by omega)) mt_X12_in ml_X12_58 (Nat.le_of_ble_eq_true rfl) rfl (Nat.le_of_ble_eq_true rfl) rfl rfl (Nat.le_of_ble_eq_true rfl) (Nat.le_of_ble_eq_true rfl) ?_
  refine sx_if_eq (p1 := 12) (tg := 26) dX12_set_9 rfl rfl (by split <;> omega) (fun q9 => ?_) (fun q9 => ?_)
  · refine sx_bipush (p1 := 28) dX12_set_26 rfl (by decide) ?_
    exact sx_iret dX12_set_28 rfl (sx_ri (by first | rfl | omega) (by rfl))
  · refine sx_iload_n (p1 := 13) dX12_set_12 rfl rfl ?_
    refine sx_i2l (p1 := 14) dX12_set_13 rfl (by omega) ?_
    refine sx_lconst (y := 0) (p1 := 15) dX12_set_14 rfl (by decide) ?_
    refine sx_iload_n (p1 := 16) dX12_set_15 rfl rfl ?_
    refine sx_callSr (p1 := 19) (As := [_]) (k1 := 0) (n1 := 0) dX12_set_16 rfl rfl (c_X12_most (by omega)) mt_X12_most ml_X12_134 (Nat.le_of_ble_eq_true rfl) rfl (Nat.le_of_ble_eq_true rfl) rfl rfl (Nat.le_of_ble_eq_true rfl) (Nat.le_of_ble_eq_true rfl) ?_
    refine sx_i2l (p1 := 20) dX12_set_19 rfl (by omega) ?_
    refine sx_callSr (p1 := 23) (As := [_, _, _]) (k1 := 0) (n1 := 0) dX12_set_20 rfl rfl (c_X12_in (by omega) (by omega) (by omega)) mt_X12_in ml_X12_58 (Nat.le_of_ble_eq_true rfl) rfl (Nat.le_of_ble_eq_true rfl) rfl rfl (Nat.le_of_ble_eq_true rfl) (Nat.le_of_ble_eq_true rfl) ?_
    refine sx_if_ne (p1 := 26) (tg := 29) dX12_set_23 rfl rfl (by split <;> omega) (fun q23 => absurd q23 (by rw [if_neg (by omega)]; omega)) (fun q23 => ?_)
    refine sx_bipush (p1 := 28) dX12_set_26 rfl (by decide) ?_
    exact sx_iret dX12_set_28 rfl (sx_ri (by first | rfl | omega) (by rfl))
set_option maxRecDepth 20000 in
theorem c_X12_set {X : sx_X} {S : St} {k : Nat} {j : Int} (hk : k < 6) (hj : 0 ≤ j ∧ j ≤ sx_most k) : Ct X yX12_set cX12_set 4 (some .int) 1 0 0 [.ref 39, vI (k : Int), vI j] (hp S) (sx_is (some (vI (S.2 51 k))) (hp (sa S 51 k j))) := by
  have hm : ∀ q, 1 ≤ sx_most q ∧ sx_most q ≤ 1999 := by
    intro q
    unfold sx_most
    split <;> omega
  have hm2 := hm k
  have hm3 : sx_most (k : Int).toNat = sx_most k := by rw [Int.toNat_natCast]
  refine Ct.of false [some (.ref 39), some (vI (k : Int)), some (vI j), none] (plainFor_of_name (by decide)) (fun h => by cases h) (Nat.le_of_ble_eq_true rfl) (fun _ => rfl) sx_isl ?_
  refine sx_iload_n (p1 := 1) dX12_set_0 rfl rfl ?_
  refine sx_i2l (p1 := 2) dX12_set_1 rfl (by omega) ?_
  refine sx_lconst (y := 0) (p1 := 3) dX12_set_2 rfl (by decide) ?_
  refine sx_ldc2 (z := 5) (p1 := 6) dX12_set_3 rfl kc_X12_132 (by decide) ?_
  refine sx_callSr (p1 := 9) (As := [_, _, _]) (k1 := 0) (n1 := 0) dX12_set_6 rfl rfl (c_X12_in (by omega) (by omega) (by omega)) mt_X12_in ml_X12_58 (Nat.le_of_ble_eq_true rfl) rfl (Nat.le_of_ble_eq_true rfl) rfl rfl (Nat.le_of_ble_eq_true rfl) (Nat.le_of_ble_eq_true rfl) ?_
  refine sx_if_eq (p1 := 12) (tg := 26) dX12_set_9 rfl rfl (by split <;> omega) (fun q9 => absurd q9 (by rw [if_pos (by omega)]; omega)) (fun q9 => ?_)
  refine sx_iload_n (p1 := 13) dX12_set_12 rfl rfl ?_
  refine sx_i2l (p1 := 14) dX12_set_13 rfl (by omega) ?_
  refine sx_lconst (y := 0) (p1 := 15) dX12_set_14 rfl (by decide) ?_
  refine sx_iload_n (p1 := 16) dX12_set_15 rfl rfl ?_
  refine sx_callSr (p1 := 19) (As := [_]) (k1 := 0) (n1 := 0) dX12_set_16 rfl rfl (c_X12_most (by omega)) mt_X12_most ml_X12_134 (Nat.le_of_ble_eq_true rfl) rfl (Nat.le_of_ble_eq_true rfl) rfl rfl (Nat.le_of_ble_eq_true rfl) (Nat.le_of_ble_eq_true rfl) ?_
  refine sx_i2l (p1 := 20) dX12_set_19 rfl (by omega) ?_
  refine sx_callSr (p1 := 23) (As := [_, _, _]) (k1 := 0) (n1 := 0) dX12_set_20 rfl rfl (c_X12_in (by omega) (by omega) (by omega)) mt_X12_in ml_X12_58 (Nat.le_of_ble_eq_true rfl) rfl (Nat.le_of_ble_eq_true rfl) rfl rfl (Nat.le_of_ble_eq_true rfl) (Nat.le_of_ble_eq_true rfl) ?_
  refine sx_if_ne (p1 := 26) (tg := 29) dX12_set_23 rfl rfl (by split <;> omega) (fun q23 => ?_) (fun q23 => absurd q23 (by rw [if_pos (by omega)]; omega))
  refine sx_aload_n (p1 := 30) dX12_set_29 rfl rfl ?_
  refine sx_get (p1 := 33) dX12_set_30 rfl fl_X12_44 (hp_c39 _) rfl ?_
  refine sx_iload_n (p1 := 34) dX12_set_33 rfl rfl ?_
  refine sx_iald (g := S.2 51) (p1 := 35) dX12_set_34 rfl (hp_c51 _) (by omega) (by decide) ?_
  rw [Int.toNat_natCast]
  refine sx_istore_n (lo1 := [some _, some _, some _, some _]) (p1 := 36) dX12_set_35 rfl (by decide) rfl ?_
  refine sx_aload_n (p1 := 37) dX12_set_36 rfl rfl ?_
  refine sx_get (p1 := 40) dX12_set_37 rfl fl_X12_44 (hp_c39 _) rfl ?_
  refine sx_iload_n (p1 := 41) dX12_set_40 rfl rfl ?_
  refine sx_iload_n (p1 := 42) dX12_set_41 rfl rfl ?_
  refine sx_iast (p1 := 43) dX12_set_42 rfl (hp_c51 _) (by omega) (by decide) (hp_a51 _ _ _) ?_
  rw [Int.toNat_natCast]
  refine sx_iload_n (p1 := 44) dX12_set_43 rfl rfl ?_
  exact sx_iret dX12_set_44 rfl (sx_ri (by rfl) (by rfl))
def rdB (T : St) (a b c : Int) : St := si (sa (sa (sa T 54 (3 * (T.1 39).toNat) a) 54 (3 * (T.1 39).toNat + 1) b) 54 (3 * (T.1 39).toNat + 2) c) 39 (T.1 39 + 1)
set_option maxRecDepth 20000 in
theorem c_X12_fell {X : sx_X} {S : St} {i j k : Int} (h39 : 0 ≤ S.1 39 ∧ S.1 39 ≤ 8) (hi : -2147483648 ≤ i ∧ i ≤ 2147483647) (hj : -2147483648 ≤ j ∧ j ≤ 2147483647) (hk : -2147483648 ≤ k ∧ k ≤ 2147483647) : Ct X yX12_fell cX12_fell 4 (some .int) 2 0 0 [.ref 39, vI i, vI j, vI k] (hp S) (sx_is (some (vI (if (0 ≤ i ∧ i ≤ 5) ∧ (0 ≤ j ∧ j ≤ 15) ∧ 0 ≤ k ∧ k ≤ 1 then (if 8 ≤ S.1 39 then -4 else S.1 39 + 1) else -2))) (hp (if ((0 ≤ i ∧ i ≤ 5) ∧ (0 ≤ j ∧ j ≤ 15) ∧ 0 ≤ k ∧ k ≤ 1) ∧ S.1 39 < 8 then rdB S i j k else S))) := by
  refine Ct.of false [some (.ref 39), some (vI i), some (vI j), some (vI k)] (plainFor_of_name (by decide)) (fun h => by cases h) (Nat.le_of_ble_eq_true rfl) (fun _ => rfl) sx_isl ?_
  refine sx_iload_n (p1 := 1) dX12_fell_0 rfl rfl ?_
  refine sx_i2l (p1 := 2) dX12_fell_1 rfl (by omega) ?_
  refine sx_lconst (y := 0) (p1 := 3) dX12_fell_2 rfl (by decide) ?_
  refine sx_ldc2 (z := 5) (p1 := 6) dX12_fell_3 rfl kc_X12_132 (by decide) ?_
  refine sx_callSr (p1 := 9) (As := [_, _, _]) (k1 := 0) (n1 := 0) dX12_fell_6 rfl rfl (c_X12_in (by omega) (by omega) (by omega)) mt_X12_in ml_X12_58 (Nat.le_of_ble_eq_true rfl) rfl (Nat.le_of_ble_eq_true rfl) rfl rfl (Nat.le_of_ble_eq_true rfl) (Nat.le_of_ble_eq_true rfl) ?_
  refine sx_if_eq (p1 := 12) (tg := 31) dX12_fell_9 rfl rfl (by split <;> omega) (fun q9 => ?_) (fun q9 => ?_)
  · refine sx_bipush (p1 := 33) dX12_fell_31 rfl (by decide) ?_
    exact sx_iret dX12_fell_33 rfl (sx_ri (by rw [if_neg (by omega)]) (by rw [if_neg (by omega)]))
  · refine sx_iload_n (p1 := 13) dX12_fell_12 rfl rfl ?_
    refine sx_i2l (p1 := 14) dX12_fell_13 rfl (by omega) ?_
    refine sx_lconst (y := 0) (p1 := 15) dX12_fell_14 rfl (by decide) ?_
    refine sx_ldc2 (z := 15) (p1 := 18) dX12_fell_15 rfl kc_X12_273 (by decide) ?_
    refine sx_callSr (p1 := 21) (As := [_, _, _]) (k1 := 0) (n1 := 0) dX12_fell_18 rfl rfl (c_X12_in (by omega) (by omega) (by omega)) mt_X12_in ml_X12_58 (Nat.le_of_ble_eq_true rfl) rfl (Nat.le_of_ble_eq_true rfl) rfl rfl (Nat.le_of_ble_eq_true rfl) (Nat.le_of_ble_eq_true rfl) ?_
    refine sx_if_eq (p1 := 24) (tg := 31) dX12_fell_21 rfl rfl (by split <;> omega) (fun q21 => ?_) (fun q21 => ?_)
    · refine sx_bipush (p1 := 33) dX12_fell_31 rfl (by decide) ?_
      exact sx_iret dX12_fell_33 rfl (sx_ri (by rw [if_neg (by omega)]) (by rw [if_neg (by omega)]))
    · refine sx_iload_n (p1 := 25) dX12_fell_24 rfl rfl ?_
      refine sx_callSr (p1 := 28) (As := [_]) (k1 := 0) (n1 := 0) dX12_fell_25 rfl rfl (c_X12_isTwo (by omega)) mt_X12_isTwo ml_X12_87 (Nat.le_of_ble_eq_true rfl) rfl (Nat.le_of_ble_eq_true rfl) rfl rfl (Nat.le_of_ble_eq_true rfl) (Nat.le_of_ble_eq_true rfl) ?_
      refine sx_if_ne (p1 := 31) (tg := 34) dX12_fell_28 rfl rfl (by split <;> omega) (fun q28 => ?_) (fun q28 => ?_)
      · refine sx_aload_n (p1 := 35) dX12_fell_34 rfl rfl ?_
        refine sx_get (v := vI (S.1 39)) (p1 := 38) dX12_fell_35 rfl fl_X12_275 (hp_c39 _) rfl ?_
        refine sx_bipush (p1 := 40) dX12_fell_38 rfl (by decide) ?_
        refine sx_icmp_ne (p1 := 43) (tg := 46) dX12_fell_40 rfl rfl (by omega) (by omega) (fun q40 => ?_) (fun q40 => ?_)
        · refine sx_aload_n (p1 := 47) dX12_fell_46 rfl rfl ?_
          refine sx_get (p1 := 50) dX12_fell_47 rfl fl_X12_53 (hp_c39 _) rfl ?_
          refine sx_iconst (p1 := 51) dX12_fell_50 rfl ?_
          refine sx_aload_n (p1 := 52) dX12_fell_51 rfl rfl ?_
          refine sx_get (v := vI (S.1 39)) (p1 := 55) dX12_fell_52 rfl fl_X12_275 (hp_c39 _) rfl ?_
          refine sx_imul (p1 := 56) dX12_fell_55 rfl ?_
          refine sx_iload_n (p1 := 57) dX12_fell_56 rfl rfl ?_
          refine sx_iast (p1 := 58) dX12_fell_57 rfl (hp_c54 _) (by omega) (by decide) (hp_a54 _ _ _) ?_
          rw [show (3 * S.1 39).toNat = 3 * (S.1 39).toNat by omega]
          refine sx_aload_n (p1 := 59) dX12_fell_58 rfl rfl ?_
          refine sx_get (p1 := 62) dX12_fell_59 rfl fl_X12_53 (hp_c39 _) rfl ?_
          refine sx_iconst (p1 := 63) dX12_fell_62 rfl ?_
          refine sx_aload_n (p1 := 64) dX12_fell_63 rfl rfl ?_
          refine sx_get (v := vI (S.1 39)) (p1 := 67) dX12_fell_64 rfl fl_X12_275 (hp_c39 _) rfl ?_
          refine sx_imul (p1 := 68) dX12_fell_67 rfl ?_
          refine sx_iconst (p1 := 69) dX12_fell_68 rfl ?_
          refine sx_iadd (p1 := 70) dX12_fell_69 rfl ?_
          refine sx_iload_n (p1 := 71) dX12_fell_70 rfl rfl ?_
          refine sx_iast (p1 := 72) dX12_fell_71 rfl (hp_c54 _) (by omega) (by decide) (hp_a54 _ _ _) ?_
          rw [show (3 * S.1 39 + 1).toNat = 3 * (S.1 39).toNat + 1 by omega]
          refine sx_aload_n (p1 := 73) dX12_fell_72 rfl rfl ?_
          refine sx_get (p1 := 76) dX12_fell_73 rfl fl_X12_53 (hp_c39 _) rfl ?_
          refine sx_iconst (p1 := 77) dX12_fell_76 rfl ?_
          refine sx_aload_n (p1 := 78) dX12_fell_77 rfl rfl ?_
          refine sx_get (v := vI (S.1 39)) (p1 := 81) dX12_fell_78 rfl fl_X12_275 (hp_c39 _) rfl ?_
          refine sx_imul (p1 := 82) dX12_fell_81 rfl ?_
          refine sx_iconst (p1 := 83) dX12_fell_82 rfl ?_
          refine sx_iadd (p1 := 84) dX12_fell_83 rfl ?_
          refine sx_iload_n (p1 := 85) dX12_fell_84 rfl rfl ?_
          refine sx_iast (p1 := 86) dX12_fell_85 rfl (hp_c54 _) (by omega) (by decide) (hp_a54 _ _ _) ?_
          rw [show (3 * S.1 39 + 2).toNat = 3 * (S.1 39).toNat + 2 by omega]
          refine sx_aload_n (p1 := 87) dX12_fell_86 rfl rfl ?_
          refine sx_dup (p1 := 88) dX12_fell_87 rfl rfl ?_
          refine sx_get (v := vI (S.1 39)) (p1 := 91) dX12_fell_88 rfl fl_X12_275 (hp_c39 _) rfl ?_
          refine sx_iconst (p1 := 92) dX12_fell_91 rfl ?_
          refine sx_iadd (p1 := 93) dX12_fell_92 rfl ?_
          refine sx_put (p1 := 96) dX12_fell_93 rfl fl_X12_275 (hp_c39 _) (Nat.le_of_ble_eq_true rfl) (fun _ => rfl) (fun _ => rfl) (hp_s39 _ _) ?_
          refine sx_aload_n (p1 := 97) dX12_fell_96 rfl rfl ?_
          refine sx_get (v := vI (S.1 39 + 1)) (p1 := 100) dX12_fell_97 rfl fl_X12_275 (hp_c39 _) rfl ?_
          exact sx_iret dX12_fell_100 rfl (sx_ri (by rw [if_pos (by omega), if_neg (by omega)]) (by rw [if_pos (by omega)]; rfl))
        · refine sx_bipush (p1 := 45) dX12_fell_43 rfl (by decide) ?_
          exact sx_iret dX12_fell_45 rfl (sx_ri (by rw [if_pos (by omega), if_pos (by omega)]) (by rw [if_neg (by omega)]))
      · refine sx_bipush (p1 := 33) dX12_fell_31 rfl (by decide) ?_
        exact sx_iret dX12_fell_33 rfl (sx_ri (by rw [if_neg (by omega)]) (by rw [if_neg (by omega)]))
