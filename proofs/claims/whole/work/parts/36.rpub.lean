theorem r_X12_reads {X : sx_X} {S T : St} (hT : rdS S = T) (hY : okY S) : Ct X yX12_reads cX12_reads 1 none 3 0 0 [.ref 39] (hp S) (sx_is none (hp T)) := by
  subst hT
  exact c_X12_reads hY
theorem z_X12_sunOf {X : sx_X} {S : St} {b : Nat} {j : Int} (hQ : okQ S b) (hj : 0 ≤ j ∧ j < S.1 33) : Ct X yX12_sunOf cX12_sunOf 5 (some .int) 3 0 0 [.ref 39, vI j] (hp S) (sx_is (some (vI (mSun (mV S) j (S.1 34) ((mV S).2 4 j)))) (hp S)) := by
  have h := c_X12_sunOf (X := X) hQ.1 (okQ_W hQ) (jj := j.toNat) (by omega)
  rw [rHel_q hQ (by omega), Int.toNat_of_nonneg hj.1] at h
  exact h
theorem z_X12_harmBy {X : sx_X} {S : St} {b : Nat} {i j : Int} (hQ : okQ S b) (hi : 0 ≤ i ∧ i < S.1 33) (hj : 0 ≤ j ∧ j < S.1 33) : Ct X yX12_harmBy cX12_harmBy 5 (some .int) 3 0 0 [.ref 39, vI i, vI j] (hp S) (sx_is (some (vI (mBy (mV S) i j (S.1 34) ((mV S).2 4 j)))) (hp S)) := by
  have h6 : 0 ≤ S.1 33 ∧ S.1 33 ≤ 6 := hQ.1.2.1
  have h := c_X12_harmBy (X := X) hQ.1 (okQ_W hQ) (ii := i.toNat) (jj := j.toNat) (by omega) (by omega)
  rw [rHel_q hQ (by omega), hQ.2.1 i.toNat (by omega), Int.toNat_of_nonneg hj.1, Int.toNat_of_nonneg hi.1] at h
  exact h
theorem z_X12_toOne {X : sx_X} {S : St} {b : Nat} {j : Int} (hQ : okQ S b) (hj : 0 ≤ j ∧ j < S.1 33) : Ct X yX12_toOne cX12_toOne 4 (some .int) 4 0 0 [.ref 39, vI j] (hp S) (sx_is (some (vI (mTo (mV S) j ((mV S).2 4 j) (S.1 34)))) (hp S)) := by
  have h := c_X12_toOne (X := X) hQ.1 (okQ_W hQ) (jj := j.toNat) (by omega)
  rw [one_now hQ (by omega), Int.toNat_of_nonneg hj.1] at h
  exact h
theorem z_X12_toAll {X : sx_X} {S : St} {b : Nat} (hQ : okQ S b) : Ct X yX12_toAll cX12_toAll 3 (some .int) 5 0 0 [.ref 39] (hp S) (sx_is (some (vI (mAll (mV S) (S.1 34)))) (hp S)) := by
  have h := c_X12_toAll (X := X) hQ.1 (okQ_W hQ)
  rw [all_now hQ] at h
  exact h
theorem mV_0 (T : St) : (mV T).1 0 = T.1 32 := rfl
theorem mV_1 (T : St) : (mV T).1 1 = T.1 33 := rfl
set_option maxRecDepth 20000 in
theorem c_X12_part_ {X : sx_X} {S : St} {i j : Int} {T : St} {b : Nat} (hT : rdS S = T) (hY : okY S) (hQ : okQ T b) (hi : -2147483648 ≤ i ∧ i ≤ 2147483647) (hj : -2147483648 ≤ j ∧ j ≤ 2147483647) : Ct X yX12_part_ cX12_part_ 3 (some .int) 4 0 0 [.ref 39, vI i, vI j] (hp S) (sx_is (some (vI (aPart (mV T) i j))) (hp (T))) := by
  have hV := hQ.1
  have hW := okQ_W hQ
  have b0 : 0 ≤ T.1 32 ∧ T.1 32 ≤ 16 := hV.1
  have c0 : 0 ≤ (mV T).1 0 ∧ (mV T).1 0 ≤ 16 := hV.1
  have b1 : 0 ≤ T.1 33 ∧ T.1 33 ≤ 6 := hV.2.1
  have c1 : 0 ≤ (mV T).1 1 ∧ (mV T).1 1 ≤ 6 := hV.2.1
  have b2 : 0 ≤ T.1 34 ∧ T.1 34 ≤ 99 := hV.2.2.1
  have c2 : 0 ≤ (mV T).1 2 ∧ (mV T).1 2 ≤ 99 := hV.2.2.1
  have b3 : 0 ≤ T.2 51 1 ∧ T.2 51 1 ≤ 1 := hV.2.2.2.1
  have c3 : 0 ≤ (mV T).1 3 ∧ (mV T).1 3 ≤ 1 := hV.2.2.2.1
  have b4 : 0 ≤ T.2 51 2 ∧ T.2 51 2 ≤ 16 := hV.2.2.2.2.1
  have c4 : 0 ≤ (mV T).1 4 ∧ (mV T).1 4 ≤ 16 := hV.2.2.2.2.1
  have b5 : 0 ≤ T.2 51 3 ∧ T.2 51 3 ≤ 999 := hV.2.2.2.2.2.1
  have c5 : 0 ≤ (mV T).1 5 ∧ (mV T).1 5 ≤ 999 := hV.2.2.2.2.2.1
  have b6 : 0 ≤ T.2 51 4 ∧ T.2 51 4 ≤ 1999 := hV.2.2.2.2.2.2.1
  have c6 : 0 ≤ (mV T).1 6 ∧ (mV T).1 6 ≤ 1999 := hV.2.2.2.2.2.2.1
  have b7 : 0 ≤ T.2 51 5 ∧ T.2 51 5 ≤ 16 := hV.2.2.2.2.2.2.2.1
  have c7 : 0 ≤ (mV T).1 7 ∧ (mV T).1 7 ≤ 16 := hV.2.2.2.2.2.2.2.1
  have bK : ∀ q, 0 ≤ rK T q ∧ rK T q ≤ 3 := hV.2.2.2.2.2.2.2.2.1
  have bL : ∀ q, 0 ≤ rL T q ∧ rL T q ≤ 9 := hV.2.2.2.2.2.2.2.2.2.1
  have bW : ∀ q, 0 ≤ rW T q ∧ rW T q ≤ 9 := hV.2.2.2.2.2.2.2.2.2.2.1
  have bS : ∀ q, 0 ≤ rS T q ∧ rS T q ≤ 9 := hV.2.2.2.2.2.2.2.2.2.2.2.1
  have bH : ∀ q, 0 ≤ rH T q ∧ rH T q ≤ 1 := hV.2.2.2.2.2.2.2.2.2.2.2.2
  have n0 : (mV T).1 0 = T.1 32 := rfl
  have n1 : (mV T).1 1 = T.1 33 := rfl
  have n2 : (mV T).1 2 = T.1 34 := rfl
  have n3 : (mV T).1 3 = T.2 51 1 := rfl
  have n4 : (mV T).1 4 = T.2 51 2 := rfl
  have n5 : (mV T).1 5 = T.2 51 3 := rfl
  have n6 : (mV T).1 6 = T.2 51 4 := rfl
  have n7 : (mV T).1 7 = T.2 51 5 := rfl
  have kk : ∀ q, 0 ≤ q ∧ q < T.1 32 → (mV T).2 0 q = T.2 46 q.toNat := fun q hq => if_pos hq
  have kl : ∀ q, 0 ≤ q ∧ q < T.1 32 → (mV T).2 1 q = T.2 47 q.toNat := fun q hq => if_pos hq
  have ki := kk i
  have kj := kl i
  refine Ct.of false [some (.ref 39), some (vI i), some (vI j)] (plainFor_of_name (by decide)) (fun h => by cases h) (Nat.le_of_ble_eq_true rfl) (fun _ => rfl) sx_isl ?_
  refine sx_aload_n (p1 := 1) dX12_part__0 rfl rfl ?_
  refine sx_callVn (p1 := 4) (As := []) (k1 := 0) (n1 := 0) dX12_part__1 rfl rfl (r_X12_reads hT hY) mt_X12_reads ml_X12_120 (hp_c39 _) rfl rfl (Nat.le_of_ble_eq_true rfl) rfl (Nat.le_of_ble_eq_true rfl) rfl rfl (Nat.le_of_ble_eq_true rfl) (Nat.le_of_ble_eq_true rfl) ?_
  refine sx_aload_n (p1 := 5) dX12_part__4 rfl rfl ?_
  refine sx_iload_n (p1 := 6) dX12_part__5 rfl rfl ?_
  refine sx_callVr (p1 := 9) (As := [_]) (k1 := 0) (n1 := 0) dX12_part__6 rfl rfl (c_X12_isPart hV (by omega)) mt_X12_isPart ml_X12_123 (hp_c39 _) rfl rfl (Nat.le_of_ble_eq_true rfl) rfl (Nat.le_of_ble_eq_true rfl) rfl rfl (Nat.le_of_ble_eq_true rfl) (Nat.le_of_ble_eq_true rfl) ?_
  refine sx_if_eq (p1 := 12) (tg := 19) dX12_part__9 rfl rfl (by omega) (fun q9 => ?_) (fun q9 => ?_)
  · refine sx_bipush (p1 := 21) dX12_part__19 rfl (by decide) ?_
    refine sx_goto (p1 := 43) (tg := 43) dX12_part__21 rfl rfl ?_
    exact sx_iret dX12_part__43 rfl (sx_ri (by unfold aPart; (repeat' split) <;> first | omega | rfl) (by rfl))
  · refine sx_iload_n (p1 := 13) dX12_part__12 rfl rfl ?_
    refine sx_callSr (p1 := 16) (As := [_]) (k1 := 0) (n1 := 0) dX12_part__13 rfl rfl (c_X12_isTwo (by omega)) mt_X12_isTwo ml_X12_87 (Nat.le_of_ble_eq_true rfl) rfl (Nat.le_of_ble_eq_true rfl) rfl rfl (Nat.le_of_ble_eq_true rfl) (Nat.le_of_ble_eq_true rfl) ?_
    refine sx_if_ne (p1 := 19) (tg := 24) dX12_part__16 rfl rfl (by omega) (fun q16 => ?_) (fun q16 => ?_)
    · refine sx_iload_n (p1 := 25) dX12_part__24 rfl rfl ?_
      refine sx_if_ne (p1 := 28) (tg := 37) dX12_part__25 rfl rfl (by omega) (fun q25 => ?_) (fun q25 => ?_)
      · refine sx_aload_n (p1 := 38) dX12_part__37 rfl rfl ?_
        refine sx_get (p1 := 41) dX12_part__38 rfl fl_X12_31 (hp_c39 _) rfl ?_
        refine sx_iload_n (p1 := 42) dX12_part__41 rfl rfl ?_
        refine sx_iald (g := T.2 47) (p1 := 43) dX12_part__42 rfl (hp_c47 _) (by omega) (by decide) ?_
        exact sx_iret dX12_part__43 rfl (sx_ri (by unfold aPart; (repeat' split) <;> first | omega | rfl) (by rfl))
      · refine sx_aload_n (p1 := 29) dX12_part__28 rfl rfl ?_
        refine sx_get (p1 := 32) dX12_part__29 rfl fl_X12_28 (hp_c39 _) rfl ?_
        refine sx_iload_n (p1 := 33) dX12_part__32 rfl rfl ?_
        refine sx_iald (g := T.2 46) (p1 := 34) dX12_part__33 rfl (hp_c46 _) (by omega) (by decide) ?_
        refine sx_goto (p1 := 43) (tg := 43) dX12_part__34 rfl rfl ?_
        exact sx_iret dX12_part__43 rfl (sx_ri (by unfold aPart; (repeat' split) <;> first | omega | rfl) (by rfl))
    · refine sx_bipush (p1 := 21) dX12_part__19 rfl (by decide) ?_
      refine sx_goto (p1 := 43) (tg := 43) dX12_part__21 rfl rfl ?_
      exact sx_iret dX12_part__43 rfl (sx_ri (by unfold aPart; (repeat' split) <;> first | omega | rfl) (by rfl))
set_option maxRecDepth 20000 in
theorem c_X12_walker {X : sx_X} {S : St} {i j : Int} {T : St} {b : Nat} (hT : rdS S = T) (hY : okY S) (hQ : okQ T b) (hi : -2147483648 ≤ i ∧ i ≤ 2147483647) (hj : -2147483648 ≤ j ∧ j ≤ 2147483647) : Ct X yX12_walker cX12_walker 3 (some .int) 4 0 0 [.ref 39, vI i, vI j] (hp S) (sx_is (some (vI (aWalker (mV T) i j))) (hp (T))) := by
  have hV := hQ.1
  have hW := okQ_W hQ
  have b0 : 0 ≤ T.1 32 ∧ T.1 32 ≤ 16 := hV.1
  have c0 : 0 ≤ (mV T).1 0 ∧ (mV T).1 0 ≤ 16 := hV.1
  have b1 : 0 ≤ T.1 33 ∧ T.1 33 ≤ 6 := hV.2.1
  have c1 : 0 ≤ (mV T).1 1 ∧ (mV T).1 1 ≤ 6 := hV.2.1
  have b2 : 0 ≤ T.1 34 ∧ T.1 34 ≤ 99 := hV.2.2.1
  have c2 : 0 ≤ (mV T).1 2 ∧ (mV T).1 2 ≤ 99 := hV.2.2.1
  have b3 : 0 ≤ T.2 51 1 ∧ T.2 51 1 ≤ 1 := hV.2.2.2.1
  have c3 : 0 ≤ (mV T).1 3 ∧ (mV T).1 3 ≤ 1 := hV.2.2.2.1
  have b4 : 0 ≤ T.2 51 2 ∧ T.2 51 2 ≤ 16 := hV.2.2.2.2.1
  have c4 : 0 ≤ (mV T).1 4 ∧ (mV T).1 4 ≤ 16 := hV.2.2.2.2.1
  have b5 : 0 ≤ T.2 51 3 ∧ T.2 51 3 ≤ 999 := hV.2.2.2.2.2.1
  have c5 : 0 ≤ (mV T).1 5 ∧ (mV T).1 5 ≤ 999 := hV.2.2.2.2.2.1
  have b6 : 0 ≤ T.2 51 4 ∧ T.2 51 4 ≤ 1999 := hV.2.2.2.2.2.2.1
  have c6 : 0 ≤ (mV T).1 6 ∧ (mV T).1 6 ≤ 1999 := hV.2.2.2.2.2.2.1
  have b7 : 0 ≤ T.2 51 5 ∧ T.2 51 5 ≤ 16 := hV.2.2.2.2.2.2.2.1
  have c7 : 0 ≤ (mV T).1 7 ∧ (mV T).1 7 ≤ 16 := hV.2.2.2.2.2.2.2.1
  have bK : ∀ q, 0 ≤ rK T q ∧ rK T q ≤ 3 := hV.2.2.2.2.2.2.2.2.1
  have bL : ∀ q, 0 ≤ rL T q ∧ rL T q ≤ 9 := hV.2.2.2.2.2.2.2.2.2.1
  have bW : ∀ q, 0 ≤ rW T q ∧ rW T q ≤ 9 := hV.2.2.2.2.2.2.2.2.2.2.1
  have bS : ∀ q, 0 ≤ rS T q ∧ rS T q ≤ 9 := hV.2.2.2.2.2.2.2.2.2.2.2.1
  have bH : ∀ q, 0 ≤ rH T q ∧ rH T q ≤ 1 := hV.2.2.2.2.2.2.2.2.2.2.2.2
  have n0 : (mV T).1 0 = T.1 32 := rfl
  have n1 : (mV T).1 1 = T.1 33 := rfl
  have n2 : (mV T).1 2 = T.1 34 := rfl
  have n3 : (mV T).1 3 = T.2 51 1 := rfl
  have n4 : (mV T).1 4 = T.2 51 2 := rfl
  have n5 : (mV T).1 5 = T.2 51 3 := rfl
  have n6 : (mV T).1 6 = T.2 51 4 := rfl
  have n7 : (mV T).1 7 = T.2 51 5 := rfl
  refine Ct.of false [some (.ref 39), some (vI i), some (vI j)] (plainFor_of_name (by decide)) (fun h => by cases h) (Nat.le_of_ble_eq_true rfl) (fun _ => rfl) sx_isl ?_
  refine sx_aload_n (p1 := 1) dX12_walker_0 rfl rfl ?_
  refine sx_callVn (p1 := 4) (As := []) (k1 := 0) (n1 := 0) dX12_walker_1 rfl rfl (r_X12_reads hT hY) mt_X12_reads ml_X12_120 (hp_c39 _) rfl rfl (Nat.le_of_ble_eq_true rfl) rfl (Nat.le_of_ble_eq_true rfl) rfl rfl (Nat.le_of_ble_eq_true rfl) (Nat.le_of_ble_eq_true rfl) ?_
  refine sx_aload_n (p1 := 5) dX12_walker_4 rfl rfl ?_
  refine sx_iload_n (p1 := 6) dX12_walker_5 rfl rfl ?_
  refine sx_callVr (p1 := 9) (As := [_]) (k1 := 0) (n1 := 0) dX12_walker_6 rfl rfl (c_X12_isWalker hV (by omega)) mt_X12_isWalker ml_X12_126 (hp_c39 _) rfl rfl (Nat.le_of_ble_eq_true rfl) rfl (Nat.le_of_ble_eq_true rfl) rfl rfl (Nat.le_of_ble_eq_true rfl) (Nat.le_of_ble_eq_true rfl) ?_
  refine sx_if_eq (p1 := 12) (tg := 33) dX12_walker_9 rfl rfl (by omega) (fun q9 => ?_) (fun q9 => ?_)
  · refine sx_bipush (p1 := 35) dX12_walker_33 rfl (by decide) ?_
    exact sx_iret dX12_walker_35 rfl (sx_ri (by unfold aWalker; (repeat' split) <;> first | omega | rfl) (by rfl))
  · refine sx_iload_n (p1 := 13) dX12_walker_12 rfl rfl ?_
    refine sx_i2l (p1 := 14) dX12_walker_13 rfl (by omega) ?_
    refine sx_lconst (y := 0) (p1 := 15) dX12_walker_14 rfl (by decide) ?_
    refine sx_ldc2 (z := 2) (p1 := 18) dX12_walker_15 rfl kc_X12_72 (by decide) ?_
    refine sx_callSr (p1 := 21) (As := [_, _, _]) (k1 := 0) (n1 := 0) dX12_walker_18 rfl rfl (c_X12_in (by omega) (by omega) (by omega)) mt_X12_in ml_X12_58 (Nat.le_of_ble_eq_true rfl) rfl (Nat.le_of_ble_eq_true rfl) rfl rfl (Nat.le_of_ble_eq_true rfl) (Nat.le_of_ble_eq_true rfl) ?_
    refine sx_if_eq (p1 := 24) (tg := 33) dX12_walker_21 rfl rfl (by omega) (fun q21 => ?_) (fun q21 => ?_)
    · refine sx_bipush (p1 := 35) dX12_walker_33 rfl (by decide) ?_
      exact sx_iret dX12_walker_35 rfl (sx_ri (by unfold aWalker; (repeat' split) <;> first | omega | rfl) (by rfl))
    · refine sx_aload_n (p1 := 25) dX12_walker_24 rfl rfl ?_
      refine sx_iload_n (p1 := 26) dX12_walker_25 rfl rfl ?_
      refine sx_iload_n (p1 := 27) dX12_walker_26 rfl rfl ?_
      refine sx_callVr (p1 := 30) (As := [_, _]) (k1 := 0) (n1 := 0) dX12_walker_27 rfl rfl (c_X12_walkerOf hV (by omega) (by omega)) mt_X12_walkerOf ml_X12_129 (hp_c39 _) rfl rfl (Nat.le_of_ble_eq_true rfl) rfl (Nat.le_of_ble_eq_true rfl) rfl rfl (Nat.le_of_ble_eq_true rfl) (Nat.le_of_ble_eq_true rfl) ?_
      refine sx_goto (p1 := 35) (tg := 35) dX12_walker_30 rfl rfl ?_
      exact sx_iret dX12_walker_35 rfl (sx_ri (by unfold aWalker; (repeat' split) <;> first | omega | rfl) (by rfl))
set_option maxRecDepth 20000 in
theorem c_X12_place {X : sx_X} {S : St} {i j : Int} {T : St} {b : Nat} (hT : rdS S = T) (hY : okY S) (hQ : okQ T b) (hi : -2147483648 ≤ i ∧ i ≤ 2147483647) (hj : -2147483648 ≤ j ∧ j ≤ 2147483647) : Ct X yX12_place cX12_place 3 (some .int) 4 0 0 [.ref 39, vI i, vI j] (hp S) (sx_is (some (vI (aPlace (mV T) i j))) (hp (T))) := by
  have hV := hQ.1
  have hW := okQ_W hQ
  have b0 : 0 ≤ T.1 32 ∧ T.1 32 ≤ 16 := hV.1
  have c0 : 0 ≤ (mV T).1 0 ∧ (mV T).1 0 ≤ 16 := hV.1
  have b1 : 0 ≤ T.1 33 ∧ T.1 33 ≤ 6 := hV.2.1
  have c1 : 0 ≤ (mV T).1 1 ∧ (mV T).1 1 ≤ 6 := hV.2.1
  have b2 : 0 ≤ T.1 34 ∧ T.1 34 ≤ 99 := hV.2.2.1
  have c2 : 0 ≤ (mV T).1 2 ∧ (mV T).1 2 ≤ 99 := hV.2.2.1
  have b3 : 0 ≤ T.2 51 1 ∧ T.2 51 1 ≤ 1 := hV.2.2.2.1
  have c3 : 0 ≤ (mV T).1 3 ∧ (mV T).1 3 ≤ 1 := hV.2.2.2.1
  have b4 : 0 ≤ T.2 51 2 ∧ T.2 51 2 ≤ 16 := hV.2.2.2.2.1
  have c4 : 0 ≤ (mV T).1 4 ∧ (mV T).1 4 ≤ 16 := hV.2.2.2.2.1
  have b5 : 0 ≤ T.2 51 3 ∧ T.2 51 3 ≤ 999 := hV.2.2.2.2.2.1
  have c5 : 0 ≤ (mV T).1 5 ∧ (mV T).1 5 ≤ 999 := hV.2.2.2.2.2.1
  have b6 : 0 ≤ T.2 51 4 ∧ T.2 51 4 ≤ 1999 := hV.2.2.2.2.2.2.1
  have c6 : 0 ≤ (mV T).1 6 ∧ (mV T).1 6 ≤ 1999 := hV.2.2.2.2.2.2.1
  have b7 : 0 ≤ T.2 51 5 ∧ T.2 51 5 ≤ 16 := hV.2.2.2.2.2.2.2.1
  have c7 : 0 ≤ (mV T).1 7 ∧ (mV T).1 7 ≤ 16 := hV.2.2.2.2.2.2.2.1
  have bK : ∀ q, 0 ≤ rK T q ∧ rK T q ≤ 3 := hV.2.2.2.2.2.2.2.2.1
  have bL : ∀ q, 0 ≤ rL T q ∧ rL T q ≤ 9 := hV.2.2.2.2.2.2.2.2.2.1
  have bW : ∀ q, 0 ≤ rW T q ∧ rW T q ≤ 9 := hV.2.2.2.2.2.2.2.2.2.2.1
  have bS : ∀ q, 0 ≤ rS T q ∧ rS T q ≤ 9 := hV.2.2.2.2.2.2.2.2.2.2.2.1
  have bH : ∀ q, 0 ≤ rH T q ∧ rH T q ≤ 1 := hV.2.2.2.2.2.2.2.2.2.2.2.2
  have n0 : (mV T).1 0 = T.1 32 := rfl
  have n1 : (mV T).1 1 = T.1 33 := rfl
  have n2 : (mV T).1 2 = T.1 34 := rfl
  have n3 : (mV T).1 3 = T.2 51 1 := rfl
  have n4 : (mV T).1 4 = T.2 51 2 := rfl
  have n5 : (mV T).1 5 = T.2 51 3 := rfl
  have n6 : (mV T).1 6 = T.2 51 4 := rfl
  have n7 : (mV T).1 7 = T.2 51 5 := rfl
  refine Ct.of false [some (.ref 39), some (vI i), some (vI j)] (plainFor_of_name (by decide)) (fun h => by cases h) (Nat.le_of_ble_eq_true rfl) (fun _ => rfl) sx_isl ?_
  refine sx_aload_n (p1 := 1) dX12_place_0 rfl rfl ?_
  refine sx_callVn (p1 := 4) (As := []) (k1 := 0) (n1 := 0) dX12_place_1 rfl rfl (r_X12_reads hT hY) mt_X12_reads ml_X12_120 (hp_c39 _) rfl rfl (Nat.le_of_ble_eq_true rfl) rfl (Nat.le_of_ble_eq_true rfl) rfl rfl (Nat.le_of_ble_eq_true rfl) (Nat.le_of_ble_eq_true rfl) ?_
  refine sx_aload_n (p1 := 5) dX12_place_4 rfl rfl ?_
  refine sx_iload_n (p1 := 6) dX12_place_5 rfl rfl ?_
  refine sx_callVr (p1 := 9) (As := [_]) (k1 := 0) (n1 := 0) dX12_place_6 rfl rfl (c_X12_isWalker hV (by omega)) mt_X12_isWalker ml_X12_126 (hp_c39 _) rfl rfl (Nat.le_of_ble_eq_true rfl) rfl (Nat.le_of_ble_eq_true rfl) rfl rfl (Nat.le_of_ble_eq_true rfl) (Nat.le_of_ble_eq_true rfl) ?_
  refine sx_if_eq (p1 := 12) (tg := 33) dX12_place_9 rfl rfl (by omega) (fun q9 => ?_) (fun q9 => ?_)
  · refine sx_bipush (p1 := 35) dX12_place_33 rfl (by decide) ?_
    exact sx_iret dX12_place_35 rfl (sx_ri (by unfold aPlace; (repeat' split) <;> first | omega | rfl) (by rfl))
  · refine sx_iload_n (p1 := 13) dX12_place_12 rfl rfl ?_
    refine sx_i2l (p1 := 14) dX12_place_13 rfl (by omega) ?_
    refine sx_lconst (y := 0) (p1 := 15) dX12_place_14 rfl (by decide) ?_
    refine sx_ldc2 (z := 1999) (p1 := 18) dX12_place_15 rfl kc_X12_155 (by decide) ?_
    refine sx_callSr (p1 := 21) (As := [_, _, _]) (k1 := 0) (n1 := 0) dX12_place_18 rfl rfl (c_X12_in (by omega) (by omega) (by omega)) mt_X12_in ml_X12_58 (Nat.le_of_ble_eq_true rfl) rfl (Nat.le_of_ble_eq_true rfl) rfl rfl (Nat.le_of_ble_eq_true rfl) (Nat.le_of_ble_eq_true rfl) ?_
    refine sx_if_eq (p1 := 24) (tg := 33) dX12_place_21 rfl rfl (by omega) (fun q21 => ?_) (fun q21 => ?_)
    · refine sx_bipush (p1 := 35) dX12_place_33 rfl (by decide) ?_
      exact sx_iret dX12_place_35 rfl (sx_ri (by unfold aPlace; (repeat' split) <;> first | omega | rfl) (by rfl))
    · refine sx_aload_n (p1 := 25) dX12_place_24 rfl rfl ?_
      refine sx_iload_n (p1 := 26) dX12_place_25 rfl rfl ?_
      refine sx_iload_n (p1 := 27) dX12_place_26 rfl rfl ?_
      refine sx_callVr (p1 := 30) (As := [_, _]) (k1 := 0) (n1 := 0) dX12_place_27 rfl rfl (c_X12_placeOf hV (by omega) (by omega)) mt_X12_placeOf ml_X12_157 (hp_c39 _) rfl rfl (Nat.le_of_ble_eq_true rfl) rfl (Nat.le_of_ble_eq_true rfl) rfl rfl (Nat.le_of_ble_eq_true rfl) (Nat.le_of_ble_eq_true rfl) ?_
      refine sx_goto (p1 := 35) (tg := 35) dX12_place_30 rfl rfl ?_
      exact sx_iret dX12_place_35 rfl (sx_ri (by unfold aPlace; (repeat' split) <;> first | omega | rfl) (by rfl))
set_option maxRecDepth 20000 in
theorem c_X12_treads {X : sx_X} {S : St} {i j : Int} {T : St} {b : Nat} (hT : rdS S = T) (hY : okY S) (hQ : okQ T b) (hi : -2147483648 ≤ i ∧ i ≤ 2147483647) (hj : -2147483648 ≤ j ∧ j ≤ 2147483647) : Ct X yX12_treads cX12_treads 3 (some .int) 4 0 0 [.ref 39, vI i, vI j] (hp S) (sx_is (some (vI (aTreads (mV T) i j))) (hp (T))) := by
  have hV := hQ.1
  have hW := okQ_W hQ
  have b0 : 0 ≤ T.1 32 ∧ T.1 32 ≤ 16 := hV.1
  have c0 : 0 ≤ (mV T).1 0 ∧ (mV T).1 0 ≤ 16 := hV.1
  have b1 : 0 ≤ T.1 33 ∧ T.1 33 ≤ 6 := hV.2.1
  have c1 : 0 ≤ (mV T).1 1 ∧ (mV T).1 1 ≤ 6 := hV.2.1
  have b2 : 0 ≤ T.1 34 ∧ T.1 34 ≤ 99 := hV.2.2.1
  have c2 : 0 ≤ (mV T).1 2 ∧ (mV T).1 2 ≤ 99 := hV.2.2.1
  have b3 : 0 ≤ T.2 51 1 ∧ T.2 51 1 ≤ 1 := hV.2.2.2.1
  have c3 : 0 ≤ (mV T).1 3 ∧ (mV T).1 3 ≤ 1 := hV.2.2.2.1
  have b4 : 0 ≤ T.2 51 2 ∧ T.2 51 2 ≤ 16 := hV.2.2.2.2.1
  have c4 : 0 ≤ (mV T).1 4 ∧ (mV T).1 4 ≤ 16 := hV.2.2.2.2.1
  have b5 : 0 ≤ T.2 51 3 ∧ T.2 51 3 ≤ 999 := hV.2.2.2.2.2.1
  have c5 : 0 ≤ (mV T).1 5 ∧ (mV T).1 5 ≤ 999 := hV.2.2.2.2.2.1
  have b6 : 0 ≤ T.2 51 4 ∧ T.2 51 4 ≤ 1999 := hV.2.2.2.2.2.2.1
  have c6 : 0 ≤ (mV T).1 6 ∧ (mV T).1 6 ≤ 1999 := hV.2.2.2.2.2.2.1
  have b7 : 0 ≤ T.2 51 5 ∧ T.2 51 5 ≤ 16 := hV.2.2.2.2.2.2.2.1
  have c7 : 0 ≤ (mV T).1 7 ∧ (mV T).1 7 ≤ 16 := hV.2.2.2.2.2.2.2.1
  have bK : ∀ q, 0 ≤ rK T q ∧ rK T q ≤ 3 := hV.2.2.2.2.2.2.2.2.1
  have bL : ∀ q, 0 ≤ rL T q ∧ rL T q ≤ 9 := hV.2.2.2.2.2.2.2.2.2.1
  have bW : ∀ q, 0 ≤ rW T q ∧ rW T q ≤ 9 := hV.2.2.2.2.2.2.2.2.2.2.1
  have bS : ∀ q, 0 ≤ rS T q ∧ rS T q ≤ 9 := hV.2.2.2.2.2.2.2.2.2.2.2.1
  have bH : ∀ q, 0 ≤ rH T q ∧ rH T q ≤ 1 := hV.2.2.2.2.2.2.2.2.2.2.2.2
  have n0 : (mV T).1 0 = T.1 32 := rfl
  have n1 : (mV T).1 1 = T.1 33 := rfl
  have n2 : (mV T).1 2 = T.1 34 := rfl
  have n3 : (mV T).1 3 = T.2 51 1 := rfl
  have n4 : (mV T).1 4 = T.2 51 2 := rfl
  have n5 : (mV T).1 5 = T.2 51 3 := rfl
  have n6 : (mV T).1 6 = T.2 51 4 := rfl
  have n7 : (mV T).1 7 = T.2 51 5 := rfl
  refine Ct.of false [some (.ref 39), some (vI i), some (vI j)] (plainFor_of_name (by decide)) (fun h => by cases h) (Nat.le_of_ble_eq_true rfl) (fun _ => rfl) sx_isl ?_
  refine sx_aload_n (p1 := 1) dX12_treads_0 rfl rfl ?_
  refine sx_callVn (p1 := 4) (As := []) (k1 := 0) (n1 := 0) dX12_treads_1 rfl rfl (r_X12_reads hT hY) mt_X12_reads ml_X12_120 (hp_c39 _) rfl rfl (Nat.le_of_ble_eq_true rfl) rfl (Nat.le_of_ble_eq_true rfl) rfl rfl (Nat.le_of_ble_eq_true rfl) (Nat.le_of_ble_eq_true rfl) ?_
  refine sx_aload_n (p1 := 5) dX12_treads_4 rfl rfl ?_
  refine sx_iload_n (p1 := 6) dX12_treads_5 rfl rfl ?_
  refine sx_callVr (p1 := 9) (As := [_]) (k1 := 0) (n1 := 0) dX12_treads_6 rfl rfl (c_X12_isWalker hV (by omega)) mt_X12_isWalker ml_X12_126 (hp_c39 _) rfl rfl (Nat.le_of_ble_eq_true rfl) rfl (Nat.le_of_ble_eq_true rfl) rfl rfl (Nat.le_of_ble_eq_true rfl) (Nat.le_of_ble_eq_true rfl) ?_
  refine sx_if_eq (p1 := 12) (tg := 29) dX12_treads_9 rfl rfl (by omega) (fun q9 => ?_) (fun q9 => ?_)
  · refine sx_bipush (p1 := 31) dX12_treads_29 rfl (by decide) ?_
    exact sx_iret dX12_treads_31 rfl (sx_ri (by unfold aTreads; (repeat' split) <;> first | omega | rfl) (by rfl))
  · refine sx_aload_n (p1 := 13) dX12_treads_12 rfl rfl ?_
    refine sx_iload_n (p1 := 14) dX12_treads_13 rfl rfl ?_
    refine sx_callVr (p1 := 17) (As := [_]) (k1 := 0) (n1 := 0) dX12_treads_14 rfl rfl (c_X12_isPart hV (by omega)) mt_X12_isPart ml_X12_123 (hp_c39 _) rfl rfl (Nat.le_of_ble_eq_true rfl) rfl (Nat.le_of_ble_eq_true rfl) rfl rfl (Nat.le_of_ble_eq_true rfl) (Nat.le_of_ble_eq_true rfl) ?_
    refine sx_if_eq (p1 := 20) (tg := 29) dX12_treads_17 rfl rfl (by omega) (fun q17 => ?_) (fun q17 => ?_)
    · refine sx_bipush (p1 := 31) dX12_treads_29 rfl (by decide) ?_
      exact sx_iret dX12_treads_31 rfl (sx_ri (by unfold aTreads; (repeat' split) <;> first | omega | rfl) (by rfl))
    · refine sx_aload_n (p1 := 21) dX12_treads_20 rfl rfl ?_
      refine sx_iload_n (p1 := 22) dX12_treads_21 rfl rfl ?_
      refine sx_iload_n (p1 := 23) dX12_treads_22 rfl rfl ?_
      refine sx_callVr (p1 := 26) (As := [_, _]) (k1 := 0) (n1 := 0) dX12_treads_23 rfl rfl (c_X12_treadsOf hV (by omega) (by omega)) mt_X12_treadsOf ml_X12_169 (hp_c39 _) rfl rfl (Nat.le_of_ble_eq_true rfl) rfl (Nat.le_of_ble_eq_true rfl) rfl rfl (Nat.le_of_ble_eq_true rfl) (Nat.le_of_ble_eq_true rfl) ?_
      refine sx_goto (p1 := 31) (tg := 31) dX12_treads_26 rfl rfl ?_
      exact sx_iret dX12_treads_31 rfl (sx_ri (by unfold aTreads; (repeat' split) <;> first | omega | rfl) (by rfl))
set_option maxRecDepth 20000 in
theorem c_X12_hits {X : sx_X} {S : St} {i j k : Int} {T : St} {b : Nat} (hT : rdS S = T) (hY : okY S) (hQ : okQ T b) (hi : -2147483648 ≤ i ∧ i ≤ 2147483647) (hj : -2147483648 ≤ j ∧ j ≤ 2147483647) (hk : -2147483648 ≤ k ∧ k ≤ 2147483647) : Ct X yX12_hits cX12_hits 4 (some .int) 4 0 0 [.ref 39, vI i, vI j, vI k] (hp S) (sx_is (some (vI (aHits (mV T) i j k))) (hp (T))) := by
  have hV := hQ.1
  have hW := okQ_W hQ
  have b0 : 0 ≤ T.1 32 ∧ T.1 32 ≤ 16 := hV.1
  have c0 : 0 ≤ (mV T).1 0 ∧ (mV T).1 0 ≤ 16 := hV.1
  have b1 : 0 ≤ T.1 33 ∧ T.1 33 ≤ 6 := hV.2.1
  have c1 : 0 ≤ (mV T).1 1 ∧ (mV T).1 1 ≤ 6 := hV.2.1
  have b2 : 0 ≤ T.1 34 ∧ T.1 34 ≤ 99 := hV.2.2.1
  have c2 : 0 ≤ (mV T).1 2 ∧ (mV T).1 2 ≤ 99 := hV.2.2.1
  have b3 : 0 ≤ T.2 51 1 ∧ T.2 51 1 ≤ 1 := hV.2.2.2.1
  have c3 : 0 ≤ (mV T).1 3 ∧ (mV T).1 3 ≤ 1 := hV.2.2.2.1
  have b4 : 0 ≤ T.2 51 2 ∧ T.2 51 2 ≤ 16 := hV.2.2.2.2.1
  have c4 : 0 ≤ (mV T).1 4 ∧ (mV T).1 4 ≤ 16 := hV.2.2.2.2.1
  have b5 : 0 ≤ T.2 51 3 ∧ T.2 51 3 ≤ 999 := hV.2.2.2.2.2.1
  have c5 : 0 ≤ (mV T).1 5 ∧ (mV T).1 5 ≤ 999 := hV.2.2.2.2.2.1
  have b6 : 0 ≤ T.2 51 4 ∧ T.2 51 4 ≤ 1999 := hV.2.2.2.2.2.2.1
  have c6 : 0 ≤ (mV T).1 6 ∧ (mV T).1 6 ≤ 1999 := hV.2.2.2.2.2.2.1
  have b7 : 0 ≤ T.2 51 5 ∧ T.2 51 5 ≤ 16 := hV.2.2.2.2.2.2.2.1
  have c7 : 0 ≤ (mV T).1 7 ∧ (mV T).1 7 ≤ 16 := hV.2.2.2.2.2.2.2.1
  have bK : ∀ q, 0 ≤ rK T q ∧ rK T q ≤ 3 := hV.2.2.2.2.2.2.2.2.1
  have bL : ∀ q, 0 ≤ rL T q ∧ rL T q ≤ 9 := hV.2.2.2.2.2.2.2.2.2.1
  have bW : ∀ q, 0 ≤ rW T q ∧ rW T q ≤ 9 := hV.2.2.2.2.2.2.2.2.2.2.1
  have bS : ∀ q, 0 ≤ rS T q ∧ rS T q ≤ 9 := hV.2.2.2.2.2.2.2.2.2.2.2.1
  have bH : ∀ q, 0 ≤ rH T q ∧ rH T q ≤ 1 := hV.2.2.2.2.2.2.2.2.2.2.2.2
  have n0 : (mV T).1 0 = T.1 32 := rfl
  have n1 : (mV T).1 1 = T.1 33 := rfl
  have n2 : (mV T).1 2 = T.1 34 := rfl
  have n3 : (mV T).1 3 = T.2 51 1 := rfl
  have n4 : (mV T).1 4 = T.2 51 2 := rfl
  have n5 : (mV T).1 5 = T.2 51 3 := rfl
  have n6 : (mV T).1 6 = T.2 51 4 := rfl
  have n7 : (mV T).1 7 = T.2 51 5 := rfl
  refine Ct.of false [some (.ref 39), some (vI i), some (vI j), some (vI k)] (plainFor_of_name (by decide)) (fun h => by cases h) (Nat.le_of_ble_eq_true rfl) (fun _ => rfl) sx_isl ?_
  refine sx_aload_n (p1 := 1) dX12_hits_0 rfl rfl ?_
  refine sx_callVn (p1 := 4) (As := []) (k1 := 0) (n1 := 0) dX12_hits_1 rfl rfl (r_X12_reads hT hY) mt_X12_reads ml_X12_120 (hp_c39 _) rfl rfl (Nat.le_of_ble_eq_true rfl) rfl (Nat.le_of_ble_eq_true rfl) rfl rfl (Nat.le_of_ble_eq_true rfl) (Nat.le_of_ble_eq_true rfl) ?_
  refine sx_aload_n (p1 := 5) dX12_hits_4 rfl rfl ?_
  refine sx_iload_n (p1 := 6) dX12_hits_5 rfl rfl ?_
  refine sx_callVr (p1 := 9) (As := [_]) (k1 := 0) (n1 := 0) dX12_hits_6 rfl rfl (c_X12_isPart hV (by omega)) mt_X12_isPart ml_X12_123 (hp_c39 _) rfl rfl (Nat.le_of_ble_eq_true rfl) rfl (Nat.le_of_ble_eq_true rfl) rfl rfl (Nat.le_of_ble_eq_true rfl) (Nat.le_of_ble_eq_true rfl) ?_
  refine sx_if_eq (p1 := 12) (tg := 46) dX12_hits_9 rfl rfl (by omega) (fun q9 => ?_) (fun q9 => ?_)
  · refine sx_bipush (p1 := 48) dX12_hits_46 rfl (by decide) ?_
    exact sx_iret dX12_hits_48 rfl (sx_ri (by unfold aHits; (repeat' split) <;> first | omega | rfl | (rw [show k = 1 by omega]; done) | (rw [show k = 0 by omega]; done)) (by rfl))
  · refine sx_aload_n (p1 := 13) dX12_hits_12 rfl rfl ?_
    refine sx_iload_n (p1 := 14) dX12_hits_13 rfl rfl ?_
    refine sx_callVr (p1 := 17) (As := [_]) (k1 := 0) (n1 := 0) dX12_hits_14 rfl rfl (c_X12_isPart hV (by omega)) mt_X12_isPart ml_X12_123 (hp_c39 _) rfl rfl (Nat.le_of_ble_eq_true rfl) rfl (Nat.le_of_ble_eq_true rfl) rfl rfl (Nat.le_of_ble_eq_true rfl) (Nat.le_of_ble_eq_true rfl) ?_
    refine sx_if_eq (p1 := 20) (tg := 46) dX12_hits_17 rfl rfl (by omega) (fun q17 => ?_) (fun q17 => ?_)
    · refine sx_bipush (p1 := 48) dX12_hits_46 rfl (by decide) ?_
      exact sx_iret dX12_hits_48 rfl (sx_ri (by unfold aHits; (repeat' split) <;> first | omega | rfl | (rw [show k = 1 by omega]; done) | (rw [show k = 0 by omega]; done)) (by rfl))
    · refine sx_iload_n (p1 := 21) dX12_hits_20 rfl rfl ?_
      refine sx_callSr (p1 := 24) (As := [_]) (k1 := 0) (n1 := 0) dX12_hits_21 rfl rfl (c_X12_isTwo (by omega)) mt_X12_isTwo ml_X12_87 (Nat.le_of_ble_eq_true rfl) rfl (Nat.le_of_ble_eq_true rfl) rfl rfl (Nat.le_of_ble_eq_true rfl) (Nat.le_of_ble_eq_true rfl) ?_
      refine sx_if_eq (p1 := 27) (tg := 46) dX12_hits_24 rfl rfl (by omega) (fun q24 => ?_) (fun q24 => ?_)
      · refine sx_bipush (p1 := 48) dX12_hits_46 rfl (by decide) ?_
        exact sx_iret dX12_hits_48 rfl (sx_ri (by unfold aHits; (repeat' split) <;> first | omega | rfl | (rw [show k = 1 by omega]; done) | (rw [show k = 0 by omega]; done)) (by rfl))
      · refine sx_aload_n (p1 := 28) dX12_hits_27 rfl rfl ?_
        refine sx_iload_n (p1 := 29) dX12_hits_28 rfl rfl ?_
        refine sx_iload_n (p1 := 30) dX12_hits_29 rfl rfl ?_
        refine sx_iload_n (p1 := 31) dX12_hits_30 rfl rfl ?_
        refine sx_iconst (p1 := 32) dX12_hits_31 rfl ?_
        refine sx_icmp_ne (p1 := 35) (tg := 39) dX12_hits_32 rfl rfl (by omega) (by omega) (fun q32 => ?_) (fun q32 => ?_)
        · refine sx_iconst (p1 := 40) dX12_hits_39 rfl ?_
          refine sx_callVr (p1 := 43) (As := [_, _, _]) (k1 := 0) (n1 := 0) dX12_hits_40 rfl rfl (c_X12_hitsOf hV (by omega) (by omega) (by omega)) mt_X12_hitsOf ml_X12_172 (hp_c39 _) rfl rfl (Nat.le_of_ble_eq_true rfl) rfl (Nat.le_of_ble_eq_true rfl) rfl rfl (Nat.le_of_ble_eq_true rfl) (Nat.le_of_ble_eq_true rfl) ?_
          refine sx_goto (p1 := 48) (tg := 48) dX12_hits_43 rfl rfl ?_
          exact sx_iret dX12_hits_48 rfl (sx_ri (by unfold aHits; (repeat' split) <;> first | omega | rfl | (rw [show k = 1 by omega]; done) | (rw [show k = 0 by omega]; done)) (by rfl))
        · refine sx_iconst (p1 := 36) dX12_hits_35 rfl ?_
          refine sx_goto (p1 := 40) (tg := 40) dX12_hits_36 rfl rfl ?_
          refine sx_callVr (p1 := 43) (As := [_, _, _]) (k1 := 0) (n1 := 0) dX12_hits_40 rfl rfl (c_X12_hitsOf hV (by omega) (by omega) (by omega)) mt_X12_hitsOf ml_X12_172 (hp_c39 _) rfl rfl (Nat.le_of_ble_eq_true rfl) rfl (Nat.le_of_ble_eq_true rfl) rfl rfl (Nat.le_of_ble_eq_true rfl) (Nat.le_of_ble_eq_true rfl) ?_
          refine sx_goto (p1 := 48) (tg := 48) dX12_hits_43 rfl rfl ?_
          exact sx_iret dX12_hits_48 rfl (sx_ri (by unfold aHits; (repeat' split) <;> first | omega | rfl | (rw [show k = 1 by omega]; done) | (rw [show k = 0 by omega]; done)) (by rfl))
set_option maxRecDepth 20000 in
theorem c_X12_harm {X : sx_X} {S : St} {i j k : Int} {T : St} {b : Nat} (hT : rdS S = T) (hY : okY S) (hQ : okQ T b) (hi : -2147483648 ≤ i ∧ i ≤ 2147483647) (hj : -2147483648 ≤ j ∧ j ≤ 2147483647) (hk : -2147483648 ≤ k ∧ k ≤ 2147483647) : Ct X yX12_harm cX12_harm 5 (some .long) 4 0 0 [.ref 39, vI i, vI j, vI k] (hp S) (sx_is (some (vJ (aHarm (mV T) i j k))) (hp (T))) := by
  have hV := hQ.1
  have hW := okQ_W hQ
  have b0 : 0 ≤ T.1 32 ∧ T.1 32 ≤ 16 := hV.1
  have c0 : 0 ≤ (mV T).1 0 ∧ (mV T).1 0 ≤ 16 := hV.1
  have b1 : 0 ≤ T.1 33 ∧ T.1 33 ≤ 6 := hV.2.1
  have c1 : 0 ≤ (mV T).1 1 ∧ (mV T).1 1 ≤ 6 := hV.2.1
  have b2 : 0 ≤ T.1 34 ∧ T.1 34 ≤ 99 := hV.2.2.1
  have c2 : 0 ≤ (mV T).1 2 ∧ (mV T).1 2 ≤ 99 := hV.2.2.1
  have b3 : 0 ≤ T.2 51 1 ∧ T.2 51 1 ≤ 1 := hV.2.2.2.1
  have c3 : 0 ≤ (mV T).1 3 ∧ (mV T).1 3 ≤ 1 := hV.2.2.2.1
  have b4 : 0 ≤ T.2 51 2 ∧ T.2 51 2 ≤ 16 := hV.2.2.2.2.1
  have c4 : 0 ≤ (mV T).1 4 ∧ (mV T).1 4 ≤ 16 := hV.2.2.2.2.1
  have b5 : 0 ≤ T.2 51 3 ∧ T.2 51 3 ≤ 999 := hV.2.2.2.2.2.1
  have c5 : 0 ≤ (mV T).1 5 ∧ (mV T).1 5 ≤ 999 := hV.2.2.2.2.2.1
  have b6 : 0 ≤ T.2 51 4 ∧ T.2 51 4 ≤ 1999 := hV.2.2.2.2.2.2.1
  have c6 : 0 ≤ (mV T).1 6 ∧ (mV T).1 6 ≤ 1999 := hV.2.2.2.2.2.2.1
  have b7 : 0 ≤ T.2 51 5 ∧ T.2 51 5 ≤ 16 := hV.2.2.2.2.2.2.2.1
  have c7 : 0 ≤ (mV T).1 7 ∧ (mV T).1 7 ≤ 16 := hV.2.2.2.2.2.2.2.1
  have bK : ∀ q, 0 ≤ rK T q ∧ rK T q ≤ 3 := hV.2.2.2.2.2.2.2.2.1
  have bL : ∀ q, 0 ≤ rL T q ∧ rL T q ≤ 9 := hV.2.2.2.2.2.2.2.2.2.1
  have bW : ∀ q, 0 ≤ rW T q ∧ rW T q ≤ 9 := hV.2.2.2.2.2.2.2.2.2.2.1
  have bS : ∀ q, 0 ≤ rS T q ∧ rS T q ≤ 9 := hV.2.2.2.2.2.2.2.2.2.2.2.1
  have bH : ∀ q, 0 ≤ rH T q ∧ rH T q ≤ 1 := hV.2.2.2.2.2.2.2.2.2.2.2.2
  have n0 : (mV T).1 0 = T.1 32 := rfl
  have n1 : (mV T).1 1 = T.1 33 := rfl
  have n2 : (mV T).1 2 = T.1 34 := rfl
  have n3 : (mV T).1 3 = T.2 51 1 := rfl
  have n4 : (mV T).1 4 = T.2 51 2 := rfl
  have n5 : (mV T).1 5 = T.2 51 3 := rfl
  have n6 : (mV T).1 6 = T.2 51 4 := rfl
  have n7 : (mV T).1 7 = T.2 51 5 := rfl
  have z1 := mSun_b hV j (T.1 34) ((mV T).2 4 j)
  have z2 := mBy_b hV i j (T.1 34) ((mV T).2 4 j)
  refine Ct.of false [some (.ref 39), some (vI i), some (vI j), some (vI k), none] (plainFor_of_name (by decide)) (fun h => by cases h) (Nat.le_of_ble_eq_true rfl) (fun _ => rfl) sx_isl ?_
  refine sx_aload_n (p1 := 1) dX12_harm_0 rfl rfl ?_
  refine sx_callVn (p1 := 4) (As := []) (k1 := 0) (n1 := 0) dX12_harm_1 rfl rfl (r_X12_reads hT hY) mt_X12_reads ml_X12_120 (hp_c39 _) rfl rfl (Nat.le_of_ble_eq_true rfl) rfl (Nat.le_of_ble_eq_true rfl) rfl rfl (Nat.le_of_ble_eq_true rfl) (Nat.le_of_ble_eq_true rfl) ?_
  refine sx_iload_n (p1 := 5) dX12_harm_4 rfl rfl ?_
  refine sx_iconst (p1 := 6) dX12_harm_5 rfl ?_
  refine sx_icmp_eq (p1 := 9) (tg := 17) dX12_harm_6 rfl rfl (by omega) (by omega) (fun q6 => ?_) (fun q6 => ?_)
  · refine sx_aload_n (p1 := 18) dX12_harm_17 rfl rfl ?_
    refine sx_iload_n (p1 := 19) dX12_harm_18 rfl rfl ?_
    refine sx_callVr (p1 := 22) (As := [_]) (k1 := 0) (n1 := 0) dX12_harm_19 rfl rfl (c_X12_isWalker hV (by omega)) mt_X12_isWalker ml_X12_126 (hp_c39 _) rfl rfl (Nat.le_of_ble_eq_true rfl) rfl (Nat.le_of_ble_eq_true rfl) rfl rfl (Nat.le_of_ble_eq_true rfl) (Nat.le_of_ble_eq_true rfl) ?_
    refine sx_if_eq (p1 := 25) (tg := 41) dX12_harm_22 rfl rfl (by omega) (fun q22 => ?_) (fun q22 => ?_)
    · refine sx_iconst (p1 := 42) dX12_harm_41 rfl ?_
      refine sx_istore (lo1 := [some _, some _, some _, some _, some _]) (p1 := 44) dX12_harm_42 rfl (by decide) rfl ?_
      refine sx_iload (p1 := 46) dX12_harm_44 rfl rfl ?_
      refine sx_if_eq (p1 := 49) (tg := 80) dX12_harm_46 rfl rfl (by omega) (fun q46 => ?_) (fun q46 => absurd q46 (by omega))
      refine sx_bipush (p1 := 82) dX12_harm_80 rfl (by decide) ?_
      refine sx_callSr (p1 := 85) (As := [_]) (k1 := 0) (n1 := 0) dX12_harm_82 rfl rfl (c_X12_no (by omega)) mt_X12_no ml_X12_201 (Nat.le_of_ble_eq_true rfl) rfl (Nat.le_of_ble_eq_true rfl) rfl rfl (Nat.le_of_ble_eq_true rfl) (Nat.le_of_ble_eq_true rfl) ?_
      exact sx_lret dX12_harm_85 rfl (sx_rj (by unfold aHarm; (repeat' split) <;> first | omega | rfl) (by rfl))
    · refine sx_iload_n (p1 := 26) dX12_harm_25 rfl rfl ?_
      refine sx_iload_n (p1 := 27) dX12_harm_26 rfl rfl ?_
      refine sx_icmp_eq (p1 := 30) (tg := 41) dX12_harm_27 rfl rfl (by omega) (by omega) (fun q27 => ?_) (fun q27 => ?_)
      · refine sx_iconst (p1 := 42) dX12_harm_41 rfl ?_
        refine sx_istore (lo1 := [some _, some _, some _, some _, some _]) (p1 := 44) dX12_harm_42 rfl (by decide) rfl ?_
        refine sx_iload (p1 := 46) dX12_harm_44 rfl rfl ?_
        refine sx_if_eq (p1 := 49) (tg := 80) dX12_harm_46 rfl rfl (by omega) (fun q46 => ?_) (fun q46 => absurd q46 (by omega))
        refine sx_bipush (p1 := 82) dX12_harm_80 rfl (by decide) ?_
        refine sx_callSr (p1 := 85) (As := [_]) (k1 := 0) (n1 := 0) dX12_harm_82 rfl rfl (c_X12_no (by omega)) mt_X12_no ml_X12_201 (Nat.le_of_ble_eq_true rfl) rfl (Nat.le_of_ble_eq_true rfl) rfl rfl (Nat.le_of_ble_eq_true rfl) (Nat.le_of_ble_eq_true rfl) ?_
        exact sx_lret dX12_harm_85 rfl (sx_rj (by unfold aHarm; (repeat' split) <;> first | omega | rfl) (by rfl))
      · refine sx_iload_n (p1 := 31) dX12_harm_30 rfl rfl ?_
        refine sx_callSr (p1 := 34) (As := [_]) (k1 := 0) (n1 := 0) dX12_harm_31 rfl rfl (c_X12_isTwo (by omega)) mt_X12_isTwo ml_X12_87 (Nat.le_of_ble_eq_true rfl) rfl (Nat.le_of_ble_eq_true rfl) rfl rfl (Nat.le_of_ble_eq_true rfl) (Nat.le_of_ble_eq_true rfl) ?_
        refine sx_if_eq (p1 := 37) (tg := 41) dX12_harm_34 rfl rfl (by omega) (fun q34 => ?_) (fun q34 => ?_)
        · refine sx_iconst (p1 := 42) dX12_harm_41 rfl ?_
          refine sx_istore (lo1 := [some _, some _, some _, some _, some _]) (p1 := 44) dX12_harm_42 rfl (by decide) rfl ?_
          refine sx_iload (p1 := 46) dX12_harm_44 rfl rfl ?_
          refine sx_if_eq (p1 := 49) (tg := 80) dX12_harm_46 rfl rfl (by omega) (fun q46 => ?_) (fun q46 => absurd q46 (by omega))
          refine sx_bipush (p1 := 82) dX12_harm_80 rfl (by decide) ?_
          refine sx_callSr (p1 := 85) (As := [_]) (k1 := 0) (n1 := 0) dX12_harm_82 rfl rfl (c_X12_no (by omega)) mt_X12_no ml_X12_201 (Nat.le_of_ble_eq_true rfl) rfl (Nat.le_of_ble_eq_true rfl) rfl rfl (Nat.le_of_ble_eq_true rfl) (Nat.le_of_ble_eq_true rfl) ?_
          exact sx_lret dX12_harm_85 rfl (sx_rj (by unfold aHarm; (repeat' split) <;> first | omega | rfl) (by rfl))
        · refine sx_iconst (p1 := 38) dX12_harm_37 rfl ?_
          refine sx_goto (p1 := 42) (tg := 42) dX12_harm_38 rfl rfl ?_
          refine sx_istore (lo1 := [some _, some _, some _, some _, some _]) (p1 := 44) dX12_harm_42 rfl (by decide) rfl ?_
          refine sx_iload (p1 := 46) dX12_harm_44 rfl rfl ?_
          refine sx_if_eq (p1 := 49) (tg := 80) dX12_harm_46 rfl rfl (by omega) (fun q46 => absurd q46 (by omega)) (fun q46 => ?_)
          refine sx_iload_n (p1 := 50) dX12_harm_49 rfl rfl ?_
          refine sx_iconst (p1 := 51) dX12_harm_50 rfl ?_
          refine sx_icmp_ne (p1 := 54) (tg := 63) dX12_harm_51 rfl rfl (by omega) (by omega) (fun q51 => ?_) (fun q51 => ?_)
          · refine sx_aload_n (p1 := 64) dX12_harm_63 rfl rfl ?_
            refine sx_iload_n (p1 := 65) dX12_harm_64 rfl rfl ?_
            refine sx_iload_n (p1 := 66) dX12_harm_65 rfl rfl ?_
            refine sx_callVr (p1 := 69) (As := [_, _]) (k1 := 0) (n1 := 0) dX12_harm_66 rfl rfl (z_X12_harmBy hQ (by omega) (by omega)) mt_X12_harmBy ml_X12_189 (hp_c39 _) rfl rfl (Nat.le_of_ble_eq_true rfl) rfl (Nat.le_of_ble_eq_true rfl) rfl rfl (Nat.le_of_ble_eq_true rfl) (Nat.le_of_ble_eq_true rfl) ?_
            refine sx_i2l (p1 := 70) dX12_harm_69 rfl (by omega) ?_
            refine sx_ldc2 (z := 256) (p1 := 73) dX12_harm_70 rfl kc_X12_195 (by decide) ?_
            refine sx_iload_n (p1 := 74) dX12_harm_73 rfl rfl ?_
            refine sx_callSr (p1 := 77) (As := [_, _, _]) (k1 := 0) (n1 := 0) dX12_harm_74 rfl rfl (c_X12_part (by omega) (by omega) (by omega)) mt_X12_part ml_X12_197 (Nat.le_of_ble_eq_true rfl) rfl (Nat.le_of_ble_eq_true rfl) rfl rfl (Nat.le_of_ble_eq_true rfl) (Nat.le_of_ble_eq_true rfl) ?_
            refine sx_goto (p1 := 85) (tg := 85) dX12_harm_77 rfl rfl ?_
            exact sx_lret dX12_harm_85 rfl (sx_rj (by unfold aHarm; (repeat' split) <;> first | omega | rfl) (by rfl))
          · refine sx_aload_n (p1 := 55) dX12_harm_54 rfl rfl ?_
            refine sx_iload_n (p1 := 56) dX12_harm_55 rfl rfl ?_
            refine sx_callVr (p1 := 59) (As := [_]) (k1 := 0) (n1 := 0) dX12_harm_56 rfl rfl (z_X12_sunOf hQ (by omega)) mt_X12_sunOf ml_X12_186 (hp_c39 _) rfl rfl (Nat.le_of_ble_eq_true rfl) rfl (Nat.le_of_ble_eq_true rfl) rfl rfl (Nat.le_of_ble_eq_true rfl) (Nat.le_of_ble_eq_true rfl) ?_
            refine sx_i2l (p1 := 60) dX12_harm_59 rfl (by omega) ?_
            refine sx_goto (p1 := 70) (tg := 70) dX12_harm_60 rfl rfl ?_
            refine sx_ldc2 (z := 256) (p1 := 73) dX12_harm_70 rfl kc_X12_195 (by decide) ?_
            refine sx_iload_n (p1 := 74) dX12_harm_73 rfl rfl ?_
            refine sx_callSr (p1 := 77) (As := [_, _, _]) (k1 := 0) (n1 := 0) dX12_harm_74 rfl rfl (c_X12_part (by omega) (by omega) (by omega)) mt_X12_part ml_X12_197 (Nat.le_of_ble_eq_true rfl) rfl (Nat.le_of_ble_eq_true rfl) rfl rfl (Nat.le_of_ble_eq_true rfl) (Nat.le_of_ble_eq_true rfl) ?_
            refine sx_goto (p1 := 85) (tg := 85) dX12_harm_77 rfl rfl ?_
            exact sx_lret dX12_harm_85 rfl (sx_rj (by unfold aHarm; (repeat' split) <;> first | omega | rfl) (by rfl))
  · refine sx_aload_n (p1 := 10) dX12_harm_9 rfl rfl ?_
    refine sx_iload_n (p1 := 11) dX12_harm_10 rfl rfl ?_
    refine sx_callVr (p1 := 14) (As := [_]) (k1 := 0) (n1 := 0) dX12_harm_11 rfl rfl (c_X12_isWalker hV (by omega)) mt_X12_isWalker ml_X12_126 (hp_c39 _) rfl rfl (Nat.le_of_ble_eq_true rfl) rfl (Nat.le_of_ble_eq_true rfl) rfl rfl (Nat.le_of_ble_eq_true rfl) (Nat.le_of_ble_eq_true rfl) ?_
    refine sx_if_eq (p1 := 17) (tg := 41) dX12_harm_14 rfl rfl (by omega) (fun q14 => ?_) (fun q14 => ?_)
    · refine sx_iconst (p1 := 42) dX12_harm_41 rfl ?_
      refine sx_istore (lo1 := [some _, some _, some _, some _, some _]) (p1 := 44) dX12_harm_42 rfl (by decide) rfl ?_
      refine sx_iload (p1 := 46) dX12_harm_44 rfl rfl ?_
      refine sx_if_eq (p1 := 49) (tg := 80) dX12_harm_46 rfl rfl (by omega) (fun q46 => ?_) (fun q46 => absurd q46 (by omega))
      refine sx_bipush (p1 := 82) dX12_harm_80 rfl (by decide) ?_
      refine sx_callSr (p1 := 85) (As := [_]) (k1 := 0) (n1 := 0) dX12_harm_82 rfl rfl (c_X12_no (by omega)) mt_X12_no ml_X12_201 (Nat.le_of_ble_eq_true rfl) rfl (Nat.le_of_ble_eq_true rfl) rfl rfl (Nat.le_of_ble_eq_true rfl) (Nat.le_of_ble_eq_true rfl) ?_
      exact sx_lret dX12_harm_85 rfl (sx_rj (by unfold aHarm; (repeat' split) <;> first | omega | rfl) (by rfl))
    · refine sx_aload_n (p1 := 18) dX12_harm_17 rfl rfl ?_
      refine sx_iload_n (p1 := 19) dX12_harm_18 rfl rfl ?_
      refine sx_callVr (p1 := 22) (As := [_]) (k1 := 0) (n1 := 0) dX12_harm_19 rfl rfl (c_X12_isWalker hV (by omega)) mt_X12_isWalker ml_X12_126 (hp_c39 _) rfl rfl (Nat.le_of_ble_eq_true rfl) rfl (Nat.le_of_ble_eq_true rfl) rfl rfl (Nat.le_of_ble_eq_true rfl) (Nat.le_of_ble_eq_true rfl) ?_
      refine sx_if_eq (p1 := 25) (tg := 41) dX12_harm_22 rfl rfl (by omega) (fun q22 => ?_) (fun q22 => ?_)
      · refine sx_iconst (p1 := 42) dX12_harm_41 rfl ?_
        refine sx_istore (lo1 := [some _, some _, some _, some _, some _]) (p1 := 44) dX12_harm_42 rfl (by decide) rfl ?_
        refine sx_iload (p1 := 46) dX12_harm_44 rfl rfl ?_
        refine sx_if_eq (p1 := 49) (tg := 80) dX12_harm_46 rfl rfl (by omega) (fun q46 => ?_) (fun q46 => absurd q46 (by omega))
        refine sx_bipush (p1 := 82) dX12_harm_80 rfl (by decide) ?_
        refine sx_callSr (p1 := 85) (As := [_]) (k1 := 0) (n1 := 0) dX12_harm_82 rfl rfl (c_X12_no (by omega)) mt_X12_no ml_X12_201 (Nat.le_of_ble_eq_true rfl) rfl (Nat.le_of_ble_eq_true rfl) rfl rfl (Nat.le_of_ble_eq_true rfl) (Nat.le_of_ble_eq_true rfl) ?_
        exact sx_lret dX12_harm_85 rfl (sx_rj (by unfold aHarm; (repeat' split) <;> first | omega | rfl) (by rfl))
      · refine sx_iload_n (p1 := 26) dX12_harm_25 rfl rfl ?_
        refine sx_iload_n (p1 := 27) dX12_harm_26 rfl rfl ?_
        refine sx_icmp_eq (p1 := 30) (tg := 41) dX12_harm_27 rfl rfl (by omega) (by omega) (fun q27 => ?_) (fun q27 => ?_)
        · refine sx_iconst (p1 := 42) dX12_harm_41 rfl ?_
          refine sx_istore (lo1 := [some _, some _, some _, some _, some _]) (p1 := 44) dX12_harm_42 rfl (by decide) rfl ?_
          refine sx_iload (p1 := 46) dX12_harm_44 rfl rfl ?_
          refine sx_if_eq (p1 := 49) (tg := 80) dX12_harm_46 rfl rfl (by omega) (fun q46 => ?_) (fun q46 => absurd q46 (by omega))
          refine sx_bipush (p1 := 82) dX12_harm_80 rfl (by decide) ?_
          refine sx_callSr (p1 := 85) (As := [_]) (k1 := 0) (n1 := 0) dX12_harm_82 rfl rfl (c_X12_no (by omega)) mt_X12_no ml_X12_201 (Nat.le_of_ble_eq_true rfl) rfl (Nat.le_of_ble_eq_true rfl) rfl rfl (Nat.le_of_ble_eq_true rfl) (Nat.le_of_ble_eq_true rfl) ?_
          exact sx_lret dX12_harm_85 rfl (sx_rj (by unfold aHarm; (repeat' split) <;> first | omega | rfl) (by rfl))
        · refine sx_iload_n (p1 := 31) dX12_harm_30 rfl rfl ?_
          refine sx_callSr (p1 := 34) (As := [_]) (k1 := 0) (n1 := 0) dX12_harm_31 rfl rfl (c_X12_isTwo (by omega)) mt_X12_isTwo ml_X12_87 (Nat.le_of_ble_eq_true rfl) rfl (Nat.le_of_ble_eq_true rfl) rfl rfl (Nat.le_of_ble_eq_true rfl) (Nat.le_of_ble_eq_true rfl) ?_
          refine sx_if_eq (p1 := 37) (tg := 41) dX12_harm_34 rfl rfl (by omega) (fun q34 => ?_) (fun q34 => ?_)
          · refine sx_iconst (p1 := 42) dX12_harm_41 rfl ?_
            refine sx_istore (lo1 := [some _, some _, some _, some _, some _]) (p1 := 44) dX12_harm_42 rfl (by decide) rfl ?_
            refine sx_iload (p1 := 46) dX12_harm_44 rfl rfl ?_
            refine sx_if_eq (p1 := 49) (tg := 80) dX12_harm_46 rfl rfl (by omega) (fun q46 => ?_) (fun q46 => absurd q46 (by omega))
            refine sx_bipush (p1 := 82) dX12_harm_80 rfl (by decide) ?_
            refine sx_callSr (p1 := 85) (As := [_]) (k1 := 0) (n1 := 0) dX12_harm_82 rfl rfl (c_X12_no (by omega)) mt_X12_no ml_X12_201 (Nat.le_of_ble_eq_true rfl) rfl (Nat.le_of_ble_eq_true rfl) rfl rfl (Nat.le_of_ble_eq_true rfl) (Nat.le_of_ble_eq_true rfl) ?_
            exact sx_lret dX12_harm_85 rfl (sx_rj (by unfold aHarm; (repeat' split) <;> first | omega | rfl) (by rfl))
          · refine sx_iconst (p1 := 38) dX12_harm_37 rfl ?_
            refine sx_goto (p1 := 42) (tg := 42) dX12_harm_38 rfl rfl ?_
            refine sx_istore (lo1 := [some _, some _, some _, some _, some _]) (p1 := 44) dX12_harm_42 rfl (by decide) rfl ?_
            refine sx_iload (p1 := 46) dX12_harm_44 rfl rfl ?_
            refine sx_if_eq (p1 := 49) (tg := 80) dX12_harm_46 rfl rfl (by omega) (fun q46 => absurd q46 (by omega)) (fun q46 => ?_)
            refine sx_iload_n (p1 := 50) dX12_harm_49 rfl rfl ?_
            refine sx_iconst (p1 := 51) dX12_harm_50 rfl ?_
            refine sx_icmp_ne (p1 := 54) (tg := 63) dX12_harm_51 rfl rfl (by omega) (by omega) (fun q51 => ?_) (fun q51 => ?_)
            · refine sx_aload_n (p1 := 64) dX12_harm_63 rfl rfl ?_
              refine sx_iload_n (p1 := 65) dX12_harm_64 rfl rfl ?_
              refine sx_iload_n (p1 := 66) dX12_harm_65 rfl rfl ?_
              refine sx_callVr (p1 := 69) (As := [_, _]) (k1 := 0) (n1 := 0) dX12_harm_66 rfl rfl (z_X12_harmBy hQ (by omega) (by omega)) mt_X12_harmBy ml_X12_189 (hp_c39 _) rfl rfl (Nat.le_of_ble_eq_true rfl) rfl (Nat.le_of_ble_eq_true rfl) rfl rfl (Nat.le_of_ble_eq_true rfl) (Nat.le_of_ble_eq_true rfl) ?_
              refine sx_i2l (p1 := 70) dX12_harm_69 rfl (by omega) ?_
              refine sx_ldc2 (z := 256) (p1 := 73) dX12_harm_70 rfl kc_X12_195 (by decide) ?_
              refine sx_iload_n (p1 := 74) dX12_harm_73 rfl rfl ?_
              refine sx_callSr (p1 := 77) (As := [_, _, _]) (k1 := 0) (n1 := 0) dX12_harm_74 rfl rfl (c_X12_part (by omega) (by omega) (by omega)) mt_X12_part ml_X12_197 (Nat.le_of_ble_eq_true rfl) rfl (Nat.le_of_ble_eq_true rfl) rfl rfl (Nat.le_of_ble_eq_true rfl) (Nat.le_of_ble_eq_true rfl) ?_
              refine sx_goto (p1 := 85) (tg := 85) dX12_harm_77 rfl rfl ?_
              exact sx_lret dX12_harm_85 rfl (sx_rj (by unfold aHarm; (repeat' split) <;> first | omega | rfl) (by rfl))
            · refine sx_aload_n (p1 := 55) dX12_harm_54 rfl rfl ?_
              refine sx_iload_n (p1 := 56) dX12_harm_55 rfl rfl ?_
              refine sx_callVr (p1 := 59) (As := [_]) (k1 := 0) (n1 := 0) dX12_harm_56 rfl rfl (z_X12_sunOf hQ (by omega)) mt_X12_sunOf ml_X12_186 (hp_c39 _) rfl rfl (Nat.le_of_ble_eq_true rfl) rfl (Nat.le_of_ble_eq_true rfl) rfl rfl (Nat.le_of_ble_eq_true rfl) (Nat.le_of_ble_eq_true rfl) ?_
              refine sx_i2l (p1 := 60) dX12_harm_59 rfl (by omega) ?_
              refine sx_goto (p1 := 70) (tg := 70) dX12_harm_60 rfl rfl ?_
              refine sx_ldc2 (z := 256) (p1 := 73) dX12_harm_70 rfl kc_X12_195 (by decide) ?_
              refine sx_iload_n (p1 := 74) dX12_harm_73 rfl rfl ?_
              refine sx_callSr (p1 := 77) (As := [_, _, _]) (k1 := 0) (n1 := 0) dX12_harm_74 rfl rfl (c_X12_part (by omega) (by omega) (by omega)) mt_X12_part ml_X12_197 (Nat.le_of_ble_eq_true rfl) rfl (Nat.le_of_ble_eq_true rfl) rfl rfl (Nat.le_of_ble_eq_true rfl) (Nat.le_of_ble_eq_true rfl) ?_
              refine sx_goto (p1 := 85) (tg := 85) dX12_harm_77 rfl rfl ?_
              exact sx_lret dX12_harm_85 rfl (sx_rj (by unfold aHarm; (repeat' split) <;> first | omega | rfl) (by rfl))
set_option maxRecDepth 20000 in
theorem c_X12_all {X : sx_X} {S : St} {i j : Int} {T : St} {b : Nat} (hT : rdS S = T) (hY : okY S) (hQ : okQ T b) (hi : -2147483648 ≤ i ∧ i ≤ 2147483647) (hj : -2147483648 ≤ j ∧ j ≤ 2147483647) : Ct X yX12_all cX12_all 3 (some .long) 6 0 0 [.ref 39, vI i, vI j] (hp S) (sx_is (some (vJ (aAll (mV T) i j))) (hp (T))) := by
  have hV := hQ.1
  have hW := okQ_W hQ
  have b0 : 0 ≤ T.1 32 ∧ T.1 32 ≤ 16 := hV.1
  have c0 : 0 ≤ (mV T).1 0 ∧ (mV T).1 0 ≤ 16 := hV.1
  have b1 : 0 ≤ T.1 33 ∧ T.1 33 ≤ 6 := hV.2.1
  have c1 : 0 ≤ (mV T).1 1 ∧ (mV T).1 1 ≤ 6 := hV.2.1
  have b2 : 0 ≤ T.1 34 ∧ T.1 34 ≤ 99 := hV.2.2.1
  have c2 : 0 ≤ (mV T).1 2 ∧ (mV T).1 2 ≤ 99 := hV.2.2.1
  have b3 : 0 ≤ T.2 51 1 ∧ T.2 51 1 ≤ 1 := hV.2.2.2.1
  have c3 : 0 ≤ (mV T).1 3 ∧ (mV T).1 3 ≤ 1 := hV.2.2.2.1
  have b4 : 0 ≤ T.2 51 2 ∧ T.2 51 2 ≤ 16 := hV.2.2.2.2.1
  have c4 : 0 ≤ (mV T).1 4 ∧ (mV T).1 4 ≤ 16 := hV.2.2.2.2.1
  have b5 : 0 ≤ T.2 51 3 ∧ T.2 51 3 ≤ 999 := hV.2.2.2.2.2.1
  have c5 : 0 ≤ (mV T).1 5 ∧ (mV T).1 5 ≤ 999 := hV.2.2.2.2.2.1
  have b6 : 0 ≤ T.2 51 4 ∧ T.2 51 4 ≤ 1999 := hV.2.2.2.2.2.2.1
  have c6 : 0 ≤ (mV T).1 6 ∧ (mV T).1 6 ≤ 1999 := hV.2.2.2.2.2.2.1
  have b7 : 0 ≤ T.2 51 5 ∧ T.2 51 5 ≤ 16 := hV.2.2.2.2.2.2.2.1
  have c7 : 0 ≤ (mV T).1 7 ∧ (mV T).1 7 ≤ 16 := hV.2.2.2.2.2.2.2.1
  have bK : ∀ q, 0 ≤ rK T q ∧ rK T q ≤ 3 := hV.2.2.2.2.2.2.2.2.1
  have bL : ∀ q, 0 ≤ rL T q ∧ rL T q ≤ 9 := hV.2.2.2.2.2.2.2.2.2.1
  have bW : ∀ q, 0 ≤ rW T q ∧ rW T q ≤ 9 := hV.2.2.2.2.2.2.2.2.2.2.1
  have bS : ∀ q, 0 ≤ rS T q ∧ rS T q ≤ 9 := hV.2.2.2.2.2.2.2.2.2.2.2.1
  have bH : ∀ q, 0 ≤ rH T q ∧ rH T q ≤ 1 := hV.2.2.2.2.2.2.2.2.2.2.2.2
  have n0 : (mV T).1 0 = T.1 32 := rfl
  have n1 : (mV T).1 1 = T.1 33 := rfl
  have n2 : (mV T).1 2 = T.1 34 := rfl
  have n3 : (mV T).1 3 = T.2 51 1 := rfl
  have n4 : (mV T).1 4 = T.2 51 2 := rfl
  have n5 : (mV T).1 5 = T.2 51 3 := rfl
  have n6 : (mV T).1 6 = T.2 51 4 := rfl
  have n7 : (mV T).1 7 = T.2 51 5 := rfl
  have z1 := mAll_b hV (T.1 34)
  have z2 : i ≤ 6 → _ := fun q => mTo_b hV q ((mV T).2 4 i) (T.1 34)
  refine Ct.of false [some (.ref 39), some (vI i), some (vI j)] (plainFor_of_name (by decide)) (fun h => by cases h) (Nat.le_of_ble_eq_true rfl) (fun _ => rfl) sx_isl ?_
  refine sx_aload_n (p1 := 1) dX12_all_0 rfl rfl ?_
  refine sx_callVn (p1 := 4) (As := []) (k1 := 0) (n1 := 0) dX12_all_1 rfl rfl (r_X12_reads hT hY) mt_X12_reads ml_X12_120 (hp_c39 _) rfl rfl (Nat.le_of_ble_eq_true rfl) rfl (Nat.le_of_ble_eq_true rfl) rfl rfl (Nat.le_of_ble_eq_true rfl) (Nat.le_of_ble_eq_true rfl) ?_
  refine sx_iload_n (p1 := 5) dX12_all_4 rfl rfl ?_
  refine sx_iconst (p1 := 6) dX12_all_5 rfl ?_
  refine sx_icmp_eq (p1 := 9) (tg := 17) dX12_all_6 rfl rfl (by omega) (by omega) (fun q6 => ?_) (fun q6 => ?_)
  · refine sx_iload_n (p1 := 18) dX12_all_17 rfl rfl ?_
    refine sx_callSr (p1 := 21) (As := [_]) (k1 := 0) (n1 := 0) dX12_all_18 rfl rfl (c_X12_isTwo (by omega)) mt_X12_isTwo ml_X12_87 (Nat.le_of_ble_eq_true rfl) rfl (Nat.le_of_ble_eq_true rfl) rfl rfl (Nat.le_of_ble_eq_true rfl) (Nat.le_of_ble_eq_true rfl) ?_
    refine sx_if_eq (p1 := 24) (tg := 53) dX12_all_21 rfl rfl (by omega) (fun q21 => ?_) (fun q21 => ?_)
    · refine sx_bipush (p1 := 55) dX12_all_53 rfl (by decide) ?_
      refine sx_callSr (p1 := 58) (As := [_]) (k1 := 0) (n1 := 0) dX12_all_55 rfl rfl (c_X12_no (by omega)) mt_X12_no ml_X12_201 (Nat.le_of_ble_eq_true rfl) rfl (Nat.le_of_ble_eq_true rfl) rfl rfl (Nat.le_of_ble_eq_true rfl) (Nat.le_of_ble_eq_true rfl) ?_
      exact sx_lret dX12_all_58 rfl (sx_rj (by unfold aAll; (repeat' split) <;> first | omega | rfl) (by rfl))
    · refine sx_iload_n (p1 := 25) dX12_all_24 rfl rfl ?_
      refine sx_iconst (p1 := 26) dX12_all_25 rfl ?_
      refine sx_icmp_ne (p1 := 29) (tg := 37) dX12_all_26 rfl rfl (by omega) (by omega) (fun q26 => ?_) (fun q26 => ?_)
      · refine sx_aload_n (p1 := 38) dX12_all_37 rfl rfl ?_
        refine sx_iload_n (p1 := 39) dX12_all_38 rfl rfl ?_
        refine sx_callVr (p1 := 42) (As := [_]) (k1 := 0) (n1 := 0) dX12_all_39 rfl rfl (z_X12_toOne hQ (by omega)) mt_X12_toOne ml_X12_192 (hp_c39 _) rfl rfl (Nat.le_of_ble_eq_true rfl) rfl (Nat.le_of_ble_eq_true rfl) rfl rfl (Nat.le_of_ble_eq_true rfl) (Nat.le_of_ble_eq_true rfl) ?_
        refine sx_i2l (p1 := 43) dX12_all_42 rfl (by omega) ?_
        refine sx_ldc2 (z := 256) (p1 := 46) dX12_all_43 rfl kc_X12_195 (by decide) ?_
        refine sx_iload_n (p1 := 47) dX12_all_46 rfl rfl ?_
        refine sx_callSr (p1 := 50) (As := [_, _, _]) (k1 := 0) (n1 := 0) dX12_all_47 rfl rfl (c_X12_part (by omega) (by omega) (by omega)) mt_X12_part ml_X12_197 (Nat.le_of_ble_eq_true rfl) rfl (Nat.le_of_ble_eq_true rfl) rfl rfl (Nat.le_of_ble_eq_true rfl) (Nat.le_of_ble_eq_true rfl) ?_
        refine sx_goto (p1 := 58) (tg := 58) dX12_all_50 rfl rfl ?_
        exact sx_lret dX12_all_58 rfl (sx_rj (by unfold aAll; (repeat' split) <;> first | omega | rfl) (by rfl))
      · refine sx_aload_n (p1 := 30) dX12_all_29 rfl rfl ?_
        refine sx_callVr (p1 := 33) (As := []) (k1 := 0) (n1 := 0) dX12_all_30 rfl rfl (z_X12_toAll hQ) mt_X12_toAll ml_X12_205 (hp_c39 _) rfl rfl (Nat.le_of_ble_eq_true rfl) rfl (Nat.le_of_ble_eq_true rfl) rfl rfl (Nat.le_of_ble_eq_true rfl) (Nat.le_of_ble_eq_true rfl) ?_
        refine sx_i2l (p1 := 34) dX12_all_33 rfl (by omega) ?_
        refine sx_goto (p1 := 43) (tg := 43) dX12_all_34 rfl rfl ?_
        refine sx_ldc2 (z := 256) (p1 := 46) dX12_all_43 rfl kc_X12_195 (by decide) ?_
        refine sx_iload_n (p1 := 47) dX12_all_46 rfl rfl ?_
        refine sx_callSr (p1 := 50) (As := [_, _, _]) (k1 := 0) (n1 := 0) dX12_all_47 rfl rfl (c_X12_part (by omega) (by omega) (by omega)) mt_X12_part ml_X12_197 (Nat.le_of_ble_eq_true rfl) rfl (Nat.le_of_ble_eq_true rfl) rfl rfl (Nat.le_of_ble_eq_true rfl) (Nat.le_of_ble_eq_true rfl) ?_
        refine sx_goto (p1 := 58) (tg := 58) dX12_all_50 rfl rfl ?_
        exact sx_lret dX12_all_58 rfl (sx_rj (by unfold aAll; (repeat' split) <;> first | omega | rfl) (by rfl))
  · refine sx_aload_n (p1 := 10) dX12_all_9 rfl rfl ?_
    refine sx_iload_n (p1 := 11) dX12_all_10 rfl rfl ?_
    refine sx_callVr (p1 := 14) (As := [_]) (k1 := 0) (n1 := 0) dX12_all_11 rfl rfl (c_X12_isWalker hV (by omega)) mt_X12_isWalker ml_X12_126 (hp_c39 _) rfl rfl (Nat.le_of_ble_eq_true rfl) rfl (Nat.le_of_ble_eq_true rfl) rfl rfl (Nat.le_of_ble_eq_true rfl) (Nat.le_of_ble_eq_true rfl) ?_
    refine sx_if_eq (p1 := 17) (tg := 53) dX12_all_14 rfl rfl (by omega) (fun q14 => ?_) (fun q14 => ?_)
    · refine sx_bipush (p1 := 55) dX12_all_53 rfl (by decide) ?_
      refine sx_callSr (p1 := 58) (As := [_]) (k1 := 0) (n1 := 0) dX12_all_55 rfl rfl (c_X12_no (by omega)) mt_X12_no ml_X12_201 (Nat.le_of_ble_eq_true rfl) rfl (Nat.le_of_ble_eq_true rfl) rfl rfl (Nat.le_of_ble_eq_true rfl) (Nat.le_of_ble_eq_true rfl) ?_
      exact sx_lret dX12_all_58 rfl (sx_rj (by unfold aAll; (repeat' split) <;> first | omega | rfl) (by rfl))
    · refine sx_iload_n (p1 := 18) dX12_all_17 rfl rfl ?_
      refine sx_callSr (p1 := 21) (As := [_]) (k1 := 0) (n1 := 0) dX12_all_18 rfl rfl (c_X12_isTwo (by omega)) mt_X12_isTwo ml_X12_87 (Nat.le_of_ble_eq_true rfl) rfl (Nat.le_of_ble_eq_true rfl) rfl rfl (Nat.le_of_ble_eq_true rfl) (Nat.le_of_ble_eq_true rfl) ?_
      refine sx_if_eq (p1 := 24) (tg := 53) dX12_all_21 rfl rfl (by omega) (fun q21 => ?_) (fun q21 => ?_)
      · refine sx_bipush (p1 := 55) dX12_all_53 rfl (by decide) ?_
        refine sx_callSr (p1 := 58) (As := [_]) (k1 := 0) (n1 := 0) dX12_all_55 rfl rfl (c_X12_no (by omega)) mt_X12_no ml_X12_201 (Nat.le_of_ble_eq_true rfl) rfl (Nat.le_of_ble_eq_true rfl) rfl rfl (Nat.le_of_ble_eq_true rfl) (Nat.le_of_ble_eq_true rfl) ?_
        exact sx_lret dX12_all_58 rfl (sx_rj (by unfold aAll; (repeat' split) <;> first | omega | rfl) (by rfl))
      · refine sx_iload_n (p1 := 25) dX12_all_24 rfl rfl ?_
        refine sx_iconst (p1 := 26) dX12_all_25 rfl ?_
        refine sx_icmp_ne (p1 := 29) (tg := 37) dX12_all_26 rfl rfl (by omega) (by omega) (fun q26 => ?_) (fun q26 => ?_)
        · refine sx_aload_n (p1 := 38) dX12_all_37 rfl rfl ?_
          refine sx_iload_n (p1 := 39) dX12_all_38 rfl rfl ?_
          refine sx_callVr (p1 := 42) (As := [_]) (k1 := 0) (n1 := 0) dX12_all_39 rfl rfl (z_X12_toOne hQ (by omega)) mt_X12_toOne ml_X12_192 (hp_c39 _) rfl rfl (Nat.le_of_ble_eq_true rfl) rfl (Nat.le_of_ble_eq_true rfl) rfl rfl (Nat.le_of_ble_eq_true rfl) (Nat.le_of_ble_eq_true rfl) ?_
          refine sx_i2l (p1 := 43) dX12_all_42 rfl (by omega) ?_
          refine sx_ldc2 (z := 256) (p1 := 46) dX12_all_43 rfl kc_X12_195 (by decide) ?_
          refine sx_iload_n (p1 := 47) dX12_all_46 rfl rfl ?_
          refine sx_callSr (p1 := 50) (As := [_, _, _]) (k1 := 0) (n1 := 0) dX12_all_47 rfl rfl (c_X12_part (by omega) (by omega) (by omega)) mt_X12_part ml_X12_197 (Nat.le_of_ble_eq_true rfl) rfl (Nat.le_of_ble_eq_true rfl) rfl rfl (Nat.le_of_ble_eq_true rfl) (Nat.le_of_ble_eq_true rfl) ?_
          refine sx_goto (p1 := 58) (tg := 58) dX12_all_50 rfl rfl ?_
          exact sx_lret dX12_all_58 rfl (sx_rj (by unfold aAll; (repeat' split) <;> first | omega | rfl) (by rfl))
        · refine sx_aload_n (p1 := 30) dX12_all_29 rfl rfl ?_
          refine sx_callVr (p1 := 33) (As := []) (k1 := 0) (n1 := 0) dX12_all_30 rfl rfl (z_X12_toAll hQ) mt_X12_toAll ml_X12_205 (hp_c39 _) rfl rfl (Nat.le_of_ble_eq_true rfl) rfl (Nat.le_of_ble_eq_true rfl) rfl rfl (Nat.le_of_ble_eq_true rfl) (Nat.le_of_ble_eq_true rfl) ?_
          refine sx_i2l (p1 := 34) dX12_all_33 rfl (by omega) ?_
          refine sx_goto (p1 := 43) (tg := 43) dX12_all_34 rfl rfl ?_
          refine sx_ldc2 (z := 256) (p1 := 46) dX12_all_43 rfl kc_X12_195 (by decide) ?_
          refine sx_iload_n (p1 := 47) dX12_all_46 rfl rfl ?_
          refine sx_callSr (p1 := 50) (As := [_, _, _]) (k1 := 0) (n1 := 0) dX12_all_47 rfl rfl (c_X12_part (by omega) (by omega) (by omega)) mt_X12_part ml_X12_197 (Nat.le_of_ble_eq_true rfl) rfl (Nat.le_of_ble_eq_true rfl) rfl rfl (Nat.le_of_ble_eq_true rfl) (Nat.le_of_ble_eq_true rfl) ?_
          refine sx_goto (p1 := 58) (tg := 58) dX12_all_50 rfl rfl ?_
          exact sx_lret dX12_all_58 rfl (sx_rj (by unfold aAll; (repeat' split) <;> first | omega | rfl) (by rfl))
set_option maxRecDepth 20000 in
theorem c_X12_ends {X : sx_X} {S : St} {T : St} {b : Nat} (hT : rdS S = T) (hY : okY S) (hQ : okQ T b)  : Ct X yX12_ends cX12_ends 1 (some .int) 4 0 0 [.ref 39] (hp S) (sx_is (some (vI (aEnds (mV T)))) (hp (T))) := by
  have hV := hQ.1
  have hW := okQ_W hQ
  have b0 : 0 ≤ T.1 32 ∧ T.1 32 ≤ 16 := hV.1
  have c0 : 0 ≤ (mV T).1 0 ∧ (mV T).1 0 ≤ 16 := hV.1
  have b1 : 0 ≤ T.1 33 ∧ T.1 33 ≤ 6 := hV.2.1
  have c1 : 0 ≤ (mV T).1 1 ∧ (mV T).1 1 ≤ 6 := hV.2.1
  have b2 : 0 ≤ T.1 34 ∧ T.1 34 ≤ 99 := hV.2.2.1
  have c2 : 0 ≤ (mV T).1 2 ∧ (mV T).1 2 ≤ 99 := hV.2.2.1
  have b3 : 0 ≤ T.2 51 1 ∧ T.2 51 1 ≤ 1 := hV.2.2.2.1
  have c3 : 0 ≤ (mV T).1 3 ∧ (mV T).1 3 ≤ 1 := hV.2.2.2.1
  have b4 : 0 ≤ T.2 51 2 ∧ T.2 51 2 ≤ 16 := hV.2.2.2.2.1
  have c4 : 0 ≤ (mV T).1 4 ∧ (mV T).1 4 ≤ 16 := hV.2.2.2.2.1
  have b5 : 0 ≤ T.2 51 3 ∧ T.2 51 3 ≤ 999 := hV.2.2.2.2.2.1
  have c5 : 0 ≤ (mV T).1 5 ∧ (mV T).1 5 ≤ 999 := hV.2.2.2.2.2.1
  have b6 : 0 ≤ T.2 51 4 ∧ T.2 51 4 ≤ 1999 := hV.2.2.2.2.2.2.1
  have c6 : 0 ≤ (mV T).1 6 ∧ (mV T).1 6 ≤ 1999 := hV.2.2.2.2.2.2.1
  have b7 : 0 ≤ T.2 51 5 ∧ T.2 51 5 ≤ 16 := hV.2.2.2.2.2.2.2.1
  have c7 : 0 ≤ (mV T).1 7 ∧ (mV T).1 7 ≤ 16 := hV.2.2.2.2.2.2.2.1
  have bK : ∀ q, 0 ≤ rK T q ∧ rK T q ≤ 3 := hV.2.2.2.2.2.2.2.2.1
  have bL : ∀ q, 0 ≤ rL T q ∧ rL T q ≤ 9 := hV.2.2.2.2.2.2.2.2.2.1
  have bW : ∀ q, 0 ≤ rW T q ∧ rW T q ≤ 9 := hV.2.2.2.2.2.2.2.2.2.2.1
  have bS : ∀ q, 0 ≤ rS T q ∧ rS T q ≤ 9 := hV.2.2.2.2.2.2.2.2.2.2.2.1
  have bH : ∀ q, 0 ≤ rH T q ∧ rH T q ≤ 1 := hV.2.2.2.2.2.2.2.2.2.2.2.2
  have n0 : (mV T).1 0 = T.1 32 := rfl
  have n1 : (mV T).1 1 = T.1 33 := rfl
  have n2 : (mV T).1 2 = T.1 34 := rfl
  have n3 : (mV T).1 3 = T.2 51 1 := rfl
  have n4 : (mV T).1 4 = T.2 51 2 := rfl
  have n5 : (mV T).1 5 = T.2 51 3 := rfl
  have n6 : (mV T).1 6 = T.2 51 4 := rfl
  have n7 : (mV T).1 7 = T.2 51 5 := rfl
  refine Ct.of false [some (.ref 39)] (plainFor_of_name (by decide)) (fun h => by cases h) (Nat.le_of_ble_eq_true rfl) (fun _ => rfl) sx_isl ?_
  refine sx_aload_n (p1 := 1) dX12_ends_0 rfl rfl ?_
  refine sx_callVn (p1 := 4) (As := []) (k1 := 0) (n1 := 0) dX12_ends_1 rfl rfl (r_X12_reads hT hY) mt_X12_reads ml_X12_120 (hp_c39 _) rfl rfl (Nat.le_of_ble_eq_true rfl) rfl (Nat.le_of_ble_eq_true rfl) rfl rfl (Nat.le_of_ble_eq_true rfl) (Nat.le_of_ble_eq_true rfl) ?_
  refine sx_aload_n (p1 := 5) dX12_ends_4 rfl rfl ?_
  refine sx_callVr (p1 := 8) (As := []) (k1 := 0) (n1 := 0) dX12_ends_5 rfl rfl (c_X12_endsNow hV) mt_X12_endsNow ml_X12_211 (hp_c39 _) rfl rfl (Nat.le_of_ble_eq_true rfl) rfl (Nat.le_of_ble_eq_true rfl) rfl rfl (Nat.le_of_ble_eq_true rfl) (Nat.le_of_ble_eq_true rfl) ?_
  exact sx_iret dX12_ends_8 rfl (sx_ri (by rfl) (by rfl))
set_option maxRecDepth 20000 in
theorem c_X12_latest {X : sx_X} {S : St} {T : St} {b : Nat} (hT : rdS S = T) (hY : okY S) (hQ : okQ T b)  : Ct X yX12_latest cX12_latest 1 (some .int) 4 0 0 [.ref 39] (hp S) (sx_is (some (vI (aLatest (mV T)))) (hp (T))) := by
  have hV := hQ.1
  have hW := okQ_W hQ
  have b0 : 0 ≤ T.1 32 ∧ T.1 32 ≤ 16 := hV.1
  have c0 : 0 ≤ (mV T).1 0 ∧ (mV T).1 0 ≤ 16 := hV.1
  have b1 : 0 ≤ T.1 33 ∧ T.1 33 ≤ 6 := hV.2.1
  have c1 : 0 ≤ (mV T).1 1 ∧ (mV T).1 1 ≤ 6 := hV.2.1
  have b2 : 0 ≤ T.1 34 ∧ T.1 34 ≤ 99 := hV.2.2.1
  have c2 : 0 ≤ (mV T).1 2 ∧ (mV T).1 2 ≤ 99 := hV.2.2.1
  have b3 : 0 ≤ T.2 51 1 ∧ T.2 51 1 ≤ 1 := hV.2.2.2.1
  have c3 : 0 ≤ (mV T).1 3 ∧ (mV T).1 3 ≤ 1 := hV.2.2.2.1
  have b4 : 0 ≤ T.2 51 2 ∧ T.2 51 2 ≤ 16 := hV.2.2.2.2.1
  have c4 : 0 ≤ (mV T).1 4 ∧ (mV T).1 4 ≤ 16 := hV.2.2.2.2.1
  have b5 : 0 ≤ T.2 51 3 ∧ T.2 51 3 ≤ 999 := hV.2.2.2.2.2.1
  have c5 : 0 ≤ (mV T).1 5 ∧ (mV T).1 5 ≤ 999 := hV.2.2.2.2.2.1
  have b6 : 0 ≤ T.2 51 4 ∧ T.2 51 4 ≤ 1999 := hV.2.2.2.2.2.2.1
  have c6 : 0 ≤ (mV T).1 6 ∧ (mV T).1 6 ≤ 1999 := hV.2.2.2.2.2.2.1
  have b7 : 0 ≤ T.2 51 5 ∧ T.2 51 5 ≤ 16 := hV.2.2.2.2.2.2.2.1
  have c7 : 0 ≤ (mV T).1 7 ∧ (mV T).1 7 ≤ 16 := hV.2.2.2.2.2.2.2.1
  have bK : ∀ q, 0 ≤ rK T q ∧ rK T q ≤ 3 := hV.2.2.2.2.2.2.2.2.1
  have bL : ∀ q, 0 ≤ rL T q ∧ rL T q ≤ 9 := hV.2.2.2.2.2.2.2.2.2.1
  have bW : ∀ q, 0 ≤ rW T q ∧ rW T q ≤ 9 := hV.2.2.2.2.2.2.2.2.2.2.1
  have bS : ∀ q, 0 ≤ rS T q ∧ rS T q ≤ 9 := hV.2.2.2.2.2.2.2.2.2.2.2.1
  have bH : ∀ q, 0 ≤ rH T q ∧ rH T q ≤ 1 := hV.2.2.2.2.2.2.2.2.2.2.2.2
  have n0 : (mV T).1 0 = T.1 32 := rfl
  have n1 : (mV T).1 1 = T.1 33 := rfl
  have n2 : (mV T).1 2 = T.1 34 := rfl
  have n3 : (mV T).1 3 = T.2 51 1 := rfl
  have n4 : (mV T).1 4 = T.2 51 2 := rfl
  have n5 : (mV T).1 5 = T.2 51 3 := rfl
  have n6 : (mV T).1 6 = T.2 51 4 := rfl
  have n7 : (mV T).1 7 = T.2 51 5 := rfl
  refine Ct.of false [some (.ref 39)] (plainFor_of_name (by decide)) (fun h => by cases h) (Nat.le_of_ble_eq_true rfl) (fun _ => rfl) sx_isl ?_
  refine sx_aload_n (p1 := 1) dX12_latest_0 rfl rfl ?_
  refine sx_callVn (p1 := 4) (As := []) (k1 := 0) (n1 := 0) dX12_latest_1 rfl rfl (r_X12_reads hT hY) mt_X12_reads ml_X12_120 (hp_c39 _) rfl rfl (Nat.le_of_ble_eq_true rfl) rfl (Nat.le_of_ble_eq_true rfl) rfl rfl (Nat.le_of_ble_eq_true rfl) (Nat.le_of_ble_eq_true rfl) ?_
  refine sx_aload_n (p1 := 5) dX12_latest_4 rfl rfl ?_
  refine sx_callVr (p1 := 8) (As := []) (k1 := 0) (n1 := 0) dX12_latest_5 rfl rfl (c_X12_latestNow hV) mt_X12_latestNow ml_X12_214 (hp_c39 _) rfl rfl (Nat.le_of_ble_eq_true rfl) rfl (Nat.le_of_ble_eq_true rfl) rfl rfl (Nat.le_of_ble_eq_true rfl) (Nat.le_of_ble_eq_true rfl) ?_
  exact sx_iret dX12_latest_8 rfl (sx_ri (by rfl) (by rfl))
set_option maxRecDepth 20000 in
theorem c_X12_curve {X : sx_X} {S : St} {i j : Int} {T : St} {b : Nat} (hT : rdS S = T) (hY : okY S) (hQ : okQ T b) (hi : -2147483648 ≤ i ∧ i ≤ 2147483647) (hj : -2147483648 ≤ j ∧ j ≤ 2147483647) : Ct X yX12_curve cX12_curve 3 (some .long) 7 0 0 [.ref 39, vI i, vI j] (hp S) (sx_is (some (vJ (aCurve (mV T) i j))) (hp (T))) := by
  have hV := hQ.1
  have hW := okQ_W hQ
  have b0 : 0 ≤ T.1 32 ∧ T.1 32 ≤ 16 := hV.1
  have c0 : 0 ≤ (mV T).1 0 ∧ (mV T).1 0 ≤ 16 := hV.1
  have b1 : 0 ≤ T.1 33 ∧ T.1 33 ≤ 6 := hV.2.1
  have c1 : 0 ≤ (mV T).1 1 ∧ (mV T).1 1 ≤ 6 := hV.2.1
  have b2 : 0 ≤ T.1 34 ∧ T.1 34 ≤ 99 := hV.2.2.1
  have c2 : 0 ≤ (mV T).1 2 ∧ (mV T).1 2 ≤ 99 := hV.2.2.1
  have b3 : 0 ≤ T.2 51 1 ∧ T.2 51 1 ≤ 1 := hV.2.2.2.1
  have c3 : 0 ≤ (mV T).1 3 ∧ (mV T).1 3 ≤ 1 := hV.2.2.2.1
  have b4 : 0 ≤ T.2 51 2 ∧ T.2 51 2 ≤ 16 := hV.2.2.2.2.1
  have c4 : 0 ≤ (mV T).1 4 ∧ (mV T).1 4 ≤ 16 := hV.2.2.2.2.1
  have b5 : 0 ≤ T.2 51 3 ∧ T.2 51 3 ≤ 999 := hV.2.2.2.2.2.1
  have c5 : 0 ≤ (mV T).1 5 ∧ (mV T).1 5 ≤ 999 := hV.2.2.2.2.2.1
  have b6 : 0 ≤ T.2 51 4 ∧ T.2 51 4 ≤ 1999 := hV.2.2.2.2.2.2.1
  have c6 : 0 ≤ (mV T).1 6 ∧ (mV T).1 6 ≤ 1999 := hV.2.2.2.2.2.2.1
  have b7 : 0 ≤ T.2 51 5 ∧ T.2 51 5 ≤ 16 := hV.2.2.2.2.2.2.2.1
  have c7 : 0 ≤ (mV T).1 7 ∧ (mV T).1 7 ≤ 16 := hV.2.2.2.2.2.2.2.1
  have bK : ∀ q, 0 ≤ rK T q ∧ rK T q ≤ 3 := hV.2.2.2.2.2.2.2.2.1
  have bL : ∀ q, 0 ≤ rL T q ∧ rL T q ≤ 9 := hV.2.2.2.2.2.2.2.2.2.1
  have bW : ∀ q, 0 ≤ rW T q ∧ rW T q ≤ 9 := hV.2.2.2.2.2.2.2.2.2.2.1
  have bS : ∀ q, 0 ≤ rS T q ∧ rS T q ≤ 9 := hV.2.2.2.2.2.2.2.2.2.2.2.1
  have bH : ∀ q, 0 ≤ rH T q ∧ rH T q ≤ 1 := hV.2.2.2.2.2.2.2.2.2.2.2.2
  have n0 : (mV T).1 0 = T.1 32 := rfl
  have n1 : (mV T).1 1 = T.1 33 := rfl
  have n2 : (mV T).1 2 = T.1 34 := rfl
  have n3 : (mV T).1 3 = T.2 51 1 := rfl
  have n4 : (mV T).1 4 = T.2 51 2 := rfl
  have n5 : (mV T).1 5 = T.2 51 3 := rfl
  have n6 : (mV T).1 6 = T.2 51 4 := rfl
  have n7 : (mV T).1 7 = T.2 51 5 := rfl
  have z1 := mAll_b hV i
  refine Ct.of false [some (.ref 39), some (vI i), some (vI j)] (plainFor_of_name (by decide)) (fun h => by cases h) (Nat.le_of_ble_eq_true rfl) (fun _ => rfl) sx_isl ?_
  refine sx_aload_n (p1 := 1) dX12_curve_0 rfl rfl ?_
  refine sx_callVn (p1 := 4) (As := []) (k1 := 0) (n1 := 0) dX12_curve_1 rfl rfl (r_X12_reads hT hY) mt_X12_reads ml_X12_120 (hp_c39 _) rfl rfl (Nat.le_of_ble_eq_true rfl) rfl (Nat.le_of_ble_eq_true rfl) rfl rfl (Nat.le_of_ble_eq_true rfl) (Nat.le_of_ble_eq_true rfl) ?_
  refine sx_iload_n (p1 := 5) dX12_curve_4 rfl rfl ?_
  refine sx_i2l (p1 := 6) dX12_curve_5 rfl (by omega) ?_
  refine sx_lconst (y := 0) (p1 := 7) dX12_curve_6 rfl (by decide) ?_
  refine sx_ldc2 (z := 99) (p1 := 10) dX12_curve_7 rfl kc_X12_217 (by decide) ?_
  refine sx_callSr (p1 := 13) (As := [_, _, _]) (k1 := 0) (n1 := 0) dX12_curve_10 rfl rfl (c_X12_in (by omega) (by omega) (by omega)) mt_X12_in ml_X12_58 (Nat.le_of_ble_eq_true rfl) rfl (Nat.le_of_ble_eq_true rfl) rfl rfl (Nat.le_of_ble_eq_true rfl) (Nat.le_of_ble_eq_true rfl) ?_
  refine sx_if_eq (p1 := 16) (tg := 39) dX12_curve_13 rfl rfl (by omega) (fun q13 => ?_) (fun q13 => ?_)
  · refine sx_bipush (p1 := 41) dX12_curve_39 rfl (by decide) ?_
    refine sx_callSr (p1 := 44) (As := [_]) (k1 := 0) (n1 := 0) dX12_curve_41 rfl rfl (c_X12_no (by omega)) mt_X12_no ml_X12_201 (Nat.le_of_ble_eq_true rfl) rfl (Nat.le_of_ble_eq_true rfl) rfl rfl (Nat.le_of_ble_eq_true rfl) (Nat.le_of_ble_eq_true rfl) ?_
    exact sx_lret dX12_curve_44 rfl (sx_rj (by unfold aCurve; (repeat' split) <;> first | omega | rfl) (by rfl))
  · refine sx_iload_n (p1 := 17) dX12_curve_16 rfl rfl ?_
    refine sx_callSr (p1 := 20) (As := [_]) (k1 := 0) (n1 := 0) dX12_curve_17 rfl rfl (c_X12_isTwo (by omega)) mt_X12_isTwo ml_X12_87 (Nat.le_of_ble_eq_true rfl) rfl (Nat.le_of_ble_eq_true rfl) rfl rfl (Nat.le_of_ble_eq_true rfl) (Nat.le_of_ble_eq_true rfl) ?_
    refine sx_if_eq (p1 := 23) (tg := 39) dX12_curve_20 rfl rfl (by omega) (fun q20 => ?_) (fun q20 => ?_)
    · refine sx_bipush (p1 := 41) dX12_curve_39 rfl (by decide) ?_
      refine sx_callSr (p1 := 44) (As := [_]) (k1 := 0) (n1 := 0) dX12_curve_41 rfl rfl (c_X12_no (by omega)) mt_X12_no ml_X12_201 (Nat.le_of_ble_eq_true rfl) rfl (Nat.le_of_ble_eq_true rfl) rfl rfl (Nat.le_of_ble_eq_true rfl) (Nat.le_of_ble_eq_true rfl) ?_
      exact sx_lret dX12_curve_44 rfl (sx_rj (by unfold aCurve; (repeat' split) <;> first | omega | rfl) (by rfl))
    · refine sx_aload_n (p1 := 24) dX12_curve_23 rfl rfl ?_
      refine sx_iload_n (p1 := 25) dX12_curve_24 rfl rfl ?_
      refine sx_callVr (p1 := 28) (As := [_]) (k1 := 0) (n1 := 0) dX12_curve_25 rfl rfl (c_X12_byGap hQ (by omega)) mt_X12_byGap ml_X12_219 (hp_c39 _) rfl rfl (Nat.le_of_ble_eq_true rfl) rfl (Nat.le_of_ble_eq_true rfl) rfl rfl (Nat.le_of_ble_eq_true rfl) (Nat.le_of_ble_eq_true rfl) ?_
      refine sx_i2l (p1 := 29) dX12_curve_28 rfl (by omega) ?_
      refine sx_ldc2 (z := 256) (p1 := 32) dX12_curve_29 rfl kc_X12_195 (by decide) ?_
      refine sx_iload_n (p1 := 33) dX12_curve_32 rfl rfl ?_
      refine sx_callSr (p1 := 36) (As := [_, _, _]) (k1 := 0) (n1 := 0) dX12_curve_33 rfl rfl (c_X12_part (by omega) (by omega) (by omega)) mt_X12_part ml_X12_197 (Nat.le_of_ble_eq_true rfl) rfl (Nat.le_of_ble_eq_true rfl) rfl rfl (Nat.le_of_ble_eq_true rfl) (Nat.le_of_ble_eq_true rfl) ?_
      refine sx_goto (p1 := 44) (tg := 44) dX12_curve_36 rfl rfl ?_
      exact sx_lret dX12_curve_44 rfl (sx_rj (by unfold aCurve; (repeat' split) <;> first | omega | rfl) (by rfl))
set_option maxRecDepth 20000 in
theorem c_X12_gap {X : sx_X} {S : St} {i : Int} {T : St} {b : Nat} (hT : rdS S = T) (hY : okY S) (hQ : okQ T b) (hi : -2147483648 ≤ i ∧ i ≤ 2147483647) : Ct X yX12_gap cX12_gap 2 (some .int) 8 0 0 [.ref 39, vI i] (hp S) (sx_is (some (vI (aGap (mV T) i))) (hp (T))) := by
  have hV := hQ.1
  have hW := okQ_W hQ
  have b0 : 0 ≤ T.1 32 ∧ T.1 32 ≤ 16 := hV.1
  have c0 : 0 ≤ (mV T).1 0 ∧ (mV T).1 0 ≤ 16 := hV.1
  have b1 : 0 ≤ T.1 33 ∧ T.1 33 ≤ 6 := hV.2.1
  have c1 : 0 ≤ (mV T).1 1 ∧ (mV T).1 1 ≤ 6 := hV.2.1
  have b2 : 0 ≤ T.1 34 ∧ T.1 34 ≤ 99 := hV.2.2.1
  have c2 : 0 ≤ (mV T).1 2 ∧ (mV T).1 2 ≤ 99 := hV.2.2.1
  have b3 : 0 ≤ T.2 51 1 ∧ T.2 51 1 ≤ 1 := hV.2.2.2.1
  have c3 : 0 ≤ (mV T).1 3 ∧ (mV T).1 3 ≤ 1 := hV.2.2.2.1
  have b4 : 0 ≤ T.2 51 2 ∧ T.2 51 2 ≤ 16 := hV.2.2.2.2.1
  have c4 : 0 ≤ (mV T).1 4 ∧ (mV T).1 4 ≤ 16 := hV.2.2.2.2.1
  have b5 : 0 ≤ T.2 51 3 ∧ T.2 51 3 ≤ 999 := hV.2.2.2.2.2.1
  have c5 : 0 ≤ (mV T).1 5 ∧ (mV T).1 5 ≤ 999 := hV.2.2.2.2.2.1
  have b6 : 0 ≤ T.2 51 4 ∧ T.2 51 4 ≤ 1999 := hV.2.2.2.2.2.2.1
  have c6 : 0 ≤ (mV T).1 6 ∧ (mV T).1 6 ≤ 1999 := hV.2.2.2.2.2.2.1
  have b7 : 0 ≤ T.2 51 5 ∧ T.2 51 5 ≤ 16 := hV.2.2.2.2.2.2.2.1
  have c7 : 0 ≤ (mV T).1 7 ∧ (mV T).1 7 ≤ 16 := hV.2.2.2.2.2.2.2.1
  have bK : ∀ q, 0 ≤ rK T q ∧ rK T q ≤ 3 := hV.2.2.2.2.2.2.2.2.1
  have bL : ∀ q, 0 ≤ rL T q ∧ rL T q ≤ 9 := hV.2.2.2.2.2.2.2.2.2.1
  have bW : ∀ q, 0 ≤ rW T q ∧ rW T q ≤ 9 := hV.2.2.2.2.2.2.2.2.2.2.1
  have bS : ∀ q, 0 ≤ rS T q ∧ rS T q ≤ 9 := hV.2.2.2.2.2.2.2.2.2.2.2.1
  have bH : ∀ q, 0 ≤ rH T q ∧ rH T q ≤ 1 := hV.2.2.2.2.2.2.2.2.2.2.2.2
  have n0 : (mV T).1 0 = T.1 32 := rfl
  have n1 : (mV T).1 1 = T.1 33 := rfl
  have n2 : (mV T).1 2 = T.1 34 := rfl
  have n3 : (mV T).1 3 = T.2 51 1 := rfl
  have n4 : (mV T).1 4 = T.2 51 2 := rfl
  have n5 : (mV T).1 5 = T.2 51 3 := rfl
  have n6 : (mV T).1 6 = T.2 51 4 := rfl
  have n7 : (mV T).1 7 = T.2 51 5 := rfl
  refine Ct.of false [some (.ref 39), some (vI i)] (plainFor_of_name (by decide)) (fun h => by cases h) (Nat.le_of_ble_eq_true rfl) (fun _ => rfl) sx_isl ?_
  refine sx_aload_n (p1 := 1) dX12_gap_0 rfl rfl ?_
  refine sx_callVn (p1 := 4) (As := []) (k1 := 0) (n1 := 0) dX12_gap_1 rfl rfl (r_X12_reads hT hY) mt_X12_reads ml_X12_120 (hp_c39 _) rfl rfl (Nat.le_of_ble_eq_true rfl) rfl (Nat.le_of_ble_eq_true rfl) rfl rfl (Nat.le_of_ble_eq_true rfl) (Nat.le_of_ble_eq_true rfl) ?_
  refine sx_iload_n (p1 := 5) dX12_gap_4 rfl rfl ?_
  refine sx_i2l (p1 := 6) dX12_gap_5 rfl (by omega) ?_
  refine sx_lconst (y := 0) (p1 := 7) dX12_gap_6 rfl (by decide) ?_
  refine sx_ldc2 (z := 99) (p1 := 10) dX12_gap_7 rfl kc_X12_217 (by decide) ?_
  refine sx_callSr (p1 := 13) (As := [_, _, _]) (k1 := 0) (n1 := 0) dX12_gap_10 rfl rfl (c_X12_in (by omega) (by omega) (by omega)) mt_X12_in ml_X12_58 (Nat.le_of_ble_eq_true rfl) rfl (Nat.le_of_ble_eq_true rfl) rfl rfl (Nat.le_of_ble_eq_true rfl) (Nat.le_of_ble_eq_true rfl) ?_
  refine sx_if_eq (p1 := 16) (tg := 24) dX12_gap_13 rfl rfl (by omega) (fun q13 => ?_) (fun q13 => ?_)
  · refine sx_bipush (p1 := 26) dX12_gap_24 rfl (by decide) ?_
    exact sx_iret dX12_gap_26 rfl (sx_ri (by unfold aGap; (repeat' split) <;> first | omega | rfl) (by rfl))
  · refine sx_aload_n (p1 := 17) dX12_gap_16 rfl rfl ?_
    refine sx_iload_n (p1 := 18) dX12_gap_17 rfl rfl ?_
    refine sx_callVr (p1 := 21) (As := [_]) (k1 := 0) (n1 := 0) dX12_gap_18 rfl rfl (c_X12_gapOf hQ (by omega)) mt_X12_gapOf ml_X12_222 (hp_c39 _) rfl rfl (Nat.le_of_ble_eq_true rfl) rfl (Nat.le_of_ble_eq_true rfl) rfl rfl (Nat.le_of_ble_eq_true rfl) (Nat.le_of_ble_eq_true rfl) ?_
    refine sx_goto (p1 := 26) (tg := 26) dX12_gap_21 rfl rfl ?_
    exact sx_iret dX12_gap_26 rfl (sx_ri (by unfold aGap; (repeat' split) <;> first | omega | rfl) (by rfl))
set_option maxRecDepth 20000 in
theorem c_X12_foot {X : sx_X} {S : St} {i j k : Int} {T : St} {b : Nat} (hT : rdS S = T) (hY : okY S) (hQ : okQ T b) (hi : -2147483648 ≤ i ∧ i ≤ 2147483647) (hj : -2147483648 ≤ j ∧ j ≤ 2147483647) (hk : -2147483648 ≤ k ∧ k ≤ 2147483647) : Ct X yX12_foot cX12_foot 4 (some .long) 4 0 0 [.ref 39, vI i, vI j, vI k] (hp S) (sx_is (some (vJ (aFoot (mV T) i j k))) (hp (T))) := by
  have hV := hQ.1
  have hW := okQ_W hQ
  have b0 : 0 ≤ T.1 32 ∧ T.1 32 ≤ 16 := hV.1
  have c0 : 0 ≤ (mV T).1 0 ∧ (mV T).1 0 ≤ 16 := hV.1
  have b1 : 0 ≤ T.1 33 ∧ T.1 33 ≤ 6 := hV.2.1
  have c1 : 0 ≤ (mV T).1 1 ∧ (mV T).1 1 ≤ 6 := hV.2.1
  have b2 : 0 ≤ T.1 34 ∧ T.1 34 ≤ 99 := hV.2.2.1
  have c2 : 0 ≤ (mV T).1 2 ∧ (mV T).1 2 ≤ 99 := hV.2.2.1
  have b3 : 0 ≤ T.2 51 1 ∧ T.2 51 1 ≤ 1 := hV.2.2.2.1
  have c3 : 0 ≤ (mV T).1 3 ∧ (mV T).1 3 ≤ 1 := hV.2.2.2.1
  have b4 : 0 ≤ T.2 51 2 ∧ T.2 51 2 ≤ 16 := hV.2.2.2.2.1
  have c4 : 0 ≤ (mV T).1 4 ∧ (mV T).1 4 ≤ 16 := hV.2.2.2.2.1
  have b5 : 0 ≤ T.2 51 3 ∧ T.2 51 3 ≤ 999 := hV.2.2.2.2.2.1
  have c5 : 0 ≤ (mV T).1 5 ∧ (mV T).1 5 ≤ 999 := hV.2.2.2.2.2.1
  have b6 : 0 ≤ T.2 51 4 ∧ T.2 51 4 ≤ 1999 := hV.2.2.2.2.2.2.1
  have c6 : 0 ≤ (mV T).1 6 ∧ (mV T).1 6 ≤ 1999 := hV.2.2.2.2.2.2.1
  have b7 : 0 ≤ T.2 51 5 ∧ T.2 51 5 ≤ 16 := hV.2.2.2.2.2.2.2.1
  have c7 : 0 ≤ (mV T).1 7 ∧ (mV T).1 7 ≤ 16 := hV.2.2.2.2.2.2.2.1
  have bK : ∀ q, 0 ≤ rK T q ∧ rK T q ≤ 3 := hV.2.2.2.2.2.2.2.2.1
  have bL : ∀ q, 0 ≤ rL T q ∧ rL T q ≤ 9 := hV.2.2.2.2.2.2.2.2.2.1
  have bW : ∀ q, 0 ≤ rW T q ∧ rW T q ≤ 9 := hV.2.2.2.2.2.2.2.2.2.2.1
  have bS : ∀ q, 0 ≤ rS T q ∧ rS T q ≤ 9 := hV.2.2.2.2.2.2.2.2.2.2.2.1
  have bH : ∀ q, 0 ≤ rH T q ∧ rH T q ≤ 1 := hV.2.2.2.2.2.2.2.2.2.2.2.2
  have n0 : (mV T).1 0 = T.1 32 := rfl
  have n1 : (mV T).1 1 = T.1 33 := rfl
  have n2 : (mV T).1 2 = T.1 34 := rfl
  have n3 : (mV T).1 3 = T.2 51 1 := rfl
  have n4 : (mV T).1 4 = T.2 51 2 := rfl
  have n5 : (mV T).1 5 = T.2 51 3 := rfl
  have n6 : (mV T).1 6 = T.2 51 4 := rfl
  have n7 : (mV T).1 7 = T.2 51 5 := rfl
  refine Ct.of false [some (.ref 39), some (vI i), some (vI j), some (vI k)] (plainFor_of_name (by decide)) (fun h => by cases h) (Nat.le_of_ble_eq_true rfl) (fun _ => rfl) sx_isl ?_
  refine sx_aload_n (p1 := 1) dX12_foot_0 rfl rfl ?_
  refine sx_callVn (p1 := 4) (As := []) (k1 := 0) (n1 := 0) dX12_foot_1 rfl rfl (r_X12_reads hT hY) mt_X12_reads ml_X12_120 (hp_c39 _) rfl rfl (Nat.le_of_ble_eq_true rfl) rfl (Nat.le_of_ble_eq_true rfl) rfl rfl (Nat.le_of_ble_eq_true rfl) (Nat.le_of_ble_eq_true rfl) ?_
  refine sx_aload_n (p1 := 5) dX12_foot_4 rfl rfl ?_
  refine sx_iload_n (p1 := 6) dX12_foot_5 rfl rfl ?_
  refine sx_callVr (p1 := 9) (As := [_]) (k1 := 0) (n1 := 0) dX12_foot_6 rfl rfl (c_X12_isPart hV (by omega)) mt_X12_isPart ml_X12_123 (hp_c39 _) rfl rfl (Nat.le_of_ble_eq_true rfl) rfl (Nat.le_of_ble_eq_true rfl) rfl rfl (Nat.le_of_ble_eq_true rfl) (Nat.le_of_ble_eq_true rfl) ?_
  refine sx_if_eq (p1 := 12) (tg := 41) dX12_foot_9 rfl rfl (by omega) (fun q9 => ?_) (fun q9 => ?_)
  · refine sx_bipush (p1 := 43) dX12_foot_41 rfl (by decide) ?_
    refine sx_callSr (p1 := 46) (As := [_]) (k1 := 0) (n1 := 0) dX12_foot_43 rfl rfl (c_X12_no (by omega)) mt_X12_no ml_X12_201 (Nat.le_of_ble_eq_true rfl) rfl (Nat.le_of_ble_eq_true rfl) rfl rfl (Nat.le_of_ble_eq_true rfl) (Nat.le_of_ble_eq_true rfl) ?_
    exact sx_lret dX12_foot_46 rfl (sx_rj (by unfold aFoot; (repeat' split) <;> first | omega | rfl) (by rfl))
  · refine sx_iload_n (p1 := 13) dX12_foot_12 rfl rfl ?_
    refine sx_i2l (p1 := 14) dX12_foot_13 rfl (by omega) ?_
    refine sx_lconst (y := 0) (p1 := 15) dX12_foot_14 rfl (by decide) ?_
    refine sx_ldc2 (z := 1999) (p1 := 18) dX12_foot_15 rfl kc_X12_155 (by decide) ?_
    refine sx_callSr (p1 := 21) (As := [_, _, _]) (k1 := 0) (n1 := 0) dX12_foot_18 rfl rfl (c_X12_in (by omega) (by omega) (by omega)) mt_X12_in ml_X12_58 (Nat.le_of_ble_eq_true rfl) rfl (Nat.le_of_ble_eq_true rfl) rfl rfl (Nat.le_of_ble_eq_true rfl) (Nat.le_of_ble_eq_true rfl) ?_
    refine sx_if_eq (p1 := 24) (tg := 41) dX12_foot_21 rfl rfl (by omega) (fun q21 => ?_) (fun q21 => ?_)
    · refine sx_bipush (p1 := 43) dX12_foot_41 rfl (by decide) ?_
      refine sx_callSr (p1 := 46) (As := [_]) (k1 := 0) (n1 := 0) dX12_foot_43 rfl rfl (c_X12_no (by omega)) mt_X12_no ml_X12_201 (Nat.le_of_ble_eq_true rfl) rfl (Nat.le_of_ble_eq_true rfl) rfl rfl (Nat.le_of_ble_eq_true rfl) (Nat.le_of_ble_eq_true rfl) ?_
      exact sx_lret dX12_foot_46 rfl (sx_rj (by unfold aFoot; (repeat' split) <;> first | omega | rfl) (by rfl))
    · refine sx_iload_n (p1 := 25) dX12_foot_24 rfl rfl ?_
      refine sx_callSr (p1 := 28) (As := [_]) (k1 := 0) (n1 := 0) dX12_foot_25 rfl rfl (c_X12_isTwo (by omega)) mt_X12_isTwo ml_X12_87 (Nat.le_of_ble_eq_true rfl) rfl (Nat.le_of_ble_eq_true rfl) rfl rfl (Nat.le_of_ble_eq_true rfl) (Nat.le_of_ble_eq_true rfl) ?_
      refine sx_if_eq (p1 := 31) (tg := 41) dX12_foot_28 rfl rfl (by omega) (fun q28 => ?_) (fun q28 => ?_)
      · refine sx_bipush (p1 := 43) dX12_foot_41 rfl (by decide) ?_
        refine sx_callSr (p1 := 46) (As := [_]) (k1 := 0) (n1 := 0) dX12_foot_43 rfl rfl (c_X12_no (by omega)) mt_X12_no ml_X12_201 (Nat.le_of_ble_eq_true rfl) rfl (Nat.le_of_ble_eq_true rfl) rfl rfl (Nat.le_of_ble_eq_true rfl) (Nat.le_of_ble_eq_true rfl) ?_
        exact sx_lret dX12_foot_46 rfl (sx_rj (by unfold aFoot; (repeat' split) <;> first | omega | rfl) (by rfl))
      · refine sx_aload_n (p1 := 32) dX12_foot_31 rfl rfl ?_
        refine sx_iload_n (p1 := 33) dX12_foot_32 rfl rfl ?_
        refine sx_iload_n (p1 := 34) dX12_foot_33 rfl rfl ?_
        refine sx_iload_n (p1 := 35) dX12_foot_34 rfl rfl ?_
        refine sx_callVr (p1 := 38) (As := [_, _, _]) (k1 := 0) (n1 := 0) dX12_foot_35 rfl rfl (c_X12_footOf hQ (by omega) (by omega) (by omega)) mt_X12_footOf ml_X12_269 (hp_c39 _) rfl rfl (Nat.le_of_ble_eq_true rfl) rfl (Nat.le_of_ble_eq_true rfl) rfl rfl (Nat.le_of_ble_eq_true rfl) (Nat.le_of_ble_eq_true rfl) ?_
        refine sx_goto (p1 := 46) (tg := 46) dX12_foot_38 rfl rfl ?_
        exact sx_lret dX12_foot_46 rfl (sx_rj (by unfold aFoot; (repeat' split) <;> first | omega | rfl) (by rfl))
set_option maxRecDepth 20000 in
theorem c_X12_loose {X : sx_X} {S : St} {i : Int} {T : St} {b : Nat} (hT : rdS S = T) (hY : okY S) (hQ : okQ T b) (h39 : 0 ≤ T.1 39 ∧ T.1 39 ≤ 8) (hA : ∀ i, -2147483648 ≤ T.2 54 i ∧ T.2 54 i ≤ 2147483647) (hi : -2147483648 ≤ i ∧ i ≤ 2147483647) : Ct X yX12_loose cX12_loose 2 (some .int) 4 0 0 [.ref 39, vI i] (hp S) (sx_is (some (vI (aLoose (mV T) (fun i => T.2 54 (3 * i)) (fun i => T.2 54 (3 * i + 1)) (fun i => T.2 54 (3 * i + 2)) (T.1 39).toNat i))) (hp (T))) := by
  have hV := hQ.1
  have hW := okQ_W hQ
  have b0 : 0 ≤ T.1 32 ∧ T.1 32 ≤ 16 := hV.1
  have c0 : 0 ≤ (mV T).1 0 ∧ (mV T).1 0 ≤ 16 := hV.1
  have b1 : 0 ≤ T.1 33 ∧ T.1 33 ≤ 6 := hV.2.1
  have c1 : 0 ≤ (mV T).1 1 ∧ (mV T).1 1 ≤ 6 := hV.2.1
  have b2 : 0 ≤ T.1 34 ∧ T.1 34 ≤ 99 := hV.2.2.1
  have c2 : 0 ≤ (mV T).1 2 ∧ (mV T).1 2 ≤ 99 := hV.2.2.1
  have b3 : 0 ≤ T.2 51 1 ∧ T.2 51 1 ≤ 1 := hV.2.2.2.1
  have c3 : 0 ≤ (mV T).1 3 ∧ (mV T).1 3 ≤ 1 := hV.2.2.2.1
  have b4 : 0 ≤ T.2 51 2 ∧ T.2 51 2 ≤ 16 := hV.2.2.2.2.1
  have c4 : 0 ≤ (mV T).1 4 ∧ (mV T).1 4 ≤ 16 := hV.2.2.2.2.1
  have b5 : 0 ≤ T.2 51 3 ∧ T.2 51 3 ≤ 999 := hV.2.2.2.2.2.1
  have c5 : 0 ≤ (mV T).1 5 ∧ (mV T).1 5 ≤ 999 := hV.2.2.2.2.2.1
  have b6 : 0 ≤ T.2 51 4 ∧ T.2 51 4 ≤ 1999 := hV.2.2.2.2.2.2.1
  have c6 : 0 ≤ (mV T).1 6 ∧ (mV T).1 6 ≤ 1999 := hV.2.2.2.2.2.2.1
  have b7 : 0 ≤ T.2 51 5 ∧ T.2 51 5 ≤ 16 := hV.2.2.2.2.2.2.2.1
  have c7 : 0 ≤ (mV T).1 7 ∧ (mV T).1 7 ≤ 16 := hV.2.2.2.2.2.2.2.1
  have bK : ∀ q, 0 ≤ rK T q ∧ rK T q ≤ 3 := hV.2.2.2.2.2.2.2.2.1
  have bL : ∀ q, 0 ≤ rL T q ∧ rL T q ≤ 9 := hV.2.2.2.2.2.2.2.2.2.1
  have bW : ∀ q, 0 ≤ rW T q ∧ rW T q ≤ 9 := hV.2.2.2.2.2.2.2.2.2.2.1
  have bS : ∀ q, 0 ≤ rS T q ∧ rS T q ≤ 9 := hV.2.2.2.2.2.2.2.2.2.2.2.1
  have bH : ∀ q, 0 ≤ rH T q ∧ rH T q ≤ 1 := hV.2.2.2.2.2.2.2.2.2.2.2.2
  have n0 : (mV T).1 0 = T.1 32 := rfl
  have n1 : (mV T).1 1 = T.1 33 := rfl
  have n2 : (mV T).1 2 = T.1 34 := rfl
  have n3 : (mV T).1 3 = T.2 51 1 := rfl
  have n4 : (mV T).1 4 = T.2 51 2 := rfl
  have n5 : (mV T).1 5 = T.2 51 3 := rfl
  have n6 : (mV T).1 6 = T.2 51 4 := rfl
  have n7 : (mV T).1 7 = T.2 51 5 := rfl
  refine Ct.of false [some (.ref 39), some (vI i)] (plainFor_of_name (by decide)) (fun h => by cases h) (Nat.le_of_ble_eq_true rfl) (fun _ => rfl) sx_isl ?_
  refine sx_aload_n (p1 := 1) dX12_loose_0 rfl rfl ?_
  refine sx_callVn (p1 := 4) (As := []) (k1 := 0) (n1 := 0) dX12_loose_1 rfl rfl (r_X12_reads hT hY) mt_X12_reads ml_X12_120 (hp_c39 _) rfl rfl (Nat.le_of_ble_eq_true rfl) rfl (Nat.le_of_ble_eq_true rfl) rfl rfl (Nat.le_of_ble_eq_true rfl) (Nat.le_of_ble_eq_true rfl) ?_
  refine sx_aload_n (p1 := 5) dX12_loose_4 rfl rfl ?_
  refine sx_iload_n (p1 := 6) dX12_loose_5 rfl rfl ?_
  refine sx_callVr (p1 := 9) (As := [_]) (k1 := 0) (n1 := 0) dX12_loose_6 rfl rfl (c_X12_isPart hV (by omega)) mt_X12_isPart ml_X12_123 (hp_c39 _) rfl rfl (Nat.le_of_ble_eq_true rfl) rfl (Nat.le_of_ble_eq_true rfl) rfl rfl (Nat.le_of_ble_eq_true rfl) (Nat.le_of_ble_eq_true rfl) ?_
  refine sx_if_eq (p1 := 12) (tg := 20) dX12_loose_9 rfl rfl (by omega) (fun q9 => ?_) (fun q9 => ?_)
  · refine sx_bipush (p1 := 22) dX12_loose_20 rfl (by decide) ?_
    exact sx_iret dX12_loose_22 rfl (sx_ri (by unfold aLoose; (repeat' split) <;> first | omega | rfl) (by rfl))
  · refine sx_aload_n (p1 := 13) dX12_loose_12 rfl rfl ?_
    refine sx_iload_n (p1 := 14) dX12_loose_13 rfl rfl ?_
    refine sx_callVr (p1 := 17) (As := [_]) (k1 := 0) (n1 := 0) dX12_loose_14 rfl rfl (c_X12_looseOf hV h39 hA (by omega)) mt_X12_looseOf ml_X12_283 (hp_c39 _) rfl rfl (Nat.le_of_ble_eq_true rfl) rfl (Nat.le_of_ble_eq_true rfl) rfl rfl (Nat.le_of_ble_eq_true rfl) (Nat.le_of_ble_eq_true rfl) ?_
    refine sx_goto (p1 := 22) (tg := 22) dX12_loose_17 rfl rfl ?_
    exact sx_iret dX12_loose_22 rfl (sx_ri (by unfold aLoose; (repeat' split) <;> first | omega | rfl) (by rfl))
set_option maxRecDepth 20000 in
theorem c_X12_morning {X : sx_X} {S : St} {i : Int} {T : St} {b : Nat} (hT : rdS S = T) (hY : okY S) (hQ : okQ T b) (hi : -2147483648 ≤ i ∧ i ≤ 2147483647) : Ct X yX12_morning cX12_morning 2 (some .int) 5 0 0 [.ref 39, vI i] (hp S) (sx_is (some (vI (aMorn (mV T) i))) (hp (si T 40 (mPlay (mV T) (i, 0) (mTakes (mV T)).toNat).1))) := by
  have hV := hQ.1
  have hW := okQ_W hQ
  have b0 : 0 ≤ T.1 32 ∧ T.1 32 ≤ 16 := hV.1
  have c0 : 0 ≤ (mV T).1 0 ∧ (mV T).1 0 ≤ 16 := hV.1
  have b1 : 0 ≤ T.1 33 ∧ T.1 33 ≤ 6 := hV.2.1
  have c1 : 0 ≤ (mV T).1 1 ∧ (mV T).1 1 ≤ 6 := hV.2.1
  have b2 : 0 ≤ T.1 34 ∧ T.1 34 ≤ 99 := hV.2.2.1
  have c2 : 0 ≤ (mV T).1 2 ∧ (mV T).1 2 ≤ 99 := hV.2.2.1
  have b3 : 0 ≤ T.2 51 1 ∧ T.2 51 1 ≤ 1 := hV.2.2.2.1
  have c3 : 0 ≤ (mV T).1 3 ∧ (mV T).1 3 ≤ 1 := hV.2.2.2.1
  have b4 : 0 ≤ T.2 51 2 ∧ T.2 51 2 ≤ 16 := hV.2.2.2.2.1
  have c4 : 0 ≤ (mV T).1 4 ∧ (mV T).1 4 ≤ 16 := hV.2.2.2.2.1
  have b5 : 0 ≤ T.2 51 3 ∧ T.2 51 3 ≤ 999 := hV.2.2.2.2.2.1
  have c5 : 0 ≤ (mV T).1 5 ∧ (mV T).1 5 ≤ 999 := hV.2.2.2.2.2.1
  have b6 : 0 ≤ T.2 51 4 ∧ T.2 51 4 ≤ 1999 := hV.2.2.2.2.2.2.1
  have c6 : 0 ≤ (mV T).1 6 ∧ (mV T).1 6 ≤ 1999 := hV.2.2.2.2.2.2.1
  have b7 : 0 ≤ T.2 51 5 ∧ T.2 51 5 ≤ 16 := hV.2.2.2.2.2.2.2.1
  have c7 : 0 ≤ (mV T).1 7 ∧ (mV T).1 7 ≤ 16 := hV.2.2.2.2.2.2.2.1
  have bK : ∀ q, 0 ≤ rK T q ∧ rK T q ≤ 3 := hV.2.2.2.2.2.2.2.2.1
  have bL : ∀ q, 0 ≤ rL T q ∧ rL T q ≤ 9 := hV.2.2.2.2.2.2.2.2.2.1
  have bW : ∀ q, 0 ≤ rW T q ∧ rW T q ≤ 9 := hV.2.2.2.2.2.2.2.2.2.2.1
  have bS : ∀ q, 0 ≤ rS T q ∧ rS T q ≤ 9 := hV.2.2.2.2.2.2.2.2.2.2.2.1
  have bH : ∀ q, 0 ≤ rH T q ∧ rH T q ≤ 1 := hV.2.2.2.2.2.2.2.2.2.2.2.2
  have n0 : (mV T).1 0 = T.1 32 := rfl
  have n1 : (mV T).1 1 = T.1 33 := rfl
  have n2 : (mV T).1 2 = T.1 34 := rfl
  have n3 : (mV T).1 3 = T.2 51 1 := rfl
  have n4 : (mV T).1 4 = T.2 51 2 := rfl
  have n5 : (mV T).1 5 = T.2 51 3 := rfl
  have n6 : (mV T).1 6 = T.2 51 4 := rfl
  have n7 : (mV T).1 7 = T.2 51 5 := rfl
  refine Ct.of false [some (.ref 39), some (vI i)] (plainFor_of_name (by decide)) (fun h => by cases h) (Nat.le_of_ble_eq_true rfl) (fun _ => rfl) sx_isl ?_
  refine sx_aload_n (p1 := 1) dX12_morning_0 rfl rfl ?_
  refine sx_callVn (p1 := 4) (As := []) (k1 := 0) (n1 := 0) dX12_morning_1 rfl rfl (r_X12_reads hT hY) mt_X12_reads ml_X12_120 (hp_c39 _) rfl rfl (Nat.le_of_ble_eq_true rfl) rfl (Nat.le_of_ble_eq_true rfl) rfl rfl (Nat.le_of_ble_eq_true rfl) (Nat.le_of_ble_eq_true rfl) ?_
  refine sx_aload_n (p1 := 5) dX12_morning_4 rfl rfl ?_
  refine sx_iload_n (p1 := 6) dX12_morning_5 rfl rfl ?_
  refine sx_callVr (p1 := 9) (As := [_]) (k1 := 0) (n1 := 0) dX12_morning_6 rfl rfl (c_X12_morningOf hQ) mt_X12_morningOf ml_X12_296 (hp_c39 _) rfl rfl (Nat.le_of_ble_eq_true rfl) rfl (Nat.le_of_ble_eq_true rfl) rfl rfl (Nat.le_of_ble_eq_true rfl) (Nat.le_of_ble_eq_true rfl) ?_
  exact sx_iret dX12_morning_9 rfl (sx_ri (by rfl) (by rfl))
