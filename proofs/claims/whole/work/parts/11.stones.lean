set_option maxRecDepth 20000 in
theorem c_X8_minutesInAll {X : sx_X} {S : St} (hV : okV (cV S))  : Ct X yX8_minutesInAll cX8_minutesInAll 1 (some .int) 1 0 0 [.ref 15] (hp S) (sx_is (some (vI (mTakes (cV S)))) (hp (S))) := by
  have b0 : 0 ≤ S.1 2 ∧ S.1 2 ≤ 16 := hV.1
  have b1 : 0 ≤ S.1 4 ∧ S.1 4 ≤ 6 := hV.2.1
  have b2 : 0 ≤ S.1 6 ∧ S.1 6 ≤ 99 := hV.2.2.1
  have b3 : 0 ≤ S.1 7 ∧ S.1 7 ≤ 1 := hV.2.2.2.1
  have b4 : 0 ≤ S.1 8 ∧ S.1 8 ≤ 16 := hV.2.2.2.2.1
  have b5 : 0 ≤ S.1 9 ∧ S.1 9 ≤ 999 := hV.2.2.2.2.2.1
  have b6 : 0 ≤ S.1 10 ∧ S.1 10 ≤ 1999 := hV.2.2.2.2.2.2.1
  have b7 : 0 ≤ S.1 11 ∧ S.1 11 ≤ 16 := hV.2.2.2.2.2.2.2.1
  have bK : ∀ q, 0 ≤ gK S q ∧ gK S q ≤ 3 := hV.2.2.2.2.2.2.2.2.1
  have bL : ∀ q, 0 ≤ gL S q ∧ gL S q ≤ 9 := hV.2.2.2.2.2.2.2.2.2.1
  have bW : ∀ q, 0 ≤ pW S q ∧ pW S q ≤ 9 := hV.2.2.2.2.2.2.2.2.2.2.1
  have bS : ∀ q, 0 ≤ pS S q ∧ pS S q ≤ 9 := hV.2.2.2.2.2.2.2.2.2.2.2.1
  have bH : ∀ q, 0 ≤ pH S q ∧ pH S q ≤ 1 := hV.2.2.2.2.2.2.2.2.2.2.2.2
  refine Ct.of false [some (.ref 15)] (plainFor_of_name (by decide)) (fun h => by cases h) (Nat.le_of_ble_eq_true rfl) (fun _ => rfl) sx_isl ?_
  refine sx_aload_n (p1 := 1) dX8_minutesInAll_0 rfl rfl ?_
  refine sx_get (p1 := 4) dX8_minutesInAll_1 rfl fl_X8_19 (hp_c15 _) rfl ?_
  refine sx_callVr (p1 := 7) (As := []) (k1 := 0) (n1 := 0) dX8_minutesInAll_4 rfl rfl (c_X5_size) mt_X5_size ml_X8_27 (hp_c10 _) rfl rfl (Nat.le_of_ble_eq_true rfl) rfl (Nat.le_of_ble_eq_true rfl) rfl rfl (Nat.le_of_ble_eq_true rfl) (Nat.le_of_ble_eq_true rfl) ?_
  refine sx_if_eq (p1 := 10) (tg := 20) dX8_minutesInAll_7 rfl rfl (by omega) (fun q7 => ?_) (fun q7 => ?_)
  · refine sx_iconst (p1 := 21) dX8_minutesInAll_20 rfl ?_
    exact sx_iret dX8_minutesInAll_21 rfl (sx_ri (by rw [mTakes_c]; split <;> omega) (by rfl))
  · refine sx_aload_n (p1 := 11) dX8_minutesInAll_10 rfl rfl ?_
    refine sx_get (p1 := 14) dX8_minutesInAll_11 rfl fl_X8_15 (hp_c15 _) rfl ?_
    refine sx_get (p1 := 17) dX8_minutesInAll_14 rfl fl_X8_33 (hp_c7 _) rfl ?_
    refine sx_if_ne (p1 := 20) (tg := 22) dX8_minutesInAll_17 rfl rfl (by omega) (fun q17 => ?_) (fun q17 => ?_)
    · refine sx_aload_n (p1 := 23) dX8_minutesInAll_22 rfl rfl ?_
      refine sx_get (p1 := 26) dX8_minutesInAll_23 rfl fl_X8_19 (hp_c15 _) rfl ?_
      refine sx_callVr (p1 := 29) (As := []) (k1 := 0) (n1 := 0) dX8_minutesInAll_26 rfl rfl (c_X5_size) mt_X5_size ml_X8_27 (hp_c10 _) rfl rfl (Nat.le_of_ble_eq_true rfl) rfl (Nat.le_of_ble_eq_true rfl) rfl rfl (Nat.le_of_ble_eq_true rfl) (Nat.le_of_ble_eq_true rfl) ?_
      refine sx_iconst (p1 := 30) dX8_minutesInAll_29 rfl ?_
      refine sx_isub (p1 := 31) dX8_minutesInAll_30 rfl ?_
      refine sx_aload_n (p1 := 32) dX8_minutesInAll_31 rfl rfl ?_
      refine sx_get (p1 := 35) dX8_minutesInAll_32 rfl fl_X8_23 (hp_c15 _) rfl ?_
      refine sx_get (p1 := 38) dX8_minutesInAll_35 rfl fl_X8_39 (hp_c14 _) rfl ?_
      refine sx_imul (p1 := 39) dX8_minutesInAll_38 rfl ?_
      refine sx_aload_n (p1 := 40) dX8_minutesInAll_39 rfl rfl ?_
      refine sx_get (p1 := 43) dX8_minutesInAll_40 rfl fl_X8_15 (hp_c15 _) rfl ?_
      refine sx_get (p1 := 46) dX8_minutesInAll_43 rfl fl_X8_33 (hp_c7 _) rfl ?_
      refine sx_aload_n (p1 := 47) dX8_minutesInAll_46 rfl rfl ?_
      refine sx_get (p1 := 50) dX8_minutesInAll_47 rfl fl_X8_23 (hp_c15 _) rfl ?_
      refine sx_callVr (p1 := 53) (As := []) (k1 := 0) (n1 := 0) dX8_minutesInAll_50 rfl rfl (c_X6_pace b3) mt_X6_pace ml_X8_44 (hp_c14 _) rfl rfl (Nat.le_of_ble_eq_true rfl) rfl (Nat.le_of_ble_eq_true rfl) rfl rfl (Nat.le_of_ble_eq_true rfl) (Nat.le_of_ble_eq_true rfl) ?_
      refine sx_imul (p1 := 54) dX8_minutesInAll_53 rfl ?_
      refine sx_iadd (p1 := 55) dX8_minutesInAll_54 rfl ?_
      exact sx_iret dX8_minutesInAll_55 rfl (sx_ri (by rw [mTakes_c]; split <;> omega) (by rfl))
    · refine sx_iconst (p1 := 21) dX8_minutesInAll_20 rfl ?_
      exact sx_iret dX8_minutesInAll_21 rfl (sx_ri (by rw [mTakes_c]; split <;> omega) (by rfl))
set_option maxRecDepth 20000 in
theorem c_X8_partAfter {X : sx_X} {S : St} {i : Int} (hV : okV (cV S)) (hi : -2147483648 ≤ i ∧ i ≤ 2147483647) : Ct X yX8_partAfter cX8_partAfter 3 (some .int) 0 0 0 [.ref 15, vI i] (hp S) (sx_is (some (vI (mPl (cV S) i))) (hp (S))) := by
  have b0 : 0 ≤ S.1 2 ∧ S.1 2 ≤ 16 := hV.1
  have b1 : 0 ≤ S.1 4 ∧ S.1 4 ≤ 6 := hV.2.1
  have b2 : 0 ≤ S.1 6 ∧ S.1 6 ≤ 99 := hV.2.2.1
  have b3 : 0 ≤ S.1 7 ∧ S.1 7 ≤ 1 := hV.2.2.2.1
  have b4 : 0 ≤ S.1 8 ∧ S.1 8 ≤ 16 := hV.2.2.2.2.1
  have b5 : 0 ≤ S.1 9 ∧ S.1 9 ≤ 999 := hV.2.2.2.2.2.1
  have b6 : 0 ≤ S.1 10 ∧ S.1 10 ≤ 1999 := hV.2.2.2.2.2.2.1
  have b7 : 0 ≤ S.1 11 ∧ S.1 11 ≤ 16 := hV.2.2.2.2.2.2.2.1
  have bK : ∀ q, 0 ≤ gK S q ∧ gK S q ≤ 3 := hV.2.2.2.2.2.2.2.2.1
  have bL : ∀ q, 0 ≤ gL S q ∧ gL S q ≤ 9 := hV.2.2.2.2.2.2.2.2.2.1
  have bW : ∀ q, 0 ≤ pW S q ∧ pW S q ≤ 9 := hV.2.2.2.2.2.2.2.2.2.2.1
  have bS : ∀ q, 0 ≤ pS S q ∧ pS S q ≤ 9 := hV.2.2.2.2.2.2.2.2.2.2.2.1
  have bH : ∀ q, 0 ≤ pH S q ∧ pH S q ≤ 1 := hV.2.2.2.2.2.2.2.2.2.2.2.2
  refine Ct.of false [some (.ref 15), some (vI i), none] (plainFor_of_name (by decide)) (fun h => by cases h) (Nat.le_of_ble_eq_true rfl) (fun _ => rfl) sx_isl ?_
  refine sx_iload_n (p1 := 1) dX8_partAfter_0 rfl rfl ?_
  refine sx_if_ge (p1 := 4) (tg := 6) dX8_partAfter_1 rfl rfl (by omega) (fun q1 => ?_) (fun q1 => ?_)
  · refine sx_aload_n (p1 := 7) dX8_partAfter_6 rfl rfl ?_
    refine sx_get (p1 := 10) dX8_partAfter_7 rfl fl_X8_23 (hp_c15 _) rfl ?_
    refine sx_get (p1 := 13) dX8_partAfter_10 rfl fl_X8_54 (hp_c14 _) rfl ?_
    refine sx_iconst (p1 := 14) dX8_partAfter_13 rfl ?_
    refine sx_icmp_ne (p1 := 17) (tg := 23) dX8_partAfter_14 rfl rfl (by omega) (by omega) (fun q14 => ?_) (fun q14 => ?_)
    · refine sx_iload_n (p1 := 24) dX8_partAfter_23 rfl rfl ?_
      refine sx_istore_n (lo1 := [some _, some _, some _]) (p1 := 25) dX8_partAfter_24 rfl (by decide) rfl ?_
      refine sx_iload_n (p1 := 26) dX8_partAfter_25 rfl rfl ?_
      refine sx_aload_n (p1 := 27) dX8_partAfter_26 rfl rfl ?_
      refine sx_get (p1 := 30) dX8_partAfter_27 rfl fl_X8_15 (hp_c15 _) rfl ?_
      refine sx_get (p1 := 33) dX8_partAfter_30 rfl fl_X8_33 (hp_c7 _) rfl ?_
      refine sx_icmp_ge (p1 := 36) (tg := 40) dX8_partAfter_33 rfl rfl (by omega) (by omega) (fun q33 => ?_) (fun q33 => ?_)
      · refine sx_iconst (p1 := 41) dX8_partAfter_40 rfl ?_
        exact sx_iret dX8_partAfter_41 rfl (sx_ri (by rw [mPl_c]; rcases (show S.1 7 = 0 ∨ S.1 7 = 1 by omega) with z | z <;> simp only [z] <;> (repeat' split) <;> omega) (by rfl))
      · refine sx_iload_n (p1 := 37) dX8_partAfter_36 rfl rfl ?_
        refine sx_goto (p1 := 41) (tg := 41) dX8_partAfter_37 rfl rfl ?_
        exact sx_iret dX8_partAfter_41 rfl (sx_ri (by rw [mPl_c]; rcases (show S.1 7 = 0 ∨ S.1 7 = 1 by omega) with z | z <;> simp only [z] <;> (repeat' split) <;> omega) (by rfl))
    · refine sx_iload_n (p1 := 18) dX8_partAfter_17 rfl rfl ?_
      refine sx_iconst (p1 := 19) dX8_partAfter_18 rfl ?_
      refine sx_idiv (p1 := 20) dX8_partAfter_19 rfl (by omega) (by omega) ?_
      refine sx_goto (p1 := 24) (tg := 24) dX8_partAfter_20 rfl rfl ?_
      refine sx_istore_n (lo1 := [some _, some _, some _]) (p1 := 25) dX8_partAfter_24 rfl (by decide) rfl ?_
      refine sx_iload_n (p1 := 26) dX8_partAfter_25 rfl rfl ?_
      refine sx_aload_n (p1 := 27) dX8_partAfter_26 rfl rfl ?_
      refine sx_get (p1 := 30) dX8_partAfter_27 rfl fl_X8_15 (hp_c15 _) rfl ?_
      refine sx_get (p1 := 33) dX8_partAfter_30 rfl fl_X8_33 (hp_c7 _) rfl ?_
      refine sx_icmp_ge (p1 := 36) (tg := 40) dX8_partAfter_33 rfl rfl (by omega) (by omega) (fun q33 => ?_) (fun q33 => ?_)
      · refine sx_iconst (p1 := 41) dX8_partAfter_40 rfl ?_
        exact sx_iret dX8_partAfter_41 rfl (sx_ri (by rw [mPl_c]; rcases (show S.1 7 = 0 ∨ S.1 7 = 1 by omega) with z | z <;> simp only [z] <;> (repeat' split) <;> omega) (by rfl))
      · refine sx_iload_n (p1 := 37) dX8_partAfter_36 rfl rfl ?_
        refine sx_goto (p1 := 41) (tg := 41) dX8_partAfter_37 rfl rfl ?_
        exact sx_iret dX8_partAfter_41 rfl (sx_ri (by rw [mPl_c]; rcases (show S.1 7 = 0 ∨ S.1 7 = 1 by omega) with z | z <;> simp only [z] <;> (repeat' split) <;> omega) (by rfl))
  · refine sx_iconst (p1 := 5) dX8_partAfter_4 rfl ?_
    exact sx_iret dX8_partAfter_5 rfl (sx_ri (by rw [mPl_c]; rcases (show S.1 7 = 0 ∨ S.1 7 = 1 by omega) with z | z <;> simp only [z] <;> (repeat' split) <;> omega) (by rfl))
set_option maxRecDepth 20000 in
theorem c_X8_partOf {X : sx_X} {S : St} {i j : Int} (hV : okV (cV S)) (hi : 0 ≤ i ∧ i ≤ 6) (hj : -10 ≤ j ∧ j ≤ 5000) : Ct X yX8_partOf cX8_partOf 3 (some .int) 1 0 0 [.ref 15, vI i, vI j] (hp S) (sx_is (some (vI (mPl (cV S) (j - S.1 9 - i * S.1 6)))) (hp (S))) := by
  have b0 : 0 ≤ S.1 2 ∧ S.1 2 ≤ 16 := hV.1
  have b1 : 0 ≤ S.1 4 ∧ S.1 4 ≤ 6 := hV.2.1
  have b2 : 0 ≤ S.1 6 ∧ S.1 6 ≤ 99 := hV.2.2.1
  have b3 : 0 ≤ S.1 7 ∧ S.1 7 ≤ 1 := hV.2.2.2.1
  have b4 : 0 ≤ S.1 8 ∧ S.1 8 ≤ 16 := hV.2.2.2.2.1
  have b5 : 0 ≤ S.1 9 ∧ S.1 9 ≤ 999 := hV.2.2.2.2.2.1
  have b6 : 0 ≤ S.1 10 ∧ S.1 10 ≤ 1999 := hV.2.2.2.2.2.2.1
  have b7 : 0 ≤ S.1 11 ∧ S.1 11 ≤ 16 := hV.2.2.2.2.2.2.2.1
  have bK : ∀ q, 0 ≤ gK S q ∧ gK S q ≤ 3 := hV.2.2.2.2.2.2.2.2.1
  have bL : ∀ q, 0 ≤ gL S q ∧ gL S q ≤ 9 := hV.2.2.2.2.2.2.2.2.2.1
  have bW : ∀ q, 0 ≤ pW S q ∧ pW S q ≤ 9 := hV.2.2.2.2.2.2.2.2.2.2.1
  have bS : ∀ q, 0 ≤ pS S q ∧ pS S q ≤ 9 := hV.2.2.2.2.2.2.2.2.2.2.2.1
  have bH : ∀ q, 0 ≤ pH S q ∧ pH S q ≤ 1 := hV.2.2.2.2.2.2.2.2.2.2.2.2
  have hm := mul_b hi b2
  refine Ct.of false [some (.ref 15), some (vI i), some (vI j)] (plainFor_of_name (by decide)) (fun h => by cases h) (Nat.le_of_ble_eq_true rfl) (fun _ => rfl) sx_isl ?_
  refine sx_aload_n (p1 := 1) dX8_partOf_0 rfl rfl ?_
  refine sx_iload_n (p1 := 2) dX8_partOf_1 rfl rfl ?_
  refine sx_aload_n (p1 := 3) dX8_partOf_2 rfl rfl ?_
  refine sx_get (p1 := 6) dX8_partOf_3 rfl fl_X8_23 (hp_c15 _) rfl ?_
  refine sx_get (p1 := 9) dX8_partOf_6 rfl fl_X8_47 (hp_c14 _) rfl ?_
  refine sx_isub (p1 := 10) dX8_partOf_9 rfl ?_
  refine sx_iload_n (p1 := 11) dX8_partOf_10 rfl rfl ?_
  refine sx_aload_n (p1 := 12) dX8_partOf_11 rfl rfl ?_
  refine sx_get (p1 := 15) dX8_partOf_12 rfl fl_X8_23 (hp_c15 _) rfl ?_
  refine sx_get (p1 := 18) dX8_partOf_15 rfl fl_X8_39 (hp_c14 _) rfl ?_
  refine sx_imul (p1 := 19) dX8_partOf_18 rfl ?_
  refine sx_isub (p1 := 20) dX8_partOf_19 rfl ?_
  refine sx_callVr (p1 := 23) (As := [_]) (k1 := 0) (n1 := 0) dX8_partOf_20 rfl rfl (c_X8_partAfter hV (by omega)) mt_X8_partAfter ml_X8_50 (hp_c15 _) rfl rfl (Nat.le_of_ble_eq_true rfl) rfl (Nat.le_of_ble_eq_true rfl) rfl rfl (Nat.le_of_ble_eq_true rfl) (Nat.le_of_ble_eq_true rfl) ?_
  exact sx_iret dX8_partOf_23 rfl (sx_ri (by first | rfl | omega) (by rfl))
set_option maxRecDepth 20000 in
theorem c_X8_partEntered {X : sx_X} {S : St} {i j : Int} (hV : okV (cV S)) (hi : 0 ≤ i ∧ i ≤ 6) (hj : 0 ≤ j ∧ j ≤ 4000) : Ct X yX8_partEntered cX8_partEntered 4 (some .int) 2 0 0 [.ref 15, vI i, vI j] (hp S) (sx_is (some (vI (mEnt (cV S) i j))) (hp (S))) := by
  have b0 : 0 ≤ S.1 2 ∧ S.1 2 ≤ 16 := hV.1
  have b1 : 0 ≤ S.1 4 ∧ S.1 4 ≤ 6 := hV.2.1
  have b2 : 0 ≤ S.1 6 ∧ S.1 6 ≤ 99 := hV.2.2.1
  have b3 : 0 ≤ S.1 7 ∧ S.1 7 ≤ 1 := hV.2.2.2.1
  have b4 : 0 ≤ S.1 8 ∧ S.1 8 ≤ 16 := hV.2.2.2.2.1
  have b5 : 0 ≤ S.1 9 ∧ S.1 9 ≤ 999 := hV.2.2.2.2.2.1
  have b6 : 0 ≤ S.1 10 ∧ S.1 10 ≤ 1999 := hV.2.2.2.2.2.2.1
  have b7 : 0 ≤ S.1 11 ∧ S.1 11 ≤ 16 := hV.2.2.2.2.2.2.2.1
  have bK : ∀ q, 0 ≤ gK S q ∧ gK S q ≤ 3 := hV.2.2.2.2.2.2.2.2.1
  have bL : ∀ q, 0 ≤ gL S q ∧ gL S q ≤ 9 := hV.2.2.2.2.2.2.2.2.2.1
  have bW : ∀ q, 0 ≤ pW S q ∧ pW S q ≤ 9 := hV.2.2.2.2.2.2.2.2.2.2.1
  have bS : ∀ q, 0 ≤ pS S q ∧ pS S q ≤ 9 := hV.2.2.2.2.2.2.2.2.2.2.2.1
  have bH : ∀ q, 0 ≤ pH S q ∧ pH S q ≤ 1 := hV.2.2.2.2.2.2.2.2.2.2.2.2
  have h1 := mPl_b hV (j - S.1 9 - i * S.1 6)
  have h2 := mPl_b hV (j - 1 - S.1 9 - i * S.1 6)
  refine Ct.of false [some (.ref 15), some (vI i), some (vI j), none] (plainFor_of_name (by decide)) (fun h => by cases h) (Nat.le_of_ble_eq_true rfl) (fun _ => rfl) sx_isl ?_
  refine sx_aload_n (p1 := 1) dX8_partEntered_0 rfl rfl ?_
  refine sx_iload_n (p1 := 2) dX8_partEntered_1 rfl rfl ?_
  refine sx_iload_n (p1 := 3) dX8_partEntered_2 rfl rfl ?_
  refine sx_callVr (p1 := 6) (As := [_, _]) (k1 := 0) (n1 := 0) dX8_partEntered_3 rfl rfl (c_X8_partOf hV hi (by omega)) mt_X8_partOf ml_X8_57 (hp_c15 _) rfl rfl (Nat.le_of_ble_eq_true rfl) rfl (Nat.le_of_ble_eq_true rfl) rfl rfl (Nat.le_of_ble_eq_true rfl) (Nat.le_of_ble_eq_true rfl) ?_
  refine sx_istore_n (lo1 := [some _, some _, some _, some _]) (p1 := 7) dX8_partEntered_6 rfl (by decide) rfl ?_
  refine sx_iload_n (p1 := 8) dX8_partEntered_7 rfl rfl ?_
  refine sx_aload_n (p1 := 9) dX8_partEntered_8 rfl rfl ?_
  refine sx_iload_n (p1 := 10) dX8_partEntered_9 rfl rfl ?_
  refine sx_iload_n (p1 := 11) dX8_partEntered_10 rfl rfl ?_
  refine sx_iconst (p1 := 12) dX8_partEntered_11 rfl ?_
  refine sx_isub (p1 := 13) dX8_partEntered_12 rfl ?_
  refine sx_callVr (p1 := 16) (As := [_, _]) (k1 := 0) (n1 := 0) dX8_partEntered_13 rfl rfl (c_X8_partOf hV hi (by omega)) mt_X8_partOf ml_X8_57 (hp_c15 _) rfl rfl (Nat.le_of_ble_eq_true rfl) rfl (Nat.le_of_ble_eq_true rfl) rfl rfl (Nat.le_of_ble_eq_true rfl) (Nat.le_of_ble_eq_true rfl) ?_
  refine sx_icmp_ne (p1 := 19) (tg := 23) dX8_partEntered_16 rfl rfl (by omega) (by omega) (fun q16 => ?_) (fun q16 => ?_)
  · refine sx_iload_n (p1 := 24) dX8_partEntered_23 rfl rfl ?_
    exact sx_iret dX8_partEntered_24 rfl (sx_ri (by rw [mEnt_c]; split <;> omega) (by rfl))
  · refine sx_iconst (p1 := 20) dX8_partEntered_19 rfl ?_
    refine sx_goto (p1 := 24) (tg := 24) dX8_partEntered_20 rfl rfl ?_
    exact sx_iret dX8_partEntered_24 rfl (sx_ri (by rw [mEnt_c]; split <;> omega) (by rfl))
set_option maxRecDepth 20000 in
theorem c_X8_odds {X : sx_X} {S : St} {i j : Int} (hi : -1000 ≤ i ∧ i ≤ 1000) (hj : -1000 ≤ j ∧ j ≤ 1000) : Ct X yX8_odds cX8_odds 2 (some .int) 1 0 0 [vI i, vI j] (hp S) (sx_is (some (vI (mOdds i j))) (hp (S))) := by
  refine Ct.of false [some (vI i), some (vI j)] (plainFor_of_name (by decide)) (fun h => by cases h) (Nat.le_of_ble_eq_true rfl) (fun _ => rfl) sx_isl ?_
  refine sx_iload_n (p1 := 1) dX8_odds_0 rfl rfl ?_
  refine sx_if_gt (p1 := 4) (tg := 6) dX8_odds_1 rfl rfl (by omega) (fun q1 => ?_) (fun q1 => ?_)
  · refine sx_iconst (p1 := 7) dX8_odds_6 rfl ?_
    refine sx_bipush (p1 := 9) dX8_odds_7 rfl (by decide) ?_
    refine sx_iload_n (p1 := 10) dX8_odds_9 rfl rfl ?_
    refine sx_iload_n (p1 := 11) dX8_odds_10 rfl rfl ?_
    refine sx_iadd (p1 := 12) dX8_odds_11 rfl ?_
    refine sx_callSr (p1 := 15) (As := [_, _]) (k1 := 0) (n1 := 0) dX8_odds_12 rfl rfl (c_J9_min_7cf53 (by omega) (by omega)) mt_J9_min_7cf53 ml_X8_61 (Nat.le_of_ble_eq_true rfl) rfl (Nat.le_of_ble_eq_true rfl) rfl rfl (Nat.le_of_ble_eq_true rfl) (Nat.le_of_ble_eq_true rfl) ?_
    refine sx_callSr (p1 := 18) (As := [_, _]) (k1 := 0) (n1 := 0) dX8_odds_15 rfl rfl (c_J9_max_7cf53 (by omega) (by omega)) mt_J9_max_7cf53 ml_X8_66 (Nat.le_of_ble_eq_true rfl) rfl (Nat.le_of_ble_eq_true rfl) rfl rfl (Nat.le_of_ble_eq_true rfl) (Nat.le_of_ble_eq_true rfl) ?_
    exact sx_iret dX8_odds_18 rfl (sx_ri (by unfold mOdds; split <;> omega) (by rfl))
  · refine sx_iconst (p1 := 5) dX8_odds_4 rfl ?_
    exact sx_iret dX8_odds_5 rfl (sx_ri (by unfold mOdds; split <;> omega) (by rfl))
set_option maxRecDepth 20000 in
theorem c_X8_oddsOf {X : sx_X} {S : St} {i j : Int} (hV : okV (cV S)) (hi : -2147483648 ≤ i ∧ i ≤ 2147483647) (hj : -2147483648 ≤ j ∧ j ≤ 2147483647) : Ct X yX8_oddsOf cX8_oddsOf 3 (some .int) 2 0 0 [.ref 15, vI i, vI j] (hp S) (sx_is (some (vI (mOdds (gL S j) (mMore (cV S) i)))) (hp (S))) := by
  have b0 : 0 ≤ S.1 2 ∧ S.1 2 ≤ 16 := hV.1
  have b1 : 0 ≤ S.1 4 ∧ S.1 4 ≤ 6 := hV.2.1
  have b2 : 0 ≤ S.1 6 ∧ S.1 6 ≤ 99 := hV.2.2.1
  have b3 : 0 ≤ S.1 7 ∧ S.1 7 ≤ 1 := hV.2.2.2.1
  have b4 : 0 ≤ S.1 8 ∧ S.1 8 ≤ 16 := hV.2.2.2.2.1
  have b5 : 0 ≤ S.1 9 ∧ S.1 9 ≤ 999 := hV.2.2.2.2.2.1
  have b6 : 0 ≤ S.1 10 ∧ S.1 10 ≤ 1999 := hV.2.2.2.2.2.2.1
  have b7 : 0 ≤ S.1 11 ∧ S.1 11 ≤ 16 := hV.2.2.2.2.2.2.2.1
  have bK : ∀ q, 0 ≤ gK S q ∧ gK S q ≤ 3 := hV.2.2.2.2.2.2.2.2.1
  have bL : ∀ q, 0 ≤ gL S q ∧ gL S q ≤ 9 := hV.2.2.2.2.2.2.2.2.2.1
  have bW : ∀ q, 0 ≤ pW S q ∧ pW S q ≤ 9 := hV.2.2.2.2.2.2.2.2.2.2.1
  have bS : ∀ q, 0 ≤ pS S q ∧ pS S q ≤ 9 := hV.2.2.2.2.2.2.2.2.2.2.2.1
  have bH : ∀ q, 0 ≤ pH S q ∧ pH S q ≤ 1 := hV.2.2.2.2.2.2.2.2.2.2.2.2
  have h1 := mMore_b hV i
  have h2 := bL j
  refine Ct.of false [some (.ref 15), some (vI i), some (vI j)] (plainFor_of_name (by decide)) (fun h => by cases h) (Nat.le_of_ble_eq_true rfl) (fun _ => rfl) sx_isl ?_
  refine sx_aload_n (p1 := 1) dX8_oddsOf_0 rfl rfl ?_
  refine sx_get (p1 := 4) dX8_oddsOf_1 rfl fl_X8_15 (hp_c15 _) rfl ?_
  refine sx_iload_n (p1 := 5) dX8_oddsOf_4 rfl rfl ?_
  refine sx_callVr (p1 := 8) (As := [_]) (k1 := 0) (n1 := 0) dX8_oddsOf_5 rfl rfl (c_X0_loosenessAt (by omega) b0) mt_X0_loosenessAt ml_X8_69 (hp_c7 _) rfl rfl (Nat.le_of_ble_eq_true rfl) rfl (Nat.le_of_ble_eq_true rfl) rfl rfl (Nat.le_of_ble_eq_true rfl) (Nat.le_of_ble_eq_true rfl) ?_
  refine sx_aload_n (p1 := 9) dX8_oddsOf_8 rfl rfl ?_
  refine sx_get (p1 := 12) dX8_oddsOf_9 rfl fl_X8_19 (hp_c15 _) rfl ?_
  refine sx_iload_n (p1 := 13) dX8_oddsOf_12 rfl rfl ?_
  refine sx_callVr (p1 := 16) (As := [_]) (k1 := 0) (n1 := 0) dX8_oddsOf_13 rfl rfl (c_X5_oddsMore (by omega) b1 bW bS) mt_X5_oddsMore ml_X8_72 (hp_c10 _) rfl rfl (Nat.le_of_ble_eq_true rfl) rfl (Nat.le_of_ble_eq_true rfl) rfl rfl (Nat.le_of_ble_eq_true rfl) (Nat.le_of_ble_eq_true rfl) ?_
  refine sx_callSr (p1 := 19) (As := [_, _]) (k1 := 0) (n1 := 0) dX8_oddsOf_16 rfl rfl (c_X8_odds (by omega) (by omega)) mt_X8_odds ml_X8_75 (Nat.le_of_ble_eq_true rfl) rfl (Nat.le_of_ble_eq_true rfl) rfl rfl (Nat.le_of_ble_eq_true rfl) (Nat.le_of_ble_eq_true rfl) ?_
  exact sx_iret dX8_oddsOf_19 rfl (sx_ri (by first | rfl | omega) (by rfl))
set_option maxRecDepth 20000 in
theorem c_X8_struck {X : sx_X} {S : St} {i j k : Int} (hV : okV (cV S)) (hi : -1 ≤ i ∧ i ≤ 16) (hj : -1 ≤ j ∧ j ≤ 16) (hk : -2147483648 ≤ k ∧ k ≤ 2147483647) : Ct X yX8_struck cX8_struck 7 (some .int) 1 0 0 [.ref 15, vI i, vI j, vI k] (hp S) (sx_is (some (vI (mHit (cV S) i j k))) (hp (S))) := by
  have b0 : 0 ≤ S.1 2 ∧ S.1 2 ≤ 16 := hV.1
  have b1 : 0 ≤ S.1 4 ∧ S.1 4 ≤ 6 := hV.2.1
  have b2 : 0 ≤ S.1 6 ∧ S.1 6 ≤ 99 := hV.2.2.1
  have b3 : 0 ≤ S.1 7 ∧ S.1 7 ≤ 1 := hV.2.2.2.1
  have b4 : 0 ≤ S.1 8 ∧ S.1 8 ≤ 16 := hV.2.2.2.2.1
  have b5 : 0 ≤ S.1 9 ∧ S.1 9 ≤ 999 := hV.2.2.2.2.2.1
  have b6 : 0 ≤ S.1 10 ∧ S.1 10 ≤ 1999 := hV.2.2.2.2.2.2.1
  have b7 : 0 ≤ S.1 11 ∧ S.1 11 ≤ 16 := hV.2.2.2.2.2.2.2.1
  have bK : ∀ q, 0 ≤ gK S q ∧ gK S q ≤ 3 := hV.2.2.2.2.2.2.2.2.1
  have bL : ∀ q, 0 ≤ gL S q ∧ gL S q ≤ 9 := hV.2.2.2.2.2.2.2.2.2.1
  have bW : ∀ q, 0 ≤ pW S q ∧ pW S q ≤ 9 := hV.2.2.2.2.2.2.2.2.2.2.1
  have bS : ∀ q, 0 ≤ pS S q ∧ pS S q ≤ 9 := hV.2.2.2.2.2.2.2.2.2.2.2.1
  have bH : ∀ q, 0 ≤ pH S q ∧ pH S q ≤ 1 := hV.2.2.2.2.2.2.2.2.2.2.2.2
  have h1 := bK j
  refine Ct.of false [some (.ref 15), some (vI i), some (vI j), some (vI k), none, none, none] (plainFor_of_name (by decide)) (fun h => by cases h) (Nat.le_of_ble_eq_true rfl) (fun _ => rfl) sx_isl ?_
  refine sx_aload_n (p1 := 1) dX8_struck_0 rfl rfl ?_
  refine sx_get (p1 := 4) dX8_struck_1 rfl fl_X8_15 (hp_c15 _) rfl ?_
  refine sx_iload_n (p1 := 5) dX8_struck_4 rfl rfl ?_
  refine sx_callVr (p1 := 8) (As := [_]) (k1 := 0) (n1 := 0) dX8_struck_5 rfl rfl (c_X0_kindAt (by omega) b0) mt_X0_kindAt ml_X8_94 (hp_c7 _) rfl rfl (Nat.le_of_ble_eq_true rfl) rfl (Nat.le_of_ble_eq_true rfl) rfl rfl (Nat.le_of_ble_eq_true rfl) (Nat.le_of_ble_eq_true rfl) ?_
  refine sx_istore (lo1 := [some _, some _, some _, some _, some _, none, none]) (p1 := 10) dX8_struck_8 rfl (by decide) rfl ?_
  refine sx_iload_n (p1 := 11) dX8_struck_10 rfl rfl ?_
  refine sx_if_lt (p1 := 14) (tg := 25) dX8_struck_11 rfl rfl (by omega) (fun q11 => ?_) (fun q11 => ?_)
  · refine sx_iconst (p1 := 26) dX8_struck_25 rfl ?_
    exact sx_iret dX8_struck_26 rfl (sx_ri (by rw [mHit_c]; (repeat' split) <;> omega) (by rfl))
  · refine sx_iload_n (p1 := 15) dX8_struck_14 rfl rfl ?_
    refine sx_iload_n (p1 := 16) dX8_struck_15 rfl rfl ?_
    refine sx_icmp_ge (p1 := 19) (tg := 25) dX8_struck_16 rfl rfl (by omega) (by omega) (fun q16 => ?_) (fun q16 => ?_)
    · refine sx_iconst (p1 := 26) dX8_struck_25 rfl ?_
      exact sx_iret dX8_struck_26 rfl (sx_ri (by rw [mHit_c]; (repeat' split) <;> omega) (by rfl))
    · refine sx_iload (p1 := 21) dX8_struck_19 rfl rfl ?_
      refine sx_iconst (p1 := 22) dX8_struck_21 rfl ?_
      refine sx_icmp_ne (p1 := 25) (tg := 27) dX8_struck_22 rfl rfl (by omega) (by omega) (fun q22 => ?_) (fun q22 => ?_)
      · refine sx_iload_n (p1 := 28) dX8_struck_27 rfl rfl ?_
        refine sx_iload_n (p1 := 29) dX8_struck_28 rfl rfl ?_
        refine sx_isub (p1 := 30) dX8_struck_29 rfl ?_
        refine sx_istore (lo1 := [some _, some _, some _, some _, some _, some _, none]) (p1 := 32) dX8_struck_30 rfl (by decide) rfl ?_
        refine sx_iload (p1 := 34) dX8_struck_32 rfl rfl ?_
        refine sx_iconst (p1 := 35) dX8_struck_34 rfl ?_
        refine sx_icmp_ne (p1 := 38) (tg := 50) dX8_struck_35 rfl rfl (by omega) (by omega) (fun q35 => ?_) (fun q35 => ?_)
        · refine sx_iload (p1 := 52) dX8_struck_50 rfl rfl ?_
          refine sx_istore (lo1 := [some _, some _, some _, some _, some _, some _, some _]) (p1 := 54) dX8_struck_52 rfl (by decide) rfl ?_
          refine sx_iload (p1 := 56) dX8_struck_54 rfl rfl ?_
          refine sx_aload_n (p1 := 57) dX8_struck_56 rfl rfl ?_
          refine sx_get (p1 := 60) dX8_struck_57 rfl fl_X8_23 (hp_c15 _) rfl ?_
          refine sx_get (p1 := 63) dX8_struck_60 rfl fl_X8_97 (hp_c14 _) rfl ?_
          refine sx_icmp_le (p1 := 66) (tg := 72) dX8_struck_63 rfl rfl (by omega) (by omega) (fun q63 => ?_) (fun q63 => ?_)
          · refine sx_iload_n (p1 := 73) dX8_struck_72 rfl rfl ?_
            refine sx_iconst (p1 := 74) dX8_struck_73 rfl ?_
            refine sx_icmp_ne (p1 := 77) (tg := 84) dX8_struck_74 rfl rfl (by omega) (by omega) (fun q74 => ?_) (fun q74 => ?_)
            · refine sx_iload (p1 := 86) dX8_struck_84 rfl rfl ?_
              exact sx_iret dX8_struck_86 rfl (sx_ri (by rw [mHit_c]; (repeat' split) <;> omega) (by rfl))
            · refine sx_iload (p1 := 79) dX8_struck_77 rfl rfl ?_
              refine sx_iconst (p1 := 80) dX8_struck_79 rfl ?_
              refine sx_idiv (p1 := 81) dX8_struck_80 rfl (by omega) (by omega) ?_
              refine sx_goto (p1 := 86) (tg := 86) dX8_struck_81 rfl rfl ?_
              exact sx_iret dX8_struck_86 rfl (sx_ri (by rw [mHit_c]; (repeat' split) <;> omega) (by rfl))
          · refine sx_iload (p1 := 68) dX8_struck_66 rfl rfl ?_
            refine sx_iconst (p1 := 69) dX8_struck_68 rfl ?_
            refine sx_idiv (p1 := 70) dX8_struck_69 rfl (by omega) (by omega) ?_
            refine sx_istore (lo1 := [some _, some _, some _, some _, some _, some _, some _]) (p1 := 72) dX8_struck_70 rfl (by decide) rfl ?_
            refine sx_iload_n (p1 := 73) dX8_struck_72 rfl rfl ?_
            refine sx_iconst (p1 := 74) dX8_struck_73 rfl ?_
            refine sx_icmp_ne (p1 := 77) (tg := 84) dX8_struck_74 rfl rfl (by omega) (by omega) (fun q74 => ?_) (fun q74 => ?_)
            · refine sx_iload (p1 := 86) dX8_struck_84 rfl rfl ?_
              exact sx_iret dX8_struck_86 rfl (sx_ri (by rw [mHit_c]; (repeat' split) <;> omega) (by rfl))
            · refine sx_iload (p1 := 79) dX8_struck_77 rfl rfl ?_
              refine sx_iconst (p1 := 80) dX8_struck_79 rfl ?_
              refine sx_idiv (p1 := 81) dX8_struck_80 rfl (by omega) (by omega) ?_
              refine sx_goto (p1 := 86) (tg := 86) dX8_struck_81 rfl rfl ?_
              exact sx_iret dX8_struck_86 rfl (sx_ri (by rw [mHit_c]; (repeat' split) <;> omega) (by rfl))
        · refine sx_bipush (p1 := 40) dX8_struck_38 rfl (by decide) ?_
          refine sx_iconst (p1 := 41) dX8_struck_40 rfl ?_
          refine sx_iload (p1 := 43) dX8_struck_41 rfl rfl ?_
          refine sx_imul (p1 := 44) dX8_struck_43 rfl ?_
          refine sx_callSr (p1 := 47) (As := [_, _]) (k1 := 0) (n1 := 0) dX8_struck_44 rfl rfl (c_J9_min_7cf53 (by omega) (by omega)) mt_J9_min_7cf53 ml_X8_61 (Nat.le_of_ble_eq_true rfl) rfl (Nat.le_of_ble_eq_true rfl) rfl rfl (Nat.le_of_ble_eq_true rfl) (Nat.le_of_ble_eq_true rfl) ?_
          refine sx_goto (p1 := 52) (tg := 52) dX8_struck_47 rfl rfl ?_
          refine sx_istore (lo1 := [some _, some _, some _, some _, some _, some _, some _]) (p1 := 54) dX8_struck_52 rfl (by decide) rfl ?_
          refine sx_iload (p1 := 56) dX8_struck_54 rfl rfl ?_
          refine sx_aload_n (p1 := 57) dX8_struck_56 rfl rfl ?_
          refine sx_get (p1 := 60) dX8_struck_57 rfl fl_X8_23 (hp_c15 _) rfl ?_
          refine sx_get (p1 := 63) dX8_struck_60 rfl fl_X8_97 (hp_c14 _) rfl ?_
          refine sx_icmp_le (p1 := 66) (tg := 72) dX8_struck_63 rfl rfl (by omega) (by omega) (fun q63 => ?_) (fun q63 => ?_)
          · refine sx_iload_n (p1 := 73) dX8_struck_72 rfl rfl ?_
            refine sx_iconst (p1 := 74) dX8_struck_73 rfl ?_
            refine sx_icmp_ne (p1 := 77) (tg := 84) dX8_struck_74 rfl rfl (by omega) (by omega) (fun q74 => ?_) (fun q74 => ?_)
            · refine sx_iload (p1 := 86) dX8_struck_84 rfl rfl ?_
              exact sx_iret dX8_struck_86 rfl (sx_ri (by rw [mHit_c]; (repeat' split) <;> omega) (by rfl))
            · refine sx_iload (p1 := 79) dX8_struck_77 rfl rfl ?_
              refine sx_iconst (p1 := 80) dX8_struck_79 rfl ?_
              refine sx_idiv (p1 := 81) dX8_struck_80 rfl (by omega) (by omega) ?_
              refine sx_goto (p1 := 86) (tg := 86) dX8_struck_81 rfl rfl ?_
              exact sx_iret dX8_struck_86 rfl (sx_ri (by rw [mHit_c]; (repeat' split) <;> omega) (by rfl))
          · refine sx_iload (p1 := 68) dX8_struck_66 rfl rfl ?_
            refine sx_iconst (p1 := 69) dX8_struck_68 rfl ?_
            refine sx_idiv (p1 := 70) dX8_struck_69 rfl (by omega) (by omega) ?_
            refine sx_istore (lo1 := [some _, some _, some _, some _, some _, some _, some _]) (p1 := 72) dX8_struck_70 rfl (by decide) rfl ?_
            refine sx_iload_n (p1 := 73) dX8_struck_72 rfl rfl ?_
            refine sx_iconst (p1 := 74) dX8_struck_73 rfl ?_
            refine sx_icmp_ne (p1 := 77) (tg := 84) dX8_struck_74 rfl rfl (by omega) (by omega) (fun q74 => ?_) (fun q74 => ?_)
            · refine sx_iload (p1 := 86) dX8_struck_84 rfl rfl ?_
              exact sx_iret dX8_struck_86 rfl (sx_ri (by rw [mHit_c]; (repeat' split) <;> omega) (by rfl))
            · refine sx_iload (p1 := 79) dX8_struck_77 rfl rfl ?_
              refine sx_iconst (p1 := 80) dX8_struck_79 rfl ?_
              refine sx_idiv (p1 := 81) dX8_struck_80 rfl (by omega) (by omega) ?_
              refine sx_goto (p1 := 86) (tg := 86) dX8_struck_81 rfl rfl ?_
              exact sx_iret dX8_struck_86 rfl (sx_ri (by rw [mHit_c]; (repeat' split) <;> omega) (by rfl))
      · refine sx_iconst (p1 := 26) dX8_struck_25 rfl ?_
        exact sx_iret dX8_struck_26 rfl (sx_ri (by rw [mHit_c]; (repeat' split) <;> omega) (by rfl))
set_option maxRecDepth 20000 in
theorem c_X8_areApart {X : sx_X} {S : St} {i j : Int} (hV : okV (cV S)) (hi : 0 ≤ i ∧ i < 8) (hj : 0 ≤ j ∧ j < 8) : Ct X yX8_areApart cX8_areApart 3 (some .boolean) 0 0 0 [.ref 15, vI i, vI j] (hp S) (sx_is (some (vI (mApart (cV S) i j))) (hp (S))) := by
  have b0 : 0 ≤ S.1 2 ∧ S.1 2 ≤ 16 := hV.1
  have b1 : 0 ≤ S.1 4 ∧ S.1 4 ≤ 6 := hV.2.1
  have b2 : 0 ≤ S.1 6 ∧ S.1 6 ≤ 99 := hV.2.2.1
  have b3 : 0 ≤ S.1 7 ∧ S.1 7 ≤ 1 := hV.2.2.2.1
  have b4 : 0 ≤ S.1 8 ∧ S.1 8 ≤ 16 := hV.2.2.2.2.1
  have b5 : 0 ≤ S.1 9 ∧ S.1 9 ≤ 999 := hV.2.2.2.2.2.1
  have b6 : 0 ≤ S.1 10 ∧ S.1 10 ≤ 1999 := hV.2.2.2.2.2.2.1
  have b7 : 0 ≤ S.1 11 ∧ S.1 11 ≤ 16 := hV.2.2.2.2.2.2.2.1
  have bK : ∀ q, 0 ≤ gK S q ∧ gK S q ≤ 3 := hV.2.2.2.2.2.2.2.2.1
  have bL : ∀ q, 0 ≤ gL S q ∧ gL S q ≤ 9 := hV.2.2.2.2.2.2.2.2.2.1
  have bW : ∀ q, 0 ≤ pW S q ∧ pW S q ≤ 9 := hV.2.2.2.2.2.2.2.2.2.2.1
  have bS : ∀ q, 0 ≤ pS S q ∧ pS S q ≤ 9 := hV.2.2.2.2.2.2.2.2.2.2.2.1
  have bH : ∀ q, 0 ≤ pH S q ∧ pH S q ≤ 1 := hV.2.2.2.2.2.2.2.2.2.2.2.2
  have h1 := sx_parI hi hj
  refine Ct.of false [some (.ref 15), some (vI i), some (vI j)] (plainFor_of_name (by decide)) (fun h => by cases h) (Nat.le_of_ble_eq_true rfl) (fun _ => rfl) sx_isl ?_
  refine sx_aload_n (p1 := 1) dX8_areApart_0 rfl rfl ?_
  refine sx_get (p1 := 4) dX8_areApart_1 rfl fl_X8_23 (hp_c15 _) rfl ?_
  refine sx_get (p1 := 7) dX8_areApart_4 rfl fl_X8_54 (hp_c14 _) rfl ?_
  refine sx_iconst (p1 := 8) dX8_areApart_7 rfl ?_
  refine sx_icmp_ne (p1 := 11) (tg := 24) dX8_areApart_8 rfl rfl (by omega) (by omega) (fun q8 => ?_) (fun q8 => ?_)
  · refine sx_iconst (p1 := 25) dX8_areApart_24 rfl ?_
    exact sx_zret dX8_areApart_25 rfl (by omega) (sx_ri (by rw [mApart_c]; first | (rw [h1] at q17; split at q17 <;> split <;> omega) | (split <;> omega)) (by rfl))
  · refine sx_iload_n (p1 := 12) dX8_areApart_11 rfl rfl ?_
    refine sx_iload_n (p1 := 13) dX8_areApart_12 rfl rfl ?_
    refine sx_ixor (p1 := 14) dX8_areApart_13 rfl ?_
    refine sx_iconst (p1 := 15) dX8_areApart_14 rfl ?_
    refine sx_iand (p1 := 16) dX8_areApart_15 rfl ?_
    refine sx_iconst (p1 := 17) dX8_areApart_16 rfl ?_
    refine sx_icmp_ne (p1 := 20) (tg := 24) dX8_areApart_17 rfl rfl (by rw [h1]; split <;> omega) (by omega) (fun q17 => ?_) (fun q17 => ?_)
    · refine sx_iconst (p1 := 25) dX8_areApart_24 rfl ?_
      exact sx_zret dX8_areApart_25 rfl (by omega) (sx_ri (by rw [mApart_c]; first | (rw [h1] at q17; split at q17 <;> split <;> omega) | (split <;> omega)) (by rfl))
    · refine sx_iconst (p1 := 21) dX8_areApart_20 rfl ?_
      refine sx_goto (p1 := 25) (tg := 25) dX8_areApart_21 rfl rfl ?_
      exact sx_zret dX8_areApart_25 rfl (by omega) (sx_ri (by rw [mApart_c]; first | (rw [h1] at q17; split at q17 <;> split <;> omega) | (split <;> omega)) (by rfl))
set_option maxRecDepth 20000 in
theorem c_X8_oddsOfSun {X : sx_X} {S : St} {i j : Int} (hV : okV (cV S)) (hi : -2147483648 ≤ i ∧ i ≤ 2147483647) (hj : -2147483648 ≤ j ∧ j ≤ 2147483647) : Ct X yX8_oddsOfSun cX8_oddsOfSun 3 (some .int) 2 0 0 [.ref 15, vI i, vI j] (hp S) (sx_is (some (vI (if 0 < gL S i ∧ S.1 10 ≤ j then S.1 11 else 0))) (hp (S))) := by
  have b0 : 0 ≤ S.1 2 ∧ S.1 2 ≤ 16 := hV.1
  have b1 : 0 ≤ S.1 4 ∧ S.1 4 ≤ 6 := hV.2.1
  have b2 : 0 ≤ S.1 6 ∧ S.1 6 ≤ 99 := hV.2.2.1
  have b3 : 0 ≤ S.1 7 ∧ S.1 7 ≤ 1 := hV.2.2.2.1
  have b4 : 0 ≤ S.1 8 ∧ S.1 8 ≤ 16 := hV.2.2.2.2.1
  have b5 : 0 ≤ S.1 9 ∧ S.1 9 ≤ 999 := hV.2.2.2.2.2.1
  have b6 : 0 ≤ S.1 10 ∧ S.1 10 ≤ 1999 := hV.2.2.2.2.2.2.1
  have b7 : 0 ≤ S.1 11 ∧ S.1 11 ≤ 16 := hV.2.2.2.2.2.2.2.1
  have bK : ∀ q, 0 ≤ gK S q ∧ gK S q ≤ 3 := hV.2.2.2.2.2.2.2.2.1
  have bL : ∀ q, 0 ≤ gL S q ∧ gL S q ≤ 9 := hV.2.2.2.2.2.2.2.2.2.1
  have bW : ∀ q, 0 ≤ pW S q ∧ pW S q ≤ 9 := hV.2.2.2.2.2.2.2.2.2.2.1
  have bS : ∀ q, 0 ≤ pS S q ∧ pS S q ≤ 9 := hV.2.2.2.2.2.2.2.2.2.2.2.1
  have bH : ∀ q, 0 ≤ pH S q ∧ pH S q ≤ 1 := hV.2.2.2.2.2.2.2.2.2.2.2.2
  have h2 := bL i
  refine Ct.of false [some (.ref 15), some (vI i), some (vI j)] (plainFor_of_name (by decide)) (fun h => by cases h) (Nat.le_of_ble_eq_true rfl) (fun _ => rfl) sx_isl ?_
  refine sx_aload_n (p1 := 1) dX8_oddsOfSun_0 rfl rfl ?_
  refine sx_get (p1 := 4) dX8_oddsOfSun_1 rfl fl_X8_15 (hp_c15 _) rfl ?_
  refine sx_iload_n (p1 := 5) dX8_oddsOfSun_4 rfl rfl ?_
  refine sx_callVr (p1 := 8) (As := [_]) (k1 := 0) (n1 := 0) dX8_oddsOfSun_5 rfl rfl (c_X0_isLoose (by omega) b0 bL) mt_X0_isLoose ml_X8_84 (hp_c7 _) rfl rfl (Nat.le_of_ble_eq_true rfl) rfl (Nat.le_of_ble_eq_true rfl) rfl rfl (Nat.le_of_ble_eq_true rfl) (Nat.le_of_ble_eq_true rfl) ?_
  refine sx_if_eq (p1 := 11) (tg := 32) dX8_oddsOfSun_8 rfl rfl (by omega) (fun q8 => ?_) (fun q8 => ?_)
  · refine sx_iconst (p1 := 33) dX8_oddsOfSun_32 rfl ?_
    exact sx_iret dX8_oddsOfSun_33 rfl (sx_ri (by omega) (by rfl))
  · refine sx_iload_n (p1 := 12) dX8_oddsOfSun_11 rfl rfl ?_
    refine sx_aload_n (p1 := 13) dX8_oddsOfSun_12 rfl rfl ?_
    refine sx_get (p1 := 16) dX8_oddsOfSun_13 rfl fl_X8_23 (hp_c15 _) rfl ?_
    refine sx_get (p1 := 19) dX8_oddsOfSun_16 rfl fl_X8_88 (hp_c14 _) rfl ?_
    refine sx_icmp_lt (p1 := 22) (tg := 32) dX8_oddsOfSun_19 rfl rfl (by omega) (by omega) (fun q19 => ?_) (fun q19 => ?_)
    · refine sx_iconst (p1 := 33) dX8_oddsOfSun_32 rfl ?_
      exact sx_iret dX8_oddsOfSun_33 rfl (sx_ri (by omega) (by rfl))
    · refine sx_aload_n (p1 := 23) dX8_oddsOfSun_22 rfl rfl ?_
      refine sx_get (p1 := 26) dX8_oddsOfSun_23 rfl fl_X8_23 (hp_c15 _) rfl ?_
      refine sx_get (p1 := 29) dX8_oddsOfSun_26 rfl fl_X8_91 (hp_c14 _) rfl ?_
      refine sx_goto (p1 := 33) (tg := 33) dX8_oddsOfSun_29 rfl rfl ?_
      exact sx_iret dX8_oddsOfSun_33 rfl (sx_ri (by omega) (by rfl))
set_option maxRecDepth 20000 in
theorem c_X8_oddsOfFeet {X : sx_X} {S : St} {i0 j0 : Int} (hV : okV (cV S)) (hi0 : -2147483648 ≤ i0 ∧ i0 ≤ 2147483647) (hj : 0 ≤ j0 ∧ j0 ≤ 4000) : Ct X yX8_oddsOfFeet cX8_oddsOfFeet 5 (some .int) 3 0 0 [.ref 15, vI i0, vI j0] (hp S) (sx_is (some (vI (mFoot (cV S) i0 j0))) (hp S)) := by
  have b0 : 0 ≤ S.1 2 ∧ S.1 2 ≤ 16 := hV.1
  have b1 : 0 ≤ S.1 4 ∧ S.1 4 ≤ 6 := hV.2.1
  have b2 : 0 ≤ S.1 6 ∧ S.1 6 ≤ 99 := hV.2.2.1
  have b3 : 0 ≤ S.1 7 ∧ S.1 7 ≤ 1 := hV.2.2.2.1
  have b4 : 0 ≤ S.1 8 ∧ S.1 8 ≤ 16 := hV.2.2.2.2.1
  have b5 : 0 ≤ S.1 9 ∧ S.1 9 ≤ 999 := hV.2.2.2.2.2.1
  have b6 : 0 ≤ S.1 10 ∧ S.1 10 ≤ 1999 := hV.2.2.2.2.2.2.1
  have b7 : 0 ≤ S.1 11 ∧ S.1 11 ≤ 16 := hV.2.2.2.2.2.2.2.1
  have bK : ∀ q, 0 ≤ gK S q ∧ gK S q ≤ 3 := hV.2.2.2.2.2.2.2.2.1
  have bL : ∀ q, 0 ≤ gL S q ∧ gL S q ≤ 9 := hV.2.2.2.2.2.2.2.2.2.1
  have bW : ∀ q, 0 ≤ pW S q ∧ pW S q ≤ 9 := hV.2.2.2.2.2.2.2.2.2.2.1
  have bS : ∀ q, 0 ≤ pS S q ∧ pS S q ≤ 9 := hV.2.2.2.2.2.2.2.2.2.2.2.1
  have bH : ∀ q, 0 ≤ pH S q ∧ pH S q ≤ 1 := hV.2.2.2.2.2.2.2.2.2.2.2.2
  have key : ∀ (n i : Nat), i + n = (S.1 4).toNat → Rn X RX8 false cX8_oddsOfFeet 5 3 0 0 (some .int) 5 [some (.ref 15), some (vI i0), some (vI j0), some (vI (sumN i (mFootT (cV S) i0 j0))), some (vI (i : Int))] [] (hp S) 0 0 (sx_is (some (vI (mFoot (cV S) i0 j0))) (hp S)) := by
    intro n
    induction n with
    | zero =>
      intro i hi 
      rw [Nat.add_zero] at hi
      subst hi
      refine sx_iload (p1 := 7) dX8_oddsOfFeet_5 rfl rfl ?_
      refine sx_aload_n (p1 := 8) dX8_oddsOfFeet_7 rfl rfl ?_
      refine sx_get (p1 := 11) dX8_oddsOfFeet_8 rfl fl_X8_19 (hp_c15 _) rfl ?_
      refine sx_callVr (p1 := 14) (As := []) (k1 := 0) (n1 := 0) dX8_oddsOfFeet_11 rfl rfl (c_X5_size) mt_X5_size ml_X8_27 (hp_c10 _) rfl rfl (Nat.le_of_ble_eq_true rfl) rfl (Nat.le_of_ble_eq_true rfl) rfl rfl (Nat.le_of_ble_eq_true rfl) (Nat.le_of_ble_eq_true rfl) ?_
      refine sx_icmp_ge (p1 := 17) (tg := 44) dX8_oddsOfFeet_14 rfl rfl (by omega) (by omega) (fun q14 => ?_) (fun q14 => absurd q14 (by omega))
      refine sx_iload_n (p1 := 45) dX8_oddsOfFeet_44 rfl rfl ?_
      exact sx_iret dX8_oddsOfFeet_45 rfl (sx_ri (by first | rfl | omega) (by rfl))
    | succ n ih =>
      intro i hi 
      have e1 := mEnt_b hV (i : Int) j0
      refine sx_iload (p1 := 7) dX8_oddsOfFeet_5 rfl rfl ?_
      refine sx_aload_n (p1 := 8) dX8_oddsOfFeet_7 rfl rfl ?_
      refine sx_get (p1 := 11) dX8_oddsOfFeet_8 rfl fl_X8_19 (hp_c15 _) rfl ?_
      refine sx_callVr (p1 := 14) (As := []) (k1 := 0) (n1 := 0) dX8_oddsOfFeet_11 rfl rfl (c_X5_size) mt_X5_size ml_X8_27 (hp_c10 _) rfl rfl (Nat.le_of_ble_eq_true rfl) rfl (Nat.le_of_ble_eq_true rfl) rfl rfl (Nat.le_of_ble_eq_true rfl) (Nat.le_of_ble_eq_true rfl) ?_
      refine sx_icmp_ge (p1 := 17) (tg := 44) dX8_oddsOfFeet_14 rfl rfl (by omega) (by omega) (fun q14 => absurd q14 (by omega)) (fun q14 => ?_)
      refine sx_aload_n (p1 := 18) dX8_oddsOfFeet_17 rfl rfl ?_
      refine sx_iload (p1 := 20) dX8_oddsOfFeet_18 rfl rfl ?_
      refine sx_iload_n (p1 := 21) dX8_oddsOfFeet_20 rfl rfl ?_
      refine sx_callVr (p1 := 24) (As := [_, _]) (k1 := 0) (n1 := 0) dX8_oddsOfFeet_21 rfl rfl (c_X8_partEntered hV (by omega) hj) mt_X8_partEntered ml_X8_78 (hp_c15 _) rfl rfl (Nat.le_of_ble_eq_true rfl) rfl (Nat.le_of_ble_eq_true rfl) rfl rfl (Nat.le_of_ble_eq_true rfl) (Nat.le_of_ble_eq_true rfl) ?_
      refine sx_iload_n (p1 := 25) dX8_oddsOfFeet_24 rfl rfl ?_
      refine sx_icmp_ne (p1 := 28) (tg := 38) dX8_oddsOfFeet_25 rfl rfl (by omega) (by omega) (fun q25 => ?_) (fun q25 => ?_)
      · rw [← (show sumN (i + 1) (mFootT (cV S) i0 j0) = sumN i (mFootT (cV S) i0 j0) from sumN_0 (if_neg q25))]
        try rw [← e2]
        refine sx_iinc (lo1 := [some _, some _, some _, some _, some _]) (p1 := 41) dX8_oddsOfFeet_38 rfl (by decide) rfl rfl ?_
        refine sx_goto (p1 := 5) (tg := 5) dX8_oddsOfFeet_41 rfl rfl ?_
        exact ih (i + 1) (by omega)
      · have e2 : mFootT (cV S) i0 j0 i = mOdds (gL S i0) (mMore (cV S) i) := if_pos q25
        refine sx_iload_n (p1 := 29) dX8_oddsOfFeet_28 rfl rfl ?_
        refine sx_aload_n (p1 := 30) dX8_oddsOfFeet_29 rfl rfl ?_
        refine sx_iload (p1 := 32) dX8_oddsOfFeet_30 rfl rfl ?_
        refine sx_iload_n (p1 := 33) dX8_oddsOfFeet_32 rfl rfl ?_
        refine sx_callVr (p1 := 36) (As := [_, _]) (k1 := 0) (n1 := 0) dX8_oddsOfFeet_33 rfl rfl (c_X8_oddsOf hV (by omega) (by omega)) mt_X8_oddsOf ml_X8_81 (hp_c15 _) rfl rfl (Nat.le_of_ble_eq_true rfl) rfl (Nat.le_of_ble_eq_true rfl) rfl rfl (Nat.le_of_ble_eq_true rfl) (Nat.le_of_ble_eq_true rfl) ?_
        refine sx_iadd (p1 := 37) dX8_oddsOfFeet_36 rfl ?_
        refine sx_istore_n (lo1 := [some _, some _, some _, some _, some _]) (p1 := 38) dX8_oddsOfFeet_37 rfl (by decide) rfl ?_
        try rw [← e2]
        refine sx_iinc (lo1 := [some _, some _, some _, some _, some _]) (p1 := 41) dX8_oddsOfFeet_38 rfl (by decide) rfl rfl ?_
        refine sx_goto (p1 := 5) (tg := 5) dX8_oddsOfFeet_41 rfl rfl ?_
        exact ih (i + 1) (by omega)
  refine Ct.of false [some (.ref 15), some (vI i0), some (vI j0), none, none] (plainFor_of_name (by decide)) (fun h => by cases h) (Nat.le_of_ble_eq_true rfl) (fun _ => rfl) sx_isl ?_
  refine sx_iconst (p1 := 1) dX8_oddsOfFeet_0 rfl ?_
  refine sx_istore_n (lo1 := [some _, some _, some _, some _, none]) (p1 := 2) dX8_oddsOfFeet_1 rfl (by decide) rfl ?_
  refine sx_iconst (p1 := 3) dX8_oddsOfFeet_2 rfl ?_
  refine sx_istore (lo1 := [some _, some _, some _, some _, some _]) (p1 := 5) dX8_oddsOfFeet_3 rfl (by decide) rfl ?_
  exact key _ 0 (Nat.zero_add _)
set_option maxRecDepth 20000 in
theorem c_X8_byFeet {X : sx_X} {S : St} {mo ah pa he : Int} (hV : okV (cV S)) (hmo : -100 ≤ mo ∧ mo ≤ 100) (hah : -1000 ≤ ah ∧ ah ≤ 1000) (hpa : 1 ≤ pa ∧ pa ≤ 2) (hhe : -2147483648 ≤ he ∧ he ≤ 2147483647) : Ct X yX8_byFeet cX8_byFeet 9 (some .long) 2 0 0 [.ref 15, vI mo, vI ah, vI pa, vI he] (hp S) (sx_is (some (vJ (mFeet (cV S) mo ah pa he))) (hp S)) := by
  have b0 : 0 ≤ S.1 2 ∧ S.1 2 ≤ 16 := hV.1
  have b1 : 0 ≤ S.1 4 ∧ S.1 4 ≤ 6 := hV.2.1
  have b2 : 0 ≤ S.1 6 ∧ S.1 6 ≤ 99 := hV.2.2.1
  have b3 : 0 ≤ S.1 7 ∧ S.1 7 ≤ 1 := hV.2.2.2.1
  have b4 : 0 ≤ S.1 8 ∧ S.1 8 ≤ 16 := hV.2.2.2.2.1
  have b5 : 0 ≤ S.1 9 ∧ S.1 9 ≤ 999 := hV.2.2.2.2.2.1
  have b6 : 0 ≤ S.1 10 ∧ S.1 10 ≤ 1999 := hV.2.2.2.2.2.2.1
  have b7 : 0 ≤ S.1 11 ∧ S.1 11 ≤ 16 := hV.2.2.2.2.2.2.2.1
  have bK : ∀ q, 0 ≤ gK S q ∧ gK S q ≤ 3 := hV.2.2.2.2.2.2.2.2.1
  have bL : ∀ q, 0 ≤ gL S q ∧ gL S q ≤ 9 := hV.2.2.2.2.2.2.2.2.2.1
  have bW : ∀ q, 0 ≤ pW S q ∧ pW S q ≤ 9 := hV.2.2.2.2.2.2.2.2.2.2.1
  have bS : ∀ q, 0 ≤ pS S q ∧ pS S q ≤ 9 := hV.2.2.2.2.2.2.2.2.2.2.2.1
  have bH : ∀ q, 0 ≤ pH S q ∧ pH S q ≤ 1 := hV.2.2.2.2.2.2.2.2.2.2.2.2
  have hpp := mul_b b0 (show 0 ≤ pa ∧ pa ≤ 2 by omega)
  have key : ∀ (n i : Nat), i + n = (S.1 2).toNat → Rn X RX8 false cX8_byFeet 9 2 0 0 (some .long) 21 [some (.ref 15), some (vI mo), some (vI ah), some (vI pa), some (vI he), some (vJ (sumN i (mFeetT (cV S) mo ah pa he))), none, some (vI (i : Int)), none] [] (hp S) 0 0 (sx_is (some (vJ (mFeet (cV S) mo ah pa he))) (hp S)) := by
    intro n
    induction n with
    | zero =>
      intro i hi 
      rw [Nat.add_zero] at hi
      subst hi
      refine sx_iload (p1 := 23) dX8_byFeet_21 rfl rfl ?_
      refine sx_aload_n (p1 := 24) dX8_byFeet_23 rfl rfl ?_
      refine sx_get (p1 := 27) dX8_byFeet_24 rfl fl_X8_15 (hp_c15 _) rfl ?_
      refine sx_get (p1 := 30) dX8_byFeet_27 rfl fl_X8_33 (hp_c7 _) rfl ?_
      refine sx_icmp_ge (p1 := 33) (tg := 86) dX8_byFeet_30 rfl rfl (by omega) (by omega) (fun q30 => ?_) (fun q30 => absurd q30 (by omega))
      refine sx_lload (p1 := 88) dX8_byFeet_86 rfl rfl ?_
      exact sx_lret dX8_byFeet_88 rfl (sx_rj (by first | rfl | omega) (by rfl))
    | succ n ih =>
      intro i hi 
      have l1 := bL (i : Int)
      have o1 := mOdds_b (gL S (i : Int)) mo
      have p0 := mul_b (show 0 ≤ (i : Int) ∧ (i : Int) ≤ 16 by omega) (show 0 ≤ pa ∧ pa ≤ 2 by omega)
      have p1 := mPl_b hV ((i : Int) * pa - ah)
      have p2 := mHit_b hV (fr := (i : Int)) (to := mPl (cV S) ((i : Int) * pa - ah)) (hel := he) (by omega)
      have p3 := mul_b o1 p2
      refine sx_iload (p1 := 23) dX8_byFeet_21 rfl rfl ?_
      refine sx_aload_n (p1 := 24) dX8_byFeet_23 rfl rfl ?_
      refine sx_get (p1 := 27) dX8_byFeet_24 rfl fl_X8_15 (hp_c15 _) rfl ?_
      refine sx_get (p1 := 30) dX8_byFeet_27 rfl fl_X8_33 (hp_c7 _) rfl ?_
      refine sx_icmp_ge (p1 := 33) (tg := 86) dX8_byFeet_30 rfl rfl (by omega) (by omega) (fun q30 => absurd q30 (by omega)) (fun q30 => ?_)
      refine sx_aload_n (p1 := 34) dX8_byFeet_33 rfl rfl ?_
      refine sx_get (p1 := 37) dX8_byFeet_34 rfl fl_X8_15 (hp_c15 _) rfl ?_
      refine sx_iload (p1 := 39) dX8_byFeet_37 rfl rfl ?_
      refine sx_callVr (p1 := 42) (As := [_]) (k1 := 0) (n1 := 0) dX8_byFeet_39 rfl rfl (c_X0_loosenessAt (by omega) b0) mt_X0_loosenessAt ml_X8_69 (hp_c7 _) rfl rfl (Nat.le_of_ble_eq_true rfl) rfl (Nat.le_of_ble_eq_true rfl) rfl rfl (Nat.le_of_ble_eq_true rfl) (Nat.le_of_ble_eq_true rfl) ?_
      refine sx_iload_n (p1 := 43) dX8_byFeet_42 rfl rfl ?_
      refine sx_callSr (p1 := 46) (As := [_, _]) (k1 := 0) (n1 := 0) dX8_byFeet_43 rfl rfl (c_X8_odds (by omega) (by omega)) mt_X8_odds ml_X8_75 (Nat.le_of_ble_eq_true rfl) rfl (Nat.le_of_ble_eq_true rfl) rfl rfl (Nat.le_of_ble_eq_true rfl) (Nat.le_of_ble_eq_true rfl) ?_
      refine sx_istore (lo1 := [some _, some _, some _, some _, some _, some _, none, some _, some _]) (p1 := 48) dX8_byFeet_46 rfl (by decide) rfl ?_
      refine sx_iload (p1 := 50) dX8_byFeet_48 rfl rfl ?_
      refine sx_if_le (p1 := 53) (tg := 80) dX8_byFeet_50 rfl rfl (by omega) (fun q50 => ?_) (fun q50 => ?_)
      · rw [← (show sumN (i + 1) (mFeetT (cV S) mo ah pa he) = sumN i (mFeetT (cV S) mo ah pa he) from sumN_0 (by unfold mFeetT; rw [show mOdds ((cV S).2 1 (i : Int)) mo = 0 from (by show mOdds (gL S (i : Int)) mo = 0; omega), Int.zero_mul]))]
        refine sx_iinc (lo1 := [some _, some _, some _, some _, some _, some _, none, some _, some _]) (p1 := 83) dX8_byFeet_80 rfl (by decide) rfl rfl ?_
        refine sx_goto (p1 := 21) (tg := 21) dX8_byFeet_83 rfl rfl ?_
        refine sx_drop [true, true, true, true, true, true, false, true, false] (lo1 := [some _, some _, some _, some _, some _, some _, none, some _, none]) rfl ?_
        exact ih (i + 1) (by omega)
      · refine sx_lload (p1 := 55) dX8_byFeet_53 rfl rfl ?_
        refine sx_iload (p1 := 57) dX8_byFeet_55 rfl rfl ?_
        refine sx_aload_n (p1 := 58) dX8_byFeet_57 rfl rfl ?_
        refine sx_iload (p1 := 60) dX8_byFeet_58 rfl rfl ?_
        refine sx_aload_n (p1 := 61) dX8_byFeet_60 rfl rfl ?_
        refine sx_iload (p1 := 63) dX8_byFeet_61 rfl rfl ?_
        refine sx_iload_n (p1 := 64) dX8_byFeet_63 rfl rfl ?_
        refine sx_imul (p1 := 65) dX8_byFeet_64 rfl ?_
        refine sx_iload_n (p1 := 66) dX8_byFeet_65 rfl rfl ?_
        refine sx_isub (p1 := 67) dX8_byFeet_66 rfl ?_
        refine sx_callVr (p1 := 70) (As := [_]) (k1 := 0) (n1 := 0) dX8_byFeet_67 rfl rfl (c_X8_partAfter hV (by omega)) mt_X8_partAfter ml_X8_50 (hp_c15 _) rfl rfl (Nat.le_of_ble_eq_true rfl) rfl (Nat.le_of_ble_eq_true rfl) rfl rfl (Nat.le_of_ble_eq_true rfl) (Nat.le_of_ble_eq_true rfl) ?_
        refine sx_iload (p1 := 72) dX8_byFeet_70 rfl rfl ?_
        refine sx_callVr (p1 := 75) (As := [_, _, _]) (k1 := 0) (n1 := 0) dX8_byFeet_72 rfl rfl (c_X8_struck hV (by omega) (by omega) hhe) mt_X8_struck ml_X8_100 (hp_c15 _) rfl rfl (Nat.le_of_ble_eq_true rfl) rfl (Nat.le_of_ble_eq_true rfl) rfl rfl (Nat.le_of_ble_eq_true rfl) (Nat.le_of_ble_eq_true rfl) ?_
        refine sx_imul (p1 := 76) dX8_byFeet_75 rfl ?_
        refine sx_i2l (p1 := 77) dX8_byFeet_76 rfl (by omega) ?_
        refine sx_ladd (p1 := 78) dX8_byFeet_77 rfl ?_
        refine sx_lstore (lo1 := [some _, some _, some _, some _, some _, some _, none, some _, some _]) (p1 := 80) dX8_byFeet_78 rfl (by decide) rfl ?_
        refine sx_iinc (lo1 := [some _, some _, some _, some _, some _, some _, none, some _, some _]) (p1 := 83) dX8_byFeet_80 rfl (by decide) rfl rfl ?_
        refine sx_goto (p1 := 21) (tg := 21) dX8_byFeet_83 rfl rfl ?_
        refine sx_drop [true, true, true, true, true, true, false, true, false] (lo1 := [some _, some _, some _, some _, some _, some _, none, some _, none]) rfl ?_
        exact ih (i + 1) (by omega)
  refine Ct.of false [some (.ref 15), some (vI mo), some (vI ah), some (vI pa), some (vI he), none, none, none, none] (plainFor_of_name (by decide)) (fun h => by cases h) (Nat.le_of_ble_eq_true rfl) (fun _ => rfl) sx_isl ?_
  refine sx_iload_n (p1 := 1) dX8_byFeet_0 rfl rfl ?_
  refine sx_aload_n (p1 := 2) dX8_byFeet_1 rfl rfl ?_
  refine sx_get (p1 := 5) dX8_byFeet_2 rfl fl_X8_15 (hp_c15 _) rfl ?_
  refine sx_get (p1 := 8) dX8_byFeet_5 rfl fl_X8_33 (hp_c7 _) rfl ?_
  refine sx_iload_n (p1 := 9) dX8_byFeet_8 rfl rfl ?_
  refine sx_imul (p1 := 10) dX8_byFeet_9 rfl ?_
  refine sx_icmp_lt (p1 := 13) (tg := 15) dX8_byFeet_10 rfl rfl (by omega) (by omega) (fun q10 => ?_) (fun q10 => ?_)
  · refine sx_lconst (y := 0) (p1 := 16) dX8_byFeet_15 rfl (by decide) ?_
    refine sx_lstore (lo1 := [some _, some _, some _, some _, some _, some _, none, none, none]) (p1 := 18) dX8_byFeet_16 rfl (by decide) rfl ?_
    refine sx_iconst (p1 := 19) dX8_byFeet_18 rfl ?_
    refine sx_istore (lo1 := [some _, some _, some _, some _, some _, some _, none, some _, none]) (p1 := 21) dX8_byFeet_19 rfl (by decide) rfl ?_
    exact key _ 0 (Nat.zero_add _)
  · refine sx_lconst (y := 0) (p1 := 14) dX8_byFeet_13 rfl (by decide) ?_
    exact sx_lret dX8_byFeet_14 rfl (sx_rj (by exact (mFeet_out hV (by omega) q10).symm) (by rfl))
set_option maxRecDepth 20000 in
theorem c_X8_byWalker {X : sx_X} {S : St} {i j k : Int} (hV : okV (cV S)) (hi : 0 ≤ i ∧ i ≤ 5) (hj : 0 ≤ j ∧ j ≤ 5) (hk : -2147483648 ≤ k ∧ k ≤ 2147483647) : Ct X yX8_byWalker cX8_byWalker 4 (some .long) 3 0 0 [.ref 15, vI i, vI j, vI k] (hp S) (sx_is (some (vJ (mBy (cV S) i j (S.1 6) k))) (hp (S))) := by
  have b0 : 0 ≤ S.1 2 ∧ S.1 2 ≤ 16 := hV.1
  have b1 : 0 ≤ S.1 4 ∧ S.1 4 ≤ 6 := hV.2.1
  have b2 : 0 ≤ S.1 6 ∧ S.1 6 ≤ 99 := hV.2.2.1
  have b3 : 0 ≤ S.1 7 ∧ S.1 7 ≤ 1 := hV.2.2.2.1
  have b4 : 0 ≤ S.1 8 ∧ S.1 8 ≤ 16 := hV.2.2.2.2.1
  have b5 : 0 ≤ S.1 9 ∧ S.1 9 ≤ 999 := hV.2.2.2.2.2.1
  have b6 : 0 ≤ S.1 10 ∧ S.1 10 ≤ 1999 := hV.2.2.2.2.2.2.1
  have b7 : 0 ≤ S.1 11 ∧ S.1 11 ≤ 16 := hV.2.2.2.2.2.2.2.1
  have bK : ∀ q, 0 ≤ gK S q ∧ gK S q ≤ 3 := hV.2.2.2.2.2.2.2.2.1
  have bL : ∀ q, 0 ≤ gL S q ∧ gL S q ≤ 9 := hV.2.2.2.2.2.2.2.2.2.1
  have bW : ∀ q, 0 ≤ pW S q ∧ pW S q ≤ 9 := hV.2.2.2.2.2.2.2.2.2.2.1
  have bS : ∀ q, 0 ≤ pS S q ∧ pS S q ≤ 9 := hV.2.2.2.2.2.2.2.2.2.2.2.1
  have bH : ∀ q, 0 ≤ pH S q ∧ pH S q ≤ 1 := hV.2.2.2.2.2.2.2.2.2.2.2.2
  have h1 := mMore_b hV i
  have h2 : -495 ≤ (j - i) * S.1 6 ∧ (j - i) * S.1 6 ≤ 495 := by
    have := mul_b hi b2
    have := mul_b hj b2
    rw [Int.sub_mul]
    omega
  have h3 : mApart (cV S) i j = 0 ∨ mApart (cV S) i j = 1 := by unfold mApart; split <;> omega
  refine Ct.of false [some (.ref 15), some (vI i), some (vI j), some (vI k)] (plainFor_of_name (by decide)) (fun h => by cases h) (Nat.le_of_ble_eq_true rfl) (fun _ => rfl) sx_isl ?_
  refine sx_aload_n (p1 := 1) dX8_byWalker_0 rfl rfl ?_
  refine sx_iload_n (p1 := 2) dX8_byWalker_1 rfl rfl ?_
  refine sx_iload_n (p1 := 3) dX8_byWalker_2 rfl rfl ?_
  refine sx_callVr (p1 := 6) (As := [_, _]) (k1 := 0) (n1 := 0) dX8_byWalker_3 rfl rfl (c_X8_areApart hV (by omega) (by omega)) mt_X8_areApart ml_X8_104 (hp_c15 _) rfl rfl (Nat.le_of_ble_eq_true rfl) rfl (Nat.le_of_ble_eq_true rfl) rfl rfl (Nat.le_of_ble_eq_true rfl) (Nat.le_of_ble_eq_true rfl) ?_
  refine sx_if_eq (p1 := 9) (tg := 11) dX8_byWalker_6 rfl rfl (by omega) (fun q6 => ?_) (fun q6 => ?_)
  · refine sx_aload_n (p1 := 12) dX8_byWalker_11 rfl rfl ?_
    refine sx_aload_n (p1 := 13) dX8_byWalker_12 rfl rfl ?_
    refine sx_get (p1 := 16) dX8_byWalker_13 rfl fl_X8_19 (hp_c15 _) rfl ?_
    refine sx_iload_n (p1 := 17) dX8_byWalker_16 rfl rfl ?_
    refine sx_callVr (p1 := 20) (As := [_]) (k1 := 0) (n1 := 0) dX8_byWalker_17 rfl rfl (c_X5_oddsMore (by omega) b1 bW bS) mt_X5_oddsMore ml_X8_72 (hp_c10 _) rfl rfl (Nat.le_of_ble_eq_true rfl) rfl (Nat.le_of_ble_eq_true rfl) rfl rfl (Nat.le_of_ble_eq_true rfl) (Nat.le_of_ble_eq_true rfl) ?_
    refine sx_iload_n (p1 := 21) dX8_byWalker_20 rfl rfl ?_
    refine sx_iload_n (p1 := 22) dX8_byWalker_21 rfl rfl ?_
    refine sx_isub (p1 := 23) dX8_byWalker_22 rfl ?_
    refine sx_aload_n (p1 := 24) dX8_byWalker_23 rfl rfl ?_
    refine sx_get (p1 := 27) dX8_byWalker_24 rfl fl_X8_23 (hp_c15 _) rfl ?_
    refine sx_get (p1 := 30) dX8_byWalker_27 rfl fl_X8_39 (hp_c14 _) rfl ?_
    refine sx_imul (p1 := 31) dX8_byWalker_30 rfl ?_
    refine sx_aload_n (p1 := 32) dX8_byWalker_31 rfl rfl ?_
    refine sx_get (p1 := 35) dX8_byWalker_32 rfl fl_X8_23 (hp_c15 _) rfl ?_
    refine sx_callVr (p1 := 38) (As := []) (k1 := 0) (n1 := 0) dX8_byWalker_35 rfl rfl (c_X6_pace b3) mt_X6_pace ml_X8_44 (hp_c14 _) rfl rfl (Nat.le_of_ble_eq_true rfl) rfl (Nat.le_of_ble_eq_true rfl) rfl rfl (Nat.le_of_ble_eq_true rfl) (Nat.le_of_ble_eq_true rfl) ?_
    refine sx_iload_n (p1 := 39) dX8_byWalker_38 rfl rfl ?_
    refine sx_callVr (p1 := 42) (As := [_, _, _, _]) (k1 := 0) (n1 := 0) dX8_byWalker_39 rfl rfl (c_X8_byFeet hV (by omega) (by omega) (by omega) hk) mt_X8_byFeet ml_X8_108 (hp_c15 _) rfl rfl (Nat.le_of_ble_eq_true rfl) rfl (Nat.le_of_ble_eq_true rfl) rfl rfl (Nat.le_of_ble_eq_true rfl) (Nat.le_of_ble_eq_true rfl) ?_
    exact sx_lret dX8_byWalker_42 rfl (sx_rj (by unfold mBy; first | (rw [if_pos (by omega)]; done) | (rw [if_neg (by omega)]; rfl)) (by rfl))
  · refine sx_lconst (y := 0) (p1 := 10) dX8_byWalker_9 rfl (by decide) ?_
    exact sx_lret dX8_byWalker_10 rfl (sx_rj (by unfold mBy; first | (rw [if_pos (by omega)]; done) | (rw [if_neg (by omega)]; rfl)) (by rfl))
