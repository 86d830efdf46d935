set_option maxRecDepth 20000 in
theorem c_X11_within {X : sx_X} {S : St} {v a b : Int} (hv : -2147483648 ≤ v ∧ v ≤ 2147483647) (ha : -2147483648 ≤ a ∧ a ≤ 2147483647) (hb : -2147483648 ≤ b ∧ b ≤ 2147483647) : Ct X yX11_within cX11_within 3 (some .boolean) 0 0 0 [vI v, vI a, vI b] (hp S) (sx_is (some (vI (if a ≤ v ∧ v ≤ b then 1 else 0))) (hp (S))) := by
  refine Ct.of false [some (vI v), some (vI a), some (vI b)] (plainFor_of_name (by decide)) (fun h => by cases h) (Nat.le_of_ble_eq_true rfl) (fun _ => rfl) sx_isl ?_
  refine sx_iload_n (p1 := 1) dX11_within_0 rfl rfl ?_
  refine sx_iload_n (p1 := 2) dX11_within_1 rfl rfl ?_
  refine sx_icmp_lt (p1 := 5) (tg := 14) dX11_within_2 rfl rfl (by omega) (by omega) (fun q2 => ?_) (fun q2 => ?_)
  · refine sx_iconst (p1 := 15) dX11_within_14 rfl ?_
    exact sx_zret dX11_within_15 rfl (by omega) (sx_ri (by simp; omega) (by rfl))
  · refine sx_iload_n (p1 := 6) dX11_within_5 rfl rfl ?_
    refine sx_iload_n (p1 := 7) dX11_within_6 rfl rfl ?_
    refine sx_icmp_gt (p1 := 10) (tg := 14) dX11_within_7 rfl rfl (by omega) (by omega) (fun q7 => ?_) (fun q7 => ?_)
    · refine sx_iconst (p1 := 15) dX11_within_14 rfl ?_
      exact sx_zret dX11_within_15 rfl (by omega) (sx_ri (by simp; omega) (by rfl))
    · refine sx_iconst (p1 := 11) dX11_within_10 rfl ?_
      refine sx_goto (p1 := 15) (tg := 15) dX11_within_11 rfl rfl ?_
      exact sx_zret dX11_within_15 rfl (by omega) (sx_ri (by simp; omega) (by rfl))
set_option maxRecDepth 20000 in
theorem c_J9_max_7cf53 {X : sx_X} {S : St} {a b : Int} (ha : -2147483648 ≤ a ∧ a ≤ 2147483647) (hb : -2147483648 ≤ b ∧ b ≤ 2147483647) : Ct X yJ9_max_7cf53 cJ9_max_7cf53 2 (some .int) 0 0 0 [vI a, vI b] (hp S) (sx_is (some (vI (max a b))) (hp (S))) := by
  refine Ct.of false [some (vI a), some (vI b)] (by decide +kernel) (fun h => by cases h) (Nat.le_of_ble_eq_true rfl) (fun _ => rfl) sx_isl ?_
  refine sx_iload_n (p1 := 1) dJ9_max_7cf53_0 rfl rfl ?_
  refine sx_iload_n (p1 := 2) dJ9_max_7cf53_1 rfl rfl ?_
  refine sx_icmp_lt (p1 := 5) (tg := 9) dJ9_max_7cf53_2 rfl rfl (by omega) (by omega) (fun q2 => ?_) (fun q2 => ?_)
  · refine sx_iload_n (p1 := 10) dJ9_max_7cf53_9 rfl rfl ?_
    exact sx_iret dJ9_max_7cf53_10 rfl (sx_ri (by omega) (by rfl))
  · refine sx_iload_n (p1 := 6) dJ9_max_7cf53_5 rfl rfl ?_
    refine sx_goto (p1 := 10) (tg := 10) dJ9_max_7cf53_6 rfl rfl ?_
    exact sx_iret dJ9_max_7cf53_10 rfl (sx_ri (by omega) (by rfl))
set_option maxRecDepth 20000 in
theorem c_J9_min_7cf53 {X : sx_X} {S : St} {a b : Int} (ha : -2147483648 ≤ a ∧ a ≤ 2147483647) (hb : -2147483648 ≤ b ∧ b ≤ 2147483647) : Ct X yJ9_min_7cf53 cJ9_min_7cf53 2 (some .int) 0 0 0 [vI a, vI b] (hp S) (sx_is (some (vI (min a b))) (hp (S))) := by
  refine Ct.of false [some (vI a), some (vI b)] (by decide +kernel) (fun h => by cases h) (Nat.le_of_ble_eq_true rfl) (fun _ => rfl) sx_isl ?_
  refine sx_iload_n (p1 := 1) dJ9_min_7cf53_0 rfl rfl ?_
  refine sx_iload_n (p1 := 2) dJ9_min_7cf53_1 rfl rfl ?_
  refine sx_icmp_gt (p1 := 5) (tg := 9) dJ9_min_7cf53_2 rfl rfl (by omega) (by omega) (fun q2 => ?_) (fun q2 => ?_)
  · refine sx_iload_n (p1 := 10) dJ9_min_7cf53_9 rfl rfl ?_
    exact sx_iret dJ9_min_7cf53_10 rfl (sx_ri (by omega) (by rfl))
  · refine sx_iload_n (p1 := 6) dJ9_min_7cf53_5 rfl rfl ?_
    refine sx_goto (p1 := 10) (tg := 10) dJ9_min_7cf53_6 rfl rfl ?_
    exact sx_iret dJ9_min_7cf53_10 rfl (sx_ri (by omega) (by rfl))
set_option maxRecDepth 20000 in
theorem c_X11_mix {X : sx_X} {S : St} {a b : Int}  : Ct X yX11_mix cX11_mix 4 (some .long) 0 0 0 [vJ a, vJ b] (hp S) (sx_is (some (vJ (31 * a + b))) (hp (S))) := by
  refine Ct.of false [some (vJ a), none, some (vJ b), none] (plainFor_of_name (by decide)) (fun h => by cases h) (Nat.le_of_ble_eq_true rfl) (fun _ => rfl) sx_isl ?_
  refine sx_ldc2 (z := 31) (p1 := 3) dX11_mix_0 rfl kc_X11_360 (by decide) ?_
  refine sx_lload_n (p1 := 4) dX11_mix_3 rfl rfl ?_
  refine sx_lmul (p1 := 5) dX11_mix_4 rfl ?_
  refine sx_lload_n (p1 := 6) dX11_mix_5 rfl rfl ?_
  refine sx_ladd (p1 := 7) dX11_mix_6 rfl ?_
  exact sx_lret dX11_mix_7 rfl (sx_rj (by first | rfl | omega) (by rfl))
set_option maxRecDepth 20000 in
theorem c_X11_refusal {X : sx_X} {S : St} {a : Int} (ha : -2147483648 ≤ a ∧ a ≤ 2147483647) : Ct X yX11_refusal cX11_refusal 1 (some .long) 0 0 0 [vI a] (hp S) (sx_is (some (vJ (-9223372036854775808 - a))) (hp (S))) := by
  refine Ct.of false [some (vI a)] (plainFor_of_name (by decide)) (fun h => by cases h) (Nat.le_of_ble_eq_true rfl) (fun _ => rfl) sx_isl ?_
  refine sx_ldc2 (z := -9223372036854775808) (p1 := 3) dX11_refusal_0 rfl kc_X11_388 (by decide) ?_
  refine sx_iload_n (p1 := 4) dX11_refusal_3 rfl rfl ?_
  refine sx_i2l (p1 := 5) dX11_refusal_4 rfl (by omega) ?_
  refine sx_lsub (p1 := 6) dX11_refusal_5 rfl ?_
  exact sx_lret dX11_refusal_6 rfl (sx_rj (by first | rfl | omega) (by rfl))
set_option maxRecDepth 20000 in
theorem c_X0_faultPlace {X : sx_X} {S : St}  : Ct X yX0_faultPlace cX0_faultPlace 1 (some .int) 0 0 0 [.ref 7] (hp S) (sx_is (some (vI (S.1 3))) (hp (S))) := by
  refine Ct.of false [some (.ref 7)] (plainFor_of_name (by decide)) (fun h => by cases h) (Nat.le_of_ble_eq_true rfl) (fun _ => rfl) sx_isl ?_
  refine sx_aload_n (p1 := 1) dX0_faultPlace_0 rfl rfl ?_
  refine sx_get (p1 := 4) dX0_faultPlace_1 rfl fl_X0_18 (hp_c7 _) rfl ?_
  exact sx_iret dX0_faultPlace_4 rfl (sx_ri (by first | rfl | omega) (by rfl))
set_option maxRecDepth 20000 in
theorem c_X0_has {X : sx_X} {S : St} {i : Int} (hi : -2147483648 ≤ i ∧ i ≤ 2147483647) (b0 : 0 ≤ S.1 2 ∧ S.1 2 ≤ 16) : Ct X yX0_has cX0_has 2 (some .boolean) 0 0 0 [.ref 7, vI i] (hp S) (sx_is (some (vI (if 0 ≤ i ∧ i < S.1 2 then 1 else 0))) (hp (S))) := by
  refine Ct.of false [some (.ref 7), some (vI i)] (plainFor_of_name (by decide)) (fun h => by cases h) (Nat.le_of_ble_eq_true rfl) (fun _ => rfl) sx_isl ?_
  refine sx_iload_n (p1 := 1) dX0_has_0 rfl rfl ?_
  refine sx_if_lt (p1 := 4) (tg := 16) dX0_has_1 rfl rfl (by omega) (fun q1 => ?_) (fun q1 => ?_)
  · refine sx_iconst (p1 := 17) dX0_has_16 rfl ?_
    exact sx_zret dX0_has_17 rfl (by omega) (sx_ri (by simp; omega) (by rfl))
  · refine sx_iload_n (p1 := 5) dX0_has_4 rfl rfl ?_
    refine sx_aload_n (p1 := 6) dX0_has_5 rfl rfl ?_
    refine sx_get (p1 := 9) dX0_has_6 rfl fl_X0_22 (hp_c7 _) rfl ?_
    refine sx_icmp_ge (p1 := 12) (tg := 16) dX0_has_9 rfl rfl (by omega) (by omega) (fun q9 => ?_) (fun q9 => ?_)
    · refine sx_iconst (p1 := 17) dX0_has_16 rfl ?_
      exact sx_zret dX0_has_17 rfl (by omega) (sx_ri (by simp; omega) (by rfl))
    · refine sx_iconst (p1 := 13) dX0_has_12 rfl ?_
      refine sx_goto (p1 := 17) (tg := 17) dX0_has_13 rfl rfl ?_
      exact sx_zret dX0_has_17 rfl (by omega) (sx_ri (by simp; omega) (by rfl))
set_option maxRecDepth 20000 in
theorem c_X0_kindAt {X : sx_X} {S : St} {i : Int} (hi : -2147483648 ≤ i ∧ i ≤ 2147483647) (b0 : 0 ≤ S.1 2 ∧ S.1 2 ≤ 16) : Ct X yX0_kindAt cX0_kindAt 2 (some .int) 0 0 0 [.ref 7, vI i] (hp S) (sx_is (some (vI (gK S i))) (hp (S))) := by
  refine Ct.of false [some (.ref 7), some (vI i)] (plainFor_of_name (by decide)) (fun h => by cases h) (Nat.le_of_ble_eq_true rfl) (fun _ => rfl) sx_isl ?_
  refine sx_iload_n (p1 := 1) dX0_kindAt_0 rfl rfl ?_
  refine sx_if_lt (p1 := 4) (tg := 30) dX0_kindAt_1 rfl rfl (by omega) (fun q1 => ?_) (fun q1 => ?_)
  · refine sx_iconst (p1 := 31) dX0_kindAt_30 rfl ?_
    exact sx_iret dX0_kindAt_31 rfl (sx_ri (by unfold gK; split <;> omega) (by rfl))
  · refine sx_iload_n (p1 := 5) dX0_kindAt_4 rfl rfl ?_
    refine sx_aload_n (p1 := 6) dX0_kindAt_5 rfl rfl ?_
    refine sx_get (p1 := 9) dX0_kindAt_6 rfl fl_X0_22 (hp_c7 _) rfl ?_
    refine sx_icmp_ge (p1 := 12) (tg := 30) dX0_kindAt_9 rfl rfl (by omega) (by omega) (fun q9 => ?_) (fun q9 => ?_)
    · refine sx_iconst (p1 := 31) dX0_kindAt_30 rfl ?_
      exact sx_iret dX0_kindAt_31 rfl (sx_ri (by unfold gK; split <;> omega) (by rfl))
    · refine sx_iload_n (p1 := 13) dX0_kindAt_12 rfl rfl ?_
      refine sx_aload_n (p1 := 14) dX0_kindAt_13 rfl rfl ?_
      refine sx_get (p1 := 17) dX0_kindAt_14 rfl fl_X0_9 (hp_c7 _) rfl ?_
      refine sx_alen (p1 := 18) dX0_kindAt_17 rfl (hp_c8 _) (fun _ => rfl) ?_
      refine sx_icmp_ge (p1 := 21) (tg := 30) dX0_kindAt_18 rfl rfl (by omega) (by omega) (fun q18 => ?_) (fun q18 => ?_)
      · refine sx_iconst (p1 := 31) dX0_kindAt_30 rfl ?_
        exact sx_iret dX0_kindAt_31 rfl (sx_ri (by unfold gK; split <;> omega) (by rfl))
      · refine sx_aload_n (p1 := 22) dX0_kindAt_21 rfl rfl ?_
        refine sx_get (p1 := 25) dX0_kindAt_22 rfl fl_X0_9 (hp_c7 _) rfl ?_
        refine sx_iload_n (p1 := 26) dX0_kindAt_25 rfl rfl ?_
        refine sx_iald (p1 := 27) dX0_kindAt_26 rfl (hp_c8 _) (by omega) (by decide) ?_
        refine sx_goto (p1 := 31) (tg := 31) dX0_kindAt_27 rfl rfl ?_
        exact sx_iret dX0_kindAt_31 rfl (sx_ri (by unfold gK; split <;> omega) (by rfl))
set_option maxRecDepth 20000 in
theorem c_X0_loosenessAt {X : sx_X} {S : St} {i : Int} (hi : -2147483648 ≤ i ∧ i ≤ 2147483647) (b0 : 0 ≤ S.1 2 ∧ S.1 2 ≤ 16) : Ct X yX0_loosenessAt cX0_loosenessAt 2 (some .int) 0 0 0 [.ref 7, vI i] (hp S) (sx_is (some (vI (gL S i))) (hp (S))) := by
  refine Ct.of false [some (.ref 7), some (vI i)] (plainFor_of_name (by decide)) (fun h => by cases h) (Nat.le_of_ble_eq_true rfl) (fun _ => rfl) sx_isl ?_
  refine sx_iload_n (p1 := 1) dX0_loosenessAt_0 rfl rfl ?_
  refine sx_if_lt (p1 := 4) (tg := 30) dX0_loosenessAt_1 rfl rfl (by omega) (fun q1 => ?_) (fun q1 => ?_)
  · refine sx_iconst (p1 := 31) dX0_loosenessAt_30 rfl ?_
    exact sx_iret dX0_loosenessAt_31 rfl (sx_ri (by unfold gL; split <;> omega) (by rfl))
  · refine sx_iload_n (p1 := 5) dX0_loosenessAt_4 rfl rfl ?_
    refine sx_aload_n (p1 := 6) dX0_loosenessAt_5 rfl rfl ?_
    refine sx_get (p1 := 9) dX0_loosenessAt_6 rfl fl_X0_22 (hp_c7 _) rfl ?_
    refine sx_icmp_ge (p1 := 12) (tg := 30) dX0_loosenessAt_9 rfl rfl (by omega) (by omega) (fun q9 => ?_) (fun q9 => ?_)
    · refine sx_iconst (p1 := 31) dX0_loosenessAt_30 rfl ?_
      exact sx_iret dX0_loosenessAt_31 rfl (sx_ri (by unfold gL; split <;> omega) (by rfl))
    · refine sx_iload_n (p1 := 13) dX0_loosenessAt_12 rfl rfl ?_
      refine sx_aload_n (p1 := 14) dX0_loosenessAt_13 rfl rfl ?_
      refine sx_get (p1 := 17) dX0_loosenessAt_14 rfl fl_X0_15 (hp_c7 _) rfl ?_
      refine sx_alen (p1 := 18) dX0_loosenessAt_17 rfl (hp_c9 _) (fun _ => rfl) ?_
      refine sx_icmp_ge (p1 := 21) (tg := 30) dX0_loosenessAt_18 rfl rfl (by omega) (by omega) (fun q18 => ?_) (fun q18 => ?_)
      · refine sx_iconst (p1 := 31) dX0_loosenessAt_30 rfl ?_
        exact sx_iret dX0_loosenessAt_31 rfl (sx_ri (by unfold gL; split <;> omega) (by rfl))
      · refine sx_aload_n (p1 := 22) dX0_loosenessAt_21 rfl rfl ?_
        refine sx_get (p1 := 25) dX0_loosenessAt_22 rfl fl_X0_15 (hp_c7 _) rfl ?_
        refine sx_iload_n (p1 := 26) dX0_loosenessAt_25 rfl rfl ?_
        refine sx_iald (p1 := 27) dX0_loosenessAt_26 rfl (hp_c9 _) (by omega) (by decide) ?_
        refine sx_goto (p1 := 31) (tg := 31) dX0_loosenessAt_27 rfl rfl ?_
        exact sx_iret dX0_loosenessAt_31 rfl (sx_ri (by unfold gL; split <;> omega) (by rfl))
set_option maxRecDepth 20000 in
theorem c_X0_isLoose {X : sx_X} {S : St} {i : Int} (hi : -2147483648 ≤ i ∧ i ≤ 2147483647) (b0 : 0 ≤ S.1 2 ∧ S.1 2 ≤ 16) (bL : ∀ q, 0 ≤ gL S q ∧ gL S q ≤ 9) : Ct X yX0_isLoose cX0_isLoose 2 (some .boolean) 1 0 0 [.ref 7, vI i] (hp S) (sx_is (some (vI (if 0 < gL S i then 1 else 0))) (hp (S))) := by
  have bl := bL i
  refine Ct.of false [some (.ref 7), some (vI i)] (plainFor_of_name (by decide)) (fun h => by cases h) (Nat.le_of_ble_eq_true rfl) (fun _ => rfl) sx_isl ?_
  refine sx_aload_n (p1 := 1) dX0_isLoose_0 rfl rfl ?_
  refine sx_iload_n (p1 := 2) dX0_isLoose_1 rfl rfl ?_
  refine sx_callVr (p1 := 5) (As := [_]) (k1 := 0) (n1 := 0) dX0_isLoose_2 rfl rfl (c_X0_loosenessAt (by omega) b0) mt_X0_loosenessAt ml_X0_25 (hp_c7 _) rfl rfl (Nat.le_of_ble_eq_true rfl) rfl (Nat.le_of_ble_eq_true rfl) rfl rfl (Nat.le_of_ble_eq_true rfl) (Nat.le_of_ble_eq_true rfl) ?_
  refine sx_if_le (p1 := 8) (tg := 12) dX0_isLoose_5 rfl rfl (by omega) (fun q5 => ?_) (fun q5 => ?_)
  · refine sx_iconst (p1 := 13) dX0_isLoose_12 rfl ?_
    exact sx_zret dX0_isLoose_13 rfl (by omega) (sx_ri (by simp; omega) (by rfl))
  · refine sx_iconst (p1 := 9) dX0_isLoose_8 rfl ?_
    refine sx_goto (p1 := 13) (tg := 13) dX0_isLoose_9 rfl rfl ?_
    exact sx_zret dX0_isLoose_13 rfl (by omega) (sx_ri (by simp; omega) (by rfl))
set_option maxRecDepth 20000 in
theorem c_X0_loosenessInAll {X : sx_X} {S : St} (b0 : 0 ≤ S.1 2 ∧ S.1 2 ≤ 16) (bL : ∀ q, 0 ≤ gL S q ∧ gL S q ≤ 9) : Ct X yX0_loosenessInAll cX0_loosenessInAll 3 (some .int) 1 0 0 [.ref 7] (hp S) (sx_is (some (vI (sumN (S.1 2).toNat (fun q => gL S q)))) (hp S)) := by
  have key : ∀ (n i : Nat), i + n = (S.1 2).toNat → Rn X RX0 false cX0_loosenessInAll 3 1 0 0 (some .int) 4 [some (.ref 7), some (vI (sumN i (fun q => gL S q))), some (vI (i : Int))] [] (hp S) 0 0 (sx_is (some (vI (sumN (S.1 2).toNat (fun q => gL S q)))) (hp S)) := by
    intro n
    induction n with
    | zero =>
      intro i hi
      rw [Nat.add_zero] at hi
      subst hi
      refine sx_iload_n (p1 := 5) dX0_loosenessInAll_4 rfl rfl ?_
      refine sx_aload_n (p1 := 6) dX0_loosenessInAll_5 rfl rfl ?_
      refine sx_get (p1 := 9) dX0_loosenessInAll_6 rfl fl_X0_22 (hp_c7 _) rfl ?_
      refine sx_icmp_ge (p1 := 12) (tg := 26) dX0_loosenessInAll_9 rfl rfl (by omega) (by omega) (fun q9 => ?_) (fun q9 => absurd q9 (by omega))
      refine sx_iload_n (p1 := 27) dX0_loosenessInAll_26 rfl rfl ?_
      exact sx_iret dX0_loosenessInAll_27 rfl (sx_ri (by first | rfl | omega) (by rfl))
    | succ n ih =>
      intro i hi
      refine sx_iload_n (p1 := 5) dX0_loosenessInAll_4 rfl rfl ?_
      refine sx_aload_n (p1 := 6) dX0_loosenessInAll_5 rfl rfl ?_
      refine sx_get (p1 := 9) dX0_loosenessInAll_6 rfl fl_X0_22 (hp_c7 _) rfl ?_
      refine sx_icmp_ge (p1 := 12) (tg := 26) dX0_loosenessInAll_9 rfl rfl (by omega) (by omega) (fun q9 => absurd q9 (by omega)) (fun q9 => ?_)
      refine sx_iload_n (p1 := 13) dX0_loosenessInAll_12 rfl rfl ?_
      refine sx_aload_n (p1 := 14) dX0_loosenessInAll_13 rfl rfl ?_
      refine sx_iload_n (p1 := 15) dX0_loosenessInAll_14 rfl rfl ?_
      refine sx_callVr (p1 := 18) (As := [_]) (k1 := 0) (n1 := 0) dX0_loosenessInAll_15 rfl rfl (c_X0_loosenessAt (by omega) b0) mt_X0_loosenessAt ml_X0_25 (hp_c7 _) rfl rfl (Nat.le_of_ble_eq_true rfl) rfl (Nat.le_of_ble_eq_true rfl) rfl rfl (Nat.le_of_ble_eq_true rfl) (Nat.le_of_ble_eq_true rfl) ?_
      refine sx_iadd (p1 := 19) dX0_loosenessInAll_18 rfl ?_
      refine sx_istore_n (lo1 := [some _, some _, some _]) (p1 := 20) dX0_loosenessInAll_19 rfl (by decide) rfl ?_
      refine sx_iinc (lo1 := [some _, some _, some _]) (p1 := 23) dX0_loosenessInAll_20 rfl (by decide) rfl rfl ?_
      refine sx_goto (p1 := 4) (tg := 4) dX0_loosenessInAll_23 rfl rfl ?_
      exact ih (i + 1) (by omega)
  refine Ct.of false [some (.ref 7), none, none] (plainFor_of_name (by decide)) (fun h => by cases h) (Nat.le_of_ble_eq_true rfl) (fun _ => rfl) sx_isl ?_
  refine sx_iconst (p1 := 1) dX0_loosenessInAll_0 rfl ?_
  refine sx_istore_n (lo1 := [some _, some _, none]) (p1 := 2) dX0_loosenessInAll_1 rfl (by decide) rfl ?_
  refine sx_iconst (p1 := 3) dX0_loosenessInAll_2 rfl ?_
  refine sx_istore_n (lo1 := [some _, some _, some _]) (p1 := 4) dX0_loosenessInAll_3 rfl (by decide) rfl ?_
  exact key _ 0 (Nat.zero_add _)
set_option maxRecDepth 20000 in
theorem c_X5_size {X : sx_X} {S : St}  : Ct X yX5_size cX5_size 1 (some .int) 0 0 0 [.ref 10] (hp S) (sx_is (some (vI (S.1 4))) (hp (S))) := by
  refine Ct.of false [some (.ref 10)] (plainFor_of_name (by decide)) (fun h => by cases h) (Nat.le_of_ble_eq_true rfl) (fun _ => rfl) sx_isl ?_
  refine sx_aload_n (p1 := 1) dX5_size_0 rfl rfl ?_
  refine sx_get (p1 := 4) dX5_size_1 rfl fl_X5_25 (hp_c10 _) rfl ?_
  exact sx_iret dX5_size_4 rfl (sx_ri (by first | rfl | omega) (by rfl))
set_option maxRecDepth 20000 in
theorem c_X5_faultPlace {X : sx_X} {S : St}  : Ct X yX5_faultPlace cX5_faultPlace 1 (some .int) 0 0 0 [.ref 10] (hp S) (sx_is (some (vI (S.1 5))) (hp (S))) := by
  refine Ct.of false [some (.ref 10)] (plainFor_of_name (by decide)) (fun h => by cases h) (Nat.le_of_ble_eq_true rfl) (fun _ => rfl) sx_isl ?_
  refine sx_aload_n (p1 := 1) dX5_faultPlace_0 rfl rfl ?_
  refine sx_get (p1 := 4) dX5_faultPlace_1 rfl fl_X5_21 (hp_c10 _) rfl ?_
  exact sx_iret dX5_faultPlace_4 rfl (sx_ri (by first | rfl | omega) (by rfl))
set_option maxRecDepth 20000 in
theorem c_X5_has {X : sx_X} {S : St} {i : Int} (hi : -2147483648 ≤ i ∧ i ≤ 2147483647) (b1 : 0 ≤ S.1 4 ∧ S.1 4 ≤ 6) : Ct X yX5_has cX5_has 2 (some .boolean) 0 0 0 [.ref 10, vI i] (hp S) (sx_is (some (vI (if 0 ≤ i ∧ i < S.1 4 then 1 else 0))) (hp (S))) := by
  refine Ct.of false [some (.ref 10), some (vI i)] (plainFor_of_name (by decide)) (fun h => by cases h) (Nat.le_of_ble_eq_true rfl) (fun _ => rfl) sx_isl ?_
  refine sx_iload_n (p1 := 1) dX5_has_0 rfl rfl ?_
  refine sx_if_lt (p1 := 4) (tg := 16) dX5_has_1 rfl rfl (by omega) (fun q1 => ?_) (fun q1 => ?_)
  · refine sx_iconst (p1 := 17) dX5_has_16 rfl ?_
    exact sx_zret dX5_has_17 rfl (by omega) (sx_ri (by simp; omega) (by rfl))
  · refine sx_iload_n (p1 := 5) dX5_has_4 rfl rfl ?_
    refine sx_aload_n (p1 := 6) dX5_has_5 rfl rfl ?_
    refine sx_get (p1 := 9) dX5_has_6 rfl fl_X5_25 (hp_c10 _) rfl ?_
    refine sx_icmp_ge (p1 := 12) (tg := 16) dX5_has_9 rfl rfl (by omega) (by omega) (fun q9 => ?_) (fun q9 => ?_)
    · refine sx_iconst (p1 := 17) dX5_has_16 rfl ?_
      exact sx_zret dX5_has_17 rfl (by omega) (sx_ri (by simp; omega) (by rfl))
    · refine sx_iconst (p1 := 13) dX5_has_12 rfl ?_
      refine sx_goto (p1 := 17) (tg := 17) dX5_has_13 rfl rfl ?_
      exact sx_zret dX5_has_17 rfl (by omega) (sx_ri (by simp; omega) (by rfl))
set_option maxRecDepth 20000 in
theorem c_X5_weightOf {X : sx_X} {S : St} {i : Int} (hi : -2147483648 ≤ i ∧ i ≤ 2147483647) (b1 : 0 ≤ S.1 4 ∧ S.1 4 ≤ 6) : Ct X yX5_weightOf cX5_weightOf 2 (some .int) 0 0 0 [.ref 10, vI i] (hp S) (sx_is (some (vI (pW S i))) (hp (S))) := by
  refine Ct.of false [some (.ref 10), some (vI i)] (plainFor_of_name (by decide)) (fun h => by cases h) (Nat.le_of_ble_eq_true rfl) (fun _ => rfl) sx_isl ?_
  refine sx_iload_n (p1 := 1) dX5_weightOf_0 rfl rfl ?_
  refine sx_if_lt (p1 := 4) (tg := 30) dX5_weightOf_1 rfl rfl (by omega) (fun q1 => ?_) (fun q1 => ?_)
  · refine sx_iconst (p1 := 31) dX5_weightOf_30 rfl ?_
    exact sx_iret dX5_weightOf_31 rfl (sx_ri (by unfold pW; split <;> omega) (by rfl))
  · refine sx_iload_n (p1 := 5) dX5_weightOf_4 rfl rfl ?_
    refine sx_aload_n (p1 := 6) dX5_weightOf_5 rfl rfl ?_
    refine sx_get (p1 := 9) dX5_weightOf_6 rfl fl_X5_25 (hp_c10 _) rfl ?_
    refine sx_icmp_ge (p1 := 12) (tg := 30) dX5_weightOf_9 rfl rfl (by omega) (by omega) (fun q9 => ?_) (fun q9 => ?_)
    · refine sx_iconst (p1 := 31) dX5_weightOf_30 rfl ?_
      exact sx_iret dX5_weightOf_31 rfl (sx_ri (by unfold pW; split <;> omega) (by rfl))
    · refine sx_iload_n (p1 := 13) dX5_weightOf_12 rfl rfl ?_
      refine sx_aload_n (p1 := 14) dX5_weightOf_13 rfl rfl ?_
      refine sx_get (p1 := 17) dX5_weightOf_14 rfl fl_X5_9 (hp_c10 _) rfl ?_
      refine sx_alen (p1 := 18) dX5_weightOf_17 rfl (hp_c11 _) (fun _ => rfl) ?_
      refine sx_icmp_ge (p1 := 21) (tg := 30) dX5_weightOf_18 rfl rfl (by omega) (by omega) (fun q18 => ?_) (fun q18 => ?_)
      · refine sx_iconst (p1 := 31) dX5_weightOf_30 rfl ?_
        exact sx_iret dX5_weightOf_31 rfl (sx_ri (by unfold pW; split <;> omega) (by rfl))
      · refine sx_aload_n (p1 := 22) dX5_weightOf_21 rfl rfl ?_
        refine sx_get (p1 := 25) dX5_weightOf_22 rfl fl_X5_9 (hp_c10 _) rfl ?_
        refine sx_iload_n (p1 := 26) dX5_weightOf_25 rfl rfl ?_
        refine sx_iald (p1 := 27) dX5_weightOf_26 rfl (hp_c11 _) (by omega) (by decide) ?_
        refine sx_goto (p1 := 31) (tg := 31) dX5_weightOf_27 rfl rfl ?_
        exact sx_iret dX5_weightOf_31 rfl (sx_ri (by unfold pW; split <;> omega) (by rfl))
set_option maxRecDepth 20000 in
theorem c_X5_skillOf {X : sx_X} {S : St} {i : Int} (hi : -2147483648 ≤ i ∧ i ≤ 2147483647) (b1 : 0 ≤ S.1 4 ∧ S.1 4 ≤ 6) : Ct X yX5_skillOf cX5_skillOf 2 (some .int) 0 0 0 [.ref 10, vI i] (hp S) (sx_is (some (vI (pS S i))) (hp (S))) := by
  refine Ct.of false [some (.ref 10), some (vI i)] (plainFor_of_name (by decide)) (fun h => by cases h) (Nat.le_of_ble_eq_true rfl) (fun _ => rfl) sx_isl ?_
  refine sx_iload_n (p1 := 1) dX5_skillOf_0 rfl rfl ?_
  refine sx_if_lt (p1 := 4) (tg := 30) dX5_skillOf_1 rfl rfl (by omega) (fun q1 => ?_) (fun q1 => ?_)
  · refine sx_iconst (p1 := 31) dX5_skillOf_30 rfl ?_
    exact sx_iret dX5_skillOf_31 rfl (sx_ri (by unfold pS; split <;> omega) (by rfl))
  · refine sx_iload_n (p1 := 5) dX5_skillOf_4 rfl rfl ?_
    refine sx_aload_n (p1 := 6) dX5_skillOf_5 rfl rfl ?_
    refine sx_get (p1 := 9) dX5_skillOf_6 rfl fl_X5_25 (hp_c10 _) rfl ?_
    refine sx_icmp_ge (p1 := 12) (tg := 30) dX5_skillOf_9 rfl rfl (by omega) (by omega) (fun q9 => ?_) (fun q9 => ?_)
    · refine sx_iconst (p1 := 31) dX5_skillOf_30 rfl ?_
      exact sx_iret dX5_skillOf_31 rfl (sx_ri (by unfold pS; split <;> omega) (by rfl))
    · refine sx_iload_n (p1 := 13) dX5_skillOf_12 rfl rfl ?_
      refine sx_aload_n (p1 := 14) dX5_skillOf_13 rfl rfl ?_
      refine sx_get (p1 := 17) dX5_skillOf_14 rfl fl_X5_15 (hp_c10 _) rfl ?_
      refine sx_alen (p1 := 18) dX5_skillOf_17 rfl (hp_c12 _) (fun _ => rfl) ?_
      refine sx_icmp_ge (p1 := 21) (tg := 30) dX5_skillOf_18 rfl rfl (by omega) (by omega) (fun q18 => ?_) (fun q18 => ?_)
      · refine sx_iconst (p1 := 31) dX5_skillOf_30 rfl ?_
        exact sx_iret dX5_skillOf_31 rfl (sx_ri (by unfold pS; split <;> omega) (by rfl))
      · refine sx_aload_n (p1 := 22) dX5_skillOf_21 rfl rfl ?_
        refine sx_get (p1 := 25) dX5_skillOf_22 rfl fl_X5_15 (hp_c10 _) rfl ?_
        refine sx_iload_n (p1 := 26) dX5_skillOf_25 rfl rfl ?_
        refine sx_iald (p1 := 27) dX5_skillOf_26 rfl (hp_c12 _) (by omega) (by decide) ?_
        refine sx_goto (p1 := 31) (tg := 31) dX5_skillOf_27 rfl rfl ?_
        exact sx_iret dX5_skillOf_31 rfl (sx_ri (by unfold pS; split <;> omega) (by rfl))
set_option maxRecDepth 20000 in
theorem c_X5_helmetOf {X : sx_X} {S : St} {i : Int} (hi : -2147483648 ≤ i ∧ i ≤ 2147483647) (b1 : 0 ≤ S.1 4 ∧ S.1 4 ≤ 6) : Ct X yX5_helmetOf cX5_helmetOf 2 (some .int) 0 0 0 [.ref 10, vI i] (hp S) (sx_is (some (vI (pH S i))) (hp (S))) := by
  refine Ct.of false [some (.ref 10), some (vI i)] (plainFor_of_name (by decide)) (fun h => by cases h) (Nat.le_of_ble_eq_true rfl) (fun _ => rfl) sx_isl ?_
  refine sx_iload_n (p1 := 1) dX5_helmetOf_0 rfl rfl ?_
  refine sx_if_lt (p1 := 4) (tg := 30) dX5_helmetOf_1 rfl rfl (by omega) (fun q1 => ?_) (fun q1 => ?_)
  · refine sx_iconst (p1 := 31) dX5_helmetOf_30 rfl ?_
    exact sx_iret dX5_helmetOf_31 rfl (sx_ri (by unfold pH; split <;> omega) (by rfl))
  · refine sx_iload_n (p1 := 5) dX5_helmetOf_4 rfl rfl ?_
    refine sx_aload_n (p1 := 6) dX5_helmetOf_5 rfl rfl ?_
    refine sx_get (p1 := 9) dX5_helmetOf_6 rfl fl_X5_25 (hp_c10 _) rfl ?_
    refine sx_icmp_ge (p1 := 12) (tg := 30) dX5_helmetOf_9 rfl rfl (by omega) (by omega) (fun q9 => ?_) (fun q9 => ?_)
    · refine sx_iconst (p1 := 31) dX5_helmetOf_30 rfl ?_
      exact sx_iret dX5_helmetOf_31 rfl (sx_ri (by unfold pH; split <;> omega) (by rfl))
    · refine sx_iload_n (p1 := 13) dX5_helmetOf_12 rfl rfl ?_
      refine sx_aload_n (p1 := 14) dX5_helmetOf_13 rfl rfl ?_
      refine sx_get (p1 := 17) dX5_helmetOf_14 rfl fl_X5_18 (hp_c10 _) rfl ?_
      refine sx_alen (p1 := 18) dX5_helmetOf_17 rfl (hp_c13 _) (fun _ => rfl) ?_
      refine sx_icmp_ge (p1 := 21) (tg := 30) dX5_helmetOf_18 rfl rfl (by omega) (by omega) (fun q18 => ?_) (fun q18 => ?_)
      · refine sx_iconst (p1 := 31) dX5_helmetOf_30 rfl ?_
        exact sx_iret dX5_helmetOf_31 rfl (sx_ri (by unfold pH; split <;> omega) (by rfl))
      · refine sx_aload_n (p1 := 22) dX5_helmetOf_21 rfl rfl ?_
        refine sx_get (p1 := 25) dX5_helmetOf_22 rfl fl_X5_18 (hp_c10 _) rfl ?_
        refine sx_iload_n (p1 := 26) dX5_helmetOf_25 rfl rfl ?_
        refine sx_iald (p1 := 27) dX5_helmetOf_26 rfl (hp_c13 _) (by omega) (by decide) ?_
        refine sx_goto (p1 := 31) (tg := 31) dX5_helmetOf_27 rfl rfl ?_
        exact sx_iret dX5_helmetOf_31 rfl (sx_ri (by unfold pH; split <;> omega) (by rfl))
set_option maxRecDepth 20000 in
theorem c_X5_oddsMore {X : sx_X} {S : St} {i : Int} (hi : -2147483648 ≤ i ∧ i ≤ 2147483647) (b1 : 0 ≤ S.1 4 ∧ S.1 4 ≤ 6) (bW : ∀ q, 0 ≤ pW S q ∧ pW S q ≤ 9) (bS : ∀ q, 0 ≤ pS S q ∧ pS S q ≤ 9) : Ct X yX5_oddsMore cX5_oddsMore 2 (some .int) 1 0 0 [.ref 10, vI i] (hp S) (sx_is (some (vI (mMore (cV S) i))) (hp (S))) := by
  have h1 := bW i
  have h2 := bS i
  refine Ct.of false [some (.ref 10), some (vI i)] (plainFor_of_name (by decide)) (fun h => by cases h) (Nat.le_of_ble_eq_true rfl) (fun _ => rfl) sx_isl ?_
  refine sx_aload_n (p1 := 1) dX5_oddsMore_0 rfl rfl ?_
  refine sx_iload_n (p1 := 2) dX5_oddsMore_1 rfl rfl ?_
  refine sx_callVr (p1 := 5) (As := [_]) (k1 := 0) (n1 := 0) dX5_oddsMore_2 rfl rfl (c_X5_weightOf hi b1) mt_X5_weightOf ml_X5_32 (hp_c10 _) rfl rfl (Nat.le_of_ble_eq_true rfl) rfl (Nat.le_of_ble_eq_true rfl) rfl rfl (Nat.le_of_ble_eq_true rfl) (Nat.le_of_ble_eq_true rfl) ?_
  refine sx_iconst (p1 := 6) dX5_oddsMore_5 rfl ?_
  refine sx_idiv (p1 := 7) dX5_oddsMore_6 rfl (by omega) (by omega) ?_
  refine sx_aload_n (p1 := 8) dX5_oddsMore_7 rfl rfl ?_
  refine sx_iload_n (p1 := 9) dX5_oddsMore_8 rfl rfl ?_
  refine sx_callVr (p1 := 12) (As := [_]) (k1 := 0) (n1 := 0) dX5_oddsMore_9 rfl rfl (c_X5_skillOf hi b1) mt_X5_skillOf ml_X5_35 (hp_c10 _) rfl rfl (Nat.le_of_ble_eq_true rfl) rfl (Nat.le_of_ble_eq_true rfl) rfl rfl (Nat.le_of_ble_eq_true rfl) (Nat.le_of_ble_eq_true rfl) ?_
  refine sx_iconst (p1 := 13) dX5_oddsMore_12 rfl ?_
  refine sx_idiv (p1 := 14) dX5_oddsMore_13 rfl (by omega) (by omega) ?_
  refine sx_isub (p1 := 15) dX5_oddsMore_14 rfl ?_
  exact sx_iret dX5_oddsMore_15 rfl (sx_ri (by first | rfl | omega) (by rfl))
set_option maxRecDepth 20000 in
theorem c_X5_helmetsInAll {X : sx_X} {S : St} (b1 : 0 ≤ S.1 4 ∧ S.1 4 ≤ 6) (bH : ∀ q, 0 ≤ pH S q ∧ pH S q ≤ 1) : Ct X yX5_helmetsInAll cX5_helmetsInAll 3 (some .int) 1 0 0 [.ref 10] (hp S) (sx_is (some (vI (sumN (S.1 4).toNat (fun q => pH S q)))) (hp S)) := by
  have key : ∀ (n i : Nat), i + n = (S.1 4).toNat → Rn X RX5 false cX5_helmetsInAll 3 1 0 0 (some .int) 4 [some (.ref 10), some (vI (sumN i (fun q => pH S q))), some (vI (i : Int))] [] (hp S) 0 0 (sx_is (some (vI (sumN (S.1 4).toNat (fun q => pH S q)))) (hp S)) := by
    intro n
    induction n with
    | zero =>
      intro i hi
      rw [Nat.add_zero] at hi
      subst hi
      refine sx_iload_n (p1 := 5) dX5_helmetsInAll_4 rfl rfl ?_
      refine sx_aload_n (p1 := 6) dX5_helmetsInAll_5 rfl rfl ?_
      refine sx_get (p1 := 9) dX5_helmetsInAll_6 rfl fl_X5_25 (hp_c10 _) rfl ?_
      refine sx_icmp_ge (p1 := 12) (tg := 26) dX5_helmetsInAll_9 rfl rfl (by omega) (by omega) (fun q9 => ?_) (fun q9 => absurd q9 (by omega))
      refine sx_iload_n (p1 := 27) dX5_helmetsInAll_26 rfl rfl ?_
      exact sx_iret dX5_helmetsInAll_27 rfl (sx_ri (by first | rfl | omega) (by rfl))
    | succ n ih =>
      intro i hi
      refine sx_iload_n (p1 := 5) dX5_helmetsInAll_4 rfl rfl ?_
      refine sx_aload_n (p1 := 6) dX5_helmetsInAll_5 rfl rfl ?_
      refine sx_get (p1 := 9) dX5_helmetsInAll_6 rfl fl_X5_25 (hp_c10 _) rfl ?_
      refine sx_icmp_ge (p1 := 12) (tg := 26) dX5_helmetsInAll_9 rfl rfl (by omega) (by omega) (fun q9 => absurd q9 (by omega)) (fun q9 => ?_)
      refine sx_iload_n (p1 := 13) dX5_helmetsInAll_12 rfl rfl ?_
      refine sx_aload_n (p1 := 14) dX5_helmetsInAll_13 rfl rfl ?_
      refine sx_iload_n (p1 := 15) dX5_helmetsInAll_14 rfl rfl ?_
      refine sx_callVr (p1 := 18) (As := [_]) (k1 := 0) (n1 := 0) dX5_helmetsInAll_15 rfl rfl (c_X5_helmetOf (by omega) b1) mt_X5_helmetOf ml_X5_28 (hp_c10 _) rfl rfl (Nat.le_of_ble_eq_true rfl) rfl (Nat.le_of_ble_eq_true rfl) rfl rfl (Nat.le_of_ble_eq_true rfl) (Nat.le_of_ble_eq_true rfl) ?_
      refine sx_iadd (p1 := 19) dX5_helmetsInAll_18 rfl ?_
      refine sx_istore_n (lo1 := [some _, some _, some _]) (p1 := 20) dX5_helmetsInAll_19 rfl (by decide) rfl ?_
      refine sx_iinc (lo1 := [some _, some _, some _]) (p1 := 23) dX5_helmetsInAll_20 rfl (by decide) rfl rfl ?_
      refine sx_goto (p1 := 4) (tg := 4) dX5_helmetsInAll_23 rfl rfl ?_
      exact ih (i + 1) (by omega)
  refine Ct.of false [some (.ref 10), none, none] (plainFor_of_name (by decide)) (fun h => by cases h) (Nat.le_of_ble_eq_true rfl) (fun _ => rfl) sx_isl ?_
  refine sx_iconst (p1 := 1) dX5_helmetsInAll_0 rfl ?_
  refine sx_istore_n (lo1 := [some _, some _, none]) (p1 := 2) dX5_helmetsInAll_1 rfl (by decide) rfl ?_
  refine sx_iconst (p1 := 3) dX5_helmetsInAll_2 rfl ?_
  refine sx_istore_n (lo1 := [some _, some _, some _]) (p1 := 4) dX5_helmetsInAll_3 rfl (by decide) rfl ?_
  exact key _ 0 (Nat.zero_add _)
set_option maxRecDepth 20000 in
theorem c_X6_pace {X : sx_X} {S : St} (b3 : 0 ≤ S.1 7 ∧ S.1 7 ≤ 1) : Ct X yX6_pace cX6_pace 1 (some .int) 0 0 0 [.ref 14] (hp S) (sx_is (some (vI (1 + S.1 7))) (hp (S))) := by
  refine Ct.of false [some (.ref 14)] (plainFor_of_name (by decide)) (fun h => by cases h) (Nat.le_of_ble_eq_true rfl) (fun _ => rfl) sx_isl ?_
  refine sx_aload_n (p1 := 1) dX6_pace_0 rfl rfl ?_
  refine sx_get (p1 := 4) dX6_pace_1 rfl fl_X6_15 (hp_c14 _) rfl ?_
  refine sx_iconst (p1 := 5) dX6_pace_4 rfl ?_
  refine sx_icmp_ne (p1 := 8) (tg := 12) dX6_pace_5 rfl rfl (by omega) (by omega) (fun q5 => ?_) (fun q5 => ?_)
  · refine sx_iconst (p1 := 13) dX6_pace_12 rfl ?_
    exact sx_iret dX6_pace_13 rfl (sx_ri (by omega) (by rfl))
  · refine sx_iconst (p1 := 9) dX6_pace_8 rfl ?_
    refine sx_goto (p1 := 13) (tg := 13) dX6_pace_9 rfl rfl ?_
    exact sx_iret dX6_pace_13 rfl (sx_ri (by omega) (by rfl))
