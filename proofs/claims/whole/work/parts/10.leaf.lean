set_option maxRecDepth 20000 in
theorem c_X11_within {X : sx_X} {S : St} {v a b : Int} (hv : -2147483648 ≤ v ∧ v ≤ 2147483647) (ha : -2147483648 ≤ a ∧ a ≤ 2147483647) (hb : -2147483648 ≤ b ∧ b ≤ 2147483647) : Ct X yX11_within cX11_within 3 (some .boolean) 0 0 0 [vI v, vI a, vI b] (hp S) (sx_is (some (vI (if a ≤ v ∧ v ≤ b then 1 else 0))) (hp (S))) := by
  refine Ct.of false [some (vI v), some (vI a), some (vI b)] (by decide) (fun h => by cases h) (Nat.le_of_ble_eq_true rfl) (fun _ => rfl) sx_isl ?_
  refine sx_iload_n (p1 := 1) dX11_within_0 rfl rfl ?_
  refine sx_iload_n (p1 := 2) dX11_within_1 rfl rfl ?_
  refine sx_icmp_lt (p1 := 5) (tg := 14) dX11_within_2 rfl rfl (by omega) (by omega) (fun q2 => ?_) (fun q2 => ?_)
  · refine sx_iconst (p1 := 15) dX11_within_14 rfl ?_
    exact sx_zret dX11_within_15 rfl (by omega) (sx_ri (by simp; omega) (by rfl))
  · refine sx_iload_n (p1 := 6) dX11_within_5 rfl rfl ?_
    refine sx_iload_n (p1 := 7) dX11_within_6 rfl rfl ?_
    refine sx_icmp_gt (p1 := 10) (tg := 14) dX11_within_7 rfl rfl (by omega) (by omega) (fun q7 => ?_) (fun q7 => ?_)
    · refine sx_iconst (p1 := 15) dX11_within_14 rfl ?_
      exact sx_zret dX11_within_15 rfl (by omega) (sx_ri (by simp; omega) (by rfl))
    · refine sx_iconst (p1 := 11) dX11_within_10 rfl ?_
      refine sx_goto (p1 := 15) (tg := 15) dX11_within_11 rfl rfl ?_
      exact sx_zret dX11_within_15 rfl (by omega) (sx_ri (by simp; omega) (by rfl))
set_option maxRecDepth 20000 in
theorem c_J9_max_7cf53 {X : sx_X} {S : St} {a b : Int} (ha : -2147483648 ≤ a ∧ a ≤ 2147483647) (hb : -2147483648 ≤ b ∧ b ≤ 2147483647) : Ct X yJ9_max_7cf53 cJ9_max_7cf53 2 (some .int) 0 0 0 [vI a, vI b] (hp S) (sx_is (some (vI (max a b))) (hp (S))) := by
  refine Ct.of false [some (vI a), some (vI b)] (by decide) (fun h => by cases h) (Nat.le_of_ble_eq_true rfl) (fun _ => rfl) sx_isl ?_
  refine sx_iload_n (p1 := 1) dJ9_max_7cf53_0 rfl rfl ?_
  refine sx_iload_n (p1 := 2) dJ9_max_7cf53_1 rfl rfl ?_
  refine sx_icmp_lt (p1 := 5) (tg := 9) dJ9_max_7cf53_2 rfl rfl (by omega) (by omega) (fun q2 => ?_) (fun q2 => ?_)
  · refine sx_iload_n (p1 := 10) dJ9_max_7cf53_9 rfl rfl ?_
    exact sx_iret dJ9_max_7cf53_10 rfl (sx_ri (by omega) (by rfl))
  · refine sx_iload_n (p1 := 6) dJ9_max_7cf53_5 rfl rfl ?_
    refine sx_goto (p1 := 10) (tg := 10) dJ9_max_7cf53_6 rfl rfl ?_
    exact sx_iret dJ9_max_7cf53_10 rfl (sx_ri (by omega) (by rfl))
set_option maxRecDepth 20000 in
theorem c_J9_min_7cf53 {X : sx_X} {S : St} {a b : Int} (ha : -2147483648 ≤ a ∧ a ≤ 2147483647) (hb : -2147483648 ≤ b ∧ b ≤ 2147483647) : Ct X yJ9_min_7cf53 cJ9_min_7cf53 2 (some .int) 0 0 0 [vI a, vI b] (hp S) (sx_is (some (vI (min a b))) (hp (S))) := by
  refine Ct.of false [some (vI a), some (vI b)] (by decide) (fun h => by cases h) (Nat.le_of_ble_eq_true rfl) (fun _ => rfl) sx_isl ?_
  refine sx_iload_n (p1 := 1) dJ9_min_7cf53_0 rfl rfl ?_
  refine sx_iload_n (p1 := 2) dJ9_min_7cf53_1 rfl rfl ?_
  refine sx_icmp_gt (p1 := 5) (tg := 9) dJ9_min_7cf53_2 rfl rfl (by omega) (by omega) (fun q2 => ?_) (fun q2 => ?_)
  · refine sx_iload_n (p1 := 10) dJ9_min_7cf53_9 rfl rfl ?_
    exact sx_iret dJ9_min_7cf53_10 rfl (sx_ri (by omega) (by rfl))
  · refine sx_iload_n (p1 := 6) dJ9_min_7cf53_5 rfl rfl ?_
    refine sx_goto (p1 := 10) (tg := 10) dJ9_min_7cf53_6 rfl rfl ?_
    exact sx_iret dJ9_min_7cf53_10 rfl (sx_ri (by omega) (by rfl))
set_option maxRecDepth 20000 in
theorem c_X11_mix {X : sx_X} {S : St} {a b : Int}  : Ct X yX11_mix cX11_mix 4 (some .long) 0 0 0 [vJ a, vJ b] (hp S) (sx_is (some (vJ (31 * a + b))) (hp (S))) := by
  refine Ct.of false [some (vJ a), none, some (vJ b), none] (by decide) (fun h => by cases h) (Nat.le_of_ble_eq_true rfl) (fun _ => rfl) sx_isl ?_
  refine sx_ldc2 (z := 31) (p1 := 3) dX11_mix_0 rfl kc_X11_360 (by decide) ?_
  refine sx_lload_n (p1 := 4) dX11_mix_3 rfl rfl ?_
  refine sx_lmul (p1 := 5) dX11_mix_4 rfl ?_
  refine sx_lload_n (p1 := 6) dX11_mix_5 rfl rfl ?_
  refine sx_ladd (p1 := 7) dX11_mix_6 rfl ?_
  exact sx_lret dX11_mix_7 rfl (sx_rj (by first | rfl | omega) (by rfl))
set_option maxRecDepth 20000 in
theorem c_X11_refusal {X : sx_X} {S : St} {a : Int} (ha : -2147483648 ≤ a ∧ a ≤ 2147483647) : Ct X yX11_refusal cX11_refusal 1 (some .long) 0 0 0 [vI a] (hp S) (sx_is (some (vJ (-9223372036854775808 - a))) (hp (S))) := by
  refine Ct.of false [some (vI a)] (by decide) (fun h => by cases h) (Nat.le_of_ble_eq_true rfl) (fun _ => rfl) sx_isl ?_
  refine sx_ldc2 (z := -9223372036854775808) (p1 := 3) dX11_refusal_0 rfl kc_X11_388 (by decide) ?_
  refine sx_iload_n (p1 := 4) dX11_refusal_3 rfl rfl ?_
  refine sx_i2l (p1 := 5) dX11_refusal_4 rfl (by omega) ?_
  refine sx_lsub (p1 := 6) dX11_refusal_5 rfl ?_
  exact sx_lret dX11_refusal_6 rfl (sx_rj (by first | rfl | omega) (by rfl))
set_option maxRecDepth 20000 in
theorem c_X0_has {X : sx_X} {S : St} {p : Int} (hp : -2147483648 ≤ p ∧ p ≤ 2147483647) (hP : 0 ≤ S.1 2 ∧ S.1 2 ≤ 16) : Ct X yX0_has cX0_has 2 (some .boolean) 0 0 0 [.ref 7, vI p] (hp S) (sx_is (some (vI (if 0 ≤ p ∧ p < S.1 2 then 1 else 0))) (hp (S))) := by
  refine Ct.of false [some (.ref 7), some (vI p)] (by decide) (fun h => by cases h) (Nat.le_of_ble_eq_true rfl) (fun _ => rfl) sx_isl ?_
  refine sx_iload_n (p1 := 1) dX0_has_0 rfl rfl ?_
  refine sx_if_lt (p1 := 4) (tg := 16) dX0_has_1 rfl rfl (by omega) (fun q1 => ?_) (fun q1 => ?_)
  · refine sx_iconst (p1 := 17) dX0_has_16 rfl ?_
    exact sx_zret dX0_has_17 rfl (by omega) (sx_ri (by simp; omega) (by rfl))
  · refine sx_iload_n (p1 := 5) dX0_has_4 rfl rfl ?_
    refine sx_aload_n (p1 := 6) dX0_has_5 rfl rfl ?_
    refine sx_get (p1 := 9) dX0_has_6 rfl fl_X0_22 (hp_c7 _) rfl ?_
    refine sx_icmp_ge (p1 := 12) (tg := 16) dX0_has_9 rfl rfl (by omega) (by omega) (fun q9 => ?_) (fun q9 => ?_)
    · refine sx_iconst (p1 := 17) dX0_has_16 rfl ?_
      exact sx_zret dX0_has_17 rfl (by omega) (sx_ri (by simp; omega) (by rfl))
    · refine sx_iconst (p1 := 13) dX0_has_12 rfl ?_
      refine sx_goto (p1 := 17) (tg := 17) dX0_has_13 rfl rfl ?_
      exact sx_zret dX0_has_17 rfl (by omega) (sx_ri (by simp; omega) (by rfl))
