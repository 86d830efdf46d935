def rK (S : St) (q : Int) : Int := if 0 ≤ q ∧ q < S.1 32 then S.2 46 q.toNat else 0
def rL (S : St) (q : Int) : Int := if 0 ≤ q ∧ q < S.1 32 then S.2 47 q.toNat else 0
def rW (S : St) (q : Int) : Int := if 0 ≤ q ∧ q < S.1 33 then S.2 48 q.toNat else 0
def rS (S : St) (q : Int) : Int := if 0 ≤ q ∧ q < S.1 33 then S.2 49 q.toNat else 0
def rH (S : St) (q : Int) : Int := if 0 ≤ q ∧ q < S.1 33 then S.2 50 q.toNat else 0
/-- the reference's view -/
def mV (S : St) : Vw := (fun k => match k with
  | 0 => S.1 32
  | 1 => S.1 33
  | 2 => S.1 34
  | 3 => S.2 51 1
  | 4 => S.2 51 2
  | 5 => S.2 51 3
  | 6 => S.2 51 4
  | _ => S.2 51 5, fun k => match k with
  | 0 => rK S
  | 1 => rL S
  | 2 => rW S
  | 3 => rS S
  | _ => rH S)
theorem mHit_m (S : St) (fr to hel : Int) : mHit (mV S) fr to hel = if to < 0 ∨ fr ≤ to ∨ rK S to = 1 then 0
  else if hel = 1 then (if S.2 51 2 < fr - to then (if rK S to = 2 then min 16 (2 * (fr - to)) else fr - to) / 2 else (if rK S to = 2 then min 16 (2 * (fr - to)) else fr - to)) / 2
  else (if S.2 51 2 < fr - to then (if rK S to = 2 then min 16 (2 * (fr - to)) else fr - to) / 2 else (if rK S to = 2 then min 16 (2 * (fr - to)) else fr - to)) := rfl
theorem mPl_m (S : St) (m : Int) : mPl (mV S) m = if m < 0 then -1 else if m / (1 + S.2 51 1) < S.1 32 then m / (1 + S.2 51 1) else -1 := rfl
theorem mApart_m (S : St) (i j : Int) : mApart (mV S) i j = if S.2 51 1 = 1 ∧ i % 2 ≠ j % 2 then 1 else 0 := rfl
theorem mTakes_m (S : St) : mTakes (mV S) = if S.1 33 = 0 ∨ S.1 32 = 0 then 0 else (S.1 33 - 1) * S.1 34 + S.1 32 * (1 + S.2 51 1) := rfl
/-- bits of helmets -/
def hbF (f : Nat → Int) : Nat → Nat
  | 0 => 0
  | n + 1 => hbF f n ||| (if f n = 0 then 0 else 2 ^ n)
theorem bitZ_t (b w : Nat) : bitZ b w = if b.testBit w then 1 else 0 := by
  unfold bitZ
  rw [Nat.testBit_eq_decide_div_mod_eq]
  by_cases h : b / 2 ^ w % 2 = 1
  · simp [h]
  · have : b / 2 ^ w % 2 = 0 := by omega
    simp [this]
theorem hbF_lt (f : Nat → Int) : ∀ n : Nat, hbF f n < 2 ^ n
  | 0 => by simp [hbF]
  | n + 1 => by
    have h := hbF_lt f n
    rw [hbF]
    refine Nat.or_lt_two_pow ?_ ?_
    · rw [Nat.pow_succ]
      omega
    · split
      · exact Nat.two_pow_pos _
      · rw [Nat.pow_succ]
        have := Nat.two_pow_pos n
        omega
theorem hbF_bit (f : Nat → Int) (hf : ∀ i, 0 ≤ f i ∧ f i ≤ 1) : ∀ n q : Nat, bitZ (hbF f n) q = if q < n then f q else 0
  | 0, q => by simp [hbF, bitZ]
  | n + 1, q => by
    have ih := hbF_bit f hf n q
    rw [bitZ_t] at ih ⊢
    rw [hbF, Nat.testBit_or]
    by_cases e : q = n
    · subst e
      have hz : (hbF f q).testBit q = false := Nat.testBit_lt_two_pow (hbF_lt f q)
      rw [hz, if_pos (show q < q + 1 by omega)]
      have := hf q
      by_cases c : f q = 0
      · simp [c]
      · simp [c]
        omega
    · have hz : (if f n = 0 then 0 else 2 ^ n).testBit q = false := by
        split
        · simp
        · rw [Nat.testBit_two_pow]
          simp
          omega
      rw [hz, Bool.or_false, ih]
      by_cases c : q < n
      · rw [if_pos c, if_pos (by omega)]
      · rw [if_neg c, if_neg (by omega)]
theorem or_0 : ∀ u : Nat, u < 64 → sx_or u 0 = (u : Int) := by decide +kernel
theorem low_ok : ∀ u : Nat, u < 64 → 0 < u → sx_and u ((u : Int) - 1) = ((u &&& (u - 1) : Nat) : Int) ∧ u &&& (u - 1) < 64 ∧ pop6 (u &&& (u - 1)) + 1 = pop6 u := by decide +kernel
theorem pop_0 : ∀ u : Nat, u < 64 → (pop6 u = 0 ↔ u = 0) := by decide +kernel
theorem most_k {i : Int} (h : 0 ≤ i ∧ i < 6) : (if i = 0 then 99 else if i = 1 then 1 else if i = 3 then 999 else if i = 4 then 1999 else 16) = sx_most i.toNat := by
  rcases (show i = 0 ∨ i = 1 ∨ i = 2 ∨ i = 3 ∨ i = 4 ∨ i = 5 by omega) with rfl | rfl | rfl | rfl | rfl | rfl <;> rfl
set_option maxRecDepth 20000 in
theorem c_X12_in {X : sx_X} {S : St} {v a b : Int} (hv : -9223372036854775808 ≤ v ∧ v ≤ 9223372036854775807) (ha : -9223372036854775808 ≤ a ∧ a ≤ 9223372036854775807) (hb : -9223372036854775808 ≤ b ∧ b ≤ 9223372036854775807) : Ct X yX12_in cX12_in 6 (some .boolean) 0 0 0 [vJ v, vJ a, vJ b] (hp S) (sx_is (some (vI (if a ≤ v ∧ v ≤ b then 1 else 0))) (hp (S))) := by
  refine Ct.of false [some (vJ v), none, some (vJ a), none, some (vJ b), none] (plainFor_of_name (by decide)) (fun h => by cases h) (Nat.le_of_ble_eq_true rfl) (fun _ => rfl) sx_isl ?_
  refine sx_lload_n (p1 := 1) dX12_in_0 rfl rfl ?_
  refine sx_lload_n (p1 := 2) dX12_in_1 rfl rfl ?_
  refine sx_lcmp_lt (p2 := 0) (p1 := 6) (tg := 17) dX12_in_2 dX12_in_3 rfl rfl (by omega) (by omega) (fun q2 => ?_) (fun q2 => ?_)
  · refine sx_iconst (p1 := 18) dX12_in_17 rfl ?_
    exact sx_zret dX12_in_18 rfl (by omega) (sx_ri (by simp; omega) (by rfl))
  · refine sx_lload_n (p1 := 7) dX12_in_6 rfl rfl ?_
    refine sx_lload (p1 := 9) dX12_in_7 rfl rfl ?_
    refine sx_lcmp_gt (p2 := 0) (p1 := 13) (tg := 17) dX12_in_9 dX12_in_10 rfl rfl (by omega) (by omega) (fun q9 => ?_) (fun q9 => ?_)
    · refine sx_iconst (p1 := 18) dX12_in_17 rfl ?_
      exact sx_zret dX12_in_18 rfl (by omega) (sx_ri (by simp; omega) (by rfl))
    · refine sx_iconst (p1 := 14) dX12_in_13 rfl ?_
      refine sx_goto (p1 := 18) (tg := 18) dX12_in_14 rfl rfl ?_
      exact sx_zret dX12_in_18 rfl (by omega) (sx_ri (by simp; omega) (by rfl))
set_option maxRecDepth 20000 in
theorem c_X12_no {X : sx_X} {S : St} {a : Int} (ha : -2147483648 ≤ a ∧ a ≤ 2147483647) : Ct X yX12_no cX12_no 1 (some .long) 0 0 0 [vI a] (hp S) (sx_is (some (vJ (-9223372036854775808 - a))) (hp (S))) := by
  refine Ct.of false [some (vI a)] (plainFor_of_name (by decide)) (fun h => by cases h) (Nat.le_of_ble_eq_true rfl) (fun _ => rfl) sx_isl ?_
  refine sx_ldc2 (z := -9223372036854775808) (p1 := 3) dX12_no_0 rfl kc_X12_56 (by decide) ?_
  refine sx_iload_n (p1 := 4) dX12_no_3 rfl rfl ?_
  refine sx_i2l (p1 := 5) dX12_no_4 rfl (by omega) ?_
  refine sx_lsub (p1 := 6) dX12_no_5 rfl ?_
  exact sx_lret dX12_no_6 rfl (sx_rj (by first | rfl | omega) (by rfl))
set_option maxRecDepth 20000 in
theorem c_X12_isTwo {X : sx_X} {S : St} {i : Int} (hi : -2147483648 ≤ i ∧ i ≤ 2147483647) : Ct X yX12_isTwo cX12_isTwo 1 (some .boolean) 1 0 0 [vI i] (hp S) (sx_is (some (vI (if 0 ≤ i ∧ i ≤ 1 then 1 else 0))) (hp (S))) := by
  refine Ct.of false [some (vI i)] (plainFor_of_name (by decide)) (fun h => by cases h) (Nat.le_of_ble_eq_true rfl) (fun _ => rfl) sx_isl ?_
  refine sx_iload_n (p1 := 1) dX12_isTwo_0 rfl rfl ?_
  refine sx_i2l (p1 := 2) dX12_isTwo_1 rfl (by omega) ?_
  refine sx_lconst (y := 0) (p1 := 3) dX12_isTwo_2 rfl (by decide) ?_
  refine sx_lconst (y := 1) (p1 := 4) dX12_isTwo_3 rfl (by decide) ?_
  refine sx_callSr (p1 := 7) (As := [_, _, _]) (k1 := 0) (n1 := 0) dX12_isTwo_4 rfl rfl (c_X12_in (by omega) (by omega) (by omega)) mt_X12_in ml_X12_58 (Nat.le_of_ble_eq_true rfl) rfl (Nat.le_of_ble_eq_true rfl) rfl rfl (Nat.le_of_ble_eq_true rfl) (Nat.le_of_ble_eq_true rfl) ?_
  exact sx_zret dX12_isTwo_7 rfl (by split <;> omega) (sx_ri (by first | rfl | omega) (by rfl))
set_option maxRecDepth 20000 in
theorem c_X12_isSheet {X : sx_X} {S : St} {i : Int} (hi : -2147483648 ≤ i ∧ i ≤ 2147483647) : Ct X yX12_isSheet cX12_isSheet 1 (some .boolean) 1 0 0 [vI i] (hp S) (sx_is (some (vI (if 0 ≤ i ∧ i ≤ 3 then 1 else 0))) (hp (S))) := by
  refine Ct.of false [some (vI i)] (plainFor_of_name (by decide)) (fun h => by cases h) (Nat.le_of_ble_eq_true rfl) (fun _ => rfl) sx_isl ?_
  refine sx_iload_n (p1 := 1) dX12_isSheet_0 rfl rfl ?_
  refine sx_i2l (p1 := 2) dX12_isSheet_1 rfl (by omega) ?_
  refine sx_lconst (y := 0) (p1 := 3) dX12_isSheet_2 rfl (by decide) ?_
  refine sx_ldc2 (z := 3) (p1 := 6) dX12_isSheet_3 rfl kc_X12_66 (by decide) ?_
  refine sx_callSr (p1 := 9) (As := [_, _, _]) (k1 := 0) (n1 := 0) dX12_isSheet_6 rfl rfl (c_X12_in (by omega) (by omega) (by omega)) mt_X12_in ml_X12_58 (Nat.le_of_ble_eq_true rfl) rfl (Nat.le_of_ble_eq_true rfl) rfl rfl (Nat.le_of_ble_eq_true rfl) (Nat.le_of_ble_eq_true rfl) ?_
  exact sx_zret dX12_isSheet_9 rfl (by split <;> omega) (sx_ri (by first | rfl | omega) (by rfl))
set_option maxRecDepth 20000 in
theorem c_X12_greater {X : sx_X} {S : St} {i j : Int} (hi : -2147483648 ≤ i ∧ i ≤ 2147483647) (hj : -2147483648 ≤ j ∧ j ≤ 2147483647) : Ct X yX12_greater cX12_greater 2 (some .int) 0 0 0 [vI i, vI j] (hp S) (sx_is (some (vI (max i j))) (hp (S))) := by
  refine Ct.of false [some (vI i), some (vI j)] (plainFor_of_name (by decide)) (fun h => by cases h) (Nat.le_of_ble_eq_true rfl) (fun _ => rfl) sx_isl ?_
  refine sx_iload_n (p1 := 1) dX12_greater_0 rfl rfl ?_
  refine sx_iload_n (p1 := 2) dX12_greater_1 rfl rfl ?_
  refine sx_icmp_le (p1 := 5) (tg := 9) dX12_greater_2 rfl rfl (by omega) (by omega) (fun q2 => ?_) (fun q2 => ?_)
  · refine sx_iload_n (p1 := 10) dX12_greater_9 rfl rfl ?_
    exact sx_iret dX12_greater_10 rfl (sx_ri (by first | rfl | omega) (by rfl))
  · refine sx_iload_n (p1 := 6) dX12_greater_5 rfl rfl ?_
    refine sx_goto (p1 := 10) (tg := 10) dX12_greater_6 rfl rfl ?_
    exact sx_iret dX12_greater_10 rfl (sx_ri (by first | rfl | omega) (by rfl))
set_option maxRecDepth 20000 in
theorem c_X12_lesser {X : sx_X} {S : St} {i j : Int} (hi : -2147483648 ≤ i ∧ i ≤ 2147483647) (hj : -2147483648 ≤ j ∧ j ≤ 2147483647) : Ct X yX12_lesser cX12_lesser 2 (some .int) 0 0 0 [vI i, vI j] (hp S) (sx_is (some (vI (min i j))) (hp (S))) := by
  refine Ct.of false [some (vI i), some (vI j)] (plainFor_of_name (by decide)) (fun h => by cases h) (Nat.le_of_ble_eq_true rfl) (fun _ => rfl) sx_isl ?_
  refine sx_iload_n (p1 := 1) dX12_lesser_0 rfl rfl ?_
  refine sx_iload_n (p1 := 2) dX12_lesser_1 rfl rfl ?_
  refine sx_icmp_ge (p1 := 5) (tg := 9) dX12_lesser_2 rfl rfl (by omega) (by omega) (fun q2 => ?_) (fun q2 => ?_)
  · refine sx_iload_n (p1 := 10) dX12_lesser_9 rfl rfl ?_
    exact sx_iret dX12_lesser_10 rfl (sx_ri (by first | rfl | omega) (by rfl))
  · refine sx_iload_n (p1 := 6) dX12_lesser_5 rfl rfl ?_
    refine sx_goto (p1 := 10) (tg := 10) dX12_lesser_6 rfl rfl ?_
    exact sx_iret dX12_lesser_10 rfl (sx_ri (by first | rfl | omega) (by rfl))
set_option maxRecDepth 20000 in
theorem c_X12_cut {X : sx_X} {S : St} {i j : Int} (hi : -2147483648 ≤ i ∧ i ≤ 2147483647) : Ct X yX12_cut cX12_cut 2 (some .int) 0 0 0 [vI i, vI j] (hp S) (sx_is (some (vI (ctZ i j))) (hp (S))) := by
  refine Ct.of false [some (vI i), some (vI j)] (plainFor_of_name (by decide)) (fun h => by cases h) (Nat.le_of_ble_eq_true rfl) (fun _ => rfl) sx_isl ?_
  refine sx_iload_n (p1 := 1) dX12_cut_0 rfl rfl ?_
  refine sx_if_ne (p1 := 4) (tg := 9) dX12_cut_1 rfl rfl (by omega) (fun q1 => ?_) (fun q1 => ?_)
  · refine sx_iload_n (p1 := 10) dX12_cut_9 rfl rfl ?_
    refine sx_iconst (p1 := 11) dX12_cut_10 rfl ?_
    refine sx_icmp_ne (p1 := 14) (tg := 19) dX12_cut_11 rfl rfl (by omega) (by omega) (fun q11 => ?_) (fun q11 => ?_)
    · refine sx_iload_n (p1 := 20) dX12_cut_19 rfl rfl ?_
      exact sx_iret dX12_cut_20 rfl (sx_ri (by unfold ctZ; (repeat' split) <;> first | rfl | omega) (by rfl))
    · refine sx_iload_n (p1 := 15) dX12_cut_14 rfl rfl ?_
      refine sx_i2s (p1 := 16) dX12_cut_15 rfl ?_
      refine sx_goto (p1 := 20) (tg := 20) dX12_cut_16 rfl rfl ?_
      exact sx_iret dX12_cut_20 rfl (sx_ri (by unfold ctZ; (repeat' split) <;> first | rfl | omega) (by rfl))
  · refine sx_iload_n (p1 := 5) dX12_cut_4 rfl rfl ?_
    refine sx_i2b (p1 := 6) dX12_cut_5 rfl ?_
    refine sx_goto (p1 := 20) (tg := 20) dX12_cut_6 rfl rfl ?_
    exact sx_iret dX12_cut_20 rfl (sx_ri (by unfold ctZ; (repeat' split) <;> first | rfl | omega) (by rfl))
set_option maxRecDepth 20000 in
theorem c_X12_forget {X : sx_X} {S : St}  : Ct X yX12_forget cX12_forget 2 (some .int) 0 0 0 [.ref 39] (hp S) (sx_is (some (vI (S.1 39))) (hp (si S 39 0))) := by
  refine Ct.of false [some (.ref 39), none] (plainFor_of_name (by decide)) (fun h => by cases h) (Nat.le_of_ble_eq_true rfl) (fun _ => rfl) sx_isl ?_
  refine sx_aload_n (p1 := 1) dX12_forget_0 rfl rfl ?_
  refine sx_get (p1 := 4) dX12_forget_1 rfl fl_X12_275 (hp_c39 _) rfl ?_
  refine sx_istore_n (lo1 := [some _, some _]) (p1 := 5) dX12_forget_4 rfl (by decide) rfl ?_
  refine sx_aload_n (p1 := 6) dX12_forget_5 rfl rfl ?_
  refine sx_iconst (p1 := 7) dX12_forget_6 rfl ?_
  refine sx_put (p1 := 10) dX12_forget_7 rfl fl_X12_275 (hp_c39 _) (Nat.le_of_ble_eq_true rfl) (fun _ => rfl) (fun _ => rfl) (hp_s39 _ _) ?_
  refine sx_iload_n (p1 := 11) dX12_forget_10 rfl rfl ?_
  exact sx_iret dX12_forget_11 rfl (sx_ri (by first | rfl | omega) (by rfl))
set_option maxRecDepth 20000 in
theorem c_X12_met {X : sx_X} {S : St} {i : Int}  : Ct X yX12_met cX12_met 2 (some .int) 0 0 0 [.ref 39, vI i] (hp S) (sx_is (some (vI (-10 - i))) (hp (si S 30 i))) := by
  refine Ct.of false [some (.ref 39), some (vI i)] (plainFor_of_name (by decide)) (fun h => by cases h) (Nat.le_of_ble_eq_true rfl) (fun _ => rfl) sx_isl ?_
  refine sx_aload_n (p1 := 1) dX12_met_0 rfl rfl ?_
  refine sx_iload_n (p1 := 2) dX12_met_1 rfl rfl ?_
  refine sx_put (p1 := 5) dX12_met_2 rfl fl_X12_62 (hp_c39 _) (Nat.le_of_ble_eq_true rfl) (fun _ => rfl) (fun _ => rfl) (hp_s30 _ _) ?_
  refine sx_bipush (p1 := 7) dX12_met_5 rfl (by decide) ?_
  refine sx_iload_n (p1 := 8) dX12_met_7 rfl rfl ?_
  refine sx_isub (p1 := 9) dX12_met_8 rfl ?_
  exact sx_iret dX12_met_9 rfl (sx_ri (by first | rfl | omega) (by rfl))
set_option maxRecDepth 20000 in
theorem c_X12_kindOf {X : sx_X} {S : St} {i : Int} (hi : -2147483648 ≤ i ∧ i ≤ 2147483647) : Ct X yX12_kindOf cX12_kindOf 1 (some .int) 0 0 0 [vI i] (hp S) (sx_is (some (vI (kdOf i))) (hp (S))) := by
  refine Ct.of false [some (vI i)] (plainFor_of_name (by decide)) (fun h => by cases h) (Nat.le_of_ble_eq_true rfl) (fun _ => rfl) sx_isl ?_
  refine sx_iload_n (p1 := 1) dX12_kindOf_0 rfl rfl ?_
  refine sx_bipush (p1 := 3) dX12_kindOf_1 rfl (by decide) ?_
  refine sx_icmp_ne (p1 := 6) (tg := 10) dX12_kindOf_3 rfl rfl (by omega) (by omega) (fun q3 => ?_) (fun q3 => ?_)
  · refine sx_iload_n (p1 := 11) dX12_kindOf_10 rfl rfl ?_
    refine sx_bipush (p1 := 13) dX12_kindOf_11 rfl (by decide) ?_
    refine sx_icmp_ne (p1 := 16) (tg := 20) dX12_kindOf_13 rfl rfl (by omega) (by omega) (fun q13 => ?_) (fun q13 => ?_)
    · refine sx_iload_n (p1 := 21) dX12_kindOf_20 rfl rfl ?_
      refine sx_bipush (p1 := 23) dX12_kindOf_21 rfl (by decide) ?_
      refine sx_icmp_ne (p1 := 26) (tg := 30) dX12_kindOf_23 rfl rfl (by omega) (by omega) (fun q23 => ?_) (fun q23 => ?_)
      · refine sx_iload_n (p1 := 31) dX12_kindOf_30 rfl rfl ?_
        refine sx_bipush (p1 := 33) dX12_kindOf_31 rfl (by decide) ?_
        refine sx_icmp_ne (p1 := 36) (tg := 40) dX12_kindOf_33 rfl rfl (by omega) (by omega) (fun q33 => ?_) (fun q33 => ?_)
        · refine sx_iconst (p1 := 41) dX12_kindOf_40 rfl ?_
          exact sx_iret dX12_kindOf_41 rfl (sx_ri (by unfold kdOf; (repeat' split) <;> omega) (by rfl))
        · refine sx_iconst (p1 := 37) dX12_kindOf_36 rfl ?_
          refine sx_goto (p1 := 41) (tg := 41) dX12_kindOf_37 rfl rfl ?_
          exact sx_iret dX12_kindOf_41 rfl (sx_ri (by unfold kdOf; (repeat' split) <;> omega) (by rfl))
      · refine sx_iconst (p1 := 27) dX12_kindOf_26 rfl ?_
        refine sx_goto (p1 := 41) (tg := 41) dX12_kindOf_27 rfl rfl ?_
        exact sx_iret dX12_kindOf_41 rfl (sx_ri (by unfold kdOf; (repeat' split) <;> omega) (by rfl))
    · refine sx_iconst (p1 := 17) dX12_kindOf_16 rfl ?_
      refine sx_goto (p1 := 41) (tg := 41) dX12_kindOf_17 rfl rfl ?_
      exact sx_iret dX12_kindOf_41 rfl (sx_ri (by unfold kdOf; (repeat' split) <;> omega) (by rfl))
  · refine sx_iconst (p1 := 7) dX12_kindOf_6 rfl ?_
    refine sx_goto (p1 := 41) (tg := 41) dX12_kindOf_7 rfl rfl ?_
    exact sx_iret dX12_kindOf_41 rfl (sx_ri (by unfold kdOf; (repeat' split) <;> omega) (by rfl))
set_option maxRecDepth 20000 in
theorem c_X12_most {X : sx_X} {S : St} {i : Int} (hi : 0 ≤ i ∧ i < 6) : Ct X yX12_most cX12_most 1 (some .int) 0 0 0 [vI i] (hp S) (sx_is (some (vI (sx_most i.toNat))) (hp (S))) := by
  refine Ct.of false [some (vI i)] (plainFor_of_name (by decide)) (fun h => by cases h) (Nat.le_of_ble_eq_true rfl) (fun _ => rfl) sx_isl ?_
  refine sx_iload_n (p1 := 1) dX12_most_0 rfl rfl ?_
  refine sx_if_ne (p1 := 4) (tg := 9) dX12_most_1 rfl rfl (by omega) (fun q1 => ?_) (fun q1 => ?_)
  · refine sx_iload_n (p1 := 10) dX12_most_9 rfl rfl ?_
    refine sx_iconst (p1 := 11) dX12_most_10 rfl ?_
    refine sx_icmp_ne (p1 := 14) (tg := 18) dX12_most_11 rfl rfl (by omega) (by omega) (fun q11 => ?_) (fun q11 => ?_)
    · refine sx_iload_n (p1 := 19) dX12_most_18 rfl rfl ?_
      refine sx_iconst (p1 := 20) dX12_most_19 rfl ?_
      refine sx_icmp_ne (p1 := 23) (tg := 29) dX12_most_20 rfl rfl (by omega) (by omega) (fun q20 => ?_) (fun q20 => ?_)
      · refine sx_iload_n (p1 := 30) dX12_most_29 rfl rfl ?_
        refine sx_iconst (p1 := 31) dX12_most_30 rfl ?_
        refine sx_icmp_ne (p1 := 34) (tg := 40) dX12_most_31 rfl rfl (by omega) (by omega) (fun q31 => ?_) (fun q31 => ?_)
        · refine sx_bipush (p1 := 42) dX12_most_40 rfl (by decide) ?_
          exact sx_iret dX12_most_42 rfl (sx_ri (by rw [← most_k hi]; (repeat' split) <;> omega) (by rfl))
        · refine sx_sipush (p1 := 37) dX12_most_34 rfl (by decide) ?_
          refine sx_goto (p1 := 42) (tg := 42) dX12_most_37 rfl rfl ?_
          exact sx_iret dX12_most_42 rfl (sx_ri (by rw [← most_k hi]; (repeat' split) <;> omega) (by rfl))
      · refine sx_sipush (p1 := 26) dX12_most_23 rfl (by decide) ?_
        refine sx_goto (p1 := 42) (tg := 42) dX12_most_26 rfl rfl ?_
        exact sx_iret dX12_most_42 rfl (sx_ri (by rw [← most_k hi]; (repeat' split) <;> omega) (by rfl))
    · refine sx_iconst (p1 := 15) dX12_most_14 rfl ?_
      refine sx_goto (p1 := 42) (tg := 42) dX12_most_15 rfl rfl ?_
      exact sx_iret dX12_most_42 rfl (sx_ri (by rw [← most_k hi]; (repeat' split) <;> omega) (by rfl))
  · refine sx_bipush (p1 := 6) dX12_most_4 rfl (by decide) ?_
    refine sx_goto (p1 := 42) (tg := 42) dX12_most_6 rfl rfl ?_
    exact sx_iret dX12_most_42 rfl (sx_ri (by rw [← most_k hi]; (repeat' split) <;> omega) (by rfl))
set_option maxRecDepth 20000 in
theorem c_X12_lot {X : sx_X} {S : St}  : Ct X yX12_lot cX12_lot 1 (some .int) 0 0 0 [.ref 39] (hp S) (sx_is (some (vI (lot (S.1 40)))) (hp (si S 40 (lcg (S.1 40))))) := by
  have hu := ush_b (lcg (S.1 40))
  refine Ct.of false [some (.ref 39)] (plainFor_of_name (by decide)) (fun h => by cases h) (Nat.le_of_ble_eq_true rfl) (fun _ => rfl) sx_isl ?_
  refine sx_aload_n (p1 := 1) dX12_lot_0 rfl rfl ?_
  refine sx_ldcw (z := 1103515245) (p1 := 4) dX12_lot_1 rfl kc_X12_286 (by decide) ?_
  refine sx_aload_n (p1 := 5) dX12_lot_4 rfl rfl ?_
  refine sx_get (v := vI (S.1 40)) (p1 := 8) dX12_lot_5 rfl fl_X12_287 (hp_c39 _) rfl ?_
  refine sx_imul (p1 := 9) dX12_lot_8 rfl ?_
  refine sx_sipush (p1 := 12) dX12_lot_9 rfl (by decide) ?_
  refine sx_iadd (p1 := 13) dX12_lot_12 rfl ?_
  refine sx_put (p1 := 16) dX12_lot_13 rfl fl_X12_287 (hp_c39 _) (Nat.le_of_ble_eq_true rfl) (fun _ => rfl) (fun _ => rfl) (hp_s40 _ _) ?_
  rw [show (1103515245 * S.1 40 + 12345) = lcg (S.1 40) from rfl]
  refine sx_aload_n (p1 := 17) dX12_lot_16 rfl rfl ?_
  refine sx_get (v := vI (lcg (S.1 40))) (p1 := 20) dX12_lot_17 rfl fl_X12_287 (hp_c39 _) rfl ?_
  refine sx_bipush (p1 := 22) dX12_lot_20 rfl (by decide) ?_
  refine sx_iushr (p1 := 23) dX12_lot_22 rfl ?_
  refine sx_bipush (p1 := 25) dX12_lot_23 rfl (by decide) ?_
  refine sx_irem (p1 := 26) dX12_lot_25 rfl (by omega) (by omega) ?_
  exact sx_iret dX12_lot_26 rfl (sx_ri (by first | rfl | omega) (by rfl))
set_option maxRecDepth 20000 in
theorem c_X12_pace {X : sx_X} {S : St}  : Ct X yX12_pace cX12_pace 1 (some .int) 0 0 0 [.ref 39] (hp S) (sx_is (some (vI (1 + S.2 51 1))) (hp (S))) := by
  refine Ct.of false [some (.ref 39)] (plainFor_of_name (by decide)) (fun h => by cases h) (Nat.le_of_ble_eq_true rfl) (fun _ => rfl) sx_isl ?_
  refine sx_iconst (p1 := 1) dX12_pace_0 rfl ?_
  refine sx_aload_n (p1 := 2) dX12_pace_1 rfl rfl ?_
  refine sx_get (p1 := 5) dX12_pace_2 rfl fl_X12_44 (hp_c39 _) rfl ?_
  refine sx_iconst (p1 := 6) dX12_pace_5 rfl ?_
  refine sx_iald (p1 := 7) dX12_pace_6 rfl (hp_c51 _) (by omega) (by decide) ?_
  rw [show Int.toNat 1 = 1 from rfl]
  refine sx_iadd (p1 := 8) dX12_pace_7 rfl ?_
  exact sx_iret dX12_pace_8 rfl (sx_ri (by first | rfl | omega) (by rfl))
set_option maxRecDepth 20000 in
theorem c_X12_startOf {X : sx_X} {S : St} {i : Int}  : Ct X yX12_startOf cX12_startOf 2 (some .int) 0 0 0 [.ref 39, vI i] (hp S) (sx_is (some (vI (S.2 51 3 + i * S.1 34))) (hp (S))) := by
  refine Ct.of false [some (.ref 39), some (vI i)] (plainFor_of_name (by decide)) (fun h => by cases h) (Nat.le_of_ble_eq_true rfl) (fun _ => rfl) sx_isl ?_
  refine sx_aload_n (p1 := 1) dX12_startOf_0 rfl rfl ?_
  refine sx_get (p1 := 4) dX12_startOf_1 rfl fl_X12_44 (hp_c39 _) rfl ?_
  refine sx_iconst (p1 := 5) dX12_startOf_4 rfl ?_
  refine sx_iald (p1 := 6) dX12_startOf_5 rfl (hp_c51 _) (by omega) (by decide) ?_
  rw [show Int.toNat 3 = 3 from rfl]
  refine sx_iload_n (p1 := 7) dX12_startOf_6 rfl rfl ?_
  refine sx_aload_n (p1 := 8) dX12_startOf_7 rfl rfl ?_
  refine sx_get (p1 := 11) dX12_startOf_8 rfl fl_X12_137 (hp_c39 _) rfl ?_
  refine sx_imul (p1 := 12) dX12_startOf_11 rfl ?_
  refine sx_iadd (p1 := 13) dX12_startOf_12 rfl ?_
  exact sx_iret dX12_startOf_13 rfl (sx_ri (by first | rfl | omega) (by rfl))
set_option maxRecDepth 20000 in
theorem c_X12_isAside {X : sx_X} {S : St} {i j : Int} (b3 : 0 ≤ S.2 51 1 ∧ S.2 51 1 ≤ 1) (hi : 0 ≤ i ∧ i ≤ 1000) (hj : 0 ≤ j ∧ j ≤ 1000) : Ct X yX12_isAside cX12_isAside 3 (some .boolean) 0 0 0 [.ref 39, vI i, vI j] (hp S) (sx_is (some (vI (mApart (mV S) i j))) (hp (S))) := by
  refine Ct.of false [some (.ref 39), some (vI i), some (vI j)] (plainFor_of_name (by decide)) (fun h => by cases h) (Nat.le_of_ble_eq_true rfl) (fun _ => rfl) sx_isl ?_
  refine sx_aload_n (p1 := 1) dX12_isAside_0 rfl rfl ?_
  refine sx_get (p1 := 4) dX12_isAside_1 rfl fl_X12_44 (hp_c39 _) rfl ?_
  refine sx_iconst (p1 := 5) dX12_isAside_4 rfl ?_
  refine sx_iald (p1 := 6) dX12_isAside_5 rfl (hp_c51 _) (by omega) (by decide) ?_
  rw [show Int.toNat 1 = 1 from rfl]
  refine sx_iconst (p1 := 7) dX12_isAside_6 rfl ?_
  refine sx_icmp_ne (p1 := 10) (tg := 23) dX12_isAside_7 rfl rfl (by omega) (by omega) (fun q7 => ?_) (fun q7 => ?_)
  · refine sx_iconst (p1 := 24) dX12_isAside_23 rfl ?_
    exact sx_zret dX12_isAside_24 rfl (by omega) (sx_ri (by rw [mApart_m]; split <;> omega) (by rfl))
  · refine sx_iload_n (p1 := 11) dX12_isAside_10 rfl rfl ?_
    refine sx_iconst (p1 := 12) dX12_isAside_11 rfl ?_
    refine sx_irem (p1 := 13) dX12_isAside_12 rfl (by omega) (by omega) ?_
    refine sx_iload_n (p1 := 14) dX12_isAside_13 rfl rfl ?_
    refine sx_iconst (p1 := 15) dX12_isAside_14 rfl ?_
    refine sx_irem (p1 := 16) dX12_isAside_15 rfl (by omega) (by omega) ?_
    refine sx_icmp_eq (p1 := 19) (tg := 23) dX12_isAside_16 rfl rfl (by omega) (by omega) (fun q16 => ?_) (fun q16 => ?_)
    · refine sx_iconst (p1 := 24) dX12_isAside_23 rfl ?_
      exact sx_zret dX12_isAside_24 rfl (by omega) (sx_ri (by rw [mApart_m]; split <;> omega) (by rfl))
    · refine sx_iconst (p1 := 20) dX12_isAside_19 rfl ?_
      refine sx_goto (p1 := 24) (tg := 24) dX12_isAside_20 rfl rfl ?_
      exact sx_zret dX12_isAside_24 rfl (by omega) (sx_ri (by rw [mApart_m]; split <;> omega) (by rfl))
set_option maxRecDepth 20000 in
theorem c_X12_isIn {X : sx_X} {S : St} {b q : Nat} (hb : b < 64) (hq : q < 6) : Ct X yX12_isIn cX12_isIn 2 (some .boolean) 0 0 0 [vI (b : Int), vI (q : Int)] (hp S) (sx_is (some (vI (bitZ b q))) (hp S)) := by
  have e1 := bit_ok b hb q hq
  have e2 := bitZ_b b q
  refine Ct.of false [some (vI (b : Int)), some (vI (q : Int))] (plainFor_of_name (by decide)) (fun h => by cases h) (Nat.le_of_ble_eq_true rfl) (fun _ => rfl) sx_isl ?_
  refine sx_iload_n (p1 := 1) dX12_isIn_0 rfl rfl ?_
  refine sx_iload_n (p1 := 2) dX12_isIn_1 rfl rfl ?_
  refine sx_ishr (p1 := 3) dX12_isIn_2 rfl ?_
  refine sx_iconst (p1 := 4) dX12_isIn_3 rfl ?_
  refine sx_iand (p1 := 5) dX12_isIn_4 rfl ?_
  rw [e1]
  refine sx_iconst (p1 := 6) dX12_isIn_5 rfl ?_
  refine sx_icmp_ne (p1 := 9) (tg := 13) dX12_isIn_6 rfl rfl (by omega) (by omega) (fun q6 => ?_) (fun q6 => ?_)
  · refine sx_iconst (p1 := 14) dX12_isIn_13 rfl ?_
    exact sx_zret dX12_isIn_14 rfl (by omega) (sx_ri (by first | rfl | omega) (by rfl))
  · refine sx_iconst (p1 := 10) dX12_isIn_9 rfl ?_
    refine sx_goto (p1 := 14) (tg := 14) dX12_isIn_10 rfl rfl ?_
    exact sx_zret dX12_isIn_14 rfl (by omega) (sx_ri (by first | rfl | omega) (by rfl))
set_option maxRecDepth 20000 in
theorem c_X12_ones {X : sx_X} {S : St} {b : Nat} (hb : b < 64) : Ct X yX12_ones cX12_ones 3 (some .int) 0 0 0 [vI (b : Int)] (hp S) (sx_is (some (vI (pop6 b))) (hp S)) := by
  have key : ∀ (n i u : Nat), u < 64 → pop6 u = n → i + n = pop6 b → Rn X RX12 false cX12_ones 3 0 0 0 (some .int) 4 [some (vI (b : Int)), some (vI (i : Int)), some (vI (u : Int))] [] (hp S) 0 0 (sx_is (some (vI (pop6 b))) (hp S)) := by
    intro n
    induction n with
    | zero =>
      intro i u hu hn hi
      have h0 := (pop_0 u hu).1 hn
      subst h0
      refine sx_iload_n (p1 := 5) dX12_ones_4 rfl rfl ?_
      refine sx_if_eq (p1 := 8) (tg := 20) dX12_ones_5 rfl rfl (by omega) (fun q5 => ?_) (fun q5 => absurd q5 (by omega))
      refine sx_iload_n (p1 := 21) dX12_ones_20 rfl rfl ?_
      exact sx_iret dX12_ones_21 rfl (sx_ri (by omega) (by rfl))
    | succ n ih =>
      intro i u hu hn hi
      have h0 : u ≠ 0 := fun q => by have := (pop_0 u hu).2 q; omega
      have h1 := low_ok u hu (by omega)
      refine sx_iload_n (p1 := 5) dX12_ones_4 rfl rfl ?_
      refine sx_if_eq (p1 := 8) (tg := 20) dX12_ones_5 rfl rfl (by omega) (fun q5 => absurd q5 (by omega)) (fun q5 => ?_)
      refine sx_iinc (lo1 := [some _, some _, some _]) (p1 := 11) dX12_ones_8 rfl (by decide) rfl rfl ?_
      refine sx_iload_n (p1 := 12) dX12_ones_11 rfl rfl ?_
      refine sx_iload_n (p1 := 13) dX12_ones_12 rfl rfl ?_
      refine sx_iconst (p1 := 14) dX12_ones_13 rfl ?_
      refine sx_isub (p1 := 15) dX12_ones_14 rfl ?_
      refine sx_iand (p1 := 16) dX12_ones_15 rfl ?_
      rw [h1.1]
      refine sx_istore_n (lo1 := [some _, some _, some _]) (p1 := 17) dX12_ones_16 rfl (by decide) rfl ?_
      refine sx_goto (p1 := 4) (tg := 4) dX12_ones_17 rfl rfl ?_
      exact ih (i + 1) _ h1.2.1 (by omega) (by omega)
  refine Ct.of false [some (vI (b : Int)), none, none] (plainFor_of_name (by decide)) (fun h => by cases h) (Nat.le_of_ble_eq_true rfl) (fun _ => rfl) sx_isl ?_
  refine sx_iconst (p1 := 1) dX12_ones_0 rfl ?_
  refine sx_istore_n (lo1 := [some _, some _, none]) (p1 := 2) dX12_ones_1 rfl (by decide) rfl ?_
  refine sx_iload_n (p1 := 3) dX12_ones_2 rfl rfl ?_
  refine sx_istore_n (lo1 := [some _, some _, some _]) (p1 := 4) dX12_ones_3 rfl (by decide) rfl ?_
  exact key _ 0 b hb rfl (Nat.zero_add _)
set_option maxRecDepth 20000 in
theorem c_X12_part {X : sx_X} {S : St} {x y k : Int} (hx : 0 ≤ x ∧ x ≤ 1000000000000) (hy : 0 < y ∧ y ≤ 1000) (hk : -2147483648 ≤ k ∧ k ≤ 2147483647) : Ct X yX12_part cX12_part 11 (some .long) 0 0 0 [vJ x, vJ y, vI k] (hp S) (sx_is (some (vJ (mFrac x y k))) (hp S)) := by
  have g := mFr_g hx hy
  have key : ∀ (n : Nat) (a b : Int), dn n a b → (0 ≤ a ∧ a ≤ 1000000000000) → (0 ≤ b ∧ b ≤ 1000000000000) → eu 100 x y = eu n a b → Rn X RX12 false cX12_part 11 0 0 0 (some .long) 6 [some (vJ x), none, some (vJ y), none, some (vI k), some (vJ a), none, some (vJ b), none, none, none] [] (hp S) 0 0 (sx_is (some (vJ (mFrac x y k))) (hp S)) := by
    intro n
    induction n with
    | zero =>
      intro a b hd ha hb he
      have hd0 : b = 0 := hd
      have he0 : eu 100 x y = a := he
      refine sx_lload (p1 := 8) dX12_part_6 rfl rfl ?_
      refine sx_lconst (y := 0) (p1 := 9) dX12_part_8 rfl (by decide) ?_
      refine sx_lcmp_eq (p2 := 0) (p1 := 13) (tg := 31) dX12_part_9 dX12_part_10 rfl rfl (by omega) (by omega) (fun q9 => ?_) (fun q9 => absurd q9 (by omega))
      refine sx_iload (p1 := 33) dX12_part_31 rfl rfl ?_
      refine sx_if_ne (p1 := 36) (tg := 40) dX12_part_33 rfl rfl (by omega) (fun q33 => ?_) (fun q33 => ?_)
      · refine sx_lload_n (p1 := 41) dX12_part_40 rfl rfl ?_
        refine sx_lload (p1 := 43) dX12_part_41 rfl rfl ?_
        refine sx_ldiv (p1 := 44) dX12_part_43 rfl (by omega) (by omega) ?_
        exact sx_lret dX12_part_44 rfl (sx_rj (by unfold mFrac; rw [he0]; first | (rw [if_pos (by omega)]; done) | (rw [if_neg (by omega)]; done)) (by rfl))
      · refine sx_lload_n (p1 := 37) dX12_part_36 rfl rfl ?_
        refine sx_goto (p1 := 41) (tg := 41) dX12_part_37 rfl rfl ?_
        refine sx_lload (p1 := 43) dX12_part_41 rfl rfl ?_
        refine sx_ldiv (p1 := 44) dX12_part_43 rfl (by omega) (by omega) ?_
        exact sx_lret dX12_part_44 rfl (sx_rj (by unfold mFrac; rw [he0]; first | (rw [if_pos (by omega)]; done) | (rw [if_neg (by omega)]; done)) (by rfl))
    | succ n ih =>
      intro a b hd ha hb he
      refine sx_lload (p1 := 8) dX12_part_6 rfl rfl ?_
      refine sx_lconst (y := 0) (p1 := 9) dX12_part_8 rfl (by decide) ?_
      refine sx_lcmp_eq (p2 := 0) (p1 := 13) (tg := 31) dX12_part_9 dX12_part_10 rfl rfl (by omega) (by omega) (fun q9 => ?_) (fun q9 => ?_)
      · have he0 : eu 100 x y = a := he.trans (if_pos (by omega))
        refine sx_iload (p1 := 33) dX12_part_31 rfl rfl ?_
        refine sx_if_ne (p1 := 36) (tg := 40) dX12_part_33 rfl rfl (by omega) (fun q33 => ?_) (fun q33 => ?_)
        · refine sx_lload_n (p1 := 41) dX12_part_40 rfl rfl ?_
          refine sx_lload (p1 := 43) dX12_part_41 rfl rfl ?_
          refine sx_ldiv (p1 := 44) dX12_part_43 rfl (by omega) (by omega) ?_
          exact sx_lret dX12_part_44 rfl (sx_rj (by unfold mFrac; rw [he0]; first | (rw [if_pos (by omega)]; done) | (rw [if_neg (by omega)]; done)) (by rfl))
        · refine sx_lload_n (p1 := 37) dX12_part_36 rfl rfl ?_
          refine sx_goto (p1 := 41) (tg := 41) dX12_part_37 rfl rfl ?_
          refine sx_lload (p1 := 43) dX12_part_41 rfl rfl ?_
          refine sx_ldiv (p1 := 44) dX12_part_43 rfl (by omega) (by omega) ?_
          exact sx_lret dX12_part_44 rfl (sx_rj (by unfold mFrac; rw [he0]; first | (rw [if_pos (by omega)]; done) | (rw [if_neg (by omega)]; done)) (by rfl))
      · have zq1 : eu (n + 1) a b = eu n b (a % b) := if_neg q9
        have zq2 := Int.emod_nonneg a q9
        have zq3 := Int.emod_lt_of_pos a (show 0 < b by omega)
        have zq4 : dn n b (a % b) := hd.elim (fun q => absurd q q9) id
        refine sx_lload (p1 := 15) dX12_part_13 rfl rfl ?_
        refine sx_lload (p1 := 17) dX12_part_15 rfl rfl ?_
        refine sx_lrem (p1 := 18) dX12_part_17 rfl (by omega) (by omega) ?_
        refine sx_lstore (lo1 := [some _, none, some _, none, some _, some _, none, some _, none, some _, none]) (p1 := 20) dX12_part_18 rfl (by decide) rfl ?_
        refine sx_lload (p1 := 22) dX12_part_20 rfl rfl ?_
        refine sx_lstore (lo1 := [some _, none, some _, none, some _, some _, none, some _, none, some _, none]) (p1 := 24) dX12_part_22 rfl (by decide) rfl ?_
        refine sx_lload (p1 := 26) dX12_part_24 rfl rfl ?_
        refine sx_lstore (lo1 := [some _, none, some _, none, some _, some _, none, some _, none, some _, none]) (p1 := 28) dX12_part_26 rfl (by decide) rfl ?_
        refine sx_goto (p1 := 6) (tg := 6) dX12_part_28 rfl rfl ?_
        refine sx_drop [true, false, true, false, true, true, false, true, false, false, false] (lo1 := [some _, none, some _, none, some _, some _, none, some _, none, none, none]) rfl ?_
        exact ih _ _ zq4 hb (by omega) (he.trans zq1)
  refine Ct.of false [some (vJ x), none, some (vJ y), none, some (vI k), none, none, none, none, none, none] (plainFor_of_name (by decide)) (fun h => by cases h) (Nat.le_of_ble_eq_true rfl) (fun _ => rfl) sx_isl ?_
  refine sx_lload_n (p1 := 1) dX12_part_0 rfl rfl ?_
  refine sx_lstore (lo1 := [some _, none, some _, none, some _, some _, none, none, none, none, none]) (p1 := 3) dX12_part_1 rfl (by decide) rfl ?_
  refine sx_lload_n (p1 := 4) dX12_part_3 rfl rfl ?_
  refine sx_lstore (lo1 := [some _, none, some _, none, some _, some _, none, some _, none, none, none]) (p1 := 6) dX12_part_4 rfl (by decide) rfl ?_
  exact key 100 x y (dn_2 50 x y hx.1 (by omega) (by
    have : (1000 : Int) < 2 ^ 50 := by decide
    omega)) hx (by omega) rfl
set_option maxRecDepth 20000 in
theorem c_X12_helmetsNow {X : sx_X} {S : St} (b1 : 0 ≤ S.1 33 ∧ S.1 33 ≤ 6) (b5 : ∀ i, 0 ≤ S.2 50 i ∧ S.2 50 i ≤ 1) : Ct X yX12_helmetsNow cX12_helmetsNow 3 (some .int) 0 0 0 [.ref 39] (hp S) (sx_is (some (vI (hbF (S.2 50) (S.1 33).toNat : Nat))) (hp S)) := by
  have key : ∀ (n i : Nat), i + n = (S.1 33).toNat → Rn X RX12 false cX12_helmetsNow 3 0 0 0 (some .int) 4 [some (.ref 39), some (vI (hbF (S.2 50) i : Nat)), some (vI (i : Int))] [] (hp S) 0 0 (sx_is (some (vI (hbF (S.2 50) (S.1 33).toNat : Nat))) (hp S)) := by
    intro n
    induction n with
    | zero =>
      intro i hi 
      rw [Nat.add_zero] at hi
      subst hi
      refine sx_iload_n (p1 := 5) dX12_helmetsNow_4 rfl rfl ?_
      refine sx_aload_n (p1 := 6) dX12_helmetsNow_5 rfl rfl ?_
      refine sx_get (p1 := 9) dX12_helmetsNow_6 rfl fl_X12_106 (hp_c39 _) rfl ?_
      refine sx_icmp_ge (p1 := 12) (tg := 37) dX12_helmetsNow_9 rfl rfl (by omega) (by omega) (fun q9 => ?_) (fun q9 => absurd q9 (by omega))
      refine sx_iload_n (p1 := 38) dX12_helmetsNow_37 rfl rfl ?_
      exact sx_iret dX12_helmetsNow_38 rfl (sx_ri (by first | rfl | omega) (by rfl))
    | succ n ih =>
      intro i hi 
      have e0 := hbF_lt (S.2 50) i
      have e1 : 2 ^ i ≤ 32 := by
        have : ∀ n, n < 6 → 2 ^ n ≤ 32 := by decide
        exact this i (by omega)
      have e2 := or_ok (hbF (S.2 50) i) (by omega) i (by omega)
      have e3 := or_0 (hbF (S.2 50) i) (by omega)
      have e5 := b5 i
      refine sx_iload_n (p1 := 5) dX12_helmetsNow_4 rfl rfl ?_
      refine sx_aload_n (p1 := 6) dX12_helmetsNow_5 rfl rfl ?_
      refine sx_get (p1 := 9) dX12_helmetsNow_6 rfl fl_X12_106 (hp_c39 _) rfl ?_
      refine sx_icmp_ge (p1 := 12) (tg := 37) dX12_helmetsNow_9 rfl rfl (by omega) (by omega) (fun q9 => absurd q9 (by omega)) (fun q9 => ?_)
      refine sx_iload_n (p1 := 13) dX12_helmetsNow_12 rfl rfl ?_
      refine sx_aload_n (p1 := 14) dX12_helmetsNow_13 rfl rfl ?_
      refine sx_get (p1 := 17) dX12_helmetsNow_14 rfl fl_X12_40 (hp_c39 _) rfl ?_
      refine sx_iload_n (p1 := 18) dX12_helmetsNow_17 rfl rfl ?_
      refine sx_zald (p1 := 19) dX12_helmetsNow_18 rfl (hp_c50 _) (by omega) (by decide) ?_
      rw [Int.toNat_natCast]
      refine sx_if_eq (p1 := 22) (tg := 28) dX12_helmetsNow_19 rfl rfl (by omega) (fun q19 => ?_) (fun q19 => ?_)
      · have e4 : hbF (S.2 50) (i + 1) = hbF (S.2 50) i := by rw [hbF, if_pos (by omega), Nat.or_zero]
        refine sx_iconst (p1 := 29) dX12_helmetsNow_28 rfl ?_
        refine sx_ior (p1 := 30) dX12_helmetsNow_29 rfl ?_
        first | rw [e2.1] | rw [e3]
        refine sx_istore_n (lo1 := [some _, some _, some _]) (p1 := 31) dX12_helmetsNow_30 rfl (by decide) rfl ?_
        refine sx_iinc (lo1 := [some _, some _, some _]) (p1 := 34) dX12_helmetsNow_31 rfl (by decide) rfl rfl ?_
        refine sx_goto (p1 := 4) (tg := 4) dX12_helmetsNow_34 rfl rfl ?_
        have h9 := ih (i + 1) (by omega)
        rw [e4] at h9
        exact h9
      · have e4 : hbF (S.2 50) (i + 1) = hbF (S.2 50) i ||| 2 ^ i := by rw [hbF, if_neg (by omega)]
        refine sx_iconst (p1 := 23) dX12_helmetsNow_22 rfl ?_
        refine sx_iload_n (p1 := 24) dX12_helmetsNow_23 rfl rfl ?_
        refine sx_ishl (p1 := 25) dX12_helmetsNow_24 rfl ?_
        refine sx_goto (p1 := 29) (tg := 29) dX12_helmetsNow_25 rfl rfl ?_
        refine sx_ior (p1 := 30) dX12_helmetsNow_29 rfl ?_
        first | rw [e2.1] | rw [e3]
        refine sx_istore_n (lo1 := [some _, some _, some _]) (p1 := 31) dX12_helmetsNow_30 rfl (by decide) rfl ?_
        refine sx_iinc (lo1 := [some _, some _, some _]) (p1 := 34) dX12_helmetsNow_31 rfl (by decide) rfl rfl ?_
        refine sx_goto (p1 := 4) (tg := 4) dX12_helmetsNow_34 rfl rfl ?_
        have h9 := ih (i + 1) (by omega)
        rw [e4] at h9
        exact h9
  refine Ct.of false [some (.ref 39), none, none] (plainFor_of_name (by decide)) (fun h => by cases h) (Nat.le_of_ble_eq_true rfl) (fun _ => rfl) sx_isl ?_
  refine sx_iconst (p1 := 1) dX12_helmetsNow_0 rfl ?_
  refine sx_istore_n (lo1 := [some _, some _, none]) (p1 := 2) dX12_helmetsNow_1 rfl (by decide) rfl ?_
  refine sx_iconst (p1 := 3) dX12_helmetsNow_2 rfl ?_
  refine sx_istore_n (lo1 := [some _, some _, some _]) (p1 := 4) dX12_helmetsNow_3 rfl (by decide) rfl ?_
  exact key _ 0 (Nat.zero_add _)
set_option maxRecDepth 20000 in
theorem c_X12_walkerOf {X : sx_X} {S : St} {i j : Int} (hV : okV (mV S)) (hi : 0 ≤ i ∧ i < S.1 33) (hj : -2147483648 ≤ j ∧ j ≤ 2147483647) : Ct X yX12_walkerOf cX12_walkerOf 3 (some .int) 0 0 0 [.ref 39, vI i, vI j] (hp S) (sx_is (some (vI (if j = 0 then rW S i else if j = 1 then rS S i else rH S i))) (hp (S))) := by
  have b0 : 0 ≤ S.1 32 ∧ S.1 32 ≤ 16 := hV.1
  have c0 : 0 ≤ (mV S).1 0 ∧ (mV S).1 0 ≤ 16 := hV.1
  have b1 : 0 ≤ S.1 33 ∧ S.1 33 ≤ 6 := hV.2.1
  have c1 : 0 ≤ (mV S).1 1 ∧ (mV S).1 1 ≤ 6 := hV.2.1
  have b2 : 0 ≤ S.1 34 ∧ S.1 34 ≤ 99 := hV.2.2.1
  have c2 : 0 ≤ (mV S).1 2 ∧ (mV S).1 2 ≤ 99 := hV.2.2.1
  have b3 : 0 ≤ S.2 51 1 ∧ S.2 51 1 ≤ 1 := hV.2.2.2.1
  have c3 : 0 ≤ (mV S).1 3 ∧ (mV S).1 3 ≤ 1 := hV.2.2.2.1
  have b4 : 0 ≤ S.2 51 2 ∧ S.2 51 2 ≤ 16 := hV.2.2.2.2.1
  have c4 : 0 ≤ (mV S).1 4 ∧ (mV S).1 4 ≤ 16 := hV.2.2.2.2.1
  have b5 : 0 ≤ S.2 51 3 ∧ S.2 51 3 ≤ 999 := hV.2.2.2.2.2.1
  have c5 : 0 ≤ (mV S).1 5 ∧ (mV S).1 5 ≤ 999 := hV.2.2.2.2.2.1
  have b6 : 0 ≤ S.2 51 4 ∧ S.2 51 4 ≤ 1999 := hV.2.2.2.2.2.2.1
  have c6 : 0 ≤ (mV S).1 6 ∧ (mV S).1 6 ≤ 1999 := hV.2.2.2.2.2.2.1
  have b7 : 0 ≤ S.2 51 5 ∧ S.2 51 5 ≤ 16 := hV.2.2.2.2.2.2.2.1
  have c7 : 0 ≤ (mV S).1 7 ∧ (mV S).1 7 ≤ 16 := hV.2.2.2.2.2.2.2.1
  have bK : ∀ q, 0 ≤ rK S q ∧ rK S q ≤ 3 := hV.2.2.2.2.2.2.2.2.1
  have bL : ∀ q, 0 ≤ rL S q ∧ rL S q ≤ 9 := hV.2.2.2.2.2.2.2.2.2.1
  have bW : ∀ q, 0 ≤ rW S q ∧ rW S q ≤ 9 := hV.2.2.2.2.2.2.2.2.2.2.1
  have bS : ∀ q, 0 ≤ rS S q ∧ rS S q ≤ 9 := hV.2.2.2.2.2.2.2.2.2.2.2.1
  have bH : ∀ q, 0 ≤ rH S q ∧ rH S q ≤ 1 := hV.2.2.2.2.2.2.2.2.2.2.2.2
  have e1 : rW S i = S.2 48 i.toNat := if_pos hi
  have e2 : rS S i = S.2 49 i.toNat := if_pos hi
  have e3 : rH S i = S.2 50 i.toNat := if_pos hi
  have e4 := bH i
  refine Ct.of false [some (.ref 39), some (vI i), some (vI j)] (plainFor_of_name (by decide)) (fun h => by cases h) (Nat.le_of_ble_eq_true rfl) (fun _ => rfl) sx_isl ?_
  refine sx_iload_n (p1 := 1) dX12_walkerOf_0 rfl rfl ?_
  refine sx_if_ne (p1 := 4) (tg := 13) dX12_walkerOf_1 rfl rfl (by omega) (fun q1 => ?_) (fun q1 => ?_)
  · refine sx_iload_n (p1 := 14) dX12_walkerOf_13 rfl rfl ?_
    refine sx_iconst (p1 := 15) dX12_walkerOf_14 rfl ?_
    refine sx_icmp_ne (p1 := 18) (tg := 27) dX12_walkerOf_15 rfl rfl (by omega) (by omega) (fun q15 => ?_) (fun q15 => ?_)
    · refine sx_aload_n (p1 := 28) dX12_walkerOf_27 rfl rfl ?_
      refine sx_get (p1 := 31) dX12_walkerOf_28 rfl fl_X12_40 (hp_c39 _) rfl ?_
      refine sx_iload_n (p1 := 32) dX12_walkerOf_31 rfl rfl ?_
      refine sx_zald (g := S.2 50) (p1 := 33) dX12_walkerOf_32 rfl (hp_c50 _) (by omega) (by decide) ?_
      refine sx_if_eq (p1 := 36) (tg := 40) dX12_walkerOf_33 rfl rfl (by omega) (fun q33 => ?_) (fun q33 => ?_)
      · refine sx_iconst (p1 := 41) dX12_walkerOf_40 rfl ?_
        exact sx_iret dX12_walkerOf_41 rfl (sx_ri (by first | rfl | omega) (by rfl))
      · refine sx_iconst (p1 := 37) dX12_walkerOf_36 rfl ?_
        refine sx_goto (p1 := 41) (tg := 41) dX12_walkerOf_37 rfl rfl ?_
        exact sx_iret dX12_walkerOf_41 rfl (sx_ri (by first | rfl | omega) (by rfl))
    · refine sx_aload_n (p1 := 19) dX12_walkerOf_18 rfl rfl ?_
      refine sx_get (p1 := 22) dX12_walkerOf_19 rfl fl_X12_37 (hp_c39 _) rfl ?_
      refine sx_iload_n (p1 := 23) dX12_walkerOf_22 rfl rfl ?_
      refine sx_iald (g := S.2 49) (p1 := 24) dX12_walkerOf_23 rfl (hp_c49 _) (by omega) (by decide) ?_
      refine sx_goto (p1 := 41) (tg := 41) dX12_walkerOf_24 rfl rfl ?_
      exact sx_iret dX12_walkerOf_41 rfl (sx_ri (by first | rfl | omega) (by rfl))
  · refine sx_aload_n (p1 := 5) dX12_walkerOf_4 rfl rfl ?_
    refine sx_get (p1 := 8) dX12_walkerOf_5 rfl fl_X12_34 (hp_c39 _) rfl ?_
    refine sx_iload_n (p1 := 9) dX12_walkerOf_8 rfl rfl ?_
    refine sx_iald (g := S.2 48) (p1 := 10) dX12_walkerOf_9 rfl (hp_c48 _) (by omega) (by decide) ?_
    refine sx_goto (p1 := 41) (tg := 41) dX12_walkerOf_10 rfl rfl ?_
    exact sx_iret dX12_walkerOf_41 rfl (sx_ri (by first | rfl | omega) (by rfl))
