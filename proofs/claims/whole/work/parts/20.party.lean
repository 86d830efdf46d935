def fitZ (B : Int → Int) (a : Int) : Int := if a % 4 = 0 then (if 1 ≤ figZ (B a) then 1 else 0) else if a % 4 = 1 then (if 0 ≤ figZ (B a) then 1 else 0) else if a % 4 = 2 then (if B a = 104 ∨ B a = 46 then 1 else 0) else (if B a = 59 then 1 else 0)
def wF (B : Int → Int) (n : Int) : Nat → Nat → Int
  | 0, _ => if n = 0 ∨ n % 4 = 3 then -1 else n
  | k + 1, i => if fitZ B i = 0 then (i : Int) else wF B n k (i + 1)
theorem fitZ_b (B : Int → Int) (a : Int) : fitZ B a = 0 ∨ fitZ B a = 1 := by
  unfold fitZ
  (repeat' split) <;> simp
theorem wF_b (B : Int → Int) (n : Int) (hn : 0 ≤ n ∧ n ≤ 23) : ∀ k i : Nat, i + k = n.toNat → -1 ≤ wF B n k i ∧ wF B n k i ≤ 23
  | 0, i, h => by
    unfold wF
    split <;> omega
  | k + 1, i, h => by
    have ih := wF_b B n hn k (i + 1) (by omega)
    unfold wF
    split
    · omega
    · exact ih
def wU (f g : Nat → Int) (j x : Nat) : Int := if x < j then g x else f x
theorem wU_0 (f g : Nat → Int) : wU f g 0 = f := by
  funext x
  unfold wU
  rw [if_neg (by omega)]
theorem wU_s (f g : Nat → Int) (j : Nat) {y : Int} (hy : y = g j) : sx_u (wU f g j) j y = wU f g (j + 1) := by
  funext x
  unfold sx_u wU
  by_cases h : x = j
  · subst h
    rw [if_pos rfl, if_pos (by omega), hy]
  · rw [if_neg h]
    by_cases h2 : x < j
    · rw [if_pos h2, if_pos (by omega)]
    · rw [if_neg h2, if_neg (by omega)]
def wG1 (B : Int → Int) (x : Nat) : Int := figZ (B (4 * (x : Int)))
def wG2 (B : Int → Int) (x : Nat) : Int := figZ (B (4 * (x : Int) + 1))
def wG3 (B : Int → Int) (x : Nat) : Int := if B (4 * (x : Int) + 2) = 104 then 1 else 0
def wS (S : St) (B : Int → Int) (fa : Int) (j : Nat) : St := si (si (sA (sA (sA S 11 (wU (S.2 11) (wG1 B) j)) 12 (wU (S.2 12) (wG2 B) j)) 13 (wU (S.2 13) (wG3 B) j)) 4 j) 5 fa
theorem wS_0 (S : St) (B : Int → Int) (fa : Int) : si (si S 4 0) 5 fa = wS S B fa 0 := by
  refine Prod.ext rfl ?_
  funext b
  simp only [wS, si, sA, sx_u, wU_0]
  by_cases h1 : b = 13
  · subst h1
    simp
  · by_cases h2 : b = 12
    · subst h2
      simp
    · by_cases h3 : b = 11 <;> simp [h1, h2, h3]
theorem wS_add (S : St) (B : Int → Int) (fa : Int) (j : Nat) {x y z : Int} (hx : x = wG1 B j) (hy : y = wG2 B j) (hz : z = wG3 B j) : si (sa (sa (sa (wS S B fa j) 11 j x) 12 j y) 13 j z) 4 ((j : Int) + 1) = wS S B fa (j + 1) := by
  refine Prod.ext ?_ ?_
  · funext b
    simp only [wS, si, sa, sA, sx_u]
    by_cases h1 : b = 4
    · subst h1
      simp
    · by_cases h2 : b = 5 <;> simp [h1, h2]
  · funext b
    simp only [wS, si, sa, sA]
    rw [← wU_s (S.2 11) (wG1 B) j hx, ← wU_s (S.2 12) (wG2 B) j hy, ← wU_s (S.2 13) (wG3 B) j hz]
    simp only [sx_u]
    by_cases h1 : b = 13
    · subst h1
      simp
    · by_cases h2 : b = 12
      · subst h2
        simp
      · by_cases h3 : b = 11
        · subst h3
          simp
        · simp [h1, h2, h3]
set_option maxRecDepth 20000 in
theorem c_X5_fitsAt {X : sx_X} {S : St} {i : Int} (hl : 0 ≤ S.1 1 ∧ S.1 1 ≤ 23) (hi : 0 ≤ i ∧ i ≤ 23) : Ct X yX5_fitsAt cX5_fitsAt 2 (some .boolean) 2 0 0 [.ref 5, vI i] (hp S) (sx_is (some (vI (fitZ (txB S 1) i))) (hp S)) := by
  have fb : -1 ≤ figZ (txB S 1 i) ∧ figZ (txB S 1 i) ≤ 9 := figZ_b _
  have tb := txB_b S 1 i
  have fe : txF S 1 i = figZ (txB S 1 i) := rfl
  refine Ct.of false [some (.ref 5), some (vI i)] (plainFor_of_name (by decide)) (fun h => by cases h) (Nat.le_of_ble_eq_true rfl) (fun _ => rfl) sx_isl ?_
  refine sx_iload_n (p1 := 1) dX5_fitsAt_0 rfl rfl ?_
  refine sx_iconst (p1 := 2) dX5_fitsAt_1 rfl ?_
  refine sx_irem (p1 := 3) dX5_fitsAt_2 rfl (by omega) (by omega) ?_
  rcases (show i % 4 = 0 ∨ i % 4 = 1 ∨ i % 4 = 2 ∨ i % 4 = 3 by omega) with h4 | h4 | h4 | h4
  · rw [h4]
    refine sx_tsIn (p1 := 28) (tg := 28) dX5_fitsAt_3 (by decide) (by decide) rfl rfl rfl ?_
    refine sx_aload_n (p1 := 29) dX5_fitsAt_28 rfl rfl ?_
    refine sx_iload_n (p1 := 30) dX5_fitsAt_29 rfl rfl ?_
    refine sx_callVr (p1 := 33) (As := [_]) (k1 := 0) (n1 := 0) dX5_fitsAt_30 rfl rfl (c_X10_figureAt (t := 1) (by decide) hl (by omega)) mt_X10_figureAt ml_X5_48 (hp_c5 _) rfl rfl (Nat.le_of_ble_eq_true rfl) rfl (Nat.le_of_ble_eq_true rfl) rfl rfl (Nat.le_of_ble_eq_true rfl) (Nat.le_of_ble_eq_true rfl) ?_
    refine sx_iconst (p1 := 34) dX5_fitsAt_33 rfl ?_
    refine sx_icmp_lt (p1 := 37) (tg := 41) dX5_fitsAt_34 rfl rfl (by omega) (by omega) (fun q34 => ?_) (fun q34 => ?_)
    · refine sx_iconst (p1 := 42) dX5_fitsAt_41 rfl ?_
      exact sx_zret dX5_fitsAt_42 rfl (by omega) (sx_ri (by unfold fitZ; rw [if_pos h4]; split <;> omega) (by rfl))
    · refine sx_iconst (p1 := 38) dX5_fitsAt_37 rfl ?_
      refine sx_goto (p1 := 42) (tg := 42) dX5_fitsAt_38 rfl rfl ?_
      exact sx_zret dX5_fitsAt_42 rfl (by omega) (sx_ri (by unfold fitZ; rw [if_pos h4]; split <;> omega) (by rfl))
  · rw [h4]
    refine sx_tsIn (p1 := 43) (tg := 43) dX5_fitsAt_3 (by decide) (by decide) rfl rfl rfl ?_
    refine sx_aload_n (p1 := 44) dX5_fitsAt_43 rfl rfl ?_
    refine sx_iload_n (p1 := 45) dX5_fitsAt_44 rfl rfl ?_
    refine sx_callVr (p1 := 48) (As := [_]) (k1 := 0) (n1 := 0) dX5_fitsAt_45 rfl rfl (c_X10_figureAt (t := 1) (by decide) hl (by omega)) mt_X10_figureAt ml_X5_48 (hp_c5 _) rfl rfl (Nat.le_of_ble_eq_true rfl) rfl (Nat.le_of_ble_eq_true rfl) rfl rfl (Nat.le_of_ble_eq_true rfl) (Nat.le_of_ble_eq_true rfl) ?_
    refine sx_if_lt (p1 := 51) (tg := 55) dX5_fitsAt_48 rfl rfl (by omega) (fun q48 => ?_) (fun q48 => ?_)
    · refine sx_iconst (p1 := 56) dX5_fitsAt_55 rfl ?_
      exact sx_zret dX5_fitsAt_56 rfl (by omega) (sx_ri (by unfold fitZ; rw [if_neg (by omega), if_pos h4]; split <;> omega) (by rfl))
    · refine sx_iconst (p1 := 52) dX5_fitsAt_51 rfl ?_
      refine sx_goto (p1 := 56) (tg := 56) dX5_fitsAt_52 rfl rfl ?_
      exact sx_zret dX5_fitsAt_56 rfl (by omega) (sx_ri (by unfold fitZ; rw [if_neg (by omega), if_pos h4]; split <;> omega) (by rfl))
  · rw [h4]
    refine sx_tsIn (p1 := 57) (tg := 57) dX5_fitsAt_3 (by decide) (by decide) rfl rfl rfl ?_
    refine sx_aload_n (p1 := 58) dX5_fitsAt_57 rfl rfl ?_
    refine sx_iload_n (p1 := 59) dX5_fitsAt_58 rfl rfl ?_
    refine sx_callVr (p1 := 62) (As := [_]) (k1 := 0) (n1 := 0) dX5_fitsAt_59 rfl rfl (c_X10_byteAt (t := 1) (by decide) hl (by omega)) mt_X10_byteAt ml_X5_51 (hp_c5 _) rfl rfl (Nat.le_of_ble_eq_true rfl) rfl (Nat.le_of_ble_eq_true rfl) rfl rfl (Nat.le_of_ble_eq_true rfl) (Nat.le_of_ble_eq_true rfl) ?_
    refine sx_bipush (p1 := 64) dX5_fitsAt_62 rfl (by decide) ?_
    refine sx_icmp_eq (p1 := 67) (tg := 77) dX5_fitsAt_64 rfl rfl (by omega) (by omega) (fun q64 => ?_) (fun q64 => ?_)
    · refine sx_iconst (p1 := 78) dX5_fitsAt_77 rfl ?_
      refine sx_goto (p1 := 82) (tg := 82) dX5_fitsAt_78 rfl rfl ?_
      exact sx_zret dX5_fitsAt_82 rfl (by omega) (sx_ri (by unfold fitZ; rw [if_neg (by omega), if_neg (by omega), if_pos h4]; split <;> omega) (by rfl))
    · refine sx_aload_n (p1 := 68) dX5_fitsAt_67 rfl rfl ?_
      refine sx_iload_n (p1 := 69) dX5_fitsAt_68 rfl rfl ?_
      refine sx_callVr (p1 := 72) (As := [_]) (k1 := 0) (n1 := 0) dX5_fitsAt_69 rfl rfl (c_X10_byteAt (t := 1) (by decide) hl (by omega)) mt_X10_byteAt ml_X5_51 (hp_c5 _) rfl rfl (Nat.le_of_ble_eq_true rfl) rfl (Nat.le_of_ble_eq_true rfl) rfl rfl (Nat.le_of_ble_eq_true rfl) (Nat.le_of_ble_eq_true rfl) ?_
      refine sx_bipush (p1 := 74) dX5_fitsAt_72 rfl (by decide) ?_
      refine sx_icmp_ne (p1 := 77) (tg := 81) dX5_fitsAt_74 rfl rfl (by omega) (by omega) (fun q74 => ?_) (fun q74 => ?_)
      · refine sx_iconst (p1 := 82) dX5_fitsAt_81 rfl ?_
        exact sx_zret dX5_fitsAt_82 rfl (by omega) (sx_ri (by unfold fitZ; rw [if_neg (by omega), if_neg (by omega), if_pos h4]; split <;> omega) (by rfl))
      · refine sx_iconst (p1 := 78) dX5_fitsAt_77 rfl ?_
        refine sx_goto (p1 := 82) (tg := 82) dX5_fitsAt_78 rfl rfl ?_
        exact sx_zret dX5_fitsAt_82 rfl (by omega) (sx_ri (by unfold fitZ; rw [if_neg (by omega), if_neg (by omega), if_pos h4]; split <;> omega) (by rfl))
  · rw [h4]
    refine sx_tsOut (p1 := 83) (tg := 83) dX5_fitsAt_3 (by decide) (by decide) rfl rfl ?_
    refine sx_aload_n (p1 := 84) dX5_fitsAt_83 rfl rfl ?_
    refine sx_iload_n (p1 := 85) dX5_fitsAt_84 rfl rfl ?_
    refine sx_callVr (p1 := 88) (As := [_]) (k1 := 0) (n1 := 0) dX5_fitsAt_85 rfl rfl (c_X10_byteAt (t := 1) (by decide) hl (by omega)) mt_X10_byteAt ml_X5_51 (hp_c5 _) rfl rfl (Nat.le_of_ble_eq_true rfl) rfl (Nat.le_of_ble_eq_true rfl) rfl rfl (Nat.le_of_ble_eq_true rfl) (Nat.le_of_ble_eq_true rfl) ?_
    refine sx_bipush (p1 := 90) dX5_fitsAt_88 rfl (by decide) ?_
    refine sx_icmp_ne (p1 := 93) (tg := 97) dX5_fitsAt_90 rfl rfl (by omega) (by omega) (fun q90 => ?_) (fun q90 => ?_)
    · refine sx_iconst (p1 := 98) dX5_fitsAt_97 rfl ?_
      exact sx_zret dX5_fitsAt_98 rfl (by omega) (sx_ri (by unfold fitZ; rw [if_neg (by omega), if_neg (by omega), if_neg (by omega)]; split <;> omega) (by rfl))
    · refine sx_iconst (p1 := 94) dX5_fitsAt_93 rfl ?_
      refine sx_goto (p1 := 98) (tg := 98) dX5_fitsAt_94 rfl rfl ?_
      exact sx_zret dX5_fitsAt_98 rfl (by omega) (sx_ri (by unfold fitZ; rw [if_neg (by omega), if_neg (by omega), if_neg (by omega)]; split <;> omega) (by rfl))
set_option maxRecDepth 20000 in
theorem c_X5_faultOf {X : sx_X} {S : St} (hl : 0 ≤ S.1 1 ∧ S.1 1 ≤ 23)  : Ct X yX5_faultOf cX5_faultOf 2 (some .int) 3 0 0 [.ref 5] (hp S) (sx_is (some (vI (wF (txB S 1) (S.1 1) (S.1 1).toNat 0))) (hp S)) := by
  have key : ∀ (n i : Nat), i + n = (S.1 1).toNat → wF (txB S 1) (S.1 1) (S.1 1).toNat 0 = wF (txB S 1) (S.1 1) n i → Rn X RX5 false cX5_faultOf 2 3 0 0 (some .int) 2 [some (.ref 5), some (vI (i : Int))] [] (hp S) 0 0 (sx_is (some (vI (wF (txB S 1) (S.1 1) (S.1 1).toNat 0))) (hp S)) := by
    intro n
    induction n with
    | zero =>
      intro i hi hw
      rw [hw]
      refine sx_iload_n (p1 := 3) dX5_faultOf_2 rfl rfl ?_
      refine sx_aload_n (p1 := 4) dX5_faultOf_3 rfl rfl ?_
      refine sx_callVr (p1 := 7) (As := []) (k1 := 0) (n1 := 0) dX5_faultOf_4 rfl rfl (c_X10_length (t := 1) (by decide) hl) mt_X10_length ml_X5_42 (hp_c5 _) rfl rfl (Nat.le_of_ble_eq_true rfl) rfl (Nat.le_of_ble_eq_true rfl) rfl rfl (Nat.le_of_ble_eq_true rfl) (Nat.le_of_ble_eq_true rfl) ?_
      refine sx_icmp_ge (p1 := 10) (tg := 32) dX5_faultOf_7 rfl rfl (by omega) (by omega) (fun q7 => ?_) (fun q7 => absurd q7 (by omega))
      refine sx_aload_n (p1 := 33) dX5_faultOf_32 rfl rfl ?_
      refine sx_callVr (p1 := 36) (As := []) (k1 := 0) (n1 := 0) dX5_faultOf_33 rfl rfl (c_X10_length (t := 1) (by decide) hl) mt_X10_length ml_X5_42 (hp_c5 _) rfl rfl (Nat.le_of_ble_eq_true rfl) rfl (Nat.le_of_ble_eq_true rfl) rfl rfl (Nat.le_of_ble_eq_true rfl) (Nat.le_of_ble_eq_true rfl) ?_
      refine sx_if_eq (p1 := 39) (tg := 49) dX5_faultOf_36 rfl rfl (by omega) (fun q36 => ?_) (fun q36 => ?_)
      · refine sx_iconst (p1 := 50) dX5_faultOf_49 rfl ?_
        refine sx_goto (p1 := 54) (tg := 54) dX5_faultOf_50 rfl rfl ?_
        refine sx_istore_n (lo1 := [some _, some _]) (p1 := 55) dX5_faultOf_54 rfl (by decide) rfl ?_
        refine sx_iload_n (p1 := 56) dX5_faultOf_55 rfl rfl ?_
        refine sx_if_eq (p1 := 59) (tg := 63) dX5_faultOf_56 rfl rfl (by omega) (fun q56 => absurd q56 (by omega)) (fun q56 => ?_)
        refine sx_iconst (p1 := 60) dX5_faultOf_59 rfl ?_
        refine sx_goto (p1 := 67) (tg := 67) dX5_faultOf_60 rfl rfl ?_
        exact sx_iret dX5_faultOf_67 rfl (sx_ri (by unfold wF; split <;> omega) (by rfl))
      · refine sx_aload_n (p1 := 40) dX5_faultOf_39 rfl rfl ?_
        refine sx_callVr (p1 := 43) (As := []) (k1 := 0) (n1 := 0) dX5_faultOf_40 rfl rfl (c_X10_length (t := 1) (by decide) hl) mt_X10_length ml_X5_42 (hp_c5 _) rfl rfl (Nat.le_of_ble_eq_true rfl) rfl (Nat.le_of_ble_eq_true rfl) rfl rfl (Nat.le_of_ble_eq_true rfl) (Nat.le_of_ble_eq_true rfl) ?_
        refine sx_iconst (p1 := 44) dX5_faultOf_43 rfl ?_
        refine sx_irem (p1 := 45) dX5_faultOf_44 rfl (by omega) (by omega) ?_
        refine sx_iconst (p1 := 46) dX5_faultOf_45 rfl ?_
        refine sx_icmp_ne (p1 := 49) (tg := 53) dX5_faultOf_46 rfl rfl (by omega) (by omega) (fun q46 => ?_) (fun q46 => ?_)
        · refine sx_iconst (p1 := 54) dX5_faultOf_53 rfl ?_
          refine sx_istore_n (lo1 := [some _, some _]) (p1 := 55) dX5_faultOf_54 rfl (by decide) rfl ?_
          refine sx_iload_n (p1 := 56) dX5_faultOf_55 rfl rfl ?_
          refine sx_if_eq (p1 := 59) (tg := 63) dX5_faultOf_56 rfl rfl (by omega) (fun q56 => ?_) (fun q56 => absurd q56 (by omega))
          refine sx_aload_n (p1 := 64) dX5_faultOf_63 rfl rfl ?_
          refine sx_callVr (p1 := 67) (As := []) (k1 := 0) (n1 := 0) dX5_faultOf_64 rfl rfl (c_X10_length (t := 1) (by decide) hl) mt_X10_length ml_X5_42 (hp_c5 _) rfl rfl (Nat.le_of_ble_eq_true rfl) rfl (Nat.le_of_ble_eq_true rfl) rfl rfl (Nat.le_of_ble_eq_true rfl) (Nat.le_of_ble_eq_true rfl) ?_
          exact sx_iret dX5_faultOf_67 rfl (sx_ri (by unfold wF; split <;> omega) (by rfl))
        · refine sx_iconst (p1 := 50) dX5_faultOf_49 rfl ?_
          refine sx_goto (p1 := 54) (tg := 54) dX5_faultOf_50 rfl rfl ?_
          refine sx_istore_n (lo1 := [some _, some _]) (p1 := 55) dX5_faultOf_54 rfl (by decide) rfl ?_
          refine sx_iload_n (p1 := 56) dX5_faultOf_55 rfl rfl ?_
          refine sx_if_eq (p1 := 59) (tg := 63) dX5_faultOf_56 rfl rfl (by omega) (fun q56 => absurd q56 (by omega)) (fun q56 => ?_)
          refine sx_iconst (p1 := 60) dX5_faultOf_59 rfl ?_
          refine sx_goto (p1 := 67) (tg := 67) dX5_faultOf_60 rfl rfl ?_
          exact sx_iret dX5_faultOf_67 rfl (sx_ri (by unfold wF; split <;> omega) (by rfl))
    | succ n ih =>
      intro i hi hw
      have f1 := fitZ_b (txB S 1) (i : Int)
      refine sx_iload_n (p1 := 3) dX5_faultOf_2 rfl rfl ?_
      refine sx_aload_n (p1 := 4) dX5_faultOf_3 rfl rfl ?_
      refine sx_callVr (p1 := 7) (As := []) (k1 := 0) (n1 := 0) dX5_faultOf_4 rfl rfl (c_X10_length (t := 1) (by decide) hl) mt_X10_length ml_X5_42 (hp_c5 _) rfl rfl (Nat.le_of_ble_eq_true rfl) rfl (Nat.le_of_ble_eq_true rfl) rfl rfl (Nat.le_of_ble_eq_true rfl) (Nat.le_of_ble_eq_true rfl) ?_
      refine sx_icmp_ge (p1 := 10) (tg := 32) dX5_faultOf_7 rfl rfl (by omega) (by omega) (fun q7 => absurd q7 (by omega)) (fun q7 => ?_)
      refine sx_iload_n (p1 := 11) dX5_faultOf_10 rfl rfl ?_
      refine sx_bipush (p1 := 13) dX5_faultOf_11 rfl (by decide) ?_
      refine sx_icmp_ge (p1 := 16) (tg := 32) dX5_faultOf_13 rfl rfl (by omega) (by omega) (fun q13 => absurd q13 (by omega)) (fun q13 => ?_)
      refine sx_aload_n (p1 := 17) dX5_faultOf_16 rfl rfl ?_
      refine sx_iload_n (p1 := 18) dX5_faultOf_17 rfl rfl ?_
      refine sx_callSr (p1 := 21) (As := [_, _]) (k1 := 0) (n1 := 0) dX5_faultOf_18 rfl rfl (c_X5_fitsAt hl (by omega)) mt_X5_fitsAt ml_X5_58 (Nat.le_of_ble_eq_true rfl) rfl (Nat.le_of_ble_eq_true rfl) rfl rfl (Nat.le_of_ble_eq_true rfl) (Nat.le_of_ble_eq_true rfl) ?_
      refine sx_if_ne (p1 := 24) (tg := 26) dX5_faultOf_21 rfl rfl (by omega) (fun q21 => ?_) (fun q21 => ?_)
      · have zq1 : wF (txB S 1) (S.1 1) (n + 1) i = wF (txB S 1) (S.1 1) n (i + 1) := if_neg q21
        refine sx_iinc (lo1 := [some _, some _]) (p1 := 29) dX5_faultOf_26 rfl (by decide) rfl rfl ?_
        refine sx_goto (p1 := 2) (tg := 2) dX5_faultOf_29 rfl rfl ?_
        exact ih (i + 1) (by omega) (hw.trans zq1)
      · rw [hw]
        refine sx_iload_n (p1 := 25) dX5_faultOf_24 rfl rfl ?_
        exact sx_iret dX5_faultOf_25 rfl (sx_ri (by unfold wF; rw [if_pos q21]) (by rfl))
  refine Ct.of false [some (.ref 5), none] (plainFor_of_name (by decide)) (fun h => by cases h) (Nat.le_of_ble_eq_true rfl) (fun _ => rfl) sx_isl ?_
  refine sx_iconst (p1 := 1) dX5_faultOf_0 rfl ?_
  refine sx_istore_n (lo1 := [some _, some _]) (p1 := 2) dX5_faultOf_1 rfl (by decide) rfl ?_
  exact key _ 0 (Nat.zero_add _) rfl
set_option maxRecDepth 20000 in
theorem c_X5_add {X : sx_X} {S : St} {i j k : Int} (b0 : 0 ≤ S.1 4 ∧ S.1 4 < 6) : Ct X yX5_add cX5_add 4 none 0 0 0 [.ref 10, vI i, vI j, vI k] (hp S) (sx_is none (hp (si (sa (sa (sa S 11 (S.1 4).toNat i) 12 (S.1 4).toNat j) 13 (S.1 4).toNat k) 4 (S.1 4 + 1)))) := by
  refine Ct.of false [some (.ref 10), some (vI i), some (vI j), some (vI k)] (plainFor_of_name (by decide)) (fun h => by cases h) (Nat.le_of_ble_eq_true rfl) (fun _ => rfl) sx_isl ?_
  refine sx_aload_n (p1 := 1) dX5_add_0 rfl rfl ?_
  refine sx_get (v := vI (S.1 4)) (p1 := 4) dX5_add_1 rfl fl_X5_25 (hp_c10 _) rfl ?_
  refine sx_if_lt (p1 := 7) (tg := 83) dX5_add_4 rfl rfl (by omega) (fun q4 => absurd q4 (by omega)) (fun q4 => ?_)
  refine sx_aload_n (p1 := 8) dX5_add_7 rfl rfl ?_
  refine sx_get (v := vI (S.1 4)) (p1 := 11) dX5_add_8 rfl fl_X5_25 (hp_c10 _) rfl ?_
  refine sx_aload_n (p1 := 12) dX5_add_11 rfl rfl ?_
  refine sx_get (p1 := 15) dX5_add_12 rfl fl_X5_9 (hp_c10 _) rfl ?_
  refine sx_alen (p1 := 16) dX5_add_15 rfl (hp_c11 _) (fun _ => rfl) ?_
  refine sx_icmp_ge (p1 := 19) (tg := 83) dX5_add_16 rfl rfl (by omega) (by omega) (fun q16 => absurd q16 (by omega)) (fun q16 => ?_)
  refine sx_aload_n (p1 := 20) dX5_add_19 rfl rfl ?_
  refine sx_get (v := vI (S.1 4)) (p1 := 23) dX5_add_20 rfl fl_X5_25 (hp_c10 _) rfl ?_
  refine sx_aload_n (p1 := 24) dX5_add_23 rfl rfl ?_
  refine sx_get (p1 := 27) dX5_add_24 rfl fl_X5_15 (hp_c10 _) rfl ?_
  refine sx_alen (p1 := 28) dX5_add_27 rfl (hp_c12 _) (fun _ => rfl) ?_
  refine sx_icmp_ge (p1 := 31) (tg := 83) dX5_add_28 rfl rfl (by omega) (by omega) (fun q28 => absurd q28 (by omega)) (fun q28 => ?_)
  refine sx_aload_n (p1 := 32) dX5_add_31 rfl rfl ?_
  refine sx_get (v := vI (S.1 4)) (p1 := 35) dX5_add_32 rfl fl_X5_25 (hp_c10 _) rfl ?_
  refine sx_aload_n (p1 := 36) dX5_add_35 rfl rfl ?_
  refine sx_get (p1 := 39) dX5_add_36 rfl fl_X5_18 (hp_c10 _) rfl ?_
  refine sx_alen (p1 := 40) dX5_add_39 rfl (hp_c13 _) (fun _ => rfl) ?_
  refine sx_icmp_ge (p1 := 43) (tg := 83) dX5_add_40 rfl rfl (by omega) (by omega) (fun q40 => absurd q40 (by omega)) (fun q40 => ?_)
  refine sx_aload_n (p1 := 44) dX5_add_43 rfl rfl ?_
  refine sx_get (p1 := 47) dX5_add_44 rfl fl_X5_9 (hp_c10 _) rfl ?_
  refine sx_aload_n (p1 := 48) dX5_add_47 rfl rfl ?_
  refine sx_get (v := vI (S.1 4)) (p1 := 51) dX5_add_48 rfl fl_X5_25 (hp_c10 _) rfl ?_
  refine sx_iload_n (p1 := 52) dX5_add_51 rfl rfl ?_
  refine sx_iast (p1 := 53) dX5_add_52 rfl (hp_c11 _) (by omega) (by decide) (hp_a11 _ _ _) ?_
  refine sx_aload_n (p1 := 54) dX5_add_53 rfl rfl ?_
  refine sx_get (p1 := 57) dX5_add_54 rfl fl_X5_15 (hp_c10 _) rfl ?_
  refine sx_aload_n (p1 := 58) dX5_add_57 rfl rfl ?_
  refine sx_get (v := vI (S.1 4)) (p1 := 61) dX5_add_58 rfl fl_X5_25 (hp_c10 _) rfl ?_
  refine sx_iload_n (p1 := 62) dX5_add_61 rfl rfl ?_
  refine sx_iast (p1 := 63) dX5_add_62 rfl (hp_c12 _) (by omega) (by decide) (hp_a12 _ _ _) ?_
  refine sx_aload_n (p1 := 64) dX5_add_63 rfl rfl ?_
  refine sx_get (p1 := 67) dX5_add_64 rfl fl_X5_18 (hp_c10 _) rfl ?_
  refine sx_aload_n (p1 := 68) dX5_add_67 rfl rfl ?_
  refine sx_get (v := vI (S.1 4)) (p1 := 71) dX5_add_68 rfl fl_X5_25 (hp_c10 _) rfl ?_
  refine sx_iload_n (p1 := 72) dX5_add_71 rfl rfl ?_
  refine sx_iast (p1 := 73) dX5_add_72 rfl (hp_c13 _) (by omega) (by decide) (hp_a13 _ _ _) ?_
  refine sx_aload_n (p1 := 74) dX5_add_73 rfl rfl ?_
  refine sx_dup (p1 := 75) dX5_add_74 rfl rfl ?_
  refine sx_get (v := vI (S.1 4)) (p1 := 78) dX5_add_75 rfl fl_X5_25 (hp_c10 _) rfl ?_
  refine sx_iconst (p1 := 79) dX5_add_78 rfl ?_
  refine sx_iadd (p1 := 80) dX5_add_79 rfl ?_
  refine sx_put (p1 := 83) dX5_add_80 rfl fl_X5_25 (hp_c10 _) (Nat.le_of_ble_eq_true rfl) (fun _ => rfl) (fun _ => rfl) (hp_s4 _ _) ?_
  exact sx_vret dX5_add_83 rfl (sx_rv (by rfl))
theorem pl_add {X : sx_X} {S : St} {B : Int → Int} {fa x y z : Int} {j : Nat} (hj : j < 6) (hx : x = wG1 B j) (hy : y = wG2 B j) (hz : z = wG3 B j) : Ct X yX5_add cX5_add 4 none 0 0 0 [.ref 10, vI x, vI y, vI z] (hp (wS S B fa j)) (sx_is none (hp (wS S B fa (j + 1)))) := by
  have h := c_X5_add (X := X) (S := wS S B fa j) (i := x) (j := y) (k := z) (by show 0 ≤ (j : Int) ∧ (j : Int) < 6; omega)
  have e := wS_add S B fa j hx hy hz
  rw [← e]
  exact h
theorem pl_fault {X : sx_X} {S : St} (hl : 0 ≤ S.1 1 ∧ S.1 1 ≤ 23) : Ct X yX5_faultOf cX5_faultOf 2 (some .int) 3 0 0 [.ref 5] (hp (si S 4 0)) (sx_is (some (vI (wF (txB S 1) (S.1 1) (S.1 1).toNat 0))) (hp (si S 4 0))) := c_X5_faultOf (S := si S 4 0) hl
set_option maxRecDepth 20000 in
theorem c_X5_parse {X : sx_X} {S : St} (hl : 0 ≤ S.1 1 ∧ S.1 1 ≤ 23)  : Ct X yX5_parse cX5_parse 3 none 4 0 0 [.ref 10, .ref 5] (hp S) (sx_is none (hp (if (wF (txB S 1) (S.1 1) (S.1 1).toNat 0) = -1 then wS S (txB S 1) (-1) (((S.1 1).toNat + 3) / 4) else si (si S 4 0) 5 (wF (txB S 1) (S.1 1) (S.1 1).toNat 0)))) := by
  have fb := wF_b (txB S 1) (S.1 1) hl (S.1 1).toNat 0 (Nat.zero_add _)
  have key : ∀ (n i : Nat), i + n = ((S.1 1).toNat + 3) / 4 → Rn X RX5 false cX5_parse 3 4 0 0 none 24 [some (.ref 10), some (.ref 5), some (vI (4 * (i : Int)))] [] (hp (wS S (txB S 1) (-1) i)) 0 0 (sx_is none (hp (wS S (txB S 1) (-1) (((S.1 1).toNat + 3) / 4)))) := by
    intro n
    induction n with
    | zero =>
      intro i hi
      rw [Nat.add_zero] at hi
      subst hi
      refine sx_iload_n (p1 := 25) dX5_parse_24 rfl rfl ?_
      refine sx_aload_n (p1 := 26) dX5_parse_25 rfl rfl ?_
      refine sx_callVr (p1 := 29) (As := []) (k1 := 0) (n1 := 0) dX5_parse_26 rfl rfl (c_X10_length (S := wS S (txB S 1) (-1) (((S.1 1).toNat + 3) / 4)) (t := 1) (by decide) hl) mt_X10_length ml_X5_42 (hp_c5 _) rfl rfl (Nat.le_of_ble_eq_true rfl) rfl (Nat.le_of_ble_eq_true rfl) rfl rfl (Nat.le_of_ble_eq_true rfl) (Nat.le_of_ble_eq_true rfl) ?_
      refine sx_icmp_ge (p1 := 32) (tg := 77) dX5_parse_29 rfl rfl (by omega) (by (show -2147483648 ≤ S.1 1 ∧ S.1 1 ≤ 2147483647); omega) (fun q29 => ?_) (fun q29 => absurd q29 (by (show ¬ _ < S.1 1); omega))
      exact sx_vret dX5_parse_77 rfl (sx_rv (by rfl))
    | succ n ih =>
      intro i hi
      have tb := txB_b S 1 (4 * (i : Int) + 2)
      refine sx_iload_n (p1 := 25) dX5_parse_24 rfl rfl ?_
      refine sx_aload_n (p1 := 26) dX5_parse_25 rfl rfl ?_
      refine sx_callVr (p1 := 29) (As := []) (k1 := 0) (n1 := 0) dX5_parse_26 rfl rfl (c_X10_length (S := wS S (txB S 1) (-1) i) (t := 1) (by decide) hl) mt_X10_length ml_X5_42 (hp_c5 _) rfl rfl (Nat.le_of_ble_eq_true rfl) rfl (Nat.le_of_ble_eq_true rfl) rfl rfl (Nat.le_of_ble_eq_true rfl) (Nat.le_of_ble_eq_true rfl) ?_
      refine sx_icmp_ge (p1 := 32) (tg := 77) dX5_parse_29 rfl rfl (by omega) (by (show -2147483648 ≤ S.1 1 ∧ S.1 1 ≤ 2147483647); omega) (fun q29 => absurd q29 (by (show ¬ S.1 1 ≤ _); omega)) (fun q29 => ?_)
      refine sx_iload_n (p1 := 33) dX5_parse_32 rfl rfl ?_
      refine sx_bipush (p1 := 35) dX5_parse_33 rfl (by decide) ?_
      refine sx_icmp_ge (p1 := 38) (tg := 77) dX5_parse_35 rfl rfl (by omega) (by omega) (fun q35 => absurd q35 (by omega)) (fun q35 => ?_)
      refine sx_aload_n (p1 := 39) dX5_parse_38 rfl rfl ?_
      refine sx_aload_n (p1 := 40) dX5_parse_39 rfl rfl ?_
      refine sx_iload_n (p1 := 41) dX5_parse_40 rfl rfl ?_
      refine sx_callVr (p1 := 44) (As := [_]) (k1 := 0) (n1 := 0) dX5_parse_41 rfl rfl (c_X10_figureAt (S := wS S (txB S 1) (-1) i) (t := 1) (by decide) hl (by omega)) mt_X10_figureAt ml_X5_48 (hp_c5 _) rfl rfl (Nat.le_of_ble_eq_true rfl) rfl (Nat.le_of_ble_eq_true rfl) rfl rfl (Nat.le_of_ble_eq_true rfl) (Nat.le_of_ble_eq_true rfl) ?_
      refine sx_aload_n (p1 := 45) dX5_parse_44 rfl rfl ?_
      refine sx_iload_n (p1 := 46) dX5_parse_45 rfl rfl ?_
      refine sx_iconst (p1 := 47) dX5_parse_46 rfl ?_
      refine sx_iadd (p1 := 48) dX5_parse_47 rfl ?_
      refine sx_callVr (p1 := 51) (As := [_]) (k1 := 0) (n1 := 0) dX5_parse_48 rfl rfl (c_X10_figureAt (S := wS S (txB S 1) (-1) i) (t := 1) (by decide) hl (by omega)) mt_X10_figureAt ml_X5_48 (hp_c5 _) rfl rfl (Nat.le_of_ble_eq_true rfl) rfl (Nat.le_of_ble_eq_true rfl) rfl rfl (Nat.le_of_ble_eq_true rfl) (Nat.le_of_ble_eq_true rfl) ?_
      refine sx_aload_n (p1 := 52) dX5_parse_51 rfl rfl ?_
      refine sx_iload_n (p1 := 53) dX5_parse_52 rfl rfl ?_
      refine sx_iconst (p1 := 54) dX5_parse_53 rfl ?_
      refine sx_iadd (p1 := 55) dX5_parse_54 rfl ?_
      refine sx_callVr (p1 := 58) (As := [_]) (k1 := 0) (n1 := 0) dX5_parse_55 rfl rfl (c_X10_byteAt (S := wS S (txB S 1) (-1) i) (t := 1) (by decide) hl (by omega)) mt_X10_byteAt ml_X5_51 (hp_c5 _) rfl rfl (Nat.le_of_ble_eq_true rfl) rfl (Nat.le_of_ble_eq_true rfl) rfl rfl (Nat.le_of_ble_eq_true rfl) (Nat.le_of_ble_eq_true rfl) ?_
      refine sx_bipush (p1 := 60) dX5_parse_58 rfl (by decide) ?_
      refine sx_icmp_ne (p1 := 63) (tg := 67) dX5_parse_60 rfl rfl (by (show -2147483648 ≤ txB S 1 (4 * (i : Int) + 2) ∧ txB S 1 (4 * (i : Int) + 2) ≤ 2147483647); omega) (by omega) (fun q60 => ?_) (fun q60 => ?_)
      · have zq3 : (0 : Int) = wG3 (txB S 1) i := (if_neg q60).symm
        refine sx_iconst (p1 := 68) dX5_parse_67 rfl ?_
        refine sx_callVn (p1 := 71) (As := [_, _, _]) (k1 := 0) (n1 := 0) dX5_parse_68 rfl rfl (pl_add (B := txB S 1) (by omega) rfl rfl zq3) mt_X5_add ml_X5_54 (hp_c10 _) rfl rfl (Nat.le_of_ble_eq_true rfl) rfl (Nat.le_of_ble_eq_true rfl) rfl rfl (Nat.le_of_ble_eq_true rfl) (Nat.le_of_ble_eq_true rfl) ?_
        refine sx_iinc (lo1 := [some _, some _, some _]) (p1 := 74) dX5_parse_71 rfl (by decide) rfl rfl ?_
        refine sx_goto (p1 := 24) (tg := 24) dX5_parse_74 rfl rfl ?_
        have h9 := ih (i + 1) (by omega)
        rw [show 4 * ((i + 1 : Nat) : Int) = 4 * (i : Int) + 4 by omega] at h9
        exact h9
      · have zq3 : (1 : Int) = wG3 (txB S 1) i := (if_pos q60).symm
        refine sx_iconst (p1 := 64) dX5_parse_63 rfl ?_
        refine sx_goto (p1 := 68) (tg := 68) dX5_parse_64 rfl rfl ?_
        refine sx_callVn (p1 := 71) (As := [_, _, _]) (k1 := 0) (n1 := 0) dX5_parse_68 rfl rfl (pl_add (B := txB S 1) (by omega) rfl rfl zq3) mt_X5_add ml_X5_54 (hp_c10 _) rfl rfl (Nat.le_of_ble_eq_true rfl) rfl (Nat.le_of_ble_eq_true rfl) rfl rfl (Nat.le_of_ble_eq_true rfl) (Nat.le_of_ble_eq_true rfl) ?_
        refine sx_iinc (lo1 := [some _, some _, some _]) (p1 := 74) dX5_parse_71 rfl (by decide) rfl rfl ?_
        refine sx_goto (p1 := 24) (tg := 24) dX5_parse_74 rfl rfl ?_
        have h9 := ih (i + 1) (by omega)
        rw [show 4 * ((i + 1 : Nat) : Int) = 4 * (i : Int) + 4 by omega] at h9
        exact h9
  refine Ct.of false [some (.ref 10), some (.ref 5), none] (plainFor_of_name (by decide)) (fun h => by cases h) (Nat.le_of_ble_eq_true rfl) (fun _ => rfl) sx_isl ?_
  refine sx_aload_n (p1 := 1) dX5_parse_0 rfl rfl ?_
  refine sx_iconst (p1 := 2) dX5_parse_1 rfl ?_
  refine sx_put (p1 := 5) dX5_parse_2 rfl fl_X5_25 (hp_c10 _) (Nat.le_of_ble_eq_true rfl) (fun _ => rfl) (fun _ => rfl) (hp_s4 _ _) ?_
  refine sx_aload_n (p1 := 6) dX5_parse_5 rfl rfl ?_
  refine sx_aload_n (p1 := 7) dX5_parse_6 rfl rfl ?_
  refine sx_callSr (p1 := 10) (As := [_]) (k1 := 0) (n1 := 0) dX5_parse_7 rfl rfl (pl_fault hl) mt_X5_faultOf ml_X5_38 (Nat.le_of_ble_eq_true rfl) rfl (Nat.le_of_ble_eq_true rfl) rfl rfl (Nat.le_of_ble_eq_true rfl) (Nat.le_of_ble_eq_true rfl) ?_
  refine sx_put (p1 := 13) dX5_parse_10 rfl fl_X5_21 (hp_c10 _) (Nat.le_of_ble_eq_true rfl) (fun _ => rfl) (fun _ => rfl) (hp_s5 _ _) ?_
  refine sx_aload_n (p1 := 14) dX5_parse_13 rfl rfl ?_
  refine sx_get (v := vI (wF (txB S 1) (S.1 1) (S.1 1).toNat 0)) (p1 := 17) dX5_parse_14 rfl fl_X5_21 (hp_c10 _) rfl ?_
  refine sx_iconst (p1 := 18) dX5_parse_17 rfl ?_
  refine sx_icmp_eq (p1 := 21) (tg := 22) dX5_parse_18 rfl rfl (by (show -2147483648 ≤ (wF (txB S 1) (S.1 1) (S.1 1).toNat 0) ∧ (wF (txB S 1) (S.1 1) (S.1 1).toNat 0) ≤ 2147483647); omega) (by omega) (fun q18 => ?_) (fun q18 => ?_)
  · rw [if_pos q18, show si (si S 4 0) 5 (wF (txB S 1) (S.1 1) (S.1 1).toNat 0) = wS S (txB S 1) (-1) 0 from by rw [q18]; exact wS_0 S _ _]
    refine sx_iconst (p1 := 23) dX5_parse_22 rfl ?_
    refine sx_istore_n (lo1 := [some _, some _, some _]) (p1 := 24) dX5_parse_23 rfl (by decide) rfl ?_
    exact key _ 0 (Nat.zero_add _)
  · rw [if_neg q18]
    exact sx_vret dX5_parse_21 rfl (sx_rv (by rfl))
