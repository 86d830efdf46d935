set_option maxRecDepth 20000 in
theorem c_X12_read {X : sx_X} {S : St} {s : Nat} (hs : s < 4) (hsh : okSh S) (h39 : 0 ≤ S.1 39 ∧ S.1 39 ≤ 8) : Ct X yX12_read cX12_read 5 (some .int) 3 0 0 [.ref 39, vI (s : Int)] (hp S) (sx_is (some (vI (if S.2 40 s < 0 then -11 else (rdG (fun q => S.2 42 (60 * s + q)) (S.2 41 s) 20 0 S).2))) (hp (if S.2 40 s < 0 then si S 30 1 else (rdG (fun q => S.2 42 (60 * s + q)) (S.2 41 s) 20 0 S).1))) := by
  obtain ⟨hfo, hz⟩ := hsh.1 s hs
  have hit := hsh.2
  have si4 : (if 0 ≤ (s : Int) ∧ (s : Int) ≤ 3 then (1 : Int) else 0) = 1 := if_pos (by omega)
  have key : ∀ (n i : Nat) (T : St), i + n = 20 → (0 ≤ T.1 39 ∧ T.1 39 ≤ 8) → T.2 41 = S.2 41 → T.2 42 = S.2 42 → (rdG (fun q => S.2 42 (60 * s + q)) (S.2 41 s) 20 0 S) = (rdG (fun q => S.2 42 (60 * s + q)) (S.2 41 s) n i T) → Rn X RX12 false cX12_read 5 3 0 0 (some .int) 33 [some (.ref 39), some (vI (s : Int)), some (vI (i : Int)), none, none] [] (hp T) 0 0 (sx_is (some (vI (rdG (fun q => S.2 42 (60 * s + q)) (S.2 41 s) 20 0 S).2)) (hp (rdG (fun q => S.2 42 (60 * s + q)) (S.2 41 s) 20 0 S).1)) := by
    intro n
    induction n with
    | zero =>
      intro i T hi tT t1 t2 he
      rw [he]
      refine sx_iconst (p1 := 34) dX12_read_33 rfl ?_
      refine sx_iload_n (p1 := 35) dX12_read_34 rfl rfl ?_
      refine sx_imul (p1 := 36) dX12_read_35 rfl ?_
      refine sx_iconst (p1 := 37) dX12_read_36 rfl ?_
      refine sx_iadd (p1 := 38) dX12_read_37 rfl ?_
      refine sx_aload_n (p1 := 39) dX12_read_38 rfl rfl ?_
      refine sx_get (p1 := 42) dX12_read_39 rfl fl_X12_13 (hp_c39 _) rfl ?_
      refine sx_iload_n (p1 := 43) dX12_read_42 rfl rfl ?_
      refine sx_iald (g := T.2 41) (p1 := 44) dX12_read_43 rfl (hp_c41 _) (by omega) (by decide) ?_
      rw [Int.toNat_natCast]
      rw [t1]
      refine sx_icmp_gt (p1 := 47) (tg := 110) dX12_read_44 rfl rfl (by omega) (by omega) (fun q44 => ?_) (fun q44 => absurd q44 (by omega))
      refine sx_iload_n (p1 := 111) dX12_read_110 rfl rfl ?_
      exact sx_iret dX12_read_111 rfl (sx_ri (by rfl) (by rfl))
    | succ n ih =>
      intro i T hi tT t1 t2 he
      have i0 := hit (60 * s + 3 * i)
      have i1 := hit (60 * s + (3 * i + 1))
      have i2 := hit (60 * s + (3 * i + 2))
      have e0 : (60 * (s : Int) + 3 * (i : Int)).toNat = 60 * s + 3 * i := by omega
      have e1 : (60 * (s : Int) + 3 * (i : Int) + 1).toNat = 60 * s + (3 * i + 1) := by omega
      have e2 : (60 * (s : Int) + 3 * (i : Int) + 2).toNat = 60 * s + (3 * i + 2) := by omega
      refine sx_iconst (p1 := 34) dX12_read_33 rfl ?_
      refine sx_iload_n (p1 := 35) dX12_read_34 rfl rfl ?_
      refine sx_imul (p1 := 36) dX12_read_35 rfl ?_
      refine sx_iconst (p1 := 37) dX12_read_36 rfl ?_
      refine sx_iadd (p1 := 38) dX12_read_37 rfl ?_
      refine sx_aload_n (p1 := 39) dX12_read_38 rfl rfl ?_
      refine sx_get (p1 := 42) dX12_read_39 rfl fl_X12_13 (hp_c39 _) rfl ?_
      refine sx_iload_n (p1 := 43) dX12_read_42 rfl rfl ?_
      refine sx_iald (g := T.2 41) (p1 := 44) dX12_read_43 rfl (hp_c41 _) (by omega) (by decide) ?_
      rw [Int.toNat_natCast]
      rw [t1]
      refine sx_icmp_gt (p1 := 47) (tg := 110) dX12_read_44 rfl rfl (by omega) (by omega) (fun q44 => ?_) (fun q44 => ?_)
      · have zq : (rdG (fun q => S.2 42 (60 * s + q)) (S.2 41 s) (n + 1) i T) = (T, (i : Int)) := if_neg (fun q => by omega)
        rw [he, zq]
        refine sx_iload_n (p1 := 111) dX12_read_110 rfl rfl ?_
        exact sx_iret dX12_read_111 rfl (sx_ri (by first | rfl | exact Int.add_zero _) (by rfl))
      · refine sx_bipush (p1 := 49) dX12_read_47 rfl (by decide) ?_
        refine sx_iload_n (p1 := 50) dX12_read_49 rfl rfl ?_
        refine sx_imul (p1 := 51) dX12_read_50 rfl ?_
        refine sx_iconst (p1 := 52) dX12_read_51 rfl ?_
        refine sx_iload_n (p1 := 53) dX12_read_52 rfl rfl ?_
        refine sx_imul (p1 := 54) dX12_read_53 rfl ?_
        refine sx_iadd (p1 := 55) dX12_read_54 rfl ?_
        refine sx_istore (lo1 := [some _, some _, some _, none, some _]) (p1 := 57) dX12_read_55 rfl (by decide) rfl ?_
        refine sx_aload_n (p1 := 58) dX12_read_57 rfl rfl ?_
        refine sx_aload_n (p1 := 59) dX12_read_58 rfl rfl ?_
        refine sx_get (p1 := 62) dX12_read_59 rfl fl_X12_16 (hp_c39 _) rfl ?_
        refine sx_iload (p1 := 64) dX12_read_62 rfl rfl ?_
        refine sx_iald (g := T.2 42) (p1 := 65) dX12_read_64 rfl (hp_c42 _) (by omega) (by decide) ?_
        rw [t2, e0]
        refine sx_aload_n (p1 := 66) dX12_read_65 rfl rfl ?_
        refine sx_get (p1 := 69) dX12_read_66 rfl fl_X12_16 (hp_c39 _) rfl ?_
        refine sx_iload (p1 := 71) dX12_read_69 rfl rfl ?_
        refine sx_iconst (p1 := 72) dX12_read_71 rfl ?_
        refine sx_iadd (p1 := 73) dX12_read_72 rfl ?_
        refine sx_iald (g := T.2 42) (p1 := 74) dX12_read_73 rfl (hp_c42 _) (by omega) (by decide) ?_
        rw [t2, e1]
        refine sx_aload_n (p1 := 75) dX12_read_74 rfl rfl ?_
        refine sx_get (p1 := 78) dX12_read_75 rfl fl_X12_16 (hp_c39 _) rfl ?_
        refine sx_iload (p1 := 80) dX12_read_78 rfl rfl ?_
        refine sx_iconst (p1 := 81) dX12_read_80 rfl ?_
        refine sx_iadd (p1 := 82) dX12_read_81 rfl ?_
        refine sx_iald (g := T.2 42) (p1 := 83) dX12_read_82 rfl (hp_c42 _) (by omega) (by decide) ?_
        rw [t2, e2]
        refine sx_callVr (p1 := 86) (As := [_, _, _]) (k1 := 0) (n1 := 0) dX12_read_83 rfl rfl (c_X12_fell tT i0 i1 i2) mt_X12_fell ml_X12_278 (hp_c39 _) rfl rfl (Nat.le_of_ble_eq_true rfl) rfl (Nat.le_of_ble_eq_true rfl) rfl rfl (Nat.le_of_ble_eq_true rfl) (Nat.le_of_ble_eq_true rfl) ?_
        refine sx_if_lt (p1 := 89) (tg := 93) dX12_read_86 rfl rfl (by (repeat' split) <;> omega) (fun q86 => ?_) (fun q86 => ?_)
        · have zc : ¬ (((0 ≤ S.2 42 (60 * s + 3 * i) ∧ S.2 42 (60 * s + 3 * i) ≤ 5) ∧ (0 ≤ S.2 42 (60 * s + (3 * i + 1)) ∧ S.2 42 (60 * s + (3 * i + 1)) ≤ 15) ∧ 0 ≤ S.2 42 (60 * s + (3 * i + 2)) ∧ S.2 42 (60 * s + (3 * i + 2)) ≤ 1) ∧ T.1 39 < 8) := fun q => by
            rw [if_pos q.1, if_neg (by omega)] at q86
            omega
          have zq : (rdG (fun q => S.2 42 (60 * s + q)) (S.2 41 s) (n + 1) i T) = (T, (i : Int)) := if_neg (fun q => zc ⟨q.2.2, q.2.1⟩)
          rw [if_neg zc, he, zq]
          refine sx_iconst (p1 := 94) dX12_read_93 rfl ?_
          refine sx_istore_n (lo1 := [some _, some _, some _, some _, some _]) (p1 := 95) dX12_read_94 rfl (by decide) rfl ?_
          refine sx_iload_n (p1 := 96) dX12_read_95 rfl rfl ?_
          refine sx_iload_n (p1 := 97) dX12_read_96 rfl rfl ?_
          refine sx_if_eq (p1 := 100) (tg := 104) dX12_read_97 rfl rfl (by omega) (fun q97 => ?_) (fun q97 => absurd q97 (by omega))
          refine sx_iconst (p1 := 105) dX12_read_104 rfl ?_
          refine sx_iadd (p1 := 106) dX12_read_105 rfl ?_
          refine sx_istore_n (lo1 := [some _, some _, some _, some _, some _]) (p1 := 107) dX12_read_106 rfl (by decide) rfl ?_
          refine sx_goto (p1 := 29) (tg := 29) dX12_read_107 rfl rfl ?_
          refine sx_iload_n (p1 := 30) dX12_read_29 rfl rfl ?_
          refine sx_if_eq (p1 := 33) (tg := 110) dX12_read_30 rfl rfl (by omega) (fun q30 => ?_) (fun q30 => absurd q30 (by omega))
          refine sx_iload_n (p1 := 111) dX12_read_110 rfl rfl ?_
          exact sx_iret dX12_read_111 rfl (sx_ri (by first | rfl | exact Int.add_zero _) (by rfl))
        · have zc : ((0 ≤ S.2 42 (60 * s + 3 * i) ∧ S.2 42 (60 * s + 3 * i) ≤ 5) ∧ (0 ≤ S.2 42 (60 * s + (3 * i + 1)) ∧ S.2 42 (60 * s + (3 * i + 1)) ≤ 15) ∧ 0 ≤ S.2 42 (60 * s + (3 * i + 2)) ∧ S.2 42 (60 * s + (3 * i + 2)) ≤ 1) ∧ T.1 39 < 8 := Decidable.byContradiction (fun q => by
            by_cases c : ((0 ≤ S.2 42 (60 * s + 3 * i) ∧ S.2 42 (60 * s + 3 * i) ≤ 5) ∧ (0 ≤ S.2 42 (60 * s + (3 * i + 1)) ∧ S.2 42 (60 * s + (3 * i + 1)) ≤ 15) ∧ 0 ≤ S.2 42 (60 * s + (3 * i + 2)) ∧ S.2 42 (60 * s + (3 * i + 2)) ≤ 1)
            · rw [if_pos c, if_pos (Decidable.byContradiction (fun z => q ⟨c, by omega⟩))] at q86
              omega
            · rw [if_neg c] at q86
              omega)
          have zq : (rdG (fun q => S.2 42 (60 * s + q)) (S.2 41 s) (n + 1) i T) = rdG (fun q => S.2 42 (60 * s + q)) (S.2 41 s) n (i + 1) (rdB T (S.2 42 (60 * s + 3 * i)) (S.2 42 (60 * s + (3 * i + 1))) (S.2 42 (60 * s + (3 * i + 2)))) := if_pos ⟨by omega, zc.2, zc.1⟩
          rw [if_pos zc]
          refine sx_iconst (p1 := 90) dX12_read_89 rfl ?_
          refine sx_goto (p1 := 94) (tg := 94) dX12_read_90 rfl rfl ?_
          refine sx_istore_n (lo1 := [some _, some _, some _, some _, some _]) (p1 := 95) dX12_read_94 rfl (by decide) rfl ?_
          refine sx_iload_n (p1 := 96) dX12_read_95 rfl rfl ?_
          refine sx_iload_n (p1 := 97) dX12_read_96 rfl rfl ?_
          refine sx_if_eq (p1 := 100) (tg := 104) dX12_read_97 rfl rfl (by omega) (fun q97 => absurd q97 (by omega)) (fun q97 => ?_)
          refine sx_iconst (p1 := 101) dX12_read_100 rfl ?_
          refine sx_goto (p1 := 105) (tg := 105) dX12_read_101 rfl rfl ?_
          refine sx_iadd (p1 := 106) dX12_read_105 rfl ?_
          refine sx_istore_n (lo1 := [some _, some _, some _, some _, some _]) (p1 := 107) dX12_read_106 rfl (by decide) rfl ?_
          refine sx_goto (p1 := 29) (tg := 29) dX12_read_107 rfl rfl ?_
          refine sx_iload_n (p1 := 30) dX12_read_29 rfl rfl ?_
          refine sx_if_eq (p1 := 33) (tg := 110) dX12_read_30 rfl rfl (by omega) (fun q30 => absurd q30 (by omega)) (fun q30 => ?_)
          refine sx_drop [true, true, true, false, false] (lo1 := [some _, some _, some _, none, none]) rfl ?_
          have h9 := ih (i + 1) (rdB T _ _ _) (by omega) (by rw [rdB_t]; omega) (by rw [rdB_a _ _ _ _ _ (by decide)]; exact t1) (by rw [rdB_a _ _ _ _ _ (by decide)]; exact t2) (he.trans zq)
          exact h9
  refine Ct.of false [some (.ref 39), some (vI (s : Int)), none, none, none] (plainFor_of_name (by decide)) (fun h => by cases h) (Nat.le_of_ble_eq_true rfl) (fun _ => rfl) sx_isl ?_
  refine sx_iload_n (p1 := 1) dX12_read_0 rfl rfl ?_
  refine sx_callSr (p1 := 4) (As := [_]) (k1 := 0) (n1 := 0) dX12_read_1 rfl rfl (c_X12_isSheet (by omega)) mt_X12_isSheet ml_X12_68 (Nat.le_of_ble_eq_true rfl) rfl (Nat.le_of_ble_eq_true rfl) rfl rfl (Nat.le_of_ble_eq_true rfl) (Nat.le_of_ble_eq_true rfl) ?_
  refine sx_if_ne (p1 := 7) (tg := 10) dX12_read_4 rfl rfl (by rw [si4]; omega) (fun q4 => ?_) (fun q4 => absurd q4 (by rw [si4]; omega))
  refine sx_aload_n (p1 := 11) dX12_read_10 rfl rfl ?_
  refine sx_get (p1 := 14) dX12_read_11 rfl fl_X12_7 (hp_c39 _) rfl ?_
  refine sx_iload_n (p1 := 15) dX12_read_14 rfl rfl ?_
  refine sx_iald (g := S.2 40) (p1 := 16) dX12_read_15 rfl (hp_c40 _) (by omega) (by decide) ?_
  rw [Int.toNat_natCast]
  refine sx_if_ge (p1 := 19) (tg := 25) dX12_read_16 rfl rfl (by omega) (fun q16 => ?_) (fun q16 => ?_)
  · rw [if_neg (show ¬ S.2 40 s < 0 by omega), if_neg (show ¬ S.2 40 s < 0 by omega)]
    refine sx_iconst (p1 := 26) dX12_read_25 rfl ?_
    refine sx_istore_n (lo1 := [some _, some _, some _, none, none]) (p1 := 27) dX12_read_26 rfl (by decide) rfl ?_
    refine sx_iconst (p1 := 28) dX12_read_27 rfl ?_
    refine sx_istore_n (lo1 := [some _, some _, some _, some _, none]) (p1 := 29) dX12_read_28 rfl (by decide) rfl ?_
    refine sx_iload_n (p1 := 30) dX12_read_29 rfl rfl ?_
    refine sx_if_eq (p1 := 33) (tg := 110) dX12_read_30 rfl rfl (by omega) (fun q30 => absurd q30 (by omega)) (fun q30 => ?_)
    refine sx_drop [true, true, true, false, false] (lo1 := [some _, some _, some _, none, none]) rfl ?_
    exact key 20 0 S rfl h39 rfl rfl rfl
  · rw [if_pos (show S.2 40 s < 0 by omega), if_pos (show S.2 40 s < 0 by omega)]
    refine sx_aload_n (p1 := 20) dX12_read_19 rfl rfl ?_
    refine sx_iconst (p1 := 21) dX12_read_20 rfl ?_
    refine sx_callVr (p1 := 24) (As := [_]) (k1 := 0) (n1 := 0) dX12_read_21 rfl rfl (c_X12_met) mt_X12_met ml_X12_74 (hp_c39 _) rfl rfl (Nat.le_of_ble_eq_true rfl) rfl (Nat.le_of_ble_eq_true rfl) rfl rfl (Nat.le_of_ble_eq_true rfl) (Nat.le_of_ble_eq_true rfl) ?_
    exact sx_iret dX12_read_24 rfl (sx_ri (by rfl) (by rfl))
set_option maxRecDepth 20000 in
theorem c_X12_write {X : sx_X} {S T : St} {b s : Nat} {j : Int} (hT : rdS S = T) (hY : okY S) (hQ : okQ T b) (hs : s < 4) (hsh : okSh S) (h40 : T.2 40 = S.2 40) (h41 : T.2 41 = S.2 41) (hj : -2147483648 ≤ j ∧ j ≤ 2147483647) : Ct X yX12_write cX12_write 5 (some .int) 4 0 0 [.ref 39, vI j, vI (s : Int)] (hp S) (sx_is (some (vI (if 0 ≤ j ∧ j ≤ 1999 then (if S.2 40 s < 0 then -11 else (min (T.2 41 s) (T.1 33))) else -2))) (hp (if 0 ≤ j ∧ j ≤ 1999 then (if S.2 40 s < 0 then si S 30 1 else sA T 42 (rowW (T.2 42) (60 * s) (min (T.2 41 s) (T.1 33)).toNat (fun q : Nat => ctZ (T.2 40 s) (mPl (mV T) (j - (mV T).1 5 - (q : Int) * (mV T).1 2))))) else S))) := by
  have hV := hQ.1
  have hW := okQ_W hQ
  have b0 : 0 ≤ T.1 32 ∧ T.1 32 ≤ 16 := hV.1
  have c0 : 0 ≤ (mV T).1 0 ∧ (mV T).1 0 ≤ 16 := hV.1
  have b1 : 0 ≤ T.1 33 ∧ T.1 33 ≤ 6 := hV.2.1
  have c1 : 0 ≤ (mV T).1 1 ∧ (mV T).1 1 ≤ 6 := hV.2.1
  have b2 : 0 ≤ T.1 34 ∧ T.1 34 ≤ 99 := hV.2.2.1
  have c2 : 0 ≤ (mV T).1 2 ∧ (mV T).1 2 ≤ 99 := hV.2.2.1
  have b3 : 0 ≤ T.2 51 1 ∧ T.2 51 1 ≤ 1 := hV.2.2.2.1
  have c3 : 0 ≤ (mV T).1 3 ∧ (mV T).1 3 ≤ 1 := hV.2.2.2.1
  have b4 : 0 ≤ T.2 51 2 ∧ T.2 51 2 ≤ 16 := hV.2.2.2.2.1
  have c4 : 0 ≤ (mV T).1 4 ∧ (mV T).1 4 ≤ 16 := hV.2.2.2.2.1
  have b5 : 0 ≤ T.2 51 3 ∧ T.2 51 3 ≤ 999 := hV.2.2.2.2.2.1
  have c5 : 0 ≤ (mV T).1 5 ∧ (mV T).1 5 ≤ 999 := hV.2.2.2.2.2.1
  have b6 : 0 ≤ T.2 51 4 ∧ T.2 51 4 ≤ 1999 := hV.2.2.2.2.2.2.1
  have c6 : 0 ≤ (mV T).1 6 ∧ (mV T).1 6 ≤ 1999 := hV.2.2.2.2.2.2.1
  have b7 : 0 ≤ T.2 51 5 ∧ T.2 51 5 ≤ 16 := hV.2.2.2.2.2.2.2.1
  have c7 : 0 ≤ (mV T).1 7 ∧ (mV T).1 7 ≤ 16 := hV.2.2.2.2.2.2.2.1
  have bK : ∀ q, 0 ≤ rK T q ∧ rK T q ≤ 3 := hV.2.2.2.2.2.2.2.2.1
  have bL : ∀ q, 0 ≤ rL T q ∧ rL T q ≤ 9 := hV.2.2.2.2.2.2.2.2.2.1
  have bW : ∀ q, 0 ≤ rW T q ∧ rW T q ≤ 9 := hV.2.2.2.2.2.2.2.2.2.2.1
  have bS : ∀ q, 0 ≤ rS T q ∧ rS T q ≤ 9 := hV.2.2.2.2.2.2.2.2.2.2.2.1
  have bH : ∀ q, 0 ≤ rH T q ∧ rH T q ≤ 1 := hV.2.2.2.2.2.2.2.2.2.2.2.2
  have n0 : (mV T).1 0 = T.1 32 := rfl
  have n1 : (mV T).1 1 = T.1 33 := rfl
  have n2 : (mV T).1 2 = T.1 34 := rfl
  have n3 : (mV T).1 3 = T.2 51 1 := rfl
  have n4 : (mV T).1 4 = T.2 51 2 := rfl
  have n5 : (mV T).1 5 = T.2 51 3 := rfl
  have n6 : (mV T).1 6 = T.2 51 4 := rfl
  have n7 : (mV T).1 7 = T.2 51 5 := rfl
  obtain ⟨hfo, hz⟩ := hsh.1 s hs
  have si4 : (if 0 ≤ (s : Int) ∧ (s : Int) ≤ 3 then (1 : Int) else 0) = 1 := if_pos (by omega)
  have hz1 : 0 ≤ T.2 41 s ∧ T.2 41 s ≤ 60 := by rw [h41]; exact hz
  have hf1 : -1 ≤ T.2 40 s ∧ T.2 40 s ≤ 2 := by rw [h40]; exact hfo
  have zk : (0 ≤ j ∧ j ≤ 1999) → Rn X RX12 false cX12_write 5 4 0 0 (some .int) 58 [some (.ref 39), some (vI j), some (vI (s : Int)), some (vI (min (T.2 41 s) (T.1 33))), some (vI 0)] [] (hp T) 0 0 (sx_is (some (vI (min (T.2 41 s) (T.1 33)))) (hp (sA T 42 (rowW (T.2 42) (60 * s) (min (T.2 41 s) (T.1 33)).toNat (fun q : Nat => ctZ (T.2 40 s) (mPl (mV T) (j - (mV T).1 5 - (q : Int) * (mV T).1 2))))))) := by
    intro hm
    have key : ∀ (n i : Nat), i + n = (min (T.2 41 s) (T.1 33)).toNat → Rn X RX12 false cX12_write 5 4 0 0 (some .int) 58 [some (.ref 39), some (vI j), some (vI (s : Int)), some (vI (min (T.2 41 s) (T.1 33))), some (vI (i : Int))] [] (hp (sA T 42 (rowW (T.2 42) (60 * s) i (fun q : Nat => ctZ (T.2 40 s) (mPl (mV T) (j - (mV T).1 5 - (q : Int) * (mV T).1 2)))))) 0 0 (sx_is (some (vI (min (T.2 41 s) (T.1 33)))) (hp (sA T 42 (rowW (T.2 42) (60 * s) (min (T.2 41 s) (T.1 33)).toNat (fun q : Nat => ctZ (T.2 40 s) (mPl (mV T) (j - (mV T).1 5 - (q : Int) * (mV T).1 2))))))) := by
      intro n
      induction n with
      | zero =>
        intro i hi 
        rw [Nat.add_zero] at hi
        subst hi
        refine sx_iload (p1 := 60) dX12_write_58 rfl rfl ?_
        refine sx_iload_n (p1 := 61) dX12_write_60 rfl rfl ?_
        refine sx_icmp_ge (p1 := 64) (tg := 98) dX12_write_61 rfl rfl (by omega) (by omega) (fun q61 => ?_) (fun q61 => absurd q61 (by omega))
        refine sx_iload_n (p1 := 99) dX12_write_98 rfl rfl ?_
        exact sx_iret dX12_write_99 rfl (sx_ri (by rfl) (by rfl))
      | succ n ih =>
        intro i hi 
        refine sx_iload (p1 := 60) dX12_write_58 rfl rfl ?_
        refine sx_iload_n (p1 := 61) dX12_write_60 rfl rfl ?_
        refine sx_icmp_ge (p1 := 64) (tg := 98) dX12_write_61 rfl rfl (by omega) (by omega) (fun q61 => absurd q61 (by omega)) (fun q61 => ?_)
        refine sx_aload_n (p1 := 65) dX12_write_64 rfl rfl ?_
        refine sx_get (p1 := 68) dX12_write_65 rfl fl_X12_16 (hp_c39 _) rfl ?_
        refine sx_bipush (p1 := 70) dX12_write_68 rfl (by decide) ?_
        refine sx_iload_n (p1 := 71) dX12_write_70 rfl rfl ?_
        refine sx_imul (p1 := 72) dX12_write_71 rfl ?_
        refine sx_iload (p1 := 74) dX12_write_72 rfl rfl ?_
        refine sx_iadd (p1 := 75) dX12_write_74 rfl ?_
        refine sx_aload_n (p1 := 76) dX12_write_75 rfl rfl ?_
        refine sx_get (p1 := 79) dX12_write_76 rfl fl_X12_7 (hp_c39 _) rfl ?_
        refine sx_iload_n (p1 := 80) dX12_write_79 rfl rfl ?_
        refine sx_iald (g := T.2 40) (p1 := 81) dX12_write_80 rfl (hp_c40 _) (by omega) (by decide) ?_
        rw [Int.toNat_natCast]
        refine sx_aload_n (p1 := 82) dX12_write_81 rfl rfl ?_
        refine sx_iload (p1 := 84) dX12_write_82 rfl rfl ?_
        refine sx_iload_n (p1 := 85) dX12_write_84 rfl rfl ?_
        refine sx_callVr (p1 := 88) (As := [_, _]) (k1 := 0) (n1 := 0) dX12_write_85 rfl rfl (c_X12_placeOf (S := sA T 42 (rowW (T.2 42) (60 * s) i (fun q : Nat => ctZ (T.2 40 s) (mPl (mV T) (j - (mV T).1 5 - (q : Int) * (mV T).1 2))))) hV (by omega) (by omega)) mt_X12_placeOf ml_X12_157 (hp_c39 _) rfl rfl (Nat.le_of_ble_eq_true rfl) rfl (Nat.le_of_ble_eq_true rfl) rfl rfl (Nat.le_of_ble_eq_true rfl) (Nat.le_of_ble_eq_true rfl) ?_
        refine sx_callSr (p1 := 91) (As := [_, _]) (k1 := 0) (n1 := 0) dX12_write_88 rfl rfl (c_X12_cut (by omega)) mt_X12_cut ml_X12_82 (Nat.le_of_ble_eq_true rfl) rfl (Nat.le_of_ble_eq_true rfl) rfl rfl (Nat.le_of_ble_eq_true rfl) (Nat.le_of_ble_eq_true rfl) ?_
        refine sx_iast (p1 := 92) dX12_write_91 rfl (hp_c42 _) (by omega) (by decide) (hp_a42 _ _ _) ?_
        rw [show (60 * (s : Int) + (i : Int)).toNat = 60 * s + i by omega]
        refine sx_iinc (lo1 := [some _, some _, some _, some _, some _]) (p1 := 95) dX12_write_92 rfl (by decide) rfl rfl ?_
        refine sx_goto (p1 := 58) (tg := 58) dX12_write_95 rfl rfl ?_
        have h9 := ih (i + 1) (by omega)
        rw [← rowW_s (T.2 42) (60 * s) i (fun q : Nat => ctZ (T.2 40 s) (mPl (mV T) (j - (mV T).1 5 - (q : Int) * (mV T).1 2))) rfl, ← sa_sA] at h9
        exact h9
    have h9 := key _ 0 (Nat.zero_add _)
    rw [rowW_0, sA_self] at h9
    exact h9
  refine Ct.of false [some (.ref 39), some (vI j), some (vI (s : Int)), none, none] (plainFor_of_name (by decide)) (fun h => by cases h) (Nat.le_of_ble_eq_true rfl) (fun _ => rfl) sx_isl ?_
  refine sx_iload_n (p1 := 1) dX12_write_0 rfl rfl ?_
  refine sx_i2l (p1 := 2) dX12_write_1 rfl (by omega) ?_
  refine sx_lconst (y := 0) (p1 := 3) dX12_write_2 rfl (by decide) ?_
  refine sx_ldc2 (z := 1999) (p1 := 6) dX12_write_3 rfl kc_X12_155 (by decide) ?_
  refine sx_callSr (p1 := 9) (As := [_, _, _]) (k1 := 0) (n1 := 0) dX12_write_6 rfl rfl (c_X12_in (by omega) (by omega) (by omega)) mt_X12_in ml_X12_58 (Nat.le_of_ble_eq_true rfl) rfl (Nat.le_of_ble_eq_true rfl) rfl rfl (Nat.le_of_ble_eq_true rfl) (Nat.le_of_ble_eq_true rfl) ?_
  refine sx_if_eq (p1 := 12) (tg := 19) dX12_write_9 rfl rfl (by split <;> omega) (fun q9 => ?_) (fun q9 => ?_)
  · rw [if_neg (fun q => by rw [if_pos q] at q9; omega), if_neg (fun q => by rw [if_pos q] at q9; omega)]
    refine sx_bipush (p1 := 21) dX12_write_19 rfl (by decide) ?_
    exact sx_iret dX12_write_21 rfl (sx_ri (by rfl) (by rfl))
  · have zj : 0 ≤ j ∧ j ≤ 1999 := Decidable.byContradiction (fun q => q9 (if_neg q))
    rw [if_pos zj, if_pos zj]
    refine sx_iload_n (p1 := 13) dX12_write_12 rfl rfl ?_
    refine sx_callSr (p1 := 16) (As := [_]) (k1 := 0) (n1 := 0) dX12_write_13 rfl rfl (c_X12_isSheet (by omega)) mt_X12_isSheet ml_X12_68 (Nat.le_of_ble_eq_true rfl) rfl (Nat.le_of_ble_eq_true rfl) rfl rfl (Nat.le_of_ble_eq_true rfl) (Nat.le_of_ble_eq_true rfl) ?_
    refine sx_if_ne (p1 := 19) (tg := 22) dX12_write_16 rfl rfl (by rw [si4]; omega) (fun q16 => ?_) (fun q16 => absurd q16 (by rw [si4]; omega))
    refine sx_aload_n (p1 := 23) dX12_write_22 rfl rfl ?_
    refine sx_get (p1 := 26) dX12_write_23 rfl fl_X12_7 (hp_c39 _) rfl ?_
    refine sx_iload_n (p1 := 27) dX12_write_26 rfl rfl ?_
    refine sx_iald (g := S.2 40) (p1 := 28) dX12_write_27 rfl (hp_c40 _) (by omega) (by decide) ?_
    rw [Int.toNat_natCast]
    refine sx_if_ge (p1 := 31) (tg := 37) dX12_write_28 rfl rfl (by omega) (fun q28 => ?_) (fun q28 => ?_)
    · rw [if_neg (show ¬ S.2 40 s < 0 by omega), if_neg (show ¬ S.2 40 s < 0 by omega)]
      refine sx_aload_n (p1 := 38) dX12_write_37 rfl rfl ?_
      refine sx_callVn (p1 := 41) (As := []) (k1 := 0) (n1 := 0) dX12_write_38 rfl rfl (r_X12_reads hT hY) mt_X12_reads ml_X12_120 (hp_c39 _) rfl rfl (Nat.le_of_ble_eq_true rfl) rfl (Nat.le_of_ble_eq_true rfl) rfl rfl (Nat.le_of_ble_eq_true rfl) (Nat.le_of_ble_eq_true rfl) ?_
      refine sx_aload_n (p1 := 42) dX12_write_41 rfl rfl ?_
      refine sx_get (p1 := 45) dX12_write_42 rfl fl_X12_13 (hp_c39 _) rfl ?_
      refine sx_iload_n (p1 := 46) dX12_write_45 rfl rfl ?_
      refine sx_iald (g := T.2 41) (p1 := 47) dX12_write_46 rfl (hp_c41 _) (by omega) (by decide) ?_
      rw [Int.toNat_natCast]
      refine sx_aload_n (p1 := 48) dX12_write_47 rfl rfl ?_
      refine sx_get (v := vI (T.1 33)) (p1 := 51) dX12_write_48 rfl fl_X12_106 (hp_c39 _) rfl ?_
      refine sx_callSr (p1 := 54) (As := [_, _]) (k1 := 0) (n1 := 0) dX12_write_51 rfl rfl (c_X12_lesser (by omega) (by omega)) mt_X12_lesser ml_X12_163 (Nat.le_of_ble_eq_true rfl) rfl (Nat.le_of_ble_eq_true rfl) rfl rfl (Nat.le_of_ble_eq_true rfl) (Nat.le_of_ble_eq_true rfl) ?_
      refine sx_istore_n (lo1 := [some _, some _, some _, some _, none]) (p1 := 55) dX12_write_54 rfl (by decide) rfl ?_
      refine sx_iconst (p1 := 56) dX12_write_55 rfl ?_
      refine sx_istore (lo1 := [some _, some _, some _, some _, some _]) (p1 := 58) dX12_write_56 rfl (by decide) rfl ?_
      exact zk zj
    · rw [if_pos (show S.2 40 s < 0 by omega), if_pos (show S.2 40 s < 0 by omega)]
      refine sx_aload_n (p1 := 32) dX12_write_31 rfl rfl ?_
      refine sx_iconst (p1 := 33) dX12_write_32 rfl ?_
      refine sx_callVr (p1 := 36) (As := [_]) (k1 := 0) (n1 := 0) dX12_write_33 rfl rfl (c_X12_met) mt_X12_met ml_X12_74 (hp_c39 _) rfl rfl (Nat.le_of_ble_eq_true rfl) rfl (Nat.le_of_ble_eq_true rfl) rfl rfl (Nat.le_of_ble_eq_true rfl) (Nat.le_of_ble_eq_true rfl) ?_
      exact sx_iret dX12_write_36 rfl (sx_ri (by rfl) (by rfl))
def cnR (T : St) (b : Nat) (i : Int) : Int := if i = 0 then (mV T).1 0 else if i = 1 then (mV T).1 1 else if i = 2 then T.2 45 0 else if i = 3 then T.2 45 1 else if i = 4 then T.1 39 else if i = 5 then sumN ((mV T).1 0).toNat (fun q => (mV T).2 1 q) else if i = 6 then T.2 51 0 else if i = 7 then ((pop6 b : Nat) : Int) else if i = 8 then T.1 30 else -2
set_option maxRecDepth 20000 in
theorem c_X12_count {X : sx_X} {S T : St} {b : Nat} {i : Int} (hT : rdS S = T) (hY : okY S) (hQ : okQ T b) (hi : -2147483648 ≤ i ∧ i ≤ 2147483647) : Ct X yX12_count cX12_count 4 (some .int) 4 0 0 [.ref 39, vI i] (hp S) (sx_is (some (vI (cnR T b i))) (hp T)) := by
  have hV := hQ.1
  have hW := okQ_W hQ
  have b0 : 0 ≤ T.1 32 ∧ T.1 32 ≤ 16 := hV.1
  have c0 : 0 ≤ (mV T).1 0 ∧ (mV T).1 0 ≤ 16 := hV.1
  have b1 : 0 ≤ T.1 33 ∧ T.1 33 ≤ 6 := hV.2.1
  have c1 : 0 ≤ (mV T).1 1 ∧ (mV T).1 1 ≤ 6 := hV.2.1
  have b2 : 0 ≤ T.1 34 ∧ T.1 34 ≤ 99 := hV.2.2.1
  have c2 : 0 ≤ (mV T).1 2 ∧ (mV T).1 2 ≤ 99 := hV.2.2.1
  have b3 : 0 ≤ T.2 51 1 ∧ T.2 51 1 ≤ 1 := hV.2.2.2.1
  have c3 : 0 ≤ (mV T).1 3 ∧ (mV T).1 3 ≤ 1 := hV.2.2.2.1
  have b4 : 0 ≤ T.2 51 2 ∧ T.2 51 2 ≤ 16 := hV.2.2.2.2.1
  have c4 : 0 ≤ (mV T).1 4 ∧ (mV T).1 4 ≤ 16 := hV.2.2.2.2.1
  have b5 : 0 ≤ T.2 51 3 ∧ T.2 51 3 ≤ 999 := hV.2.2.2.2.2.1
  have c5 : 0 ≤ (mV T).1 5 ∧ (mV T).1 5 ≤ 999 := hV.2.2.2.2.2.1
  have b6 : 0 ≤ T.2 51 4 ∧ T.2 51 4 ≤ 1999 := hV.2.2.2.2.2.2.1
  have c6 : 0 ≤ (mV T).1 6 ∧ (mV T).1 6 ≤ 1999 := hV.2.2.2.2.2.2.1
  have b7 : 0 ≤ T.2 51 5 ∧ T.2 51 5 ≤ 16 := hV.2.2.2.2.2.2.2.1
  have c7 : 0 ≤ (mV T).1 7 ∧ (mV T).1 7 ≤ 16 := hV.2.2.2.2.2.2.2.1
  have bK : ∀ q, 0 ≤ rK T q ∧ rK T q ≤ 3 := hV.2.2.2.2.2.2.2.2.1
  have bL : ∀ q, 0 ≤ rL T q ∧ rL T q ≤ 9 := hV.2.2.2.2.2.2.2.2.2.1
  have bW : ∀ q, 0 ≤ rW T q ∧ rW T q ≤ 9 := hV.2.2.2.2.2.2.2.2.2.2.1
  have bS : ∀ q, 0 ≤ rS T q ∧ rS T q ≤ 9 := hV.2.2.2.2.2.2.2.2.2.2.2.1
  have bH : ∀ q, 0 ≤ rH T q ∧ rH T q ≤ 1 := hV.2.2.2.2.2.2.2.2.2.2.2.2
  have n0 : (mV T).1 0 = T.1 32 := rfl
  have n1 : (mV T).1 1 = T.1 33 := rfl
  have n2 : (mV T).1 2 = T.1 34 := rfl
  have n3 : (mV T).1 3 = T.2 51 1 := rfl
  have n4 : (mV T).1 4 = T.2 51 2 := rfl
  have n5 : (mV T).1 5 = T.2 51 3 := rfl
  have n6 : (mV T).1 6 = T.2 51 4 := rfl
  have n7 : (mV T).1 7 = T.2 51 5 := rfl
  by_cases hb : 0 ≤ i ∧ i ≤ 8
  · rcases (show i = 0 ∨ i = 1 ∨ i = 2 ∨ i = 3 ∨ i = 4 ∨ i = 5 ∨ i = 6 ∨ i = 7 ∨ i = 8 by omega) with rfl | rfl | rfl | rfl | rfl | rfl | rfl | rfl | rfl
    · refine Ct.of false [some (.ref 39), some (vI 0), none, none] (plainFor_of_name (by decide)) (fun h => by cases h) (Nat.le_of_ble_eq_true rfl) (fun _ => rfl) sx_isl ?_
      refine sx_iconst (p1 := 1) dX12_count_0 rfl ?_
      refine sx_istore_n (lo1 := [some _, some _, some _, none]) (p1 := 2) dX12_count_1 rfl (by decide) rfl ?_
      refine sx_aload_n (p1 := 3) dX12_count_2 rfl rfl ?_
      refine sx_callVn (p1 := 6) (As := []) (k1 := 0) (n1 := 0) dX12_count_3 rfl rfl (r_X12_reads hT hY) mt_X12_reads ml_X12_120 (hp_c39 _) rfl rfl (Nat.le_of_ble_eq_true rfl) rfl (Nat.le_of_ble_eq_true rfl) rfl rfl (Nat.le_of_ble_eq_true rfl) (Nat.le_of_ble_eq_true rfl) ?_
      refine sx_iload_n (p1 := 7) dX12_count_6 rfl rfl ?_
      · refine sx_tsIn (p1 := 56) (tg := 56) dX12_count_7 (by decide) (by decide) rfl rfl rfl ?_
        refine sx_aload_n (p1 := 57) dX12_count_56 rfl rfl ?_
        refine sx_get (v := vI (T.1 32)) (p1 := 60) dX12_count_57 rfl fl_X12_95 (hp_c39 _) rfl ?_
        exact sx_iret dX12_count_60 rfl (sx_ri (by rfl) (by rfl))
    · refine Ct.of false [some (.ref 39), some (vI 1), none, none] (plainFor_of_name (by decide)) (fun h => by cases h) (Nat.le_of_ble_eq_true rfl) (fun _ => rfl) sx_isl ?_
      refine sx_iconst (p1 := 1) dX12_count_0 rfl ?_
      refine sx_istore_n (lo1 := [some _, some _, some _, none]) (p1 := 2) dX12_count_1 rfl (by decide) rfl ?_
      refine sx_aload_n (p1 := 3) dX12_count_2 rfl rfl ?_
      refine sx_callVn (p1 := 6) (As := []) (k1 := 0) (n1 := 0) dX12_count_3 rfl rfl (r_X12_reads hT hY) mt_X12_reads ml_X12_120 (hp_c39 _) rfl rfl (Nat.le_of_ble_eq_true rfl) rfl (Nat.le_of_ble_eq_true rfl) rfl rfl (Nat.le_of_ble_eq_true rfl) (Nat.le_of_ble_eq_true rfl) ?_
      refine sx_iload_n (p1 := 7) dX12_count_6 rfl rfl ?_
      · refine sx_tsIn (p1 := 61) (tg := 61) dX12_count_7 (by decide) (by decide) rfl rfl rfl ?_
        refine sx_aload_n (p1 := 62) dX12_count_61 rfl rfl ?_
        refine sx_get (v := vI (T.1 33)) (p1 := 65) dX12_count_62 rfl fl_X12_106 (hp_c39 _) rfl ?_
        exact sx_iret dX12_count_65 rfl (sx_ri (by rfl) (by rfl))
    · refine Ct.of false [some (.ref 39), some (vI 2), none, none] (plainFor_of_name (by decide)) (fun h => by cases h) (Nat.le_of_ble_eq_true rfl) (fun _ => rfl) sx_isl ?_
      refine sx_iconst (p1 := 1) dX12_count_0 rfl ?_
      refine sx_istore_n (lo1 := [some _, some _, some _, none]) (p1 := 2) dX12_count_1 rfl (by decide) rfl ?_
      refine sx_aload_n (p1 := 3) dX12_count_2 rfl rfl ?_
      refine sx_callVn (p1 := 6) (As := []) (k1 := 0) (n1 := 0) dX12_count_3 rfl rfl (r_X12_reads hT hY) mt_X12_reads ml_X12_120 (hp_c39 _) rfl rfl (Nat.le_of_ble_eq_true rfl) rfl (Nat.le_of_ble_eq_true rfl) rfl rfl (Nat.le_of_ble_eq_true rfl) (Nat.le_of_ble_eq_true rfl) ?_
      refine sx_iload_n (p1 := 7) dX12_count_6 rfl rfl ?_
      · refine sx_tsIn (p1 := 66) (tg := 66) dX12_count_7 (by decide) (by decide) rfl rfl rfl ?_
        refine sx_aload_n (p1 := 67) dX12_count_66 rfl rfl ?_
        refine sx_get (p1 := 70) dX12_count_67 rfl fl_X12_25 (hp_c39 _) rfl ?_
        refine sx_iload_n (p1 := 71) dX12_count_70 rfl rfl ?_
        refine sx_iconst (p1 := 72) dX12_count_71 rfl ?_
        refine sx_isub (p1 := 73) dX12_count_72 rfl ?_
        refine sx_iald (g := T.2 45) (p1 := 74) dX12_count_73 rfl (hp_c45 _) (by omega) (by decide) ?_
        exact sx_iret dX12_count_74 rfl (sx_ri (by rfl) (by rfl))
    · refine Ct.of false [some (.ref 39), some (vI 3), none, none] (plainFor_of_name (by decide)) (fun h => by cases h) (Nat.le_of_ble_eq_true rfl) (fun _ => rfl) sx_isl ?_
      refine sx_iconst (p1 := 1) dX12_count_0 rfl ?_
      refine sx_istore_n (lo1 := [some _, some _, some _, none]) (p1 := 2) dX12_count_1 rfl (by decide) rfl ?_
      refine sx_aload_n (p1 := 3) dX12_count_2 rfl rfl ?_
      refine sx_callVn (p1 := 6) (As := []) (k1 := 0) (n1 := 0) dX12_count_3 rfl rfl (r_X12_reads hT hY) mt_X12_reads ml_X12_120 (hp_c39 _) rfl rfl (Nat.le_of_ble_eq_true rfl) rfl (Nat.le_of_ble_eq_true rfl) rfl rfl (Nat.le_of_ble_eq_true rfl) (Nat.le_of_ble_eq_true rfl) ?_
      refine sx_iload_n (p1 := 7) dX12_count_6 rfl rfl ?_
      · refine sx_tsIn (p1 := 66) (tg := 66) dX12_count_7 (by decide) (by decide) rfl rfl rfl ?_
        refine sx_aload_n (p1 := 67) dX12_count_66 rfl rfl ?_
        refine sx_get (p1 := 70) dX12_count_67 rfl fl_X12_25 (hp_c39 _) rfl ?_
        refine sx_iload_n (p1 := 71) dX12_count_70 rfl rfl ?_
        refine sx_iconst (p1 := 72) dX12_count_71 rfl ?_
        refine sx_isub (p1 := 73) dX12_count_72 rfl ?_
        refine sx_iald (g := T.2 45) (p1 := 74) dX12_count_73 rfl (hp_c45 _) (by omega) (by decide) ?_
        exact sx_iret dX12_count_74 rfl (sx_ri (by rfl) (by rfl))
    · refine Ct.of false [some (.ref 39), some (vI 4), none, none] (plainFor_of_name (by decide)) (fun h => by cases h) (Nat.le_of_ble_eq_true rfl) (fun _ => rfl) sx_isl ?_
      refine sx_iconst (p1 := 1) dX12_count_0 rfl ?_
      refine sx_istore_n (lo1 := [some _, some _, some _, none]) (p1 := 2) dX12_count_1 rfl (by decide) rfl ?_
      refine sx_aload_n (p1 := 3) dX12_count_2 rfl rfl ?_
      refine sx_callVn (p1 := 6) (As := []) (k1 := 0) (n1 := 0) dX12_count_3 rfl rfl (r_X12_reads hT hY) mt_X12_reads ml_X12_120 (hp_c39 _) rfl rfl (Nat.le_of_ble_eq_true rfl) rfl (Nat.le_of_ble_eq_true rfl) rfl rfl (Nat.le_of_ble_eq_true rfl) (Nat.le_of_ble_eq_true rfl) ?_
      refine sx_iload_n (p1 := 7) dX12_count_6 rfl rfl ?_
      · refine sx_tsIn (p1 := 75) (tg := 75) dX12_count_7 (by decide) (by decide) rfl rfl rfl ?_
        refine sx_aload_n (p1 := 76) dX12_count_75 rfl rfl ?_
        refine sx_get (v := vI (T.1 39)) (p1 := 79) dX12_count_76 rfl fl_X12_275 (hp_c39 _) rfl ?_
        exact sx_iret dX12_count_79 rfl (sx_ri (by rfl) (by rfl))
    · have l1 : ∀ q : Nat, (q : Int) < T.1 32 → rL T (q : Int) = T.2 47 q := fun q hq => (if_pos (by omega)).trans (by rw [Int.toNat_natCast])
      have key : ∀ (n i : Nat), i + n = (T.1 32).toNat → Rn X RX12 false cX12_count 4 4 0 0 (some .int) 82 [some (.ref 39), some (vI 5), some (vI (sumN i (fun q : Nat => (mV T).2 1 q))), some (vI (i : Int))] [] (hp T) 0 0 (sx_is (some (vI (cnR T b 5))) (hp T)) := by
        intro n
        induction n with
        | zero =>
          intro i hi 
          rw [Nat.add_zero] at hi
          subst hi
          refine sx_iload_n (p1 := 83) dX12_count_82 rfl rfl ?_
          refine sx_aload_n (p1 := 84) dX12_count_83 rfl rfl ?_
          refine sx_get (v := vI (T.1 32)) (p1 := 87) dX12_count_84 rfl fl_X12_95 (hp_c39 _) rfl ?_
          refine sx_icmp_ge (p1 := 90) (tg := 105) dX12_count_87 rfl rfl (by omega) (by omega) (fun q87 => ?_) (fun q87 => absurd q87 (by omega))
          refine sx_iload_n (p1 := 106) dX12_count_105 rfl rfl ?_
          exact sx_iret dX12_count_106 rfl (sx_ri (by rfl) (by rfl))
        | succ n ih =>
          intro i hi 
          refine sx_iload_n (p1 := 83) dX12_count_82 rfl rfl ?_
          refine sx_aload_n (p1 := 84) dX12_count_83 rfl rfl ?_
          refine sx_get (v := vI (T.1 32)) (p1 := 87) dX12_count_84 rfl fl_X12_95 (hp_c39 _) rfl ?_
          refine sx_icmp_ge (p1 := 90) (tg := 105) dX12_count_87 rfl rfl (by omega) (by omega) (fun q87 => absurd q87 (by omega)) (fun q87 => ?_)
          refine sx_iload_n (p1 := 91) dX12_count_90 rfl rfl ?_
          refine sx_aload_n (p1 := 92) dX12_count_91 rfl rfl ?_
          refine sx_get (p1 := 95) dX12_count_92 rfl fl_X12_31 (hp_c39 _) rfl ?_
          refine sx_iload_n (p1 := 96) dX12_count_95 rfl rfl ?_
          refine sx_iald (g := T.2 47) (p1 := 97) dX12_count_96 rfl (hp_c47 _) (by omega) (by decide) ?_
          rw [Int.toNat_natCast]
          rw [← l1 i (by omega)]
          refine sx_iadd (p1 := 98) dX12_count_97 rfl ?_
          refine sx_istore_n (lo1 := [some _, some _, some _, some _]) (p1 := 99) dX12_count_98 rfl (by decide) rfl ?_
          refine sx_iinc (lo1 := [some _, some _, some _, some _]) (p1 := 102) dX12_count_99 rfl (by decide) rfl rfl ?_
          refine sx_goto (p1 := 82) (tg := 82) dX12_count_102 rfl rfl ?_
          exact ih (i + 1) (by omega)
      refine Ct.of false [some (.ref 39), some (vI 5), none, none] (plainFor_of_name (by decide)) (fun h => by cases h) (Nat.le_of_ble_eq_true rfl) (fun _ => rfl) sx_isl ?_
      refine sx_iconst (p1 := 1) dX12_count_0 rfl ?_
      refine sx_istore_n (lo1 := [some _, some _, some _, none]) (p1 := 2) dX12_count_1 rfl (by decide) rfl ?_
      refine sx_aload_n (p1 := 3) dX12_count_2 rfl rfl ?_
      refine sx_callVn (p1 := 6) (As := []) (k1 := 0) (n1 := 0) dX12_count_3 rfl rfl (r_X12_reads hT hY) mt_X12_reads ml_X12_120 (hp_c39 _) rfl rfl (Nat.le_of_ble_eq_true rfl) rfl (Nat.le_of_ble_eq_true rfl) rfl rfl (Nat.le_of_ble_eq_true rfl) (Nat.le_of_ble_eq_true rfl) ?_
      refine sx_iload_n (p1 := 7) dX12_count_6 rfl rfl ?_
      · refine sx_tsIn (p1 := 80) (tg := 80) dX12_count_7 (by decide) (by decide) rfl rfl rfl ?_
        refine sx_iconst (p1 := 81) dX12_count_80 rfl ?_
        refine sx_istore_n (lo1 := [some _, some _, some _, some _]) (p1 := 82) dX12_count_81 rfl (by decide) rfl ?_
        exact key _ 0 (Nat.zero_add _)
    · refine Ct.of false [some (.ref 39), some (vI 6), none, none] (plainFor_of_name (by decide)) (fun h => by cases h) (Nat.le_of_ble_eq_true rfl) (fun _ => rfl) sx_isl ?_
      refine sx_iconst (p1 := 1) dX12_count_0 rfl ?_
      refine sx_istore_n (lo1 := [some _, some _, some _, none]) (p1 := 2) dX12_count_1 rfl (by decide) rfl ?_
      refine sx_aload_n (p1 := 3) dX12_count_2 rfl rfl ?_
      refine sx_callVn (p1 := 6) (As := []) (k1 := 0) (n1 := 0) dX12_count_3 rfl rfl (r_X12_reads hT hY) mt_X12_reads ml_X12_120 (hp_c39 _) rfl rfl (Nat.le_of_ble_eq_true rfl) rfl (Nat.le_of_ble_eq_true rfl) rfl rfl (Nat.le_of_ble_eq_true rfl) (Nat.le_of_ble_eq_true rfl) ?_
      refine sx_iload_n (p1 := 7) dX12_count_6 rfl rfl ?_
      · refine sx_tsIn (p1 := 107) (tg := 107) dX12_count_7 (by decide) (by decide) rfl rfl rfl ?_
        refine sx_aload_n (p1 := 108) dX12_count_107 rfl rfl ?_
        refine sx_get (p1 := 111) dX12_count_108 rfl fl_X12_44 (hp_c39 _) rfl ?_
        refine sx_iconst (p1 := 112) dX12_count_111 rfl ?_
        refine sx_iald (g := T.2 51) (p1 := 113) dX12_count_112 rfl (hp_c51 _) (by omega) (by decide) ?_
        rw [show Int.toNat 0 = 0 from rfl]
        exact sx_iret dX12_count_113 rfl (sx_ri (by rfl) (by rfl))
    · refine Ct.of false [some (.ref 39), some (vI 7), none, none] (plainFor_of_name (by decide)) (fun h => by cases h) (Nat.le_of_ble_eq_true rfl) (fun _ => rfl) sx_isl ?_
      refine sx_iconst (p1 := 1) dX12_count_0 rfl ?_
      refine sx_istore_n (lo1 := [some _, some _, some _, none]) (p1 := 2) dX12_count_1 rfl (by decide) rfl ?_
      refine sx_aload_n (p1 := 3) dX12_count_2 rfl rfl ?_
      refine sx_callVn (p1 := 6) (As := []) (k1 := 0) (n1 := 0) dX12_count_3 rfl rfl (r_X12_reads hT hY) mt_X12_reads ml_X12_120 (hp_c39 _) rfl rfl (Nat.le_of_ble_eq_true rfl) rfl (Nat.le_of_ble_eq_true rfl) rfl rfl (Nat.le_of_ble_eq_true rfl) (Nat.le_of_ble_eq_true rfl) ?_
      refine sx_iload_n (p1 := 7) dX12_count_6 rfl rfl ?_
      · refine sx_tsIn (p1 := 114) (tg := 114) dX12_count_7 (by decide) (by decide) rfl rfl rfl ?_
        refine sx_aload_n (p1 := 115) dX12_count_114 rfl rfl ?_
        refine sx_callVr (p1 := 118) (As := []) (k1 := 0) (n1 := 0) dX12_count_115 rfl rfl (c_X12_helmetsNow b1 hQ.2.2.2.2.2) mt_X12_helmetsNow ml_X12_140 (hp_c39 _) rfl rfl (Nat.le_of_ble_eq_true rfl) rfl (Nat.le_of_ble_eq_true rfl) rfl rfl (Nat.le_of_ble_eq_true rfl) (Nat.le_of_ble_eq_true rfl) ?_
        rw [← hQ.2.2.2.1]
        refine sx_callSr (p1 := 121) (As := [_]) (k1 := 0) (n1 := 0) dX12_count_118 rfl rfl (c_X12_ones (okQ_64 hQ)) mt_X12_ones ml_X12_232 (Nat.le_of_ble_eq_true rfl) rfl (Nat.le_of_ble_eq_true rfl) rfl rfl (Nat.le_of_ble_eq_true rfl) (Nat.le_of_ble_eq_true rfl) ?_
        exact sx_iret dX12_count_121 rfl (sx_ri (by rfl) (by rfl))
    · refine Ct.of false [some (.ref 39), some (vI 8), none, none] (plainFor_of_name (by decide)) (fun h => by cases h) (Nat.le_of_ble_eq_true rfl) (fun _ => rfl) sx_isl ?_
      refine sx_iconst (p1 := 1) dX12_count_0 rfl ?_
      refine sx_istore_n (lo1 := [some _, some _, some _, none]) (p1 := 2) dX12_count_1 rfl (by decide) rfl ?_
      refine sx_aload_n (p1 := 3) dX12_count_2 rfl rfl ?_
      refine sx_callVn (p1 := 6) (As := []) (k1 := 0) (n1 := 0) dX12_count_3 rfl rfl (r_X12_reads hT hY) mt_X12_reads ml_X12_120 (hp_c39 _) rfl rfl (Nat.le_of_ble_eq_true rfl) rfl (Nat.le_of_ble_eq_true rfl) rfl rfl (Nat.le_of_ble_eq_true rfl) (Nat.le_of_ble_eq_true rfl) ?_
      refine sx_iload_n (p1 := 7) dX12_count_6 rfl rfl ?_
      · refine sx_tsIn (p1 := 122) (tg := 122) dX12_count_7 (by decide) (by decide) rfl rfl rfl ?_
        refine sx_aload_n (p1 := 123) dX12_count_122 rfl rfl ?_
        refine sx_get (v := vI (T.1 30)) (p1 := 126) dX12_count_123 rfl fl_X12_62 (hp_c39 _) rfl ?_
        exact sx_iret dX12_count_126 rfl (sx_ri (by rfl) (by rfl))
  · refine Ct.of false [some (.ref 39), some (vI i), none, none] (plainFor_of_name (by decide)) (fun h => by cases h) (Nat.le_of_ble_eq_true rfl) (fun _ => rfl) sx_isl ?_
    refine sx_iconst (p1 := 1) dX12_count_0 rfl ?_
    refine sx_istore_n (lo1 := [some _, some _, some _, none]) (p1 := 2) dX12_count_1 rfl (by decide) rfl ?_
    refine sx_aload_n (p1 := 3) dX12_count_2 rfl rfl ?_
    refine sx_callVn (p1 := 6) (As := []) (k1 := 0) (n1 := 0) dX12_count_3 rfl rfl (r_X12_reads hT hY) mt_X12_reads ml_X12_120 (hp_c39 _) rfl rfl (Nat.le_of_ble_eq_true rfl) rfl (Nat.le_of_ble_eq_true rfl) rfl rfl (Nat.le_of_ble_eq_true rfl) (Nat.le_of_ble_eq_true rfl) ?_
    refine sx_iload_n (p1 := 7) dX12_count_6 rfl rfl ?_
    · refine sx_tsOut (p1 := 127) (tg := 127) dX12_count_7 (by omega) (by omega) rfl rfl ?_
      refine sx_bipush (p1 := 129) dX12_count_127 rfl (by decide) ?_
      exact sx_iret dX12_count_129 rfl (sx_ri (by unfold cnR; rw [if_neg (by omega)]; rw [if_neg (by omega)]; rw [if_neg (by omega)]; rw [if_neg (by omega)]; rw [if_neg (by omega)]; rw [if_neg (by omega)]; rw [if_neg (by omega)]; rw [if_neg (by omega)]; rw [if_neg (by omega)]) (by rfl))
