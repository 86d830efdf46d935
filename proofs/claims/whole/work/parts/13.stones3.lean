set_option maxRecDepth 20000 in
theorem c_X8_bySun {X : sx_X} {S : St} {num hel gap : Int} (hV : okV (cV S)) (hF : okF S) (hn : 0 ≤ num ∧ num ≤ 6) (hh : 0 ≤ hel ∧ hel ≤ 1) (hg : 0 ≤ gap ∧ gap ≤ 99) : Ct X yX8_bySun cX8_bySun 11 (some .long) 1 0 0 [.ref 15, vI num, vI hel, vI gap] (hp S) (sx_is (some (vJ (mSun (cV S) num gap hel))) (hp S)) := by
  have b0 : 0 ≤ S.1 2 ∧ S.1 2 ≤ 16 := hV.1
  have b1 : 0 ≤ S.1 4 ∧ S.1 4 ≤ 6 := hV.2.1
  have b2 : 0 ≤ S.1 6 ∧ S.1 6 ≤ 99 := hV.2.2.1
  have b3 : 0 ≤ S.1 7 ∧ S.1 7 ≤ 1 := hV.2.2.2.1
  have b4 : 0 ≤ S.1 8 ∧ S.1 8 ≤ 16 := hV.2.2.2.2.1
  have b5 : 0 ≤ S.1 9 ∧ S.1 9 ≤ 999 := hV.2.2.2.2.2.1
  have b6 : 0 ≤ S.1 10 ∧ S.1 10 ≤ 1999 := hV.2.2.2.2.2.2.1
  have b7 : 0 ≤ S.1 11 ∧ S.1 11 ≤ 16 := hV.2.2.2.2.2.2.2.1
  have bK : ∀ q, 0 ≤ gK S q ∧ gK S q ≤ 3 := hV.2.2.2.2.2.2.2.2.1
  have bL : ∀ q, 0 ≤ gL S q ∧ gL S q ≤ 9 := hV.2.2.2.2.2.2.2.2.2.1
  have bW : ∀ q, 0 ≤ pW S q ∧ pW S q ≤ 9 := hV.2.2.2.2.2.2.2.2.2.2.1
  have bS : ∀ q, 0 ≤ pS S q ∧ pS S q ≤ 9 := hV.2.2.2.2.2.2.2.2.2.2.2.1
  have bH : ∀ q, 0 ≤ pH S q ∧ pH S q ≤ 1 := hV.2.2.2.2.2.2.2.2.2.2.2.2
  have c0 : 0 ≤ (cV S).1 0 ∧ (cV S).1 0 ≤ 16 := b0
  have c1 : 0 ≤ (cV S).1 1 ∧ (cV S).1 1 ≤ 6 := b1
  have c2 : 0 ≤ (cV S).1 2 ∧ (cV S).1 2 ≤ 99 := b2
  have c3 : 0 ≤ (cV S).1 3 ∧ (cV S).1 3 ≤ 1 := b3
  have c4 : 0 ≤ (cV S).1 4 ∧ (cV S).1 4 ≤ 16 := b4
  have c5 : 0 ≤ (cV S).1 5 ∧ (cV S).1 5 ≤ 999 := b5
  have c6 : 0 ≤ (cV S).1 6 ∧ (cV S).1 6 ≤ 1999 := b6
  have c7 : 0 ≤ (cV S).1 7 ∧ (cV S).1 7 ≤ 16 := b7
  have m1 := mul_b hn hg
  have key : ∀ (n i : Nat), i + n = (S.1 2).toNat → Rn X RX8 false cX8_bySun 11 1 0 0 (some .long) 15 [some (.ref 15), some (vI num), some (vI hel), some (vI gap), some (vJ (sumN i (mSunT (cV S) num gap hel))), none, some (vI (1 + S.1 7)), some (vI (i : Int)), none, none, none] [] (hp S) 0 0 (sx_is (some (vJ (mSun (cV S) num gap hel))) (hp S)) := by
    intro n
    induction n with
    | zero =>
      intro i hi 
      rw [Nat.add_zero] at hi
      subst hi
      refine sx_iload (p1 := 17) dX8_bySun_15 rfl rfl ?_
      refine sx_aload_n (p1 := 18) dX8_bySun_17 rfl rfl ?_
      refine sx_get (p1 := 21) dX8_bySun_18 rfl fl_X8_15 (hp_c15 _) rfl ?_
      refine sx_get (v := vI (S.1 2)) (p1 := 24) dX8_bySun_21 rfl fl_X8_33 (hp_c7 _) rfl ?_
      refine sx_icmp_ge (p1 := 27) (tg := 122) dX8_bySun_24 rfl rfl (by omega) (by omega) (fun q24 => ?_) (fun q24 => absurd q24 (by omega))
      refine sx_lload (p1 := 124) dX8_bySun_122 rfl rfl ?_
      exact sx_lret dX8_bySun_124 rfl (sx_rj (by first | rfl | omega) (by rfl))
    | succ n ih =>
      intro i hi 
      have m2 := mul_b (show 0 ≤ (i : Int) + 1 ∧ (i : Int) + 1 ≤ 16 by omega) (show 0 ≤ 1 + S.1 7 ∧ 1 + S.1 7 ≤ 2 by omega)
      have e16 : S.2 16 (2 * (i : Int) + hel).toNat = mAbove (cV S) i hel := by
        have h9 := hF i hel.toNat (by omega) (by omega)
        rw [Int.toNat_of_nonneg hh.1] at h9
        rw [show (2 * (i : Int) + hel).toNat = 2 * i + hel.toNat by omega]
        exact h9
      have m3 := mSunny_b hV num gap (i : Int)
      have m4 := mAbove_b hV (i : Int) hel
      have m5 := mul_b (mul_b m3 b7) m4
      refine sx_iload (p1 := 17) dX8_bySun_15 rfl rfl ?_
      refine sx_aload_n (p1 := 18) dX8_bySun_17 rfl rfl ?_
      refine sx_get (p1 := 21) dX8_bySun_18 rfl fl_X8_15 (hp_c15 _) rfl ?_
      refine sx_get (v := vI (S.1 2)) (p1 := 24) dX8_bySun_21 rfl fl_X8_33 (hp_c7 _) rfl ?_
      refine sx_icmp_ge (p1 := 27) (tg := 122) dX8_bySun_24 rfl rfl (by omega) (by omega) (fun q24 => absurd q24 (by omega)) (fun q24 => ?_)
      refine sx_aload_n (p1 := 28) dX8_bySun_27 rfl rfl ?_
      refine sx_get (p1 := 31) dX8_bySun_28 rfl fl_X8_23 (hp_c15 _) rfl ?_
      refine sx_get (v := vI (S.1 9)) (p1 := 34) dX8_bySun_31 rfl fl_X8_47 (hp_c14 _) rfl ?_
      refine sx_iload_n (p1 := 35) dX8_bySun_34 rfl rfl ?_
      refine sx_iload_n (p1 := 36) dX8_bySun_35 rfl rfl ?_
      refine sx_imul (p1 := 37) dX8_bySun_36 rfl ?_
      refine sx_iadd (p1 := 38) dX8_bySun_37 rfl ?_
      refine sx_iload (p1 := 40) dX8_bySun_38 rfl rfl ?_
      refine sx_iconst (p1 := 41) dX8_bySun_40 rfl ?_
      refine sx_iadd (p1 := 42) dX8_bySun_41 rfl ?_
      refine sx_iload (p1 := 44) dX8_bySun_42 rfl rfl ?_
      refine sx_imul (p1 := 45) dX8_bySun_44 rfl ?_
      refine sx_iadd (p1 := 46) dX8_bySun_45 rfl ?_
      refine sx_istore (lo1 := [some _, some _, some _, some _, some _, none, some _, some _, some _, none, none]) (p1 := 48) dX8_bySun_46 rfl (by decide) rfl ?_
      refine sx_iconst (p1 := 49) dX8_bySun_48 rfl ?_
      refine sx_iload (p1 := 51) dX8_bySun_49 rfl rfl ?_
      refine sx_iload (p1 := 53) dX8_bySun_51 rfl rfl ?_
      refine sx_aload_n (p1 := 54) dX8_bySun_53 rfl rfl ?_
      refine sx_get (p1 := 57) dX8_bySun_54 rfl fl_X8_23 (hp_c15 _) rfl ?_
      refine sx_get (v := vI (S.1 10)) (p1 := 60) dX8_bySun_57 rfl fl_X8_88 (hp_c14 _) rfl ?_
      refine sx_isub (p1 := 61) dX8_bySun_60 rfl ?_
      refine sx_callSr (p1 := 64) (As := [_, _]) (k1 := 0) (n1 := 0) dX8_bySun_61 rfl rfl (c_J9_min_7cf53 (by omega) (by omega)) mt_J9_min_7cf53 ml_X8_61 (Nat.le_of_ble_eq_true rfl) rfl (Nat.le_of_ble_eq_true rfl) rfl rfl (Nat.le_of_ble_eq_true rfl) (Nat.le_of_ble_eq_true rfl) ?_
      refine sx_callSr (p1 := 67) (As := [_, _]) (k1 := 0) (n1 := 0) dX8_bySun_64 rfl rfl (c_J9_max_7cf53 (by omega) (by omega)) mt_J9_max_7cf53 ml_X8_66 (Nat.le_of_ble_eq_true rfl) rfl (Nat.le_of_ble_eq_true rfl) rfl rfl (Nat.le_of_ble_eq_true rfl) (Nat.le_of_ble_eq_true rfl) ?_
      refine sx_istore (lo1 := [some _, some _, some _, some _, some _, none, some _, some _, some _, some _, none]) (p1 := 69) dX8_bySun_67 rfl (by decide) rfl ?_
      refine sx_iconst (p1 := 70) dX8_bySun_69 rfl ?_
      refine sx_iload (p1 := 72) dX8_bySun_70 rfl rfl ?_
      refine sx_imul (p1 := 73) dX8_bySun_72 rfl ?_
      refine sx_iload_n (p1 := 74) dX8_bySun_73 rfl rfl ?_
      refine sx_iadd (p1 := 75) dX8_bySun_74 rfl ?_
      refine sx_istore (lo1 := [some _, some _, some _, some _, some _, none, some _, some _, some _, some _, some _]) (p1 := 77) dX8_bySun_75 rfl (by decide) rfl ?_
      refine sx_iload (p1 := 79) dX8_bySun_77 rfl rfl ?_
      refine sx_if_lt (p1 := 82) (tg := 116) dX8_bySun_79 rfl rfl (by omega) (fun q79 => absurd q79 (by omega)) (fun q79 => ?_)
      refine sx_iload (p1 := 84) dX8_bySun_82 rfl rfl ?_
      refine sx_aload_n (p1 := 85) dX8_bySun_84 rfl rfl ?_
      refine sx_get (p1 := 88) dX8_bySun_85 rfl fl_X8_9 (hp_c15 _) rfl ?_
      refine sx_alen (p1 := 89) dX8_bySun_88 rfl (hp_c16 _) (fun _ => rfl) ?_
      refine sx_icmp_ge (p1 := 92) (tg := 116) dX8_bySun_89 rfl rfl (by omega) (by omega) (fun q89 => absurd q89 (by omega)) (fun q89 => ?_)
      refine sx_lload (p1 := 94) dX8_bySun_92 rfl rfl ?_
      refine sx_iload (p1 := 96) dX8_bySun_94 rfl rfl ?_
      refine sx_aload_n (p1 := 97) dX8_bySun_96 rfl rfl ?_
      refine sx_get (p1 := 100) dX8_bySun_97 rfl fl_X8_23 (hp_c15 _) rfl ?_
      refine sx_get (v := vI (S.1 11)) (p1 := 103) dX8_bySun_100 rfl fl_X8_91 (hp_c14 _) rfl ?_
      refine sx_imul (p1 := 104) dX8_bySun_103 rfl ?_
      refine sx_aload_n (p1 := 105) dX8_bySun_104 rfl rfl ?_
      refine sx_get (p1 := 108) dX8_bySun_105 rfl fl_X8_9 (hp_c15 _) rfl ?_
      refine sx_iload (p1 := 110) dX8_bySun_108 rfl rfl ?_
      refine sx_iald (g := S.2 16) (p1 := 111) dX8_bySun_110 rfl (hp_c16 _) (by omega) (by decide) ?_
      rw [e16]
      refine sx_imul (p1 := 112) dX8_bySun_111 rfl ?_
      refine sx_i2l (p1 := 113) dX8_bySun_112 rfl (by first | exact ⟨by have := m5.1; exact Int.le_trans (by decide) this, Int.le_trans m5.2 (by decide)⟩) ?_
      refine sx_ladd (p1 := 114) dX8_bySun_113 rfl ?_
      refine sx_lstore (lo1 := [some _, some _, some _, some _, some _, none, some _, some _, some _, some _, some _]) (p1 := 116) dX8_bySun_114 rfl (by decide) rfl ?_
      refine sx_iinc (lo1 := [some _, some _, some _, some _, some _, none, some _, some _, some _, some _, some _]) (p1 := 119) dX8_bySun_116 rfl (by decide) rfl rfl ?_
      refine sx_goto (p1 := 15) (tg := 15) dX8_bySun_119 rfl rfl ?_
      refine sx_drop [true, true, true, true, true, false, true, true, false, false, false] (lo1 := [some _, some _, some _, some _, some _, none, some _, some _, none, none, none]) rfl ?_
      exact ih (i + 1) (by omega)
  refine Ct.of false [some (.ref 15), some (vI num), some (vI hel), some (vI gap), none, none, none, none, none, none, none] (plainFor_of_name (by decide)) (fun h => by cases h) (Nat.le_of_ble_eq_true rfl) (fun _ => rfl) sx_isl ?_
  refine sx_lconst (y := 0) (p1 := 1) dX8_bySun_0 rfl (by decide) ?_
  refine sx_lstore (lo1 := [some _, some _, some _, some _, some _, none, none, none, none, none, none]) (p1 := 3) dX8_bySun_1 rfl (by decide) rfl ?_
  refine sx_aload_n (p1 := 4) dX8_bySun_3 rfl rfl ?_
  refine sx_get (p1 := 7) dX8_bySun_4 rfl fl_X8_23 (hp_c15 _) rfl ?_
  refine sx_callVr (p1 := 10) (As := []) (k1 := 0) (n1 := 0) dX8_bySun_7 rfl rfl (v_X6_pace (V := cV S) rfl hV) mt_X6_pace ml_X8_44 (hp_c14 _) rfl rfl (Nat.le_of_ble_eq_true rfl) rfl (Nat.le_of_ble_eq_true rfl) rfl rfl (Nat.le_of_ble_eq_true rfl) (Nat.le_of_ble_eq_true rfl) ?_
  refine sx_istore (lo1 := [some _, some _, some _, some _, some _, none, some _, none, none, none, none]) (p1 := 12) dX8_bySun_10 rfl (by decide) rfl ?_
  refine sx_iconst (p1 := 13) dX8_bySun_12 rfl ?_
  refine sx_istore (lo1 := [some _, some _, some _, some _, some _, none, some _, some _, none, none, none]) (p1 := 15) dX8_bySun_13 rfl (by decide) rfl ?_
  exact key _ 0 (Nat.zero_add _)
theorem v_X8_bySun {X : sx_X} {S : St} {V : Vw} {num hel gap : Int} (hS : cV S = V) (hV : okV V) (hF : okF S) (hn : 0 ≤ num ∧ num ≤ 6) (hh : 0 ≤ hel ∧ hel ≤ 1) (hg : 0 ≤ gap ∧ gap ≤ 99) : Ct X yX8_bySun cX8_bySun 11 (some .long) 1 0 0 [.ref 15, vI num, vI hel, vI gap] (hp S) (sx_is (some (vJ (mSun V num gap hel))) (hp S)) := by
  subst hS
  exact c_X8_bySun hV hF hn hh hg
set_option maxRecDepth 20000 in
theorem c_X8_toWalker {X : sx_X} {S : St} {to hel gap : Int} (hV : okV (cV S)) (hF : okF S) (ht : 0 ≤ to ∧ to ≤ 5) (hh : 0 ≤ hel ∧ hel ≤ 1) (hg : 0 ≤ gap ∧ gap ≤ 99) : Ct X yX8_toWalker cX8_toWalker 7 (some .long) 3 0 0 [.ref 15, vI to, vI hel, vI gap] (hp S) (sx_is (some (vJ (mTo (cV S) to hel gap))) (hp S)) := by
  have b0 : 0 ≤ S.1 2 ∧ S.1 2 ≤ 16 := hV.1
  have b1 : 0 ≤ S.1 4 ∧ S.1 4 ≤ 6 := hV.2.1
  have b2 : 0 ≤ S.1 6 ∧ S.1 6 ≤ 99 := hV.2.2.1
  have b3 : 0 ≤ S.1 7 ∧ S.1 7 ≤ 1 := hV.2.2.2.1
  have b4 : 0 ≤ S.1 8 ∧ S.1 8 ≤ 16 := hV.2.2.2.2.1
  have b5 : 0 ≤ S.1 9 ∧ S.1 9 ≤ 999 := hV.2.2.2.2.2.1
  have b6 : 0 ≤ S.1 10 ∧ S.1 10 ≤ 1999 := hV.2.2.2.2.2.2.1
  have b7 : 0 ≤ S.1 11 ∧ S.1 11 ≤ 16 := hV.2.2.2.2.2.2.2.1
  have bK : ∀ q, 0 ≤ gK S q ∧ gK S q ≤ 3 := hV.2.2.2.2.2.2.2.2.1
  have bL : ∀ q, 0 ≤ gL S q ∧ gL S q ≤ 9 := hV.2.2.2.2.2.2.2.2.2.1
  have bW : ∀ q, 0 ≤ pW S q ∧ pW S q ≤ 9 := hV.2.2.2.2.2.2.2.2.2.2.1
  have bS : ∀ q, 0 ≤ pS S q ∧ pS S q ≤ 9 := hV.2.2.2.2.2.2.2.2.2.2.2.1
  have bH : ∀ q, 0 ≤ pH S q ∧ pH S q ≤ 1 := hV.2.2.2.2.2.2.2.2.2.2.2.2
  have c0 : 0 ≤ (cV S).1 0 ∧ (cV S).1 0 ≤ 16 := b0
  have c1 : 0 ≤ (cV S).1 1 ∧ (cV S).1 1 ≤ 6 := b1
  have c2 : 0 ≤ (cV S).1 2 ∧ (cV S).1 2 ≤ 99 := b2
  have c3 : 0 ≤ (cV S).1 3 ∧ (cV S).1 3 ≤ 1 := b3
  have c4 : 0 ≤ (cV S).1 4 ∧ (cV S).1 4 ≤ 16 := b4
  have c5 : 0 ≤ (cV S).1 5 ∧ (cV S).1 5 ≤ 999 := b5
  have c6 : 0 ≤ (cV S).1 6 ∧ (cV S).1 6 ≤ 1999 := b6
  have c7 : 0 ≤ (cV S).1 7 ∧ (cV S).1 7 ≤ 16 := b7
  have key : ∀ (n i : Nat), i + n = to.toNat → Rn X RX8 false cX8_toWalker 7 3 0 0 (some .long) 12 [some (.ref 15), some (vI to), some (vI hel), some (vI gap), some (vJ (mSun (cV S) to gap hel + sumN i (fun b : Nat => mBy (cV S) b to gap hel))), none, some (vI (i : Int))] [] (hp S) 0 0 (sx_is (some (vJ (mTo (cV S) to hel gap))) (hp S)) := by
    intro n
    induction n with
    | zero =>
      intro i hi 
      rw [Nat.add_zero] at hi
      subst hi
      refine sx_iload (p1 := 14) dX8_toWalker_12 rfl rfl ?_
      refine sx_iload_n (p1 := 15) dX8_toWalker_14 rfl rfl ?_
      refine sx_icmp_ge (p1 := 18) (tg := 66) dX8_toWalker_15 rfl rfl (by omega) (by omega) (fun q15 => ?_) (fun q15 => absurd q15 (by omega))
      refine sx_lload (p1 := 68) dX8_toWalker_66 rfl rfl ?_
      exact sx_lret dX8_toWalker_68 rfl (sx_rj (by first | rfl | omega) (by rfl))
    | succ n ih =>
      intro i hi 
      have m1 := mMore_b hV (i : Int)
      have m2 : 0 ≤ (to - (i : Int)) * gap ∧ (to - (i : Int)) * gap ≤ 495 := mul_b (show 0 ≤ to - (i : Int) ∧ to - (i : Int) ≤ 5 by omega) hg
      have m3 : mApart (cV S) i to = 0 ∨ mApart (cV S) i to = 1 := by unfold mApart; split <;> omega
      refine sx_iload (p1 := 14) dX8_toWalker_12 rfl rfl ?_
      refine sx_iload_n (p1 := 15) dX8_toWalker_14 rfl rfl ?_
      refine sx_icmp_ge (p1 := 18) (tg := 66) dX8_toWalker_15 rfl rfl (by omega) (by omega) (fun q15 => absurd q15 (by omega)) (fun q15 => ?_)
      refine sx_aload_n (p1 := 19) dX8_toWalker_18 rfl rfl ?_
      refine sx_iload (p1 := 21) dX8_toWalker_19 rfl rfl ?_
      refine sx_iload_n (p1 := 22) dX8_toWalker_21 rfl rfl ?_
      refine sx_callVr (p1 := 25) (As := [_, _]) (k1 := 0) (n1 := 0) dX8_toWalker_22 rfl rfl (v_X8_areApart (V := cV S) rfl hV (by omega) (by omega)) mt_X8_areApart ml_X8_104 (hp_c15 _) rfl rfl (Nat.le_of_ble_eq_true rfl) rfl (Nat.le_of_ble_eq_true rfl) rfl rfl (Nat.le_of_ble_eq_true rfl) (Nat.le_of_ble_eq_true rfl) ?_
      refine sx_if_ne (p1 := 28) (tg := 60) dX8_toWalker_25 rfl rfl (by omega) (fun q25 => ?_) (fun q25 => ?_)
      · have e2 : mBy (cV S) i to gap hel = 0 := if_pos (by omega)
        rw [← (show sumN (i + 1) (fun b : Nat => mBy (cV S) b to gap hel) = sumN i (fun b : Nat => mBy (cV S) b to gap hel) from sumN_0 e2)]
        refine sx_iinc (lo1 := [some _, some _, some _, some _, some _, none, some _]) (p1 := 63) dX8_toWalker_60 rfl (by decide) rfl rfl ?_
        refine sx_goto (p1 := 12) (tg := 12) dX8_toWalker_63 rfl rfl ?_
        first | exact ih (i + 1) (by omega) | (have h9 := ih (i + 1) (by omega); rw [sumN, ← Int.add_assoc, e2] at h9; exact h9)
      · have e2 : mBy (cV S) i to gap hel = mFeet (cV S) (mMore (cV S) i) ((to - i) * gap) (1 + S.1 7) hel := if_neg (by omega)
        refine sx_lload (p1 := 30) dX8_toWalker_28 rfl rfl ?_
        refine sx_aload_n (p1 := 31) dX8_toWalker_30 rfl rfl ?_
        refine sx_aload_n (p1 := 32) dX8_toWalker_31 rfl rfl ?_
        refine sx_get (p1 := 35) dX8_toWalker_32 rfl fl_X8_19 (hp_c15 _) rfl ?_
        refine sx_iload (p1 := 37) dX8_toWalker_35 rfl rfl ?_
        refine sx_callVr (p1 := 40) (As := [_]) (k1 := 0) (n1 := 0) dX8_toWalker_37 rfl rfl (v_X5_oddsMore (V := cV S) rfl hV (by omega)) mt_X5_oddsMore ml_X8_72 (hp_c10 _) rfl rfl (Nat.le_of_ble_eq_true rfl) rfl (Nat.le_of_ble_eq_true rfl) rfl rfl (Nat.le_of_ble_eq_true rfl) (Nat.le_of_ble_eq_true rfl) ?_
        refine sx_iload_n (p1 := 41) dX8_toWalker_40 rfl rfl ?_
        refine sx_iload (p1 := 43) dX8_toWalker_41 rfl rfl ?_
        refine sx_isub (p1 := 44) dX8_toWalker_43 rfl ?_
        refine sx_iload_n (p1 := 45) dX8_toWalker_44 rfl rfl ?_
        refine sx_imul (p1 := 46) dX8_toWalker_45 rfl ?_
        refine sx_aload_n (p1 := 47) dX8_toWalker_46 rfl rfl ?_
        refine sx_get (p1 := 50) dX8_toWalker_47 rfl fl_X8_23 (hp_c15 _) rfl ?_
        refine sx_callVr (p1 := 53) (As := []) (k1 := 0) (n1 := 0) dX8_toWalker_50 rfl rfl (v_X6_pace (V := cV S) rfl hV) mt_X6_pace ml_X8_44 (hp_c14 _) rfl rfl (Nat.le_of_ble_eq_true rfl) rfl (Nat.le_of_ble_eq_true rfl) rfl rfl (Nat.le_of_ble_eq_true rfl) (Nat.le_of_ble_eq_true rfl) ?_
        refine sx_iload_n (p1 := 54) dX8_toWalker_53 rfl rfl ?_
        refine sx_callVr (p1 := 57) (As := [_, _, _, _]) (k1 := 0) (n1 := 0) dX8_toWalker_54 rfl rfl (v_X8_byFeet (V := cV S) rfl hV (by omega) (by omega) (by omega) (by omega)) mt_X8_byFeet ml_X8_108 (hp_c15 _) rfl rfl (Nat.le_of_ble_eq_true rfl) rfl (Nat.le_of_ble_eq_true rfl) rfl rfl (Nat.le_of_ble_eq_true rfl) (Nat.le_of_ble_eq_true rfl) ?_
        refine sx_ladd (p1 := 58) dX8_toWalker_57 rfl ?_
        refine sx_lstore (lo1 := [some _, some _, some _, some _, some _, none, some _]) (p1 := 60) dX8_toWalker_58 rfl (by decide) rfl ?_
        refine sx_iinc (lo1 := [some _, some _, some _, some _, some _, none, some _]) (p1 := 63) dX8_toWalker_60 rfl (by decide) rfl rfl ?_
        refine sx_goto (p1 := 12) (tg := 12) dX8_toWalker_63 rfl rfl ?_
        first | exact ih (i + 1) (by omega) | (have h9 := ih (i + 1) (by omega); rw [sumN, ← Int.add_assoc, e2] at h9; exact h9)
  refine Ct.of false [some (.ref 15), some (vI to), some (vI hel), some (vI gap), none, none, none] (plainFor_of_name (by decide)) (fun h => by cases h) (Nat.le_of_ble_eq_true rfl) (fun _ => rfl) sx_isl ?_
  refine sx_aload_n (p1 := 1) dX8_toWalker_0 rfl rfl ?_
  refine sx_iload_n (p1 := 2) dX8_toWalker_1 rfl rfl ?_
  refine sx_iload_n (p1 := 3) dX8_toWalker_2 rfl rfl ?_
  refine sx_iload_n (p1 := 4) dX8_toWalker_3 rfl rfl ?_
  refine sx_callVr (p1 := 7) (As := [_, _, _]) (k1 := 0) (n1 := 0) dX8_toWalker_4 rfl rfl (v_X8_bySun (V := cV S) rfl hV hF (by omega) hh hg) mt_X8_bySun ml_X8_112 (hp_c15 _) rfl rfl (Nat.le_of_ble_eq_true rfl) rfl (Nat.le_of_ble_eq_true rfl) rfl rfl (Nat.le_of_ble_eq_true rfl) (Nat.le_of_ble_eq_true rfl) ?_
  refine sx_lstore (lo1 := [some _, some _, some _, some _, some _, none, none]) (p1 := 9) dX8_toWalker_7 rfl (by decide) rfl ?_
  refine sx_iconst (p1 := 10) dX8_toWalker_9 rfl ?_
  refine sx_istore (lo1 := [some _, some _, some _, some _, some _, none, some _]) (p1 := 12) dX8_toWalker_10 rfl (by decide) rfl ?_
  have h9 := key _ 0 (Nat.zero_add _)
  rw [sumN, Int.add_zero] at h9
  exact h9
theorem v_X8_toWalker {X : sx_X} {S : St} {V : Vw} {to hel gap : Int} (hS : cV S = V) (hV : okV V) (hF : okF S) (ht : 0 ≤ to ∧ to ≤ 5) (hh : 0 ≤ hel ∧ hel ≤ 1) (hg : 0 ≤ gap ∧ gap ≤ 99) : Ct X yX8_toWalker cX8_toWalker 7 (some .long) 3 0 0 [.ref 15, vI to, vI hel, vI gap] (hp S) (sx_is (some (vJ (mTo V to hel gap))) (hp S)) := by
  subst hS
  exact c_X8_toWalker hV hF ht hh hg
set_option maxRecDepth 20000 in
theorem c_X8_together {X : sx_X} {S : St} {gap : Int} (hV : okV (cV S)) (hF : okF S) (hg : 0 ≤ gap ∧ gap ≤ 99) : Ct X yX8_together cX8_together 5 (some .long) 4 0 0 [.ref 15, vI gap] (hp S) (sx_is (some (vJ (mAll (cV S) gap))) (hp S)) := by
  have b0 : 0 ≤ S.1 2 ∧ S.1 2 ≤ 16 := hV.1
  have b1 : 0 ≤ S.1 4 ∧ S.1 4 ≤ 6 := hV.2.1
  have b2 : 0 ≤ S.1 6 ∧ S.1 6 ≤ 99 := hV.2.2.1
  have b3 : 0 ≤ S.1 7 ∧ S.1 7 ≤ 1 := hV.2.2.2.1
  have b4 : 0 ≤ S.1 8 ∧ S.1 8 ≤ 16 := hV.2.2.2.2.1
  have b5 : 0 ≤ S.1 9 ∧ S.1 9 ≤ 999 := hV.2.2.2.2.2.1
  have b6 : 0 ≤ S.1 10 ∧ S.1 10 ≤ 1999 := hV.2.2.2.2.2.2.1
  have b7 : 0 ≤ S.1 11 ∧ S.1 11 ≤ 16 := hV.2.2.2.2.2.2.2.1
  have bK : ∀ q, 0 ≤ gK S q ∧ gK S q ≤ 3 := hV.2.2.2.2.2.2.2.2.1
  have bL : ∀ q, 0 ≤ gL S q ∧ gL S q ≤ 9 := hV.2.2.2.2.2.2.2.2.2.1
  have bW : ∀ q, 0 ≤ pW S q ∧ pW S q ≤ 9 := hV.2.2.2.2.2.2.2.2.2.2.1
  have bS : ∀ q, 0 ≤ pS S q ∧ pS S q ≤ 9 := hV.2.2.2.2.2.2.2.2.2.2.2.1
  have bH : ∀ q, 0 ≤ pH S q ∧ pH S q ≤ 1 := hV.2.2.2.2.2.2.2.2.2.2.2.2
  have c0 : 0 ≤ (cV S).1 0 ∧ (cV S).1 0 ≤ 16 := b0
  have c1 : 0 ≤ (cV S).1 1 ∧ (cV S).1 1 ≤ 6 := b1
  have c2 : 0 ≤ (cV S).1 2 ∧ (cV S).1 2 ≤ 99 := b2
  have c3 : 0 ≤ (cV S).1 3 ∧ (cV S).1 3 ≤ 1 := b3
  have c4 : 0 ≤ (cV S).1 4 ∧ (cV S).1 4 ≤ 16 := b4
  have c5 : 0 ≤ (cV S).1 5 ∧ (cV S).1 5 ≤ 999 := b5
  have c6 : 0 ≤ (cV S).1 6 ∧ (cV S).1 6 ≤ 1999 := b6
  have c7 : 0 ≤ (cV S).1 7 ∧ (cV S).1 7 ≤ 16 := b7
  have key : ∀ (n i : Nat), i + n = (S.1 4).toNat → Rn X RX8 false cX8_together 5 4 0 0 (some .long) 5 [some (.ref 15), some (vI gap), some (vJ (sumN i (fun t : Nat => mTo (cV S) t ((cV S).2 4 t) gap))), none, some (vI (i : Int))] [] (hp S) 0 0 (sx_is (some (vJ (mAll (cV S) gap))) (hp S)) := by
    intro n
    induction n with
    | zero =>
      intro i hi 
      rw [Nat.add_zero] at hi
      subst hi
      refine sx_iload (p1 := 7) dX8_together_5 rfl rfl ?_
      refine sx_aload_n (p1 := 8) dX8_together_7 rfl rfl ?_
      refine sx_get (p1 := 11) dX8_together_8 rfl fl_X8_19 (hp_c15 _) rfl ?_
      refine sx_callVr (p1 := 14) (As := []) (k1 := 0) (n1 := 0) dX8_together_11 rfl rfl (v_X5_size (V := cV S) rfl hV) mt_X5_size ml_X8_27 (hp_c10 _) rfl rfl (Nat.le_of_ble_eq_true rfl) rfl (Nat.le_of_ble_eq_true rfl) rfl rfl (Nat.le_of_ble_eq_true rfl) (Nat.le_of_ble_eq_true rfl) ?_
      refine sx_icmp_ge (p1 := 17) (tg := 42) dX8_together_14 rfl rfl (by omega) (by (show -2147483648 ≤ S.1 4 ∧ S.1 4 ≤ 2147483647); omega) (fun q14 => ?_) (fun q14 => absurd (show _ < S.1 4 from q14) (by omega))
      refine sx_lload_n (p1 := 43) dX8_together_42 rfl rfl ?_
      exact sx_lret dX8_together_43 rfl (sx_rj (by first | rfl | omega) (by rfl))
    | succ n ih =>
      intro i hi 
      refine sx_iload (p1 := 7) dX8_together_5 rfl rfl ?_
      refine sx_aload_n (p1 := 8) dX8_together_7 rfl rfl ?_
      refine sx_get (p1 := 11) dX8_together_8 rfl fl_X8_19 (hp_c15 _) rfl ?_
      refine sx_callVr (p1 := 14) (As := []) (k1 := 0) (n1 := 0) dX8_together_11 rfl rfl (v_X5_size (V := cV S) rfl hV) mt_X5_size ml_X8_27 (hp_c10 _) rfl rfl (Nat.le_of_ble_eq_true rfl) rfl (Nat.le_of_ble_eq_true rfl) rfl rfl (Nat.le_of_ble_eq_true rfl) (Nat.le_of_ble_eq_true rfl) ?_
      refine sx_icmp_ge (p1 := 17) (tg := 42) dX8_together_14 rfl rfl (by omega) (by (show -2147483648 ≤ S.1 4 ∧ S.1 4 ≤ 2147483647); omega) (fun q14 => absurd (show S.1 4 ≤ _ from q14) (by omega)) (fun q14 => ?_)
      refine sx_lload_n (p1 := 18) dX8_together_17 rfl rfl ?_
      refine sx_aload_n (p1 := 19) dX8_together_18 rfl rfl ?_
      refine sx_iload (p1 := 21) dX8_together_19 rfl rfl ?_
      refine sx_aload_n (p1 := 22) dX8_together_21 rfl rfl ?_
      refine sx_get (p1 := 25) dX8_together_22 rfl fl_X8_19 (hp_c15 _) rfl ?_
      refine sx_iload (p1 := 27) dX8_together_25 rfl rfl ?_
      refine sx_callVr (p1 := 30) (As := [_]) (k1 := 0) (n1 := 0) dX8_together_27 rfl rfl (v_X5_helmetOf (V := cV S) rfl hV (by omega)) mt_X5_helmetOf ml_X8_116 (hp_c10 _) rfl rfl (Nat.le_of_ble_eq_true rfl) rfl (Nat.le_of_ble_eq_true rfl) rfl rfl (Nat.le_of_ble_eq_true rfl) (Nat.le_of_ble_eq_true rfl) ?_
      refine sx_iload_n (p1 := 31) dX8_together_30 rfl rfl ?_
      refine sx_callVr (p1 := 34) (As := [_, _, _]) (k1 := 0) (n1 := 0) dX8_together_31 rfl rfl (v_X8_toWalker (V := cV S) rfl hV hF (by omega) (hV.2.2.2.2.2.2.2.2.2.2.2.2 _) hg) mt_X8_toWalker ml_X8_119 (hp_c15 _) rfl rfl (Nat.le_of_ble_eq_true rfl) rfl (Nat.le_of_ble_eq_true rfl) rfl rfl (Nat.le_of_ble_eq_true rfl) (Nat.le_of_ble_eq_true rfl) ?_
      refine sx_ladd (p1 := 35) dX8_together_34 rfl ?_
      refine sx_lstore_n (lo1 := [some _, some _, some _, none, some _]) (p1 := 36) dX8_together_35 rfl (by decide) rfl ?_
      refine sx_iinc (lo1 := [some _, some _, some _, none, some _]) (p1 := 39) dX8_together_36 rfl (by decide) rfl rfl ?_
      refine sx_goto (p1 := 5) (tg := 5) dX8_together_39 rfl rfl ?_
      exact ih (i + 1) (by omega)
  refine Ct.of false [some (.ref 15), some (vI gap), none, none, none] (plainFor_of_name (by decide)) (fun h => by cases h) (Nat.le_of_ble_eq_true rfl) (fun _ => rfl) sx_isl ?_
  refine sx_lconst (y := 0) (p1 := 1) dX8_together_0 rfl (by decide) ?_
  refine sx_lstore_n (lo1 := [some _, some _, some _, none, none]) (p1 := 2) dX8_together_1 rfl (by decide) rfl ?_
  refine sx_iconst (p1 := 3) dX8_together_2 rfl ?_
  refine sx_istore (lo1 := [some _, some _, some _, none, some _]) (p1 := 5) dX8_together_3 rfl (by decide) rfl ?_
  exact key _ 0 (Nat.zero_add _)
theorem v_X8_together {X : sx_X} {S : St} {V : Vw} {gap : Int} (hS : cV S = V) (hV : okV V) (hF : okF S) (hg : 0 ≤ gap ∧ gap ≤ 99) : Ct X yX8_together cX8_together 5 (some .long) 4 0 0 [.ref 15, vI gap] (hp S) (sx_is (some (vJ (mAll V gap))) (hp S)) := by
  subst hS
  exact c_X8_together hV hF hg
