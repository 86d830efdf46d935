def mPaidT (V : Vw) (n ah wa : Int) (w : Nat) : Int := if mApart V 0 w = 1 then 0 else n * mFeet V 0 (ah + wa + w * V.1 2) 1 (V.2 4 w)
def mPaidS (V : Vw) (n ah wa : Int) : Int := sumN (V.1 1).toNat (mPaidT V n ah wa)
def mPaid (V : Vw) (n ah co wa : Int) : Int := wa * 256 + co * mPaidS V n ah wa
theorem mPaidS_b {V : Vw} (hV : okV V) {n : Int} (hn : 0 ≤ n ∧ n ≤ 6) (ah wa : Int) : 0 ≤ mPaidS V n ah wa ∧ mPaidS V n ah wa ≤ 147456 := by
  have h1 := hV.2.1
  have h := sumN_le (f := mPaidT V n ah wa) (b := 6 * 4096) (V.1 1).toNat (fun i hi => by
    unfold mPaidT
    split
    · omega
    · exact mul_b hn (mFeet_b hV _ _ _ _))
  unfold mPaidS
  omega
theorem mPaid_b {V : Vw} (hV : okV V) {n co wa : Int} (hn : 0 ≤ n ∧ n ≤ 6) (hc : 0 ≤ co ∧ co ≤ 999) (hw : 0 ≤ wa ∧ wa ≤ 99) (ah : Int) : wa * 256 ≤ mPaid V n ah co wa ∧ mPaid V n ah co wa ≤ 147333888 := by
  have h1 := mul_b hc (mPaidS_b hV hn ah wa)
  unfold mPaid
  omega
def mWb (V : Vw) (n ah co : Int) : Nat → Int × Int
  | 0 => (0, mPaid V n ah co 0)
  | w + 1 => if mPaid V n ah co ((w : Int) + 1) < (mWb V n ah co w).2 then ((w : Int) + 1, mPaid V n ah co ((w : Int) + 1)) else mWb V n ah co w
theorem mWb_b {V : Vw} (hV : okV V) {n co : Int} (hn : 0 ≤ n ∧ n ≤ 6) (hc : 0 ≤ co ∧ co ≤ 999) (ah : Int) : ∀ w : Nat, w ≤ 99 → (0 ≤ (mWb V n ah co w).2 ∧ (mWb V n ah co w).2 ≤ 147333888) ∧ 0 ≤ (mWb V n ah co w).1 ∧ (mWb V n ah co w).1 ≤ 99
  | 0, _ => by
    have := mPaid_b hV hn hc (wa := 0) (by omega) ah
    simp only [mWb]
    omega
  | w + 1, h => by
    have h1 := mWb_b hV hn hc ah w (by omega)
    have := mPaid_b hV hn hc (wa := (w : Int) + 1) (by omega) ah
    rw [mWb]
    split
    · show (0 ≤ mPaid V n ah co ((w : Int) + 1) ∧ mPaid V n ah co ((w : Int) + 1) ≤ 147333888) ∧ 0 ≤ (w : Int) + 1 ∧ (w : Int) + 1 ≤ 99
      omega
    · exact h1
theorem mWb_stop {V : Vw} (hV : okV V) {n co : Int} (hn : 0 ≤ n ∧ n ≤ 6) (hc : 0 ≤ co ∧ co ≤ 999) (ah : Int) {i : Nat} (h : (mWb V n ah co i).2 ≤ ((i : Int) + 1) * 256) : ∀ j : Nat, i ≤ j → j ≤ 99 → mWb V n ah co j = mWb V n ah co i
  | 0, h1, _ => by rw [show i = 0 by omega]
  | j + 1, h1, h2 => by
    by_cases e : i = j + 1
    · rw [e]
    · have ih := mWb_stop hV hn hc ah h j (by omega) (by omega)
      have := mPaid_b hV hn hc (wa := (j : Int) + 1) (by omega) ah
      rw [mWb, if_neg, ih]
      rw [ih]
      omega
set_option maxRecDepth 20000 in
theorem c_X4_paid {X : sx_X} {S : St} {nn ah co wa : Int} (hV : okV (cV S)) (hn : 0 ≤ nn ∧ nn ≤ 6) (hah : 0 ≤ ah ∧ ah ≤ 99) (hco : 0 ≤ co ∧ co ≤ 999) (hwa : 0 ≤ wa ∧ wa ≤ 99) : Ct X yX4_paid cX4_paid 9 (some .long) 3 0 0 [.ref 24, vI nn, vI ah, vI co, vI wa] (hp S) (sx_is (some (vJ (mPaid (cV S) nn ah co wa))) (hp S)) := by
  have b0 : 0 ≤ S.1 2 ∧ S.1 2 ≤ 16 := hV.1
  have b1 : 0 ≤ S.1 4 ∧ S.1 4 ≤ 6 := hV.2.1
  have b2 : 0 ≤ S.1 6 ∧ S.1 6 ≤ 99 := hV.2.2.1
  have b3 : 0 ≤ S.1 7 ∧ S.1 7 ≤ 1 := hV.2.2.2.1
  have b4 : 0 ≤ S.1 8 ∧ S.1 8 ≤ 16 := hV.2.2.2.2.1
  have b5 : 0 ≤ S.1 9 ∧ S.1 9 ≤ 999 := hV.2.2.2.2.2.1
  have b6 : 0 ≤ S.1 10 ∧ S.1 10 ≤ 1999 := hV.2.2.2.2.2.2.1
  have b7 : 0 ≤ S.1 11 ∧ S.1 11 ≤ 16 := hV.2.2.2.2.2.2.2.1
  have bK : ∀ q, 0 ≤ gK S q ∧ gK S q ≤ 3 := hV.2.2.2.2.2.2.2.2.1
  have bL : ∀ q, 0 ≤ gL S q ∧ gL S q ≤ 9 := hV.2.2.2.2.2.2.2.2.2.1
  have bW : ∀ q, 0 ≤ pW S q ∧ pW S q ≤ 9 := hV.2.2.2.2.2.2.2.2.2.2.1
  have bS : ∀ q, 0 ≤ pS S q ∧ pS S q ≤ 9 := hV.2.2.2.2.2.2.2.2.2.2.2.1
  have bH : ∀ q, 0 ≤ pH S q ∧ pH S q ≤ 1 := hV.2.2.2.2.2.2.2.2.2.2.2.2
  have c0 : 0 ≤ (cV S).1 0 ∧ (cV S).1 0 ≤ 16 := b0
  have c1 : 0 ≤ (cV S).1 1 ∧ (cV S).1 1 ≤ 6 := b1
  have c2 : 0 ≤ (cV S).1 2 ∧ (cV S).1 2 ≤ 99 := b2
  have c3 : 0 ≤ (cV S).1 3 ∧ (cV S).1 3 ≤ 1 := b3
  have c4 : 0 ≤ (cV S).1 4 ∧ (cV S).1 4 ≤ 16 := b4
  have c5 : 0 ≤ (cV S).1 5 ∧ (cV S).1 5 ≤ 999 := b5
  have c6 : 0 ≤ (cV S).1 6 ∧ (cV S).1 6 ≤ 1999 := b6
  have c7 : 0 ≤ (cV S).1 7 ∧ (cV S).1 7 ≤ 16 := b7
  have key : ∀ (n i : Nat), i + n = ((cV S).1 1).toNat → Rn X RX4 false cX4_paid 9 3 0 0 (some .long) 6 [some (.ref 24), some (vI nn), some (vI ah), some (vI co), some (vI wa), some (vJ (sumN i (mPaidT (cV S) nn ah wa))), none, some (vI (i : Int)), none] [] (hp S) 0 0 (sx_is (some (vJ (mPaid (cV S) nn ah co wa))) (hp S)) := by
    intro n
    induction n with
    | zero =>
      intro i hi 
      rw [Nat.add_zero] at hi
      subst hi
      refine sx_iload (p1 := 8) dX4_paid_6 rfl rfl ?_
      refine sx_aload_n (p1 := 9) dX4_paid_8 rfl rfl ?_
      refine sx_get (p1 := 12) dX4_paid_9 rfl fl_X4_9 (hp_c24 _) rfl ?_
      refine sx_callVr (p1 := 15) (As := []) (k1 := 0) (n1 := 0) dX4_paid_12 rfl rfl (v_X5_size (V := cV S) rfl hV) mt_X5_size ml_X4_29 (hp_c10 _) rfl rfl (Nat.le_of_ble_eq_true rfl) rfl (Nat.le_of_ble_eq_true rfl) rfl rfl (Nat.le_of_ble_eq_true rfl) (Nat.le_of_ble_eq_true rfl) ?_
      refine sx_icmp_ge (p1 := 18) (tg := 82) dX4_paid_15 rfl rfl (by omega) (by omega) (fun q15 => ?_) (fun q15 => absurd q15 (by omega))
      refine sx_iload (p1 := 84) dX4_paid_82 rfl rfl ?_
      refine sx_i2l (p1 := 85) dX4_paid_84 rfl (by omega) ?_
      refine sx_ldc2 (z := 256) (p1 := 88) dX4_paid_85 rfl kc_X4_27 (by decide) ?_
      refine sx_lmul (p1 := 89) dX4_paid_88 rfl ?_
      refine sx_iload_n (p1 := 90) dX4_paid_89 rfl rfl ?_
      refine sx_i2l (p1 := 91) dX4_paid_90 rfl (by omega) ?_
      refine sx_lload (p1 := 93) dX4_paid_91 rfl rfl ?_
      refine sx_lmul (p1 := 94) dX4_paid_93 rfl ?_
      refine sx_ladd (p1 := 95) dX4_paid_94 rfl ?_
      exact sx_lret dX4_paid_95 rfl (sx_rj (by first | rfl | omega) (by rfl))
    | succ n ih =>
      intro i hi 
      have m1 := mul_b (show 0 ≤ (i : Int) ∧ (i : Int) ≤ 6 by omega) b2
      have m3 : mApart (cV S) 0 i = 0 ∨ mApart (cV S) 0 i = 1 := by unfold mApart; split <;> omega
      have m4 := bH (i : Int)
      have m5 : 0 ≤ (cV S).2 4 (i : Int) ∧ (cV S).2 4 (i : Int) ≤ 1 := m4
      refine sx_iload (p1 := 8) dX4_paid_6 rfl rfl ?_
      refine sx_aload_n (p1 := 9) dX4_paid_8 rfl rfl ?_
      refine sx_get (p1 := 12) dX4_paid_9 rfl fl_X4_9 (hp_c24 _) rfl ?_
      refine sx_callVr (p1 := 15) (As := []) (k1 := 0) (n1 := 0) dX4_paid_12 rfl rfl (v_X5_size (V := cV S) rfl hV) mt_X5_size ml_X4_29 (hp_c10 _) rfl rfl (Nat.le_of_ble_eq_true rfl) rfl (Nat.le_of_ble_eq_true rfl) rfl rfl (Nat.le_of_ble_eq_true rfl) (Nat.le_of_ble_eq_true rfl) ?_
      refine sx_icmp_ge (p1 := 18) (tg := 82) dX4_paid_15 rfl rfl (by omega) (by omega) (fun q15 => absurd q15 (by omega)) (fun q15 => ?_)
      refine sx_aload_n (p1 := 19) dX4_paid_18 rfl rfl ?_
      refine sx_get (p1 := 22) dX4_paid_19 rfl fl_X4_19 (hp_c24 _) rfl ?_
      refine sx_iconst (p1 := 23) dX4_paid_22 rfl ?_
      refine sx_iload (p1 := 25) dX4_paid_23 rfl rfl ?_
      refine sx_callVr (p1 := 28) (As := [_, _]) (k1 := 0) (n1 := 0) dX4_paid_25 rfl rfl (v_X8_areApart (V := cV S) rfl hV (by omega) (by omega)) mt_X8_areApart ml_X4_35 (hp_c15 _) rfl rfl (Nat.le_of_ble_eq_true rfl) rfl (Nat.le_of_ble_eq_true rfl) rfl rfl (Nat.le_of_ble_eq_true rfl) (Nat.le_of_ble_eq_true rfl) ?_
      refine sx_if_ne (p1 := 31) (tg := 76) dX4_paid_28 rfl rfl (by omega) (fun q28 => ?_) (fun q28 => ?_)
      · rw [← (show sumN (i + 1) (mPaidT (cV S) nn ah wa) = sumN i (mPaidT (cV S) nn ah wa) from sumN_0 (if_pos (by omega)))]
        refine sx_iinc (lo1 := [some _, some _, some _, some _, some _, some _, none, some _, none]) (p1 := 79) dX4_paid_76 rfl (by decide) rfl rfl ?_
        refine sx_goto (p1 := 6) (tg := 6) dX4_paid_79 rfl rfl ?_
        first | exact ih (i + 1) (by omega) | (have h9 := ih (i + 1) (by omega); rw [sumN, e2] at h9; exact h9)
      · have e2 : (mPaidT (cV S) nn ah wa) i = nn * mFeet (cV S) 0 (ah + wa + i * S.1 6) 1 ((cV S).2 4 i) := if_neg (by omega)
        refine sx_iload_n (p1 := 32) dX4_paid_31 rfl rfl ?_
        refine sx_iload (p1 := 34) dX4_paid_32 rfl rfl ?_
        refine sx_iadd (p1 := 35) dX4_paid_34 rfl ?_
        refine sx_iload (p1 := 37) dX4_paid_35 rfl rfl ?_
        refine sx_aload_n (p1 := 38) dX4_paid_37 rfl rfl ?_
        refine sx_get (p1 := 41) dX4_paid_38 rfl fl_X4_15 (hp_c24 _) rfl ?_
        refine sx_get (v := vI (S.1 6)) (p1 := 44) dX4_paid_41 rfl fl_X4_41 (hp_c14 _) rfl ?_
        refine sx_imul (p1 := 45) dX4_paid_44 rfl ?_
        refine sx_iadd (p1 := 46) dX4_paid_45 rfl ?_
        refine sx_istore (lo1 := [some _, some _, some _, some _, some _, some _, none, some _, some _]) (p1 := 48) dX4_paid_46 rfl (by decide) rfl ?_
        refine sx_lload (p1 := 50) dX4_paid_48 rfl rfl ?_
        refine sx_iload_n (p1 := 51) dX4_paid_50 rfl rfl ?_
        refine sx_i2l (p1 := 52) dX4_paid_51 rfl (by omega) ?_
        refine sx_aload_n (p1 := 53) dX4_paid_52 rfl rfl ?_
        refine sx_get (p1 := 56) dX4_paid_53 rfl fl_X4_19 (hp_c24 _) rfl ?_
        refine sx_iconst (p1 := 57) dX4_paid_56 rfl ?_
        refine sx_iload (p1 := 59) dX4_paid_57 rfl rfl ?_
        refine sx_iconst (p1 := 60) dX4_paid_59 rfl ?_
        refine sx_aload_n (p1 := 61) dX4_paid_60 rfl rfl ?_
        refine sx_get (p1 := 64) dX4_paid_61 rfl fl_X4_9 (hp_c24 _) rfl ?_
        refine sx_iload (p1 := 66) dX4_paid_64 rfl rfl ?_
        refine sx_callVr (p1 := 69) (As := [_]) (k1 := 0) (n1 := 0) dX4_paid_66 rfl rfl (v_X5_helmetOf (V := cV S) rfl hV (by omega)) mt_X5_helmetOf ml_X4_47 (hp_c10 _) rfl rfl (Nat.le_of_ble_eq_true rfl) rfl (Nat.le_of_ble_eq_true rfl) rfl rfl (Nat.le_of_ble_eq_true rfl) (Nat.le_of_ble_eq_true rfl) ?_
        refine sx_callVr (p1 := 72) (As := [_, _, _, _]) (k1 := 0) (n1 := 0) dX4_paid_69 rfl rfl (v_X8_byFeet (V := cV S) rfl hV (by omega) (by omega) (by omega) (by omega)) mt_X8_byFeet ml_X4_51 (hp_c15 _) rfl rfl (Nat.le_of_ble_eq_true rfl) rfl (Nat.le_of_ble_eq_true rfl) rfl rfl (Nat.le_of_ble_eq_true rfl) (Nat.le_of_ble_eq_true rfl) ?_
        refine sx_lmul (p1 := 73) dX4_paid_72 rfl ?_
        refine sx_ladd (p1 := 74) dX4_paid_73 rfl ?_
        refine sx_lstore (lo1 := [some _, some _, some _, some _, some _, some _, none, some _, some _]) (p1 := 76) dX4_paid_74 rfl (by decide) rfl ?_
        refine sx_iinc (lo1 := [some _, some _, some _, some _, some _, some _, none, some _, some _]) (p1 := 79) dX4_paid_76 rfl (by decide) rfl rfl ?_
        refine sx_goto (p1 := 6) (tg := 6) dX4_paid_79 rfl rfl ?_
        refine sx_drop [true, true, true, true, true, true, false, true, false] (lo1 := [some _, some _, some _, some _, some _, some _, none, some _, none]) rfl ?_
        first | exact ih (i + 1) (by omega) | (have h9 := ih (i + 1) (by omega); rw [sumN, e2] at h9; exact h9)
  refine Ct.of false [some (.ref 24), some (vI nn), some (vI ah), some (vI co), some (vI wa), none, none, none, none] (plainFor_of_name (by decide)) (fun h => by cases h) (Nat.le_of_ble_eq_true rfl) (fun _ => rfl) sx_isl ?_
  refine sx_lconst (y := 0) (p1 := 1) dX4_paid_0 rfl (by decide) ?_
  refine sx_lstore (lo1 := [some _, some _, some _, some _, some _, some _, none, none, none]) (p1 := 3) dX4_paid_1 rfl (by decide) rfl ?_
  refine sx_iconst (p1 := 4) dX4_paid_3 rfl ?_
  refine sx_istore (lo1 := [some _, some _, some _, some _, some _, some _, none, some _, none]) (p1 := 6) dX4_paid_4 rfl (by decide) rfl ?_
  exact key _ 0 (Nat.zero_add _)
theorem v_X4_paid {X : sx_X} {S : St} {V : Vw} {nn ah co wa : Int} (hS : cV S = V) (hV : okV V) (hn : 0 ≤ nn ∧ nn ≤ 6) (hah : 0 ≤ ah ∧ ah ≤ 99) (hco : 0 ≤ co ∧ co ≤ 999) (hwa : 0 ≤ wa ∧ wa ≤ 99) : Ct X yX4_paid cX4_paid 9 (some .long) 3 0 0 [.ref 24, vI nn, vI ah, vI co, vI wa] (hp S) (sx_is (some (vJ (mPaid V nn ah co wa))) (hp S)) := by
  subst hS
  exact c_X4_paid hV hn hah hco hwa
set_option maxRecDepth 20000 in
theorem c_X4_bestWait {X : sx_X} {S : St} {nn ah co : Int} (hV : okV (cV S)) (hn : 0 ≤ nn ∧ nn ≤ 6) (hah : 0 ≤ ah ∧ ah ≤ 99) (hco : 0 ≤ co ∧ co ≤ 999) : Ct X yX4_bestWait cX4_bestWait 10 (some .int) 4 0 0 [.ref 24, vI nn, vI ah, vI co] (hp S) (sx_is (some (vI (mWb (cV S) nn ah co 99).1)) (hp S)) := by
  have b0 : 0 ≤ S.1 2 ∧ S.1 2 ≤ 16 := hV.1
  have b1 : 0 ≤ S.1 4 ∧ S.1 4 ≤ 6 := hV.2.1
  have b2 : 0 ≤ S.1 6 ∧ S.1 6 ≤ 99 := hV.2.2.1
  have b3 : 0 ≤ S.1 7 ∧ S.1 7 ≤ 1 := hV.2.2.2.1
  have b4 : 0 ≤ S.1 8 ∧ S.1 8 ≤ 16 := hV.2.2.2.2.1
  have b5 : 0 ≤ S.1 9 ∧ S.1 9 ≤ 999 := hV.2.2.2.2.2.1
  have b6 : 0 ≤ S.1 10 ∧ S.1 10 ≤ 1999 := hV.2.2.2.2.2.2.1
  have b7 : 0 ≤ S.1 11 ∧ S.1 11 ≤ 16 := hV.2.2.2.2.2.2.2.1
  have bK : ∀ q, 0 ≤ gK S q ∧ gK S q ≤ 3 := hV.2.2.2.2.2.2.2.2.1
  have bL : ∀ q, 0 ≤ gL S q ∧ gL S q ≤ 9 := hV.2.2.2.2.2.2.2.2.2.1
  have bW : ∀ q, 0 ≤ pW S q ∧ pW S q ≤ 9 := hV.2.2.2.2.2.2.2.2.2.2.1
  have bS : ∀ q, 0 ≤ pS S q ∧ pS S q ≤ 9 := hV.2.2.2.2.2.2.2.2.2.2.2.1
  have bH : ∀ q, 0 ≤ pH S q ∧ pH S q ≤ 1 := hV.2.2.2.2.2.2.2.2.2.2.2.2
  have c0 : 0 ≤ (cV S).1 0 ∧ (cV S).1 0 ≤ 16 := b0
  have c1 : 0 ≤ (cV S).1 1 ∧ (cV S).1 1 ≤ 6 := b1
  have c2 : 0 ≤ (cV S).1 2 ∧ (cV S).1 2 ≤ 99 := b2
  have c3 : 0 ≤ (cV S).1 3 ∧ (cV S).1 3 ≤ 1 := b3
  have c4 : 0 ≤ (cV S).1 4 ∧ (cV S).1 4 ≤ 16 := b4
  have c5 : 0 ≤ (cV S).1 5 ∧ (cV S).1 5 ≤ 999 := b5
  have c6 : 0 ≤ (cV S).1 6 ∧ (cV S).1 6 ≤ 1999 := b6
  have c7 : 0 ≤ (cV S).1 7 ∧ (cV S).1 7 ≤ 16 := b7
  have key : ∀ (n i : Nat), i + n = 99 → Rn X RX4 false cX4_bestWait 10 4 0 0 (some .int) 16 [some (.ref 24), some (vI nn), some (vI ah), some (vI co), some (vI (mWb (cV S) nn ah co i).1), some (vJ (mWb (cV S) nn ah co i).2), none, some (vI ((i : Int) + 1)), none, none] [] (hp S) 0 0 (sx_is (some (vI (mWb (cV S) nn ah co 99).1)) (hp S)) := by
    intro n
    induction n with
    | zero =>
      intro i hi 
      rw [Nat.add_zero] at hi
      subst hi
      refine sx_iload (p1 := 18) dX4_bestWait_16 rfl rfl ?_
      refine sx_bipush (p1 := 20) dX4_bestWait_18 rfl (by decide) ?_
      refine sx_icmp_gt (p1 := 23) (tg := 69) dX4_bestWait_20 rfl rfl (by omega) (by omega) (fun q20 => ?_) (fun q20 => absurd q20 (by omega))
      refine sx_iload (p1 := 71) dX4_bestWait_69 rfl rfl ?_
      exact sx_iret dX4_bestWait_71 rfl (sx_ri (by first | rfl | omega) (by rfl))
    | succ n ih =>
      intro i hi 
      have m1 := mWb_b hV hn hco ah i (by omega)
      have m2 := mPaid_b hV hn hco (wa := (i : Int) + 1) (by omega) ah
      refine sx_iload (p1 := 18) dX4_bestWait_16 rfl rfl ?_
      refine sx_bipush (p1 := 20) dX4_bestWait_18 rfl (by decide) ?_
      refine sx_icmp_gt (p1 := 23) (tg := 69) dX4_bestWait_20 rfl rfl (by omega) (by omega) (fun q20 => absurd q20 (by omega)) (fun q20 => ?_)
      refine sx_iload (p1 := 25) dX4_bestWait_23 rfl rfl ?_
      refine sx_i2l (p1 := 26) dX4_bestWait_25 rfl (by omega) ?_
      refine sx_ldc2 (z := 256) (p1 := 29) dX4_bestWait_26 rfl kc_X4_27 (by decide) ?_
      refine sx_lmul (p1 := 30) dX4_bestWait_29 rfl ?_
      refine sx_lload (p1 := 32) dX4_bestWait_30 rfl rfl ?_
      refine sx_lcmp_ge (p2 := 0) (p1 := 36) (tg := 69) dX4_bestWait_32 dX4_bestWait_33 rfl rfl (by omega) (by omega) (fun q32 => ?_) (fun q32 => ?_)
      · have e5 := mWb_stop hV hn hco ah (i := i) (by omega) 99 (by omega) (Nat.le_refl _)
        rw [e5]
        refine sx_iload (p1 := 71) dX4_bestWait_69 rfl rfl ?_
        exact sx_iret dX4_bestWait_71 rfl (sx_ri (by first | rfl | omega) (by rfl))
      · refine sx_aload_n (p1 := 37) dX4_bestWait_36 rfl rfl ?_
        refine sx_iload_n (p1 := 38) dX4_bestWait_37 rfl rfl ?_
        refine sx_iload_n (p1 := 39) dX4_bestWait_38 rfl rfl ?_
        refine sx_iload_n (p1 := 40) dX4_bestWait_39 rfl rfl ?_
        refine sx_iload (p1 := 42) dX4_bestWait_40 rfl rfl ?_
        refine sx_callVr (p1 := 45) (As := [_, _, _, _]) (k1 := 0) (n1 := 0) dX4_bestWait_42 rfl rfl (c_X4_paid hV hn hah hco (by omega)) mt_X4_paid ml_X4_23 (hp_c24 _) rfl rfl (Nat.le_of_ble_eq_true rfl) rfl (Nat.le_of_ble_eq_true rfl) rfl rfl (Nat.le_of_ble_eq_true rfl) (Nat.le_of_ble_eq_true rfl) ?_
        refine sx_lstore (lo1 := [some _, some _, some _, some _, some _, some _, none, some _, some _, none]) (p1 := 47) dX4_bestWait_45 rfl (by decide) rfl ?_
        refine sx_lload (p1 := 49) dX4_bestWait_47 rfl rfl ?_
        refine sx_lload (p1 := 51) dX4_bestWait_49 rfl rfl ?_
        refine sx_lcmp_ge (p2 := 0) (p1 := 55) (tg := 63) dX4_bestWait_51 dX4_bestWait_52 rfl rfl (by omega) (by omega) (fun q51 => ?_) (fun q51 => ?_)
        · have e4 : mWb (cV S) nn ah co (i + 1) = (mWb (cV S) nn ah co i) := if_neg (by omega)
          refine sx_iinc (lo1 := [some _, some _, some _, some _, some _, some _, none, some _, some _, none]) (p1 := 66) dX4_bestWait_63 rfl (by decide) rfl rfl ?_
          refine sx_goto (p1 := 16) (tg := 16) dX4_bestWait_66 rfl rfl ?_
          refine sx_drop [true, true, true, true, true, true, false, true, false, false] (lo1 := [some _, some _, some _, some _, some _, some _, none, some _, none, none]) rfl ?_
          have h9 := ih (i + 1) (by omega)
          rw [e4] at h9
          exact h9
        · have e4 : mWb (cV S) nn ah co (i + 1) = ((i : Int) + 1, mPaid (cV S) nn ah co ((i : Int) + 1)) := if_pos (by omega)
          refine sx_lload (p1 := 57) dX4_bestWait_55 rfl rfl ?_
          refine sx_lstore (lo1 := [some _, some _, some _, some _, some _, some _, none, some _, some _, none]) (p1 := 59) dX4_bestWait_57 rfl (by decide) rfl ?_
          refine sx_iload (p1 := 61) dX4_bestWait_59 rfl rfl ?_
          refine sx_istore (lo1 := [some _, some _, some _, some _, some _, some _, none, some _, some _, none]) (p1 := 63) dX4_bestWait_61 rfl (by decide) rfl ?_
          refine sx_iinc (lo1 := [some _, some _, some _, some _, some _, some _, none, some _, some _, none]) (p1 := 66) dX4_bestWait_63 rfl (by decide) rfl rfl ?_
          refine sx_goto (p1 := 16) (tg := 16) dX4_bestWait_66 rfl rfl ?_
          refine sx_drop [true, true, true, true, true, true, false, true, false, false] (lo1 := [some _, some _, some _, some _, some _, some _, none, some _, none, none]) rfl ?_
          have h9 := ih (i + 1) (by omega)
          rw [e4] at h9
          exact h9
  refine Ct.of false [some (.ref 24), some (vI nn), some (vI ah), some (vI co), none, none, none, none, none, none] (plainFor_of_name (by decide)) (fun h => by cases h) (Nat.le_of_ble_eq_true rfl) (fun _ => rfl) sx_isl ?_
  refine sx_iconst (p1 := 1) dX4_bestWait_0 rfl ?_
  refine sx_istore (lo1 := [some _, some _, some _, some _, some _, none, none, none, none, none]) (p1 := 3) dX4_bestWait_1 rfl (by decide) rfl ?_
  refine sx_aload_n (p1 := 4) dX4_bestWait_3 rfl rfl ?_
  refine sx_iload_n (p1 := 5) dX4_bestWait_4 rfl rfl ?_
  refine sx_iload_n (p1 := 6) dX4_bestWait_5 rfl rfl ?_
  refine sx_iload_n (p1 := 7) dX4_bestWait_6 rfl rfl ?_
  refine sx_iconst (p1 := 8) dX4_bestWait_7 rfl ?_
  refine sx_callVr (p1 := 11) (As := [_, _, _, _]) (k1 := 0) (n1 := 0) dX4_bestWait_8 rfl rfl (c_X4_paid hV hn hah hco (by omega)) mt_X4_paid ml_X4_23 (hp_c24 _) rfl rfl (Nat.le_of_ble_eq_true rfl) rfl (Nat.le_of_ble_eq_true rfl) rfl rfl (Nat.le_of_ble_eq_true rfl) (Nat.le_of_ble_eq_true rfl) ?_
  refine sx_lstore (lo1 := [some _, some _, some _, some _, some _, some _, none, none, none, none]) (p1 := 13) dX4_bestWait_11 rfl (by decide) rfl ?_
  refine sx_iconst (p1 := 14) dX4_bestWait_13 rfl ?_
  refine sx_istore (lo1 := [some _, some _, some _, some _, some _, some _, none, some _, none, none]) (p1 := 16) dX4_bestWait_14 rfl (by decide) rfl ?_
  exact key 99 0 rfl
theorem v_X4_bestWait {X : sx_X} {S : St} {V : Vw} {nn ah co : Int} (hS : cV S = V) (hV : okV V) (hn : 0 ≤ nn ∧ nn ≤ 6) (hah : 0 ≤ ah ∧ ah ≤ 99) (hco : 0 ≤ co ∧ co ≤ 999) : Ct X yX4_bestWait cX4_bestWait 10 (some .int) 4 0 0 [.ref 24, vI nn, vI ah, vI co] (hp S) (sx_is (some (vI (mWb V nn ah co 99).1)) (hp S)) := by
  subst hS
  exact c_X4_bestWait hV hn hah hco
