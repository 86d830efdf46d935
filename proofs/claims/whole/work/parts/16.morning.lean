def lcg (s : Int) : Int := 1103515245 * s + 12345
def lot (s : Int) : Int := sx_ush (lcg s) 16 % 16
theorem ush_b (z : Int) : 0 ≤ sx_ush z 16 ∧ sx_ush z 16 ≤ 65535 := by
  have h := pk_ushr (Int32.ofInt z) (Int32.ofInt 16) 16 (by decide)
  have h2 := (Int32.ofInt z).toBitVec.isLt
  have h3 : (((Int32.ofInt z).toUInt32 >>> ((Int32.ofInt 16).toUInt32 &&& Int32.toUInt32 31)).toInt32).toBitVec.toNat < 65536 := by
    rw [h]
    omega
  have h4 : sx_ush z 16 = ((((Int32.ofInt z).toUInt32 >>> ((Int32.ofInt 16).toUInt32 &&& Int32.toUInt32 31)).toInt32).toBitVec.toNat : Int) := by
    show (((Int32.ofInt z).toUInt32 >>> ((Int32.ofInt 16).toUInt32 &&& Int32.toUInt32 31)).toInt32).toBitVec.toInt = _
    exact BitVec.toInt_eq_toNat_of_lt (by omega)
  omega
theorem lot_b (s : Int) : 0 ≤ lot s ∧ lot s ≤ 15 := by
  unfold lot
  omega
def hitW (V : Vw) (fr mi by_ : Int) (w : Nat) : Int := if by_ ≠ -1 ∧ mApart V by_ w = 1 then 0 else mHit V fr (mPl V (mi - V.1 5 - w * V.1 2)) (V.2 4 w)
def dStep (V : Vw) (fr mi by_ : Int) (w : Nat) (st : Int × Int) : Int × Int := if 0 < hitW V fr mi by_ w then (lcg st.1, if lot st.1 < hitW V fr mi by_ w then st.2 + 1 else st.2) else st
def mDrop (V : Vw) (fr mi by_ : Int) (st : Int × Int) : Nat → Int × Int
  | 0 => st
  | n + 1 => dStep V fr mi by_ n (mDrop V fr mi by_ st n)
def fStep (V : Vw) (mi : Int) (w : Nat) (st : Int × Int) : Int × Int := if 0 < V.2 1 (mEnt V w mi) then (if lot st.1 < mOdds (V.2 1 (mEnt V w mi)) (mMore V w) then mDrop V (mEnt V w mi) mi w (lcg st.1, st.2) (V.1 1).toNat else (lcg st.1, st.2)) else st
def mPF (V : Vw) (mi : Int) (st : Int × Int) : Nat → Int × Int
  | 0 => st
  | n + 1 => fStep V mi n (mPF V mi st n)
def sStep (V : Vw) (mi : Int) (q : Nat) (st : Int × Int) : Int × Int := if 0 < V.2 1 q then (if lot st.1 < V.1 7 then mDrop V q mi (-1) (lcg st.1, st.2) (V.1 1).toNat else (lcg st.1, st.2)) else st
def mPS (V : Vw) (mi : Int) (st : Int × Int) : Nat → Int × Int
  | 0 => st
  | n + 1 => sStep V mi n (mPS V mi st n)
def mMin (V : Vw) (mi : Int) (st : Int × Int) : Int × Int := if mi < V.1 6 then mPF V mi st (V.1 1).toNat else mPS V mi (mPF V mi st (V.1 1).toNat) (V.1 0).toNat
def mPlay (V : Vw) (st : Int × Int) : Nat → Int × Int
  | 0 => st
  | n + 1 => mMin V (V.1 5 + n) (mPlay V st n)
def mo (S : St) (st : Int × Int) : St := si (si S 13 st.1) 14 st.2
theorem mo_s (S : St) (st : Int × Int) (x : Int) : si (mo S st) 13 x = mo S (x, st.2) := by
  refine Prod.ext ?_ rfl
  funext b
  simp only [mo, si, sx_u]
  by_cases h1 : b = 13
  · subst h1
    simp
  · by_cases h2 : b = 14
    · subst h2
      simp
    · simp [h1, h2]
theorem mo_h (S : St) (st : Int × Int) (x : Int) : si (mo S st) 14 x = mo S (st.1, x) := by
  refine Prod.ext ?_ rfl
  funext b
  simp only [mo, si, sx_u]
  by_cases h1 : b = 14
  · subst h1
    simp
  · simp [h1]
theorem mTakes_b {V : Vw} (hV : okV V) : 0 ≤ mTakes V ∧ mTakes V ≤ 600 := by
  have h0 := hV.1
  have h1 := hV.2.1
  have h2 := hV.2.2.1
  have h3 := hV.2.2.2.1
  unfold mTakes
  split
  · omega
  · have a := mul_b (show 0 ≤ V.1 1 - 1 ∧ V.1 1 - 1 ≤ 5 by omega) h2
    have b := mul_b h0 (show 0 ≤ 1 + V.1 3 ∧ 1 + V.1 3 ≤ 2 by omega)
    omega
theorem hitW_b {V : Vw} (hV : okV V) {fr : Int} (hf : fr ≤ 16) (mi b : Int) (w : Nat) : 0 ≤ hitW V fr mi b w ∧ hitW V fr mi b w ≤ 16 := by
  unfold hitW
  split
  · omega
  · exact mHit_b hV hf
set_option maxRecDepth 20000 in
theorem c_X2_lotOfSixteen {X : sx_X} {S : St} {st : Int × Int} : Ct X yX2_lotOfSixteen cX2_lotOfSixteen 1 (some .int) 0 0 0 [.ref 25] (hp (mo S st)) (sx_is (some (vI (lot st.1))) (hp (mo S (lcg st.1, st.2)))) := by
  refine Ct.of false [some (.ref 25)] (plainFor_of_name (by decide)) (fun h => by cases h) (Nat.le_of_ble_eq_true rfl) (fun _ => rfl) sx_isl ?_
  refine sx_aload_n (p1 := 1) dX2_lotOfSixteen_0 rfl rfl ?_
  refine sx_ldc (z := 1103515245) (p1 := 3) dX2_lotOfSixteen_1 rfl kc_X2_52 (by decide) ?_
  refine sx_aload_n (p1 := 4) dX2_lotOfSixteen_3 rfl rfl ?_
  refine sx_get (v := vI st.1) (p1 := 7) dX2_lotOfSixteen_4 rfl fl_X2_27 (hp_c25 _) rfl ?_
  refine sx_imul (p1 := 8) dX2_lotOfSixteen_7 rfl ?_
  refine sx_sipush (p1 := 11) dX2_lotOfSixteen_8 rfl (by decide) ?_
  refine sx_iadd (p1 := 12) dX2_lotOfSixteen_11 rfl ?_
  refine sx_put (p1 := 15) dX2_lotOfSixteen_12 rfl fl_X2_27 (hp_c25 _) (Nat.le_of_ble_eq_true rfl) (fun _ => rfl) (fun _ => rfl) (hp_s13 _ _) ?_
  rw [mo_s]
  refine sx_aload_n (p1 := 16) dX2_lotOfSixteen_15 rfl rfl ?_
  refine sx_get (v := vI (lcg st.1)) (p1 := 19) dX2_lotOfSixteen_16 rfl fl_X2_27 (hp_c25 _) rfl ?_
  refine sx_bipush (p1 := 21) dX2_lotOfSixteen_19 rfl (by decide) ?_
  refine sx_iushr (p1 := 22) dX2_lotOfSixteen_21 rfl ?_
  refine sx_bipush (p1 := 24) dX2_lotOfSixteen_22 rfl (by decide) ?_
  have hu := ush_b (lcg st.1)
  refine sx_irem (p1 := 25) dX2_lotOfSixteen_24 rfl (by omega) (by omega) ?_
  exact sx_iret dX2_lotOfSixteen_25 rfl (sx_ri (by first | rfl | omega) (by rfl))
set_option maxRecDepth 20000 in
theorem c_X2_drop {X : sx_X} {S : St} {fr mi wh : Int} {st : Int × Int} (hV : okV (cV S)) (hfr : 0 ≤ fr ∧ fr ≤ 15) (hmi : 0 ≤ mi ∧ mi ≤ 4000) (hwh : -1 ≤ wh ∧ wh ≤ 5) : Ct X yX2_drop cX2_drop 7 none 2 0 0 [.ref 25, vI fr, vI mi, vI wh] (hp (mo S st)) (sx_is none (hp (mo S (mDrop (cV S) fr mi wh st ((cV S).1 1).toNat)))) := by
  have b0 : 0 ≤ S.1 2 ∧ S.1 2 ≤ 16 := hV.1
  have b1 : 0 ≤ S.1 4 ∧ S.1 4 ≤ 6 := hV.2.1
  have b2 : 0 ≤ S.1 6 ∧ S.1 6 ≤ 99 := hV.2.2.1
  have b3 : 0 ≤ S.1 7 ∧ S.1 7 ≤ 1 := hV.2.2.2.1
  have b4 : 0 ≤ S.1 8 ∧ S.1 8 ≤ 16 := hV.2.2.2.2.1
  have b5 : 0 ≤ S.1 9 ∧ S.1 9 ≤ 999 := hV.2.2.2.2.2.1
  have b6 : 0 ≤ S.1 10 ∧ S.1 10 ≤ 1999 := hV.2.2.2.2.2.2.1
  have b7 : 0 ≤ S.1 11 ∧ S.1 11 ≤ 16 := hV.2.2.2.2.2.2.2.1
  have bK : ∀ q, 0 ≤ gK S q ∧ gK S q ≤ 3 := hV.2.2.2.2.2.2.2.2.1
  have bL : ∀ q, 0 ≤ gL S q ∧ gL S q ≤ 9 := hV.2.2.2.2.2.2.2.2.2.1
  have bW : ∀ q, 0 ≤ pW S q ∧ pW S q ≤ 9 := hV.2.2.2.2.2.2.2.2.2.2.1
  have bS : ∀ q, 0 ≤ pS S q ∧ pS S q ≤ 9 := hV.2.2.2.2.2.2.2.2.2.2.2.1
  have bH : ∀ q, 0 ≤ pH S q ∧ pH S q ≤ 1 := hV.2.2.2.2.2.2.2.2.2.2.2.2
  have c0 : 0 ≤ (cV S).1 0 ∧ (cV S).1 0 ≤ 16 := b0
  have c1 : 0 ≤ (cV S).1 1 ∧ (cV S).1 1 ≤ 6 := b1
  have c2 : 0 ≤ (cV S).1 2 ∧ (cV S).1 2 ≤ 99 := b2
  have c3 : 0 ≤ (cV S).1 3 ∧ (cV S).1 3 ≤ 1 := b3
  have c4 : 0 ≤ (cV S).1 4 ∧ (cV S).1 4 ≤ 16 := b4
  have c5 : 0 ≤ (cV S).1 5 ∧ (cV S).1 5 ≤ 999 := b5
  have c6 : 0 ≤ (cV S).1 6 ∧ (cV S).1 6 ≤ 1999 := b6
  have c7 : 0 ≤ (cV S).1 7 ∧ (cV S).1 7 ≤ 16 := b7
  have key : ∀ (n i : Nat), i + n = ((cV S).1 1).toNat → Rn X RX2 false cX2_drop 7 2 0 0 none 3 [some (.ref 25), some (vI fr), some (vI mi), some (vI wh), some (vI (i : Int)), none, none] [] (hp (mo S (mDrop (cV S) fr mi wh st i))) 0 0 (sx_is none (hp (mo S (mDrop (cV S) fr mi wh st ((cV S).1 1).toNat)))) := by
    intro n
    induction n with
    | zero =>
      intro i hi 
      rw [Nat.add_zero] at hi
      subst hi
      refine sx_iload (p1 := 5) dX2_drop_3 rfl rfl ?_
      refine sx_aload_n (p1 := 6) dX2_drop_5 rfl rfl ?_
      refine sx_get (p1 := 9) dX2_drop_6 rfl fl_X2_15 (hp_c25 _) rfl ?_
      refine sx_callVr (p1 := 12) (As := []) (k1 := 0) (n1 := 0) dX2_drop_9 rfl rfl (v_X5_size (V := cV S) rfl hV) mt_X5_size ml_X2_53 (hp_c10 _) rfl rfl (Nat.le_of_ble_eq_true rfl) rfl (Nat.le_of_ble_eq_true rfl) rfl rfl (Nat.le_of_ble_eq_true rfl) (Nat.le_of_ble_eq_true rfl) ?_
      refine sx_icmp_ge (p1 := 15) (tg := 108) dX2_drop_12 rfl rfl (by omega) (by omega) (fun q12 => ?_) (fun q12 => absurd q12 (by omega))
      exact sx_vret dX2_drop_108 rfl (sx_rv (by rfl))
    | succ n ih =>
      intro i hi 
      have m3 : mApart (cV S) wh i = 0 ∨ mApart (cV S) wh i = 1 := by unfold mApart; split <;> omega
      have m4 : 0 ≤ (cV S).2 4 (i : Int) ∧ (cV S).2 4 (i : Int) ≤ 1 := bH (i : Int)
      have m5 := mPl_b hV (mi - (cV S).1 5 - (i : Int) * (cV S).1 2)
      have m6 := hitW_b hV (show fr ≤ 16 by omega) mi wh i
      have m7 := lot_b (mDrop (cV S) fr mi wh st i).1
      have m8 := mHit_b hV (fr := fr) (to := mPl (cV S) (mi - (cV S).1 5 - (i : Int) * (cV S).1 2)) (hel := (cV S).2 4 (i : Int)) (by omega)
      refine sx_iload (p1 := 5) dX2_drop_3 rfl rfl ?_
      refine sx_aload_n (p1 := 6) dX2_drop_5 rfl rfl ?_
      refine sx_get (p1 := 9) dX2_drop_6 rfl fl_X2_15 (hp_c25 _) rfl ?_
      refine sx_callVr (p1 := 12) (As := []) (k1 := 0) (n1 := 0) dX2_drop_9 rfl rfl (v_X5_size (V := cV S) rfl hV) mt_X5_size ml_X2_53 (hp_c10 _) rfl rfl (Nat.le_of_ble_eq_true rfl) rfl (Nat.le_of_ble_eq_true rfl) rfl rfl (Nat.le_of_ble_eq_true rfl) (Nat.le_of_ble_eq_true rfl) ?_
      refine sx_icmp_ge (p1 := 15) (tg := 108) dX2_drop_12 rfl rfl (by omega) (by omega) (fun q12 => absurd q12 (by omega)) (fun q12 => ?_)
      refine sx_iload_n (p1 := 16) dX2_drop_15 rfl rfl ?_
      refine sx_iconst (p1 := 17) dX2_drop_16 rfl ?_
      refine sx_icmp_eq (p1 := 20) (tg := 37) dX2_drop_17 rfl rfl (by omega) (by omega) (fun q17 => ?_) (fun q17 => ?_)
      · have eh : hitW (cV S) fr mi wh i = mHit (cV S) fr (mPl (cV S) (mi - (cV S).1 5 - (i : Int) * (cV S).1 2)) ((cV S).2 4 (i : Int)) := if_neg (fun q => q.1 q17)
        refine sx_iconst (p1 := 38) dX2_drop_37 rfl ?_
        refine sx_istore (lo1 := [some _, some _, some _, some _, some _, some _, none]) (p1 := 40) dX2_drop_38 rfl (by decide) rfl ?_
        refine sx_iload (p1 := 42) dX2_drop_40 rfl rfl ?_
        refine sx_if_eq (p1 := 45) (tg := 49) dX2_drop_42 rfl rfl (by omega) (fun q42 => ?_) (fun q42 => absurd q42 (by omega))
        refine sx_aload_n (p1 := 50) dX2_drop_49 rfl rfl ?_
        refine sx_get (p1 := 53) dX2_drop_50 rfl fl_X2_23 (hp_c25 _) rfl ?_
        refine sx_iload_n (p1 := 54) dX2_drop_53 rfl rfl ?_
        refine sx_aload_n (p1 := 55) dX2_drop_54 rfl rfl ?_
        refine sx_get (p1 := 58) dX2_drop_55 rfl fl_X2_23 (hp_c25 _) rfl ?_
        refine sx_iload (p1 := 60) dX2_drop_58 rfl rfl ?_
        refine sx_iload_n (p1 := 61) dX2_drop_60 rfl rfl ?_
        refine sx_callVr (p1 := 64) (As := [_, _]) (k1 := 0) (n1 := 0) dX2_drop_61 rfl rfl (v_X8_partOf (V := cV S) rfl hV (by omega) (by omega)) mt_X8_partOf ml_X2_91 (hp_c15 _) rfl rfl (Nat.le_of_ble_eq_true rfl) rfl (Nat.le_of_ble_eq_true rfl) rfl rfl (Nat.le_of_ble_eq_true rfl) (Nat.le_of_ble_eq_true rfl) ?_
        refine sx_aload_n (p1 := 65) dX2_drop_64 rfl rfl ?_
        refine sx_get (p1 := 68) dX2_drop_65 rfl fl_X2_15 (hp_c25 _) rfl ?_
        refine sx_iload (p1 := 70) dX2_drop_68 rfl rfl ?_
        refine sx_callVr (p1 := 73) (As := [_]) (k1 := 0) (n1 := 0) dX2_drop_70 rfl rfl (v_X5_helmetOf (V := cV S) rfl hV (by omega)) mt_X5_helmetOf ml_X2_94 (hp_c10 _) rfl rfl (Nat.le_of_ble_eq_true rfl) rfl (Nat.le_of_ble_eq_true rfl) rfl rfl (Nat.le_of_ble_eq_true rfl) (Nat.le_of_ble_eq_true rfl) ?_
        refine sx_callVr (p1 := 76) (As := [_, _, _]) (k1 := 0) (n1 := 0) dX2_drop_73 rfl rfl (v_X8_struck (V := cV S) rfl hV (by omega) (by omega) (by omega)) mt_X8_struck ml_X2_98 (hp_c15 _) rfl rfl (Nat.le_of_ble_eq_true rfl) rfl (Nat.le_of_ble_eq_true rfl) rfl rfl (Nat.le_of_ble_eq_true rfl) (Nat.le_of_ble_eq_true rfl) ?_
        refine sx_istore (lo1 := [some _, some _, some _, some _, some _, some _, some _]) (p1 := 78) dX2_drop_76 rfl (by decide) rfl ?_
        refine sx_iload (p1 := 80) dX2_drop_78 rfl rfl ?_
        refine sx_if_le (p1 := 83) (tg := 102) dX2_drop_80 rfl rfl (by omega) (fun q80 => ?_) (fun q80 => ?_)
        · have e4 : mo S (mDrop (cV S) fr mi wh st (i + 1)) = mo S (mDrop (cV S) fr mi wh st i) := congrArg (mo S) (if_neg (by omega))
          try rw [mo_h]
          refine sx_iinc (lo1 := [some _, some _, some _, some _, some _, some _, some _]) (p1 := 105) dX2_drop_102 rfl (by decide) rfl rfl ?_
          refine sx_goto (p1 := 3) (tg := 3) dX2_drop_105 rfl rfl ?_
          refine sx_drop [true, true, true, true, true, false, false] (lo1 := [some _, some _, some _, some _, some _, none, none]) rfl ?_
          have h9 := ih (i + 1) (by omega)
          rw [e4] at h9
          exact h9
        · refine sx_aload_n (p1 := 84) dX2_drop_83 rfl rfl ?_
          refine sx_callVr (p1 := 87) (As := []) (k1 := 0) (n1 := 0) dX2_drop_84 rfl rfl (c_X2_lotOfSixteen) mt_X2_lotOfSixteen ml_X2_68 (hp_c25 _) rfl rfl (Nat.le_of_ble_eq_true rfl) rfl (Nat.le_of_ble_eq_true rfl) rfl rfl (Nat.le_of_ble_eq_true rfl) (Nat.le_of_ble_eq_true rfl) ?_
          refine sx_iload (p1 := 89) dX2_drop_87 rfl rfl ?_
          refine sx_icmp_ge (p1 := 92) (tg := 102) dX2_drop_89 rfl rfl (by omega) (by omega) (fun q89 => ?_) (fun q89 => ?_)
          · have e4 : mo S (mDrop (cV S) fr mi wh st (i + 1)) = mo S (lcg (mDrop (cV S) fr mi wh st i).1, (mDrop (cV S) fr mi wh st i).2) := congrArg (mo S) ((if_pos (show 0 < hitW (cV S) fr mi wh i by omega)).trans (by rw [if_neg (show ¬ lot (mDrop (cV S) fr mi wh st i).1 < hitW (cV S) fr mi wh i by omega)]))
            try rw [mo_h]
            refine sx_iinc (lo1 := [some _, some _, some _, some _, some _, some _, some _]) (p1 := 105) dX2_drop_102 rfl (by decide) rfl rfl ?_
            refine sx_goto (p1 := 3) (tg := 3) dX2_drop_105 rfl rfl ?_
            refine sx_drop [true, true, true, true, true, false, false] (lo1 := [some _, some _, some _, some _, some _, none, none]) rfl ?_
            have h9 := ih (i + 1) (by omega)
            rw [e4] at h9
            exact h9
          · have e4 : mo S (mDrop (cV S) fr mi wh st (i + 1)) = mo S (lcg (mDrop (cV S) fr mi wh st i).1, (mDrop (cV S) fr mi wh st i).2 + 1) := congrArg (mo S) ((if_pos (show 0 < hitW (cV S) fr mi wh i by omega)).trans (by rw [if_pos (show lot (mDrop (cV S) fr mi wh st i).1 < hitW (cV S) fr mi wh i by omega)]))
            refine sx_aload_n (p1 := 93) dX2_drop_92 rfl rfl ?_
            refine sx_dup (p1 := 94) dX2_drop_93 rfl rfl ?_
            refine sx_get (v := vI (mDrop (cV S) fr mi wh st i).2) (p1 := 97) dX2_drop_94 rfl fl_X2_31 (hp_c25 _) rfl ?_
            refine sx_iconst (p1 := 98) dX2_drop_97 rfl ?_
            refine sx_iadd (p1 := 99) dX2_drop_98 rfl ?_
            refine sx_put (p1 := 102) dX2_drop_99 rfl fl_X2_31 (hp_c25 _) (Nat.le_of_ble_eq_true rfl) (fun _ => rfl) (fun _ => rfl) (hp_s14 _ _) ?_
            try rw [mo_h]
            refine sx_iinc (lo1 := [some _, some _, some _, some _, some _, some _, some _]) (p1 := 105) dX2_drop_102 rfl (by decide) rfl rfl ?_
            refine sx_goto (p1 := 3) (tg := 3) dX2_drop_105 rfl rfl ?_
            refine sx_drop [true, true, true, true, true, false, false] (lo1 := [some _, some _, some _, some _, some _, none, none]) rfl ?_
            have h9 := ih (i + 1) (by omega)
            rw [e4] at h9
            exact h9
      · refine sx_aload_n (p1 := 21) dX2_drop_20 rfl rfl ?_
        refine sx_get (p1 := 24) dX2_drop_21 rfl fl_X2_23 (hp_c25 _) rfl ?_
        refine sx_iload_n (p1 := 25) dX2_drop_24 rfl rfl ?_
        refine sx_iload (p1 := 27) dX2_drop_25 rfl rfl ?_
        refine sx_callVr (p1 := 30) (As := [_, _]) (k1 := 0) (n1 := 0) dX2_drop_27 rfl rfl (v_X8_areApart (V := cV S) rfl hV (by omega) (by omega)) mt_X8_areApart ml_X2_87 (hp_c15 _) rfl rfl (Nat.le_of_ble_eq_true rfl) rfl (Nat.le_of_ble_eq_true rfl) rfl rfl (Nat.le_of_ble_eq_true rfl) (Nat.le_of_ble_eq_true rfl) ?_
        refine sx_if_eq (p1 := 33) (tg := 37) dX2_drop_30 rfl rfl (by omega) (fun q30 => ?_) (fun q30 => ?_)
        · have eh : hitW (cV S) fr mi wh i = mHit (cV S) fr (mPl (cV S) (mi - (cV S).1 5 - (i : Int) * (cV S).1 2)) ((cV S).2 4 (i : Int)) := if_neg (fun q => by omega)
          refine sx_iconst (p1 := 38) dX2_drop_37 rfl ?_
          refine sx_istore (lo1 := [some _, some _, some _, some _, some _, some _, none]) (p1 := 40) dX2_drop_38 rfl (by decide) rfl ?_
          refine sx_iload (p1 := 42) dX2_drop_40 rfl rfl ?_
          refine sx_if_eq (p1 := 45) (tg := 49) dX2_drop_42 rfl rfl (by omega) (fun q42 => ?_) (fun q42 => absurd q42 (by omega))
          refine sx_aload_n (p1 := 50) dX2_drop_49 rfl rfl ?_
          refine sx_get (p1 := 53) dX2_drop_50 rfl fl_X2_23 (hp_c25 _) rfl ?_
          refine sx_iload_n (p1 := 54) dX2_drop_53 rfl rfl ?_
          refine sx_aload_n (p1 := 55) dX2_drop_54 rfl rfl ?_
          refine sx_get (p1 := 58) dX2_drop_55 rfl fl_X2_23 (hp_c25 _) rfl ?_
          refine sx_iload (p1 := 60) dX2_drop_58 rfl rfl ?_
          refine sx_iload_n (p1 := 61) dX2_drop_60 rfl rfl ?_
          refine sx_callVr (p1 := 64) (As := [_, _]) (k1 := 0) (n1 := 0) dX2_drop_61 rfl rfl (v_X8_partOf (V := cV S) rfl hV (by omega) (by omega)) mt_X8_partOf ml_X2_91 (hp_c15 _) rfl rfl (Nat.le_of_ble_eq_true rfl) rfl (Nat.le_of_ble_eq_true rfl) rfl rfl (Nat.le_of_ble_eq_true rfl) (Nat.le_of_ble_eq_true rfl) ?_
          refine sx_aload_n (p1 := 65) dX2_drop_64 rfl rfl ?_
          refine sx_get (p1 := 68) dX2_drop_65 rfl fl_X2_15 (hp_c25 _) rfl ?_
          refine sx_iload (p1 := 70) dX2_drop_68 rfl rfl ?_
          refine sx_callVr (p1 := 73) (As := [_]) (k1 := 0) (n1 := 0) dX2_drop_70 rfl rfl (v_X5_helmetOf (V := cV S) rfl hV (by omega)) mt_X5_helmetOf ml_X2_94 (hp_c10 _) rfl rfl (Nat.le_of_ble_eq_true rfl) rfl (Nat.le_of_ble_eq_true rfl) rfl rfl (Nat.le_of_ble_eq_true rfl) (Nat.le_of_ble_eq_true rfl) ?_
          refine sx_callVr (p1 := 76) (As := [_, _, _]) (k1 := 0) (n1 := 0) dX2_drop_73 rfl rfl (v_X8_struck (V := cV S) rfl hV (by omega) (by omega) (by omega)) mt_X8_struck ml_X2_98 (hp_c15 _) rfl rfl (Nat.le_of_ble_eq_true rfl) rfl (Nat.le_of_ble_eq_true rfl) rfl rfl (Nat.le_of_ble_eq_true rfl) (Nat.le_of_ble_eq_true rfl) ?_
          refine sx_istore (lo1 := [some _, some _, some _, some _, some _, some _, some _]) (p1 := 78) dX2_drop_76 rfl (by decide) rfl ?_
          refine sx_iload (p1 := 80) dX2_drop_78 rfl rfl ?_
          refine sx_if_le (p1 := 83) (tg := 102) dX2_drop_80 rfl rfl (by omega) (fun q80 => ?_) (fun q80 => ?_)
          · have e4 : mo S (mDrop (cV S) fr mi wh st (i + 1)) = mo S (mDrop (cV S) fr mi wh st i) := congrArg (mo S) (if_neg (by omega))
            try rw [mo_h]
            refine sx_iinc (lo1 := [some _, some _, some _, some _, some _, some _, some _]) (p1 := 105) dX2_drop_102 rfl (by decide) rfl rfl ?_
            refine sx_goto (p1 := 3) (tg := 3) dX2_drop_105 rfl rfl ?_
            refine sx_drop [true, true, true, true, true, false, false] (lo1 := [some _, some _, some _, some _, some _, none, none]) rfl ?_
            have h9 := ih (i + 1) (by omega)
            rw [e4] at h9
            exact h9
          · refine sx_aload_n (p1 := 84) dX2_drop_83 rfl rfl ?_
            refine sx_callVr (p1 := 87) (As := []) (k1 := 0) (n1 := 0) dX2_drop_84 rfl rfl (c_X2_lotOfSixteen) mt_X2_lotOfSixteen ml_X2_68 (hp_c25 _) rfl rfl (Nat.le_of_ble_eq_true rfl) rfl (Nat.le_of_ble_eq_true rfl) rfl rfl (Nat.le_of_ble_eq_true rfl) (Nat.le_of_ble_eq_true rfl) ?_
            refine sx_iload (p1 := 89) dX2_drop_87 rfl rfl ?_
            refine sx_icmp_ge (p1 := 92) (tg := 102) dX2_drop_89 rfl rfl (by omega) (by omega) (fun q89 => ?_) (fun q89 => ?_)
            · have e4 : mo S (mDrop (cV S) fr mi wh st (i + 1)) = mo S (lcg (mDrop (cV S) fr mi wh st i).1, (mDrop (cV S) fr mi wh st i).2) := congrArg (mo S) ((if_pos (show 0 < hitW (cV S) fr mi wh i by omega)).trans (by rw [if_neg (show ¬ lot (mDrop (cV S) fr mi wh st i).1 < hitW (cV S) fr mi wh i by omega)]))
              try rw [mo_h]
              refine sx_iinc (lo1 := [some _, some _, some _, some _, some _, some _, some _]) (p1 := 105) dX2_drop_102 rfl (by decide) rfl rfl ?_
              refine sx_goto (p1 := 3) (tg := 3) dX2_drop_105 rfl rfl ?_
              refine sx_drop [true, true, true, true, true, false, false] (lo1 := [some _, some _, some _, some _, some _, none, none]) rfl ?_
              have h9 := ih (i + 1) (by omega)
              rw [e4] at h9
              exact h9
            · have e4 : mo S (mDrop (cV S) fr mi wh st (i + 1)) = mo S (lcg (mDrop (cV S) fr mi wh st i).1, (mDrop (cV S) fr mi wh st i).2 + 1) := congrArg (mo S) ((if_pos (show 0 < hitW (cV S) fr mi wh i by omega)).trans (by rw [if_pos (show lot (mDrop (cV S) fr mi wh st i).1 < hitW (cV S) fr mi wh i by omega)]))
              refine sx_aload_n (p1 := 93) dX2_drop_92 rfl rfl ?_
              refine sx_dup (p1 := 94) dX2_drop_93 rfl rfl ?_
              refine sx_get (v := vI (mDrop (cV S) fr mi wh st i).2) (p1 := 97) dX2_drop_94 rfl fl_X2_31 (hp_c25 _) rfl ?_
              refine sx_iconst (p1 := 98) dX2_drop_97 rfl ?_
              refine sx_iadd (p1 := 99) dX2_drop_98 rfl ?_
              refine sx_put (p1 := 102) dX2_drop_99 rfl fl_X2_31 (hp_c25 _) (Nat.le_of_ble_eq_true rfl) (fun _ => rfl) (fun _ => rfl) (hp_s14 _ _) ?_
              try rw [mo_h]
              refine sx_iinc (lo1 := [some _, some _, some _, some _, some _, some _, some _]) (p1 := 105) dX2_drop_102 rfl (by decide) rfl rfl ?_
              refine sx_goto (p1 := 3) (tg := 3) dX2_drop_105 rfl rfl ?_
              refine sx_drop [true, true, true, true, true, false, false] (lo1 := [some _, some _, some _, some _, some _, none, none]) rfl ?_
              have h9 := ih (i + 1) (by omega)
              rw [e4] at h9
              exact h9
        · have eh : hitW (cV S) fr mi wh i = 0 := if_pos ⟨q17, by omega⟩
          refine sx_iconst (p1 := 34) dX2_drop_33 rfl ?_
          refine sx_goto (p1 := 38) (tg := 38) dX2_drop_34 rfl rfl ?_
          refine sx_istore (lo1 := [some _, some _, some _, some _, some _, some _, none]) (p1 := 40) dX2_drop_38 rfl (by decide) rfl ?_
          refine sx_iload (p1 := 42) dX2_drop_40 rfl rfl ?_
          refine sx_if_eq (p1 := 45) (tg := 49) dX2_drop_42 rfl rfl (by omega) (fun q42 => absurd q42 (by omega)) (fun q42 => ?_)
          refine sx_iconst (p1 := 46) dX2_drop_45 rfl ?_
          refine sx_goto (p1 := 76) (tg := 76) dX2_drop_46 rfl rfl ?_
          refine sx_istore (lo1 := [some _, some _, some _, some _, some _, some _, some _]) (p1 := 78) dX2_drop_76 rfl (by decide) rfl ?_
          refine sx_iload (p1 := 80) dX2_drop_78 rfl rfl ?_
          refine sx_if_le (p1 := 83) (tg := 102) dX2_drop_80 rfl rfl (by omega) (fun q80 => ?_) (fun q80 => absurd q80 (by omega))
          have e4 : mo S (mDrop (cV S) fr mi wh st (i + 1)) = mo S (mDrop (cV S) fr mi wh st i) := congrArg (mo S) (if_neg (by omega))
          try rw [mo_h]
          refine sx_iinc (lo1 := [some _, some _, some _, some _, some _, some _, some _]) (p1 := 105) dX2_drop_102 rfl (by decide) rfl rfl ?_
          refine sx_goto (p1 := 3) (tg := 3) dX2_drop_105 rfl rfl ?_
          refine sx_drop [true, true, true, true, true, false, false] (lo1 := [some _, some _, some _, some _, some _, none, none]) rfl ?_
          have h9 := ih (i + 1) (by omega)
          rw [e4] at h9
          exact h9
  refine Ct.of false [some (.ref 25), some (vI fr), some (vI mi), some (vI wh), none, none, none] (plainFor_of_name (by decide)) (fun h => by cases h) (Nat.le_of_ble_eq_true rfl) (fun _ => rfl) sx_isl ?_
  refine sx_iconst (p1 := 1) dX2_drop_0 rfl ?_
  refine sx_istore (lo1 := [some _, some _, some _, some _, some _, none, none]) (p1 := 3) dX2_drop_1 rfl (by decide) rfl ?_
  exact key _ 0 (Nat.zero_add _)
set_option maxRecDepth 20000 in
theorem c_X2_playFeet {X : sx_X} {S : St} {mi : Int} {st : Int × Int} (hV : okV (cV S)) (hmi : 0 ≤ mi ∧ mi ≤ 4000) : Ct X yX2_playFeet cX2_playFeet 4 none 3 0 0 [.ref 25, vI mi] (hp (mo S st)) (sx_is none (hp (mo S (mPF (cV S) mi st ((cV S).1 1).toNat)))) := by
  have b0 : 0 ≤ S.1 2 ∧ S.1 2 ≤ 16 := hV.1
  have b1 : 0 ≤ S.1 4 ∧ S.1 4 ≤ 6 := hV.2.1
  have b2 : 0 ≤ S.1 6 ∧ S.1 6 ≤ 99 := hV.2.2.1
  have b3 : 0 ≤ S.1 7 ∧ S.1 7 ≤ 1 := hV.2.2.2.1
  have b4 : 0 ≤ S.1 8 ∧ S.1 8 ≤ 16 := hV.2.2.2.2.1
  have b5 : 0 ≤ S.1 9 ∧ S.1 9 ≤ 999 := hV.2.2.2.2.2.1
  have b6 : 0 ≤ S.1 10 ∧ S.1 10 ≤ 1999 := hV.2.2.2.2.2.2.1
  have b7 : 0 ≤ S.1 11 ∧ S.1 11 ≤ 16 := hV.2.2.2.2.2.2.2.1
  have bK : ∀ q, 0 ≤ gK S q ∧ gK S q ≤ 3 := hV.2.2.2.2.2.2.2.2.1
  have bL : ∀ q, 0 ≤ gL S q ∧ gL S q ≤ 9 := hV.2.2.2.2.2.2.2.2.2.1
  have bW : ∀ q, 0 ≤ pW S q ∧ pW S q ≤ 9 := hV.2.2.2.2.2.2.2.2.2.2.1
  have bS : ∀ q, 0 ≤ pS S q ∧ pS S q ≤ 9 := hV.2.2.2.2.2.2.2.2.2.2.2.1
  have bH : ∀ q, 0 ≤ pH S q ∧ pH S q ≤ 1 := hV.2.2.2.2.2.2.2.2.2.2.2.2
  have c0 : 0 ≤ (cV S).1 0 ∧ (cV S).1 0 ≤ 16 := b0
  have c1 : 0 ≤ (cV S).1 1 ∧ (cV S).1 1 ≤ 6 := b1
  have c2 : 0 ≤ (cV S).1 2 ∧ (cV S).1 2 ≤ 99 := b2
  have c3 : 0 ≤ (cV S).1 3 ∧ (cV S).1 3 ≤ 1 := b3
  have c4 : 0 ≤ (cV S).1 4 ∧ (cV S).1 4 ≤ 16 := b4
  have c5 : 0 ≤ (cV S).1 5 ∧ (cV S).1 5 ≤ 999 := b5
  have c6 : 0 ≤ (cV S).1 6 ∧ (cV S).1 6 ≤ 1999 := b6
  have c7 : 0 ≤ (cV S).1 7 ∧ (cV S).1 7 ≤ 16 := b7
  have key : ∀ (n i : Nat), i + n = ((cV S).1 1).toNat → Rn X RX2 false cX2_playFeet 4 3 0 0 none 2 [some (.ref 25), some (vI mi), some (vI (i : Int)), none] [] (hp (mo S (mPF (cV S) mi st i))) 0 0 (sx_is none (hp (mo S (mPF (cV S) mi st ((cV S).1 1).toNat)))) := by
    intro n
    induction n with
    | zero =>
      intro i hi 
      rw [Nat.add_zero] at hi
      subst hi
      refine sx_iload_n (p1 := 3) dX2_playFeet_2 rfl rfl ?_
      refine sx_aload_n (p1 := 4) dX2_playFeet_3 rfl rfl ?_
      refine sx_get (p1 := 7) dX2_playFeet_4 rfl fl_X2_15 (hp_c25 _) rfl ?_
      refine sx_callVr (p1 := 10) (As := []) (k1 := 0) (n1 := 0) dX2_playFeet_7 rfl rfl (v_X5_size (V := cV S) rfl hV) mt_X5_size ml_X2_53 (hp_c10 _) rfl rfl (Nat.le_of_ble_eq_true rfl) rfl (Nat.le_of_ble_eq_true rfl) rfl rfl (Nat.le_of_ble_eq_true rfl) (Nat.le_of_ble_eq_true rfl) ?_
      refine sx_icmp_ge (p1 := 13) (tg := 63) dX2_playFeet_10 rfl rfl (by omega) (by omega) (fun q10 => ?_) (fun q10 => absurd q10 (by omega))
      exact sx_vret dX2_playFeet_63 rfl (sx_rv (by rfl))
    | succ n ih =>
      intro i hi 
      have m1 := mEnt_b hV (i : Int) mi
      have m2 := lot_b (mPF (cV S) mi st i).1
      have m4 := mOdds_b ((cV S).2 1 (mEnt (cV S) i mi)) (mMore (cV S) i)
      have m5 : 0 ≤ (cV S).2 1 (mEnt (cV S) i mi) := (bL _).1
      have m6 : mEnt (cV S) i mi < 0 → (cV S).2 1 (mEnt (cV S) i mi) = 0 := fun q => if_neg (by omega)
      refine sx_iload_n (p1 := 3) dX2_playFeet_2 rfl rfl ?_
      refine sx_aload_n (p1 := 4) dX2_playFeet_3 rfl rfl ?_
      refine sx_get (p1 := 7) dX2_playFeet_4 rfl fl_X2_15 (hp_c25 _) rfl ?_
      refine sx_callVr (p1 := 10) (As := []) (k1 := 0) (n1 := 0) dX2_playFeet_7 rfl rfl (v_X5_size (V := cV S) rfl hV) mt_X5_size ml_X2_53 (hp_c10 _) rfl rfl (Nat.le_of_ble_eq_true rfl) rfl (Nat.le_of_ble_eq_true rfl) rfl rfl (Nat.le_of_ble_eq_true rfl) (Nat.le_of_ble_eq_true rfl) ?_
      refine sx_icmp_ge (p1 := 13) (tg := 63) dX2_playFeet_10 rfl rfl (by omega) (by omega) (fun q10 => absurd q10 (by omega)) (fun q10 => ?_)
      refine sx_aload_n (p1 := 14) dX2_playFeet_13 rfl rfl ?_
      refine sx_get (p1 := 17) dX2_playFeet_14 rfl fl_X2_23 (hp_c25 _) rfl ?_
      refine sx_iload_n (p1 := 18) dX2_playFeet_17 rfl rfl ?_
      refine sx_iload_n (p1 := 19) dX2_playFeet_18 rfl rfl ?_
      refine sx_callVr (p1 := 22) (As := [_, _]) (k1 := 0) (n1 := 0) dX2_playFeet_19 rfl rfl (v_X8_partEntered (V := cV S) rfl hV (by omega) (by omega)) mt_X8_partEntered ml_X2_58 (hp_c15 _) rfl rfl (Nat.le_of_ble_eq_true rfl) rfl (Nat.le_of_ble_eq_true rfl) rfl rfl (Nat.le_of_ble_eq_true rfl) (Nat.le_of_ble_eq_true rfl) ?_
      refine sx_istore_n (lo1 := [some _, some _, some _, some _]) (p1 := 23) dX2_playFeet_22 rfl (by decide) rfl ?_
      refine sx_aload_n (p1 := 24) dX2_playFeet_23 rfl rfl ?_
      refine sx_get (p1 := 27) dX2_playFeet_24 rfl fl_X2_9 (hp_c25 _) rfl ?_
      refine sx_iload_n (p1 := 28) dX2_playFeet_27 rfl rfl ?_
      refine sx_callVr (p1 := 31) (As := [_]) (k1 := 0) (n1 := 0) dX2_playFeet_28 rfl rfl (v_X0_isLoose (V := cV S) rfl hV (by omega)) mt_X0_isLoose ml_X2_62 (hp_c7 _) rfl rfl (Nat.le_of_ble_eq_true rfl) rfl (Nat.le_of_ble_eq_true rfl) rfl rfl (Nat.le_of_ble_eq_true rfl) (Nat.le_of_ble_eq_true rfl) ?_
      refine sx_if_eq (p1 := 34) (tg := 57) dX2_playFeet_31 rfl rfl (by split <;> omega) (fun q31 => ?_) (fun q31 => ?_)
      · have zq4 : mo S (mPF (cV S) mi st (i + 1)) = mo S (mPF (cV S) mi st i) := congrArg (mo S) (if_neg (fun q => by rw [if_pos q] at q31; omega))
        refine sx_iinc (lo1 := [some _, some _, some _, some _]) (p1 := 60) dX2_playFeet_57 rfl (by decide) rfl rfl ?_
        refine sx_goto (p1 := 2) (tg := 2) dX2_playFeet_60 rfl rfl ?_
        refine sx_drop [true, true, true, false] (lo1 := [some _, some _, some _, none]) rfl ?_
        have h9 := ih (i + 1) (by omega)
        rw [zq4] at h9
        exact h9
      · have zq5 : 0 < (cV S).2 1 (mEnt (cV S) i mi) := Decidable.byContradiction (fun q => by rw [if_neg q] at q31; omega)
        have zq6 : 0 ≤ mEnt (cV S) i mi := Decidable.byContradiction (fun q => by have := m6 (by omega); omega)
        refine sx_aload_n (p1 := 35) dX2_playFeet_34 rfl rfl ?_
        refine sx_callVr (p1 := 38) (As := []) (k1 := 0) (n1 := 0) dX2_playFeet_35 rfl rfl (c_X2_lotOfSixteen) mt_X2_lotOfSixteen ml_X2_68 (hp_c25 _) rfl rfl (Nat.le_of_ble_eq_true rfl) rfl (Nat.le_of_ble_eq_true rfl) rfl rfl (Nat.le_of_ble_eq_true rfl) (Nat.le_of_ble_eq_true rfl) ?_
        refine sx_aload_n (p1 := 39) dX2_playFeet_38 rfl rfl ?_
        refine sx_get (p1 := 42) dX2_playFeet_39 rfl fl_X2_23 (hp_c25 _) rfl ?_
        refine sx_iload_n (p1 := 43) dX2_playFeet_42 rfl rfl ?_
        refine sx_iload_n (p1 := 44) dX2_playFeet_43 rfl rfl ?_
        refine sx_callVr (p1 := 47) (As := [_, _]) (k1 := 0) (n1 := 0) dX2_playFeet_44 rfl rfl (v_X8_oddsOf (V := cV S) rfl hV (by omega) (by omega)) mt_X8_oddsOf ml_X2_71 (hp_c15 _) rfl rfl (Nat.le_of_ble_eq_true rfl) rfl (Nat.le_of_ble_eq_true rfl) rfl rfl (Nat.le_of_ble_eq_true rfl) (Nat.le_of_ble_eq_true rfl) ?_
        refine sx_icmp_ge (p1 := 50) (tg := 57) dX2_playFeet_47 rfl rfl (by omega) (by omega) (fun q47 => ?_) (fun q47 => ?_)
        · have zq4 : mo S (mPF (cV S) mi st (i + 1)) = mo S (lcg (mPF (cV S) mi st i).1, (mPF (cV S) mi st i).2) := congrArg (mo S) ((if_pos zq5).trans (if_neg (by omega)))
          refine sx_iinc (lo1 := [some _, some _, some _, some _]) (p1 := 60) dX2_playFeet_57 rfl (by decide) rfl rfl ?_
          refine sx_goto (p1 := 2) (tg := 2) dX2_playFeet_60 rfl rfl ?_
          refine sx_drop [true, true, true, false] (lo1 := [some _, some _, some _, none]) rfl ?_
          have h9 := ih (i + 1) (by omega)
          rw [zq4] at h9
          exact h9
        · have zq4 : mo S (mPF (cV S) mi st (i + 1)) = mo S (mDrop (cV S) (mEnt (cV S) i mi) mi i (lcg (mPF (cV S) mi st i).1, (mPF (cV S) mi st i).2) ((cV S).1 1).toNat) := congrArg (mo S) ((if_pos zq5).trans (if_pos (by omega)))
          refine sx_aload_n (p1 := 51) dX2_playFeet_50 rfl rfl ?_
          refine sx_iload_n (p1 := 52) dX2_playFeet_51 rfl rfl ?_
          refine sx_iload_n (p1 := 53) dX2_playFeet_52 rfl rfl ?_
          refine sx_iload_n (p1 := 54) dX2_playFeet_53 rfl rfl ?_
          refine sx_callVn (p1 := 57) (As := [_, _, _]) (k1 := 0) (n1 := 0) dX2_playFeet_54 rfl rfl (c_X2_drop hV (by omega) (by omega) (by omega)) mt_X2_drop ml_X2_74 (hp_c25 _) rfl rfl (Nat.le_of_ble_eq_true rfl) rfl (Nat.le_of_ble_eq_true rfl) rfl rfl (Nat.le_of_ble_eq_true rfl) (Nat.le_of_ble_eq_true rfl) ?_
          refine sx_iinc (lo1 := [some _, some _, some _, some _]) (p1 := 60) dX2_playFeet_57 rfl (by decide) rfl rfl ?_
          refine sx_goto (p1 := 2) (tg := 2) dX2_playFeet_60 rfl rfl ?_
          refine sx_drop [true, true, true, false] (lo1 := [some _, some _, some _, none]) rfl ?_
          have h9 := ih (i + 1) (by omega)
          rw [zq4] at h9
          exact h9
  refine Ct.of false [some (.ref 25), some (vI mi), none, none] (plainFor_of_name (by decide)) (fun h => by cases h) (Nat.le_of_ble_eq_true rfl) (fun _ => rfl) sx_isl ?_
  refine sx_iconst (p1 := 1) dX2_playFeet_0 rfl ?_
  refine sx_istore_n (lo1 := [some _, some _, some _, none]) (p1 := 2) dX2_playFeet_1 rfl (by decide) rfl ?_
  exact key _ 0 (Nat.zero_add _)
set_option maxRecDepth 20000 in
theorem c_X2_playSun {X : sx_X} {S : St} {mi : Int} {st : Int × Int} (hV : okV (cV S)) (hmi : 0 ≤ mi ∧ mi ≤ 4000) : Ct X yX2_playSun cX2_playSun 3 none 3 0 0 [.ref 25, vI mi] (hp (mo S st)) (sx_is none (hp (mo S (if mi < S.1 10 then st else mPS (cV S) mi st (S.1 2).toNat)))) := by
  have b0 : 0 ≤ S.1 2 ∧ S.1 2 ≤ 16 := hV.1
  have b1 : 0 ≤ S.1 4 ∧ S.1 4 ≤ 6 := hV.2.1
  have b2 : 0 ≤ S.1 6 ∧ S.1 6 ≤ 99 := hV.2.2.1
  have b3 : 0 ≤ S.1 7 ∧ S.1 7 ≤ 1 := hV.2.2.2.1
  have b4 : 0 ≤ S.1 8 ∧ S.1 8 ≤ 16 := hV.2.2.2.2.1
  have b5 : 0 ≤ S.1 9 ∧ S.1 9 ≤ 999 := hV.2.2.2.2.2.1
  have b6 : 0 ≤ S.1 10 ∧ S.1 10 ≤ 1999 := hV.2.2.2.2.2.2.1
  have b7 : 0 ≤ S.1 11 ∧ S.1 11 ≤ 16 := hV.2.2.2.2.2.2.2.1
  have bK : ∀ q, 0 ≤ gK S q ∧ gK S q ≤ 3 := hV.2.2.2.2.2.2.2.2.1
  have bL : ∀ q, 0 ≤ gL S q ∧ gL S q ≤ 9 := hV.2.2.2.2.2.2.2.2.2.1
  have bW : ∀ q, 0 ≤ pW S q ∧ pW S q ≤ 9 := hV.2.2.2.2.2.2.2.2.2.2.1
  have bS : ∀ q, 0 ≤ pS S q ∧ pS S q ≤ 9 := hV.2.2.2.2.2.2.2.2.2.2.2.1
  have bH : ∀ q, 0 ≤ pH S q ∧ pH S q ≤ 1 := hV.2.2.2.2.2.2.2.2.2.2.2.2
  have c0 : 0 ≤ (cV S).1 0 ∧ (cV S).1 0 ≤ 16 := b0
  have c1 : 0 ≤ (cV S).1 1 ∧ (cV S).1 1 ≤ 6 := b1
  have c2 : 0 ≤ (cV S).1 2 ∧ (cV S).1 2 ≤ 99 := b2
  have c3 : 0 ≤ (cV S).1 3 ∧ (cV S).1 3 ≤ 1 := b3
  have c4 : 0 ≤ (cV S).1 4 ∧ (cV S).1 4 ≤ 16 := b4
  have c5 : 0 ≤ (cV S).1 5 ∧ (cV S).1 5 ≤ 999 := b5
  have c6 : 0 ≤ (cV S).1 6 ∧ (cV S).1 6 ≤ 1999 := b6
  have c7 : 0 ≤ (cV S).1 7 ∧ (cV S).1 7 ≤ 16 := b7
  have key : ∀ (n i : Nat), i + n = (S.1 2).toNat → Rn X RX2 false cX2_playSun 3 3 0 0 none 14 [some (.ref 25), some (vI mi), some (vI (i : Int))] [] (hp (mo S (mPS (cV S) mi st i))) 0 0 (sx_is none (hp (mo S (mPS (cV S) mi st (S.1 2).toNat)))) := by
    intro n
    induction n with
    | zero =>
      intro i hi 
      rw [Nat.add_zero] at hi
      subst hi
      refine sx_iload_n (p1 := 15) dX2_playSun_14 rfl rfl ?_
      refine sx_aload_n (p1 := 16) dX2_playSun_15 rfl rfl ?_
      refine sx_get (p1 := 19) dX2_playSun_16 rfl fl_X2_9 (hp_c25 _) rfl ?_
      refine sx_get (v := vI (S.1 2)) (p1 := 22) dX2_playSun_19 rfl fl_X2_81 (hp_c7 _) rfl ?_
      refine sx_icmp_ge (p1 := 25) (tg := 63) dX2_playSun_22 rfl rfl (by omega) (by omega) (fun q22 => ?_) (fun q22 => absurd q22 (by omega))
      exact sx_vret dX2_playSun_63 rfl (sx_rv (by rfl))
    | succ n ih =>
      intro i hi 
      have m2 := lot_b (mPS (cV S) mi st i).1
      have m5 : 0 ≤ (cV S).2 1 (i : Int) := (bL _).1
      refine sx_iload_n (p1 := 15) dX2_playSun_14 rfl rfl ?_
      refine sx_aload_n (p1 := 16) dX2_playSun_15 rfl rfl ?_
      refine sx_get (p1 := 19) dX2_playSun_16 rfl fl_X2_9 (hp_c25 _) rfl ?_
      refine sx_get (v := vI (S.1 2)) (p1 := 22) dX2_playSun_19 rfl fl_X2_81 (hp_c7 _) rfl ?_
      refine sx_icmp_ge (p1 := 25) (tg := 63) dX2_playSun_22 rfl rfl (by omega) (by omega) (fun q22 => absurd q22 (by omega)) (fun q22 => ?_)
      refine sx_aload_n (p1 := 26) dX2_playSun_25 rfl rfl ?_
      refine sx_get (p1 := 29) dX2_playSun_26 rfl fl_X2_9 (hp_c25 _) rfl ?_
      refine sx_iload_n (p1 := 30) dX2_playSun_29 rfl rfl ?_
      refine sx_callVr (p1 := 33) (As := [_]) (k1 := 0) (n1 := 0) dX2_playSun_30 rfl rfl (v_X0_isLoose (V := cV S) rfl hV (by omega)) mt_X0_isLoose ml_X2_62 (hp_c7 _) rfl rfl (Nat.le_of_ble_eq_true rfl) rfl (Nat.le_of_ble_eq_true rfl) rfl rfl (Nat.le_of_ble_eq_true rfl) (Nat.le_of_ble_eq_true rfl) ?_
      refine sx_if_eq (p1 := 36) (tg := 57) dX2_playSun_33 rfl rfl (by split <;> omega) (fun q33 => ?_) (fun q33 => ?_)
      · have zq4 : mo S (mPS (cV S) mi st (i + 1)) = mo S (mPS (cV S) mi st i) := congrArg (mo S) (if_neg (fun q => by rw [if_pos q] at q33; omega))
        refine sx_iinc (lo1 := [some _, some _, some _]) (p1 := 60) dX2_playSun_57 rfl (by decide) rfl rfl ?_
        refine sx_goto (p1 := 14) (tg := 14) dX2_playSun_60 rfl rfl ?_
        have h9 := ih (i + 1) (by omega)
        rw [zq4] at h9
        exact h9
      · have zq5 : 0 < (cV S).2 1 (i : Int) := Decidable.byContradiction (fun q => by rw [if_neg q] at q33; omega)
        refine sx_aload_n (p1 := 37) dX2_playSun_36 rfl rfl ?_
        refine sx_callVr (p1 := 40) (As := []) (k1 := 0) (n1 := 0) dX2_playSun_37 rfl rfl (c_X2_lotOfSixteen) mt_X2_lotOfSixteen ml_X2_68 (hp_c25 _) rfl rfl (Nat.le_of_ble_eq_true rfl) rfl (Nat.le_of_ble_eq_true rfl) rfl rfl (Nat.le_of_ble_eq_true rfl) (Nat.le_of_ble_eq_true rfl) ?_
        refine sx_aload_n (p1 := 41) dX2_playSun_40 rfl rfl ?_
        refine sx_get (p1 := 44) dX2_playSun_41 rfl fl_X2_19 (hp_c25 _) rfl ?_
        refine sx_get (v := vI (S.1 11)) (p1 := 47) dX2_playSun_44 rfl fl_X2_84 (hp_c14 _) rfl ?_
        refine sx_icmp_ge (p1 := 50) (tg := 57) dX2_playSun_47 rfl rfl (by omega) (by omega) (fun q47 => ?_) (fun q47 => ?_)
        · have zq4 : mo S (mPS (cV S) mi st (i + 1)) = mo S (lcg (mPS (cV S) mi st i).1, (mPS (cV S) mi st i).2) := congrArg (mo S) ((if_pos zq5).trans (if_neg (by show ¬ lot _ < S.1 11; omega)))
          refine sx_iinc (lo1 := [some _, some _, some _]) (p1 := 60) dX2_playSun_57 rfl (by decide) rfl rfl ?_
          refine sx_goto (p1 := 14) (tg := 14) dX2_playSun_60 rfl rfl ?_
          have h9 := ih (i + 1) (by omega)
          rw [zq4] at h9
          exact h9
        · have zq4 : mo S (mPS (cV S) mi st (i + 1)) = mo S (mDrop (cV S) (i : Int) mi (-1) (lcg (mPS (cV S) mi st i).1, (mPS (cV S) mi st i).2) ((cV S).1 1).toNat) := congrArg (mo S) ((if_pos zq5).trans (if_pos (by show lot _ < S.1 11; omega)))
          refine sx_aload_n (p1 := 51) dX2_playSun_50 rfl rfl ?_
          refine sx_iload_n (p1 := 52) dX2_playSun_51 rfl rfl ?_
          refine sx_iload_n (p1 := 53) dX2_playSun_52 rfl rfl ?_
          refine sx_iconst (p1 := 54) dX2_playSun_53 rfl ?_
          refine sx_callVn (p1 := 57) (As := [_, _, _]) (k1 := 0) (n1 := 0) dX2_playSun_54 rfl rfl (c_X2_drop hV (by omega) (by omega) (by omega)) mt_X2_drop ml_X2_74 (hp_c25 _) rfl rfl (Nat.le_of_ble_eq_true rfl) rfl (Nat.le_of_ble_eq_true rfl) rfl rfl (Nat.le_of_ble_eq_true rfl) (Nat.le_of_ble_eq_true rfl) ?_
          refine sx_iinc (lo1 := [some _, some _, some _]) (p1 := 60) dX2_playSun_57 rfl (by decide) rfl rfl ?_
          refine sx_goto (p1 := 14) (tg := 14) dX2_playSun_60 rfl rfl ?_
          have h9 := ih (i + 1) (by omega)
          rw [zq4] at h9
          exact h9
  refine Ct.of false [some (.ref 25), some (vI mi), none] (plainFor_of_name (by decide)) (fun h => by cases h) (Nat.le_of_ble_eq_true rfl) (fun _ => rfl) sx_isl ?_
  refine sx_iload_n (p1 := 1) dX2_playSun_0 rfl rfl ?_
  refine sx_aload_n (p1 := 2) dX2_playSun_1 rfl rfl ?_
  refine sx_get (p1 := 5) dX2_playSun_2 rfl fl_X2_19 (hp_c25 _) rfl ?_
  refine sx_get (v := vI (S.1 10)) (p1 := 8) dX2_playSun_5 rfl fl_X2_78 (hp_c14 _) rfl ?_
  refine sx_icmp_ge (p1 := 11) (tg := 12) dX2_playSun_8 rfl rfl (by omega) (by omega) (fun q8 => ?_) (fun q8 => ?_)
  · rw [if_neg (by omega)]
    refine sx_iconst (p1 := 13) dX2_playSun_12 rfl ?_
    refine sx_istore_n (lo1 := [some _, some _, some _]) (p1 := 14) dX2_playSun_13 rfl (by decide) rfl ?_
    exact key _ 0 (Nat.zero_add _)
  · rw [if_pos (by omega)]
    exact sx_vret dX2_playSun_11 rfl (sx_rv (by rfl))
set_option maxRecDepth 20000 in
theorem c_X2_play {X : sx_X} {S : St} {sd : Int} (hV : okV (cV S)) : Ct X yX2_play cX2_play 4 (some .int) 4 0 0 [.ref 25, vI sd] (hp S) (sx_is (some (vI (mPlay (cV S) (sd, 0) (mTakes (cV S)).toNat).2)) (hp (mo S (mPlay (cV S) (sd, 0) (mTakes (cV S)).toNat)))) := by
  have b0 : 0 ≤ S.1 2 ∧ S.1 2 ≤ 16 := hV.1
  have b1 : 0 ≤ S.1 4 ∧ S.1 4 ≤ 6 := hV.2.1
  have b2 : 0 ≤ S.1 6 ∧ S.1 6 ≤ 99 := hV.2.2.1
  have b3 : 0 ≤ S.1 7 ∧ S.1 7 ≤ 1 := hV.2.2.2.1
  have b4 : 0 ≤ S.1 8 ∧ S.1 8 ≤ 16 := hV.2.2.2.2.1
  have b5 : 0 ≤ S.1 9 ∧ S.1 9 ≤ 999 := hV.2.2.2.2.2.1
  have b6 : 0 ≤ S.1 10 ∧ S.1 10 ≤ 1999 := hV.2.2.2.2.2.2.1
  have b7 : 0 ≤ S.1 11 ∧ S.1 11 ≤ 16 := hV.2.2.2.2.2.2.2.1
  have bK : ∀ q, 0 ≤ gK S q ∧ gK S q ≤ 3 := hV.2.2.2.2.2.2.2.2.1
  have bL : ∀ q, 0 ≤ gL S q ∧ gL S q ≤ 9 := hV.2.2.2.2.2.2.2.2.2.1
  have bW : ∀ q, 0 ≤ pW S q ∧ pW S q ≤ 9 := hV.2.2.2.2.2.2.2.2.2.2.1
  have bS : ∀ q, 0 ≤ pS S q ∧ pS S q ≤ 9 := hV.2.2.2.2.2.2.2.2.2.2.2.1
  have bH : ∀ q, 0 ≤ pH S q ∧ pH S q ≤ 1 := hV.2.2.2.2.2.2.2.2.2.2.2.2
  have c0 : 0 ≤ (cV S).1 0 ∧ (cV S).1 0 ≤ 16 := b0
  have c1 : 0 ≤ (cV S).1 1 ∧ (cV S).1 1 ≤ 6 := b1
  have c2 : 0 ≤ (cV S).1 2 ∧ (cV S).1 2 ≤ 99 := b2
  have c3 : 0 ≤ (cV S).1 3 ∧ (cV S).1 3 ≤ 1 := b3
  have c4 : 0 ≤ (cV S).1 4 ∧ (cV S).1 4 ≤ 16 := b4
  have c5 : 0 ≤ (cV S).1 5 ∧ (cV S).1 5 ≤ 999 := b5
  have c6 : 0 ≤ (cV S).1 6 ∧ (cV S).1 6 ≤ 1999 := b6
  have c7 : 0 ≤ (cV S).1 7 ∧ (cV S).1 7 ≤ 16 := b7
  have t1 := mTakes_b hV
  have key : ∀ (n i : Nat), i + n = (mTakes (cV S)).toNat → Rn X RX2 false cX2_play 4 4 0 0 (some .int) 34 [some (.ref 25), some (vI sd), some (vI (S.1 9 + mTakes (cV S))), some (vI (S.1 9 + (i : Int)))] [] (hp (mo S (mPlay (cV S) (sd, 0) i))) 0 0 (sx_is (some (vI (mPlay (cV S) (sd, 0) (mTakes (cV S)).toNat).2)) (hp (mo S (mPlay (cV S) (sd, 0) (mTakes (cV S)).toNat)))) := by
    intro n
    induction n with
    | zero =>
      intro i hi 
      rw [Nat.add_zero] at hi
      subst hi
      refine sx_iload_n (p1 := 35) dX2_play_34 rfl rfl ?_
      refine sx_iload_n (p1 := 36) dX2_play_35 rfl rfl ?_
      refine sx_icmp_ge (p1 := 39) (tg := 55) dX2_play_36 rfl rfl (by omega) (by omega) (fun q36 => ?_) (fun q36 => absurd q36 (by omega))
      refine sx_aload_n (p1 := 56) dX2_play_55 rfl rfl ?_
      refine sx_get (v := vI (mPlay (cV S) (sd, 0) (mTakes (cV S)).toNat).2) (p1 := 59) dX2_play_56 rfl fl_X2_31 (hp_c25 _) rfl ?_
      exact sx_iret dX2_play_59 rfl (sx_ri (by first | rfl | omega) (by rfl))
    | succ n ih =>
      intro i hi 
      refine sx_iload_n (p1 := 35) dX2_play_34 rfl rfl ?_
      refine sx_iload_n (p1 := 36) dX2_play_35 rfl rfl ?_
      refine sx_icmp_ge (p1 := 39) (tg := 55) dX2_play_36 rfl rfl (by omega) (by omega) (fun q36 => absurd q36 (by omega)) (fun q36 => ?_)
      refine sx_aload_n (p1 := 40) dX2_play_39 rfl rfl ?_
      refine sx_iload_n (p1 := 41) dX2_play_40 rfl rfl ?_
      refine sx_callVn (p1 := 44) (As := [_]) (k1 := 0) (n1 := 0) dX2_play_41 rfl rfl (c_X2_playFeet hV (by omega)) mt_X2_playFeet ml_X2_45 (hp_c25 _) rfl rfl (Nat.le_of_ble_eq_true rfl) rfl (Nat.le_of_ble_eq_true rfl) rfl rfl (Nat.le_of_ble_eq_true rfl) (Nat.le_of_ble_eq_true rfl) ?_
      refine sx_aload_n (p1 := 45) dX2_play_44 rfl rfl ?_
      refine sx_iload_n (p1 := 46) dX2_play_45 rfl rfl ?_
      refine sx_callVn (p1 := 49) (As := [_]) (k1 := 0) (n1 := 0) dX2_play_46 rfl rfl (c_X2_playSun hV (by omega)) mt_X2_playSun ml_X2_49 (hp_c25 _) rfl rfl (Nat.le_of_ble_eq_true rfl) rfl (Nat.le_of_ble_eq_true rfl) rfl rfl (Nat.le_of_ble_eq_true rfl) (Nat.le_of_ble_eq_true rfl) ?_
      refine sx_iinc (lo1 := [some _, some _, some _, some _]) (p1 := 52) dX2_play_49 rfl (by decide) rfl rfl ?_
      refine sx_goto (p1 := 34) (tg := 34) dX2_play_52 rfl rfl ?_
      have h9 := ih (i + 1) (by omega)
      rw [show (S.1 9 + ((i + 1 : Nat) : Int)) = S.1 9 + (i : Int) + 1 by omega] at h9
      rw [show mPlay (cV S) (sd, 0) (i + 1) = (if S.1 9 + (i : Int) < S.1 10 then mPF (cV S) (S.1 9 + i) (mPlay (cV S) (sd, 0) i) ((cV S).1 1).toNat else mPS (cV S) (S.1 9 + i) (mPF (cV S) (S.1 9 + i) (mPlay (cV S) (sd, 0) i) ((cV S).1 1).toNat) (S.1 2).toNat) from rfl] at h9
      exact h9
  refine Ct.of false [some (.ref 25), some (vI sd), none, none] (plainFor_of_name (by decide)) (fun h => by cases h) (Nat.le_of_ble_eq_true rfl) (fun _ => rfl) sx_isl ?_
  refine sx_aload_n (p1 := 1) dX2_play_0 rfl rfl ?_
  refine sx_iload_n (p1 := 2) dX2_play_1 rfl rfl ?_
  refine sx_put (p1 := 5) dX2_play_2 rfl fl_X2_27 (hp_c25 _) (Nat.le_of_ble_eq_true rfl) (fun _ => rfl) (fun _ => rfl) (hp_s13 _ _) ?_
  refine sx_aload_n (p1 := 6) dX2_play_5 rfl rfl ?_
  refine sx_iconst (p1 := 7) dX2_play_6 rfl ?_
  refine sx_put (p1 := 10) dX2_play_7 rfl fl_X2_31 (hp_c25 _) (Nat.le_of_ble_eq_true rfl) (fun _ => rfl) (fun _ => rfl) (hp_s14 _ _) ?_
  rw [show si (si S 13 sd) 14 0 = mo S (sd, 0) from rfl]
  refine sx_aload_n (p1 := 11) dX2_play_10 rfl rfl ?_
  refine sx_get (p1 := 14) dX2_play_11 rfl fl_X2_19 (hp_c25 _) rfl ?_
  refine sx_get (v := vI (S.1 9)) (p1 := 17) dX2_play_14 rfl fl_X2_34 (hp_c14 _) rfl ?_
  refine sx_aload_n (p1 := 18) dX2_play_17 rfl rfl ?_
  refine sx_get (p1 := 21) dX2_play_18 rfl fl_X2_23 (hp_c25 _) rfl ?_
  refine sx_callVr (p1 := 24) (As := []) (k1 := 0) (n1 := 0) dX2_play_21 rfl rfl (v_X8_minutesInAll (V := cV S) rfl hV) mt_X8_minutesInAll ml_X2_39 (hp_c15 _) rfl rfl (Nat.le_of_ble_eq_true rfl) rfl (Nat.le_of_ble_eq_true rfl) rfl rfl (Nat.le_of_ble_eq_true rfl) (Nat.le_of_ble_eq_true rfl) ?_
  refine sx_iadd (p1 := 25) dX2_play_24 rfl ?_
  refine sx_istore_n (lo1 := [some _, some _, some _, none]) (p1 := 26) dX2_play_25 rfl (by decide) rfl ?_
  refine sx_aload_n (p1 := 27) dX2_play_26 rfl rfl ?_
  refine sx_get (p1 := 30) dX2_play_27 rfl fl_X2_19 (hp_c25 _) rfl ?_
  refine sx_get (v := vI (S.1 9)) (p1 := 33) dX2_play_30 rfl fl_X2_34 (hp_c14 _) rfl ?_
  refine sx_istore_n (lo1 := [some _, some _, some _, some _]) (p1 := 34) dX2_play_33 rfl (by decide) rfl ?_
  have h9 := key _ 0 (Nat.zero_add _)
  rw [show S.1 9 + ((0 : Nat) : Int) = S.1 9 from Int.add_zero _] at h9
  exact h9
theorem v_X2_play {X : sx_X} {S : St} {V : Vw} {sd : Int} (hS : cV S = V) (hV : okV V) : Ct X yX2_play cX2_play 4 (some .int) 4 0 0 [.ref 25, vI sd] (hp S) (sx_is (some (vI (mPlay V (sd, 0) (mTakes V).toNat).2)) (hp (mo S (mPlay V (sd, 0) (mTakes V).toNat)))) := by
  subst hS
  exact c_X2_play hV
