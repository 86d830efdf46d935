theorem si_si (S : St) (k : Nat) (x y : Int) : si (si S k x) k y = si S k y := by
  refine Prod.ext ?_ rfl
  funext b
  simp only [si, sx_u]
  by_cases h : b = k <;> simp [h]
theorem dStep_add (V : Vw) (fr mi by_ : Int) (w : Nat) (d n : Int) : dStep V fr mi by_ w (d, n) = ((dStep V fr mi by_ w (d, 0)).1, n + (dStep V fr mi by_ w (d, 0)).2) := by
  unfold dStep
  split
  · simp only
    split <;> simp
  · simp
theorem mDrop_add (V : Vw) (fr mi by_ d n : Int) : ∀ k : Nat, mDrop V fr mi by_ (d, n) k = ((mDrop V fr mi by_ (d, 0) k).1, n + (mDrop V fr mi by_ (d, 0) k).2)
  | 0 => by simp [mDrop]
  | k + 1 => by
    rw [mDrop, mDrop, mDrop_add V fr mi by_ d n k, dStep_add, dStep_add V fr mi by_ k (mDrop V fr mi by_ (d, 0) k).1 (mDrop V fr mi by_ (d, 0) k).2]
    simp only [Int.add_assoc]
theorem lot_z {X : sx_X} {S : St} {d : Int} : Ct X yX12_lot cX12_lot 1 (some .int) 0 0 0 [.ref 39] (hp (si S 40 d)) (sx_is (some (vI (lot d))) (hp (si S 40 (lcg d)))) := by
  have h := c_X12_lot (X := X) (S := si S 40 d)
  rw [show (si S 40 d).1 40 = d from rfl, si_si] at h
  exact h
/-- a minute's step of a walker, part by part -/
def fP (V : Vw) (mi : Int) (w : Nat) (z : Int × Int) (p : Nat) : Int × Int := if 0 ≤ mEnt V w mi ∧ mEnt V w mi < p then fStep V mi w z else z
theorem fP_end {V : Vw} (hV : okV V) {mi : Int} {w : Nat} {z : Int × Int} (h1 : V.2 1 (-1) = 0) : fP V mi w z (V.1 0).toNat = fStep V mi w z := by
  have hb : -1 ≤ mEnt V w mi ∧ (mEnt V w mi < V.1 0 ∨ mEnt V w mi = -1) := by
    have h3 := hV.2.2.2.1
    unfold mEnt mPl
    refine ⟨?_, ?_⟩
    · (repeat' split) <;> first | omega | (have := Int.ediv_nonneg (show 0 ≤ mi - V.1 5 - w * V.1 2 by omega) (show 0 ≤ 1 + V.1 3 by omega); omega)
    · (repeat' split) <;> omega
  unfold fP
  by_cases c : 0 ≤ mEnt V w mi
  · rw [if_pos (by omega)]
  · rw [if_neg (by omega)]
    unfold fStep
    rw [show mEnt V w mi = -1 by omega, if_neg (by omega)]
theorem fP_no {V : Vw} {mi : Int} {w p : Nat} {z : Int × Int} (h : mEnt V w mi ≠ p) : fP V mi w z (p + 1) = fP V mi w z p := by
  unfold fP
  by_cases c : 0 ≤ mEnt V w mi ∧ mEnt V w mi < p
  · rw [if_pos (by omega), if_pos c]
  · rw [if_neg (by omega), if_neg c]
theorem fP_at {V : Vw} {mi : Int} {w p : Nat} {z : Int × Int} (h : mEnt V w mi = p) : fP V mi w z p = z ∧ fP V mi w z (p + 1) = fStep V mi w z := by
  unfold fP
  rw [if_neg (by omega), if_pos (by omega)]
  exact ⟨rfl, rfl⟩
set_option maxRecDepth 20000 in
theorem c_X12_falls {X : sx_X} {S : St} {b : Nat} {fr wh mi d : Int} (hQ : okQ S b) (hfr : 0 ≤ fr ∧ fr ≤ 15) (hwh : -1 ≤ wh ∧ wh ≤ 5) (hmi : 0 ≤ mi ∧ mi ≤ 4000) : Ct X yX12_falls cX12_falls 7 (some .int) 3 0 0 [.ref 39, vI fr, vI wh, vI mi] (hp (si S 40 d)) (sx_is (some (vI (mDrop (mV S) fr mi wh (d, 0) (S.1 33).toNat).2)) (hp (si S 40 (mDrop (mV S) fr mi wh (d, 0) (S.1 33).toNat).1))) := by
  have hV := hQ.1
  have hW := okQ_W hQ
  have b0 : 0 ≤ S.1 32 ∧ S.1 32 ≤ 16 := hV.1
  have c0 : 0 ≤ (mV S).1 0 ∧ (mV S).1 0 ≤ 16 := hV.1
  have b1 : 0 ≤ S.1 33 ∧ S.1 33 ≤ 6 := hV.2.1
  have c1 : 0 ≤ (mV S).1 1 ∧ (mV S).1 1 ≤ 6 := hV.2.1
  have b2 : 0 ≤ S.1 34 ∧ S.1 34 ≤ 99 := hV.2.2.1
  have c2 : 0 ≤ (mV S).1 2 ∧ (mV S).1 2 ≤ 99 := hV.2.2.1
  have b3 : 0 ≤ S.2 51 1 ∧ S.2 51 1 ≤ 1 := hV.2.2.2.1
  have c3 : 0 ≤ (mV S).1 3 ∧ (mV S).1 3 ≤ 1 := hV.2.2.2.1
  have b4 : 0 ≤ S.2 51 2 ∧ S.2 51 2 ≤ 16 := hV.2.2.2.2.1
  have c4 : 0 ≤ (mV S).1 4 ∧ (mV S).1 4 ≤ 16 := hV.2.2.2.2.1
  have b5 : 0 ≤ S.2 51 3 ∧ S.2 51 3 ≤ 999 := hV.2.2.2.2.2.1
  have c5 : 0 ≤ (mV S).1 5 ∧ (mV S).1 5 ≤ 999 := hV.2.2.2.2.2.1
  have b6 : 0 ≤ S.2 51 4 ∧ S.2 51 4 ≤ 1999 := hV.2.2.2.2.2.2.1
  have c6 : 0 ≤ (mV S).1 6 ∧ (mV S).1 6 ≤ 1999 := hV.2.2.2.2.2.2.1
  have b7 : 0 ≤ S.2 51 5 ∧ S.2 51 5 ≤ 16 := hV.2.2.2.2.2.2.2.1
  have c7 : 0 ≤ (mV S).1 7 ∧ (mV S).1 7 ≤ 16 := hV.2.2.2.2.2.2.2.1
  have bK : ∀ q, 0 ≤ rK S q ∧ rK S q ≤ 3 := hV.2.2.2.2.2.2.2.2.1
  have bL : ∀ q, 0 ≤ rL S q ∧ rL S q ≤ 9 := hV.2.2.2.2.2.2.2.2.2.1
  have bW : ∀ q, 0 ≤ rW S q ∧ rW S q ≤ 9 := hV.2.2.2.2.2.2.2.2.2.2.1
  have bS : ∀ q, 0 ≤ rS S q ∧ rS S q ≤ 9 := hV.2.2.2.2.2.2.2.2.2.2.2.1
  have bH : ∀ q, 0 ≤ rH S q ∧ rH S q ≤ 1 := hV.2.2.2.2.2.2.2.2.2.2.2.2
  have key : ∀ (n i : Nat), i + n = (S.1 33).toNat → Rn X RX12 false cX12_falls 7 3 0 0 (some .int) 6 [some (.ref 39), some (vI fr), some (vI wh), some (vI mi), some (vI (mDrop (mV S) fr mi wh (d, 0) i).2), some (vI (i : Int)), none] [] (hp (si S 40 (mDrop (mV S) fr mi wh (d, 0) i).1)) 0 0 (sx_is (some (vI (mDrop (mV S) fr mi wh (d, 0) (S.1 33).toNat).2)) (hp (si S 40 (mDrop (mV S) fr mi wh (d, 0) (S.1 33).toNat).1))) := by
    intro n
    induction n with
    | zero =>
      intro i hi 
      rw [Nat.add_zero] at hi
      subst hi
      refine sx_iload (p1 := 8) dX12_falls_6 rfl rfl ?_
      refine sx_aload_n (p1 := 9) dX12_falls_8 rfl rfl ?_
      refine sx_get (v := vI (S.1 33)) (p1 := 12) dX12_falls_9 rfl fl_X12_106 (hp_c39 _) rfl ?_
      refine sx_icmp_ge (p1 := 15) (tg := 74) dX12_falls_12 rfl rfl (by omega) (by omega) (fun q12 => ?_) (fun q12 => absurd q12 (by omega))
      refine sx_iload (p1 := 76) dX12_falls_74 rfl rfl ?_
      exact sx_iret dX12_falls_76 rfl (sx_ri (by first | rfl | omega) (by rfl))
    | succ n ih =>
      intro i hi 
      have m3 := mApart_o (mV S) wh i
      have m6 := hitW_b hV (show fr ≤ 16 by omega) mi wh i
      have m7 := lot_b (mDrop (mV S) fr mi wh (d, 0) i).1
      have m8 := mHit_b hV (fr := fr) (to := mPl (mV S) (mi - S.2 51 3 - (i : Int) * S.1 34)) (hel := rHel S b i) (by omega)
      have m9 := rHel_q hQ (j := i) (by omega)
      refine sx_iload (p1 := 8) dX12_falls_6 rfl rfl ?_
      refine sx_aload_n (p1 := 9) dX12_falls_8 rfl rfl ?_
      refine sx_get (v := vI (S.1 33)) (p1 := 12) dX12_falls_9 rfl fl_X12_106 (hp_c39 _) rfl ?_
      refine sx_icmp_ge (p1 := 15) (tg := 74) dX12_falls_12 rfl rfl (by omega) (by omega) (fun q12 => absurd q12 (by omega)) (fun q12 => ?_)
      refine sx_iload_n (p1 := 16) dX12_falls_15 rfl rfl ?_
      refine sx_iconst (p1 := 17) dX12_falls_16 rfl ?_
      refine sx_icmp_eq (p1 := 20) (tg := 34) dX12_falls_17 rfl rfl (by omega) (by omega) (fun q17 => ?_) (fun q17 => ?_)
      · have eh : hitW (mV S) fr mi wh i = mHit (mV S) fr (mPl (mV S) (mi - S.2 51 3 - (i : Int) * S.1 34)) (rHel S b i) := by
          rw [m9]
          exact if_neg (fun q => q.1 q17)
        refine sx_aload_n (p1 := 35) dX12_falls_34 rfl rfl ?_
        refine sx_iload_n (p1 := 36) dX12_falls_35 rfl rfl ?_
        refine sx_iload (p1 := 38) dX12_falls_36 rfl rfl ?_
        refine sx_iload_n (p1 := 39) dX12_falls_38 rfl rfl ?_
        refine sx_callVr (p1 := 42) (As := [_, _, _]) (k1 := 0) (n1 := 0) dX12_falls_39 rfl rfl (c_X12_hitsWho (S := si S 40 (mDrop (mV S) fr mi wh (d, 0) i).1) (b := b) hV hW (by omega) (show (i : Int) < S.1 33 by omega) (by omega)) mt_X12_hitsWho ml_X12_183 (hp_c39 _) rfl rfl (Nat.le_of_ble_eq_true rfl) rfl (Nat.le_of_ble_eq_true rfl) rfl rfl (Nat.le_of_ble_eq_true rfl) (Nat.le_of_ble_eq_true rfl) ?_
        try rw [show mHit (mV (si S 40 (mDrop (mV S) fr mi wh (d, 0) i).1)) fr (mPl (mV (si S 40 (mDrop (mV S) fr mi wh (d, 0) i).1)) (mi - (si S 40 (mDrop (mV S) fr mi wh (d, 0) i).1).2 51 3 - (i : Int) * (si S 40 (mDrop (mV S) fr mi wh (d, 0) i).1).1 34)) (rHel (si S 40 (mDrop (mV S) fr mi wh (d, 0) i).1) b i) = mHit (mV S) fr (mPl (mV S) (mi - S.2 51 3 - (i : Int) * S.1 34)) (rHel S b i) from rfl]
        refine sx_istore (lo1 := [some _, some _, some _, some _, some _, some _, some _]) (p1 := 44) dX12_falls_42 rfl (by decide) rfl ?_
        refine sx_iload (p1 := 46) dX12_falls_44 rfl rfl ?_
        refine sx_iload (p1 := 48) dX12_falls_46 rfl rfl ?_
        refine sx_if_le (p1 := 51) (tg := 64) dX12_falls_48 rfl rfl (by omega) (fun q48 => ?_) (fun q48 => ?_)
        · have zq : (mDrop (mV S) fr mi wh (d, 0) (i + 1)) = (mDrop (mV S) fr mi wh (d, 0) i) := if_neg (by omega)
          refine sx_iconst (p1 := 65) dX12_falls_64 rfl ?_
          refine sx_iadd (p1 := 66) dX12_falls_65 rfl ?_
          refine sx_istore (lo1 := [some _, some _, some _, some _, some _, some _, some _]) (p1 := 68) dX12_falls_66 rfl (by decide) rfl ?_
          refine sx_iinc (lo1 := [some _, some _, some _, some _, some _, some _, some _]) (p1 := 71) dX12_falls_68 rfl (by decide) rfl rfl ?_
          refine sx_goto (p1 := 6) (tg := 6) dX12_falls_71 rfl rfl ?_
          refine sx_drop [true, true, true, true, true, true, false] (lo1 := [some _, some _, some _, some _, some _, some _, none]) rfl ?_
          have h9 := ih (i + 1) (by omega)
          rw [zq] at h9
          first | exact h9 | (rw [show (mDrop (mV S) fr mi wh (d, 0) i).2 + 0 = (mDrop (mV S) fr mi wh (d, 0) i).2 from Int.add_zero _]; exact h9)
        · refine sx_aload_n (p1 := 52) dX12_falls_51 rfl rfl ?_
          refine sx_callVr (p1 := 55) (As := []) (k1 := 0) (n1 := 0) dX12_falls_52 rfl rfl (lot_z) mt_X12_lot ml_X12_290 (hp_c39 _) rfl rfl (Nat.le_of_ble_eq_true rfl) rfl (Nat.le_of_ble_eq_true rfl) rfl rfl (Nat.le_of_ble_eq_true rfl) (Nat.le_of_ble_eq_true rfl) ?_
          refine sx_iload (p1 := 57) dX12_falls_55 rfl rfl ?_
          refine sx_icmp_ge (p1 := 60) (tg := 64) dX12_falls_57 rfl rfl (by omega) (by omega) (fun q57 => ?_) (fun q57 => ?_)
          · have zq : (mDrop (mV S) fr mi wh (d, 0) (i + 1)) = (lcg (mDrop (mV S) fr mi wh (d, 0) i).1, (mDrop (mV S) fr mi wh (d, 0) i).2) := (if_pos (show 0 < hitW (mV S) fr mi wh i by omega)).trans (by rw [if_neg (show ¬ lot (mDrop (mV S) fr mi wh (d, 0) i).1 < hitW (mV S) fr mi wh i by omega)])
            refine sx_iconst (p1 := 65) dX12_falls_64 rfl ?_
            refine sx_iadd (p1 := 66) dX12_falls_65 rfl ?_
            refine sx_istore (lo1 := [some _, some _, some _, some _, some _, some _, some _]) (p1 := 68) dX12_falls_66 rfl (by decide) rfl ?_
            refine sx_iinc (lo1 := [some _, some _, some _, some _, some _, some _, some _]) (p1 := 71) dX12_falls_68 rfl (by decide) rfl rfl ?_
            refine sx_goto (p1 := 6) (tg := 6) dX12_falls_71 rfl rfl ?_
            refine sx_drop [true, true, true, true, true, true, false] (lo1 := [some _, some _, some _, some _, some _, some _, none]) rfl ?_
            have h9 := ih (i + 1) (by omega)
            rw [zq] at h9
            first | exact h9 | (rw [show (mDrop (mV S) fr mi wh (d, 0) i).2 + 0 = (mDrop (mV S) fr mi wh (d, 0) i).2 from Int.add_zero _]; exact h9)
          · have zq : (mDrop (mV S) fr mi wh (d, 0) (i + 1)) = (lcg (mDrop (mV S) fr mi wh (d, 0) i).1, (mDrop (mV S) fr mi wh (d, 0) i).2 + 1) := (if_pos (show 0 < hitW (mV S) fr mi wh i by omega)).trans (by rw [if_pos (show lot (mDrop (mV S) fr mi wh (d, 0) i).1 < hitW (mV S) fr mi wh i by omega)])
            refine sx_iconst (p1 := 61) dX12_falls_60 rfl ?_
            refine sx_goto (p1 := 65) (tg := 65) dX12_falls_61 rfl rfl ?_
            refine sx_iadd (p1 := 66) dX12_falls_65 rfl ?_
            refine sx_istore (lo1 := [some _, some _, some _, some _, some _, some _, some _]) (p1 := 68) dX12_falls_66 rfl (by decide) rfl ?_
            refine sx_iinc (lo1 := [some _, some _, some _, some _, some _, some _, some _]) (p1 := 71) dX12_falls_68 rfl (by decide) rfl rfl ?_
            refine sx_goto (p1 := 6) (tg := 6) dX12_falls_71 rfl rfl ?_
            refine sx_drop [true, true, true, true, true, true, false] (lo1 := [some _, some _, some _, some _, some _, some _, none]) rfl ?_
            have h9 := ih (i + 1) (by omega)
            rw [zq] at h9
            first | exact h9 | (rw [show (mDrop (mV S) fr mi wh (d, 0) i).2 + 0 = (mDrop (mV S) fr mi wh (d, 0) i).2 from Int.add_zero _]; exact h9)
      · refine sx_aload_n (p1 := 21) dX12_falls_20 rfl rfl ?_
        refine sx_iload_n (p1 := 22) dX12_falls_21 rfl rfl ?_
        refine sx_iload (p1 := 24) dX12_falls_22 rfl rfl ?_
        refine sx_callVr (p1 := 27) (As := [_, _]) (k1 := 0) (n1 := 0) dX12_falls_24 rfl rfl (c_X12_isAside (S := si S 40 (mDrop (mV S) fr mi wh (d, 0) i).1) b3 (by omega) (by omega)) mt_X12_isAside ml_X12_180 (hp_c39 _) rfl rfl (Nat.le_of_ble_eq_true rfl) rfl (Nat.le_of_ble_eq_true rfl) rfl rfl (Nat.le_of_ble_eq_true rfl) (Nat.le_of_ble_eq_true rfl) ?_
        refine sx_if_eq (p1 := 30) (tg := 34) dX12_falls_27 rfl rfl (by (show -2147483648 ≤ mApart (mV S) wh i ∧ mApart (mV S) wh i ≤ 2147483647); omega) (fun q27 => ?_) (fun q27 => ?_)
        · have eh : hitW (mV S) fr mi wh i = mHit (mV S) fr (mPl (mV S) (mi - S.2 51 3 - (i : Int) * S.1 34)) (rHel S b i) := by
            rw [m9]
            exact if_neg (fun q => by
              have q9 : mApart (mV S) wh i = 0 := q27
              omega)
          refine sx_aload_n (p1 := 35) dX12_falls_34 rfl rfl ?_
          refine sx_iload_n (p1 := 36) dX12_falls_35 rfl rfl ?_
          refine sx_iload (p1 := 38) dX12_falls_36 rfl rfl ?_
          refine sx_iload_n (p1 := 39) dX12_falls_38 rfl rfl ?_
          refine sx_callVr (p1 := 42) (As := [_, _, _]) (k1 := 0) (n1 := 0) dX12_falls_39 rfl rfl (c_X12_hitsWho (S := si S 40 (mDrop (mV S) fr mi wh (d, 0) i).1) (b := b) hV hW (by omega) (show (i : Int) < S.1 33 by omega) (by omega)) mt_X12_hitsWho ml_X12_183 (hp_c39 _) rfl rfl (Nat.le_of_ble_eq_true rfl) rfl (Nat.le_of_ble_eq_true rfl) rfl rfl (Nat.le_of_ble_eq_true rfl) (Nat.le_of_ble_eq_true rfl) ?_
          try rw [show mHit (mV (si S 40 (mDrop (mV S) fr mi wh (d, 0) i).1)) fr (mPl (mV (si S 40 (mDrop (mV S) fr mi wh (d, 0) i).1)) (mi - (si S 40 (mDrop (mV S) fr mi wh (d, 0) i).1).2 51 3 - (i : Int) * (si S 40 (mDrop (mV S) fr mi wh (d, 0) i).1).1 34)) (rHel (si S 40 (mDrop (mV S) fr mi wh (d, 0) i).1) b i) = mHit (mV S) fr (mPl (mV S) (mi - S.2 51 3 - (i : Int) * S.1 34)) (rHel S b i) from rfl]
          refine sx_istore (lo1 := [some _, some _, some _, some _, some _, some _, some _]) (p1 := 44) dX12_falls_42 rfl (by decide) rfl ?_
          refine sx_iload (p1 := 46) dX12_falls_44 rfl rfl ?_
          refine sx_iload (p1 := 48) dX12_falls_46 rfl rfl ?_
          refine sx_if_le (p1 := 51) (tg := 64) dX12_falls_48 rfl rfl (by omega) (fun q48 => ?_) (fun q48 => ?_)
          · have zq : (mDrop (mV S) fr mi wh (d, 0) (i + 1)) = (mDrop (mV S) fr mi wh (d, 0) i) := if_neg (by omega)
            refine sx_iconst (p1 := 65) dX12_falls_64 rfl ?_
            refine sx_iadd (p1 := 66) dX12_falls_65 rfl ?_
            refine sx_istore (lo1 := [some _, some _, some _, some _, some _, some _, some _]) (p1 := 68) dX12_falls_66 rfl (by decide) rfl ?_
            refine sx_iinc (lo1 := [some _, some _, some _, some _, some _, some _, some _]) (p1 := 71) dX12_falls_68 rfl (by decide) rfl rfl ?_
            refine sx_goto (p1 := 6) (tg := 6) dX12_falls_71 rfl rfl ?_
            refine sx_drop [true, true, true, true, true, true, false] (lo1 := [some _, some _, some _, some _, some _, some _, none]) rfl ?_
            have h9 := ih (i + 1) (by omega)
            rw [zq] at h9
            first | exact h9 | (rw [show (mDrop (mV S) fr mi wh (d, 0) i).2 + 0 = (mDrop (mV S) fr mi wh (d, 0) i).2 from Int.add_zero _]; exact h9)
          · refine sx_aload_n (p1 := 52) dX12_falls_51 rfl rfl ?_
            refine sx_callVr (p1 := 55) (As := []) (k1 := 0) (n1 := 0) dX12_falls_52 rfl rfl (lot_z) mt_X12_lot ml_X12_290 (hp_c39 _) rfl rfl (Nat.le_of_ble_eq_true rfl) rfl (Nat.le_of_ble_eq_true rfl) rfl rfl (Nat.le_of_ble_eq_true rfl) (Nat.le_of_ble_eq_true rfl) ?_
            refine sx_iload (p1 := 57) dX12_falls_55 rfl rfl ?_
            refine sx_icmp_ge (p1 := 60) (tg := 64) dX12_falls_57 rfl rfl (by omega) (by omega) (fun q57 => ?_) (fun q57 => ?_)
            · have zq : (mDrop (mV S) fr mi wh (d, 0) (i + 1)) = (lcg (mDrop (mV S) fr mi wh (d, 0) i).1, (mDrop (mV S) fr mi wh (d, 0) i).2) := (if_pos (show 0 < hitW (mV S) fr mi wh i by omega)).trans (by rw [if_neg (show ¬ lot (mDrop (mV S) fr mi wh (d, 0) i).1 < hitW (mV S) fr mi wh i by omega)])
              refine sx_iconst (p1 := 65) dX12_falls_64 rfl ?_
              refine sx_iadd (p1 := 66) dX12_falls_65 rfl ?_
              refine sx_istore (lo1 := [some _, some _, some _, some _, some _, some _, some _]) (p1 := 68) dX12_falls_66 rfl (by decide) rfl ?_
              refine sx_iinc (lo1 := [some _, some _, some _, some _, some _, some _, some _]) (p1 := 71) dX12_falls_68 rfl (by decide) rfl rfl ?_
              refine sx_goto (p1 := 6) (tg := 6) dX12_falls_71 rfl rfl ?_
              refine sx_drop [true, true, true, true, true, true, false] (lo1 := [some _, some _, some _, some _, some _, some _, none]) rfl ?_
              have h9 := ih (i + 1) (by omega)
              rw [zq] at h9
              first | exact h9 | (rw [show (mDrop (mV S) fr mi wh (d, 0) i).2 + 0 = (mDrop (mV S) fr mi wh (d, 0) i).2 from Int.add_zero _]; exact h9)
            · have zq : (mDrop (mV S) fr mi wh (d, 0) (i + 1)) = (lcg (mDrop (mV S) fr mi wh (d, 0) i).1, (mDrop (mV S) fr mi wh (d, 0) i).2 + 1) := (if_pos (show 0 < hitW (mV S) fr mi wh i by omega)).trans (by rw [if_pos (show lot (mDrop (mV S) fr mi wh (d, 0) i).1 < hitW (mV S) fr mi wh i by omega)])
              refine sx_iconst (p1 := 61) dX12_falls_60 rfl ?_
              refine sx_goto (p1 := 65) (tg := 65) dX12_falls_61 rfl rfl ?_
              refine sx_iadd (p1 := 66) dX12_falls_65 rfl ?_
              refine sx_istore (lo1 := [some _, some _, some _, some _, some _, some _, some _]) (p1 := 68) dX12_falls_66 rfl (by decide) rfl ?_
              refine sx_iinc (lo1 := [some _, some _, some _, some _, some _, some _, some _]) (p1 := 71) dX12_falls_68 rfl (by decide) rfl rfl ?_
              refine sx_goto (p1 := 6) (tg := 6) dX12_falls_71 rfl rfl ?_
              refine sx_drop [true, true, true, true, true, true, false] (lo1 := [some _, some _, some _, some _, some _, some _, none]) rfl ?_
              have h9 := ih (i + 1) (by omega)
              rw [zq] at h9
              first | exact h9 | (rw [show (mDrop (mV S) fr mi wh (d, 0) i).2 + 0 = (mDrop (mV S) fr mi wh (d, 0) i).2 from Int.add_zero _]; exact h9)
        · have eh : hitW (mV S) fr mi wh i = 0 := if_pos ⟨q17, by
            have q9 : mApart (mV S) wh i ≠ 0 := q27
            omega⟩
          refine sx_iconst (p1 := 31) dX12_falls_30 rfl ?_
          refine sx_goto (p1 := 42) (tg := 42) dX12_falls_31 rfl rfl ?_
          try rw [show mHit (mV (si S 40 (mDrop (mV S) fr mi wh (d, 0) i).1)) fr (mPl (mV (si S 40 (mDrop (mV S) fr mi wh (d, 0) i).1)) (mi - (si S 40 (mDrop (mV S) fr mi wh (d, 0) i).1).2 51 3 - (i : Int) * (si S 40 (mDrop (mV S) fr mi wh (d, 0) i).1).1 34)) (rHel (si S 40 (mDrop (mV S) fr mi wh (d, 0) i).1) b i) = mHit (mV S) fr (mPl (mV S) (mi - S.2 51 3 - (i : Int) * S.1 34)) (rHel S b i) from rfl]
          refine sx_istore (lo1 := [some _, some _, some _, some _, some _, some _, some _]) (p1 := 44) dX12_falls_42 rfl (by decide) rfl ?_
          refine sx_iload (p1 := 46) dX12_falls_44 rfl rfl ?_
          refine sx_iload (p1 := 48) dX12_falls_46 rfl rfl ?_
          refine sx_if_le (p1 := 51) (tg := 64) dX12_falls_48 rfl rfl (by omega) (fun q48 => ?_) (fun q48 => absurd q48 (by omega))
          have zq : (mDrop (mV S) fr mi wh (d, 0) (i + 1)) = (mDrop (mV S) fr mi wh (d, 0) i) := if_neg (by omega)
          refine sx_iconst (p1 := 65) dX12_falls_64 rfl ?_
          refine sx_iadd (p1 := 66) dX12_falls_65 rfl ?_
          refine sx_istore (lo1 := [some _, some _, some _, some _, some _, some _, some _]) (p1 := 68) dX12_falls_66 rfl (by decide) rfl ?_
          refine sx_iinc (lo1 := [some _, some _, some _, some _, some _, some _, some _]) (p1 := 71) dX12_falls_68 rfl (by decide) rfl rfl ?_
          refine sx_goto (p1 := 6) (tg := 6) dX12_falls_71 rfl rfl ?_
          refine sx_drop [true, true, true, true, true, true, false] (lo1 := [some _, some _, some _, some _, some _, some _, none]) rfl ?_
          have h9 := ih (i + 1) (by omega)
          rw [zq] at h9
          first | exact h9 | (rw [show (mDrop (mV S) fr mi wh (d, 0) i).2 + 0 = (mDrop (mV S) fr mi wh (d, 0) i).2 from Int.add_zero _]; exact h9)
  refine Ct.of false [some (.ref 39), some (vI fr), some (vI wh), some (vI mi), none, none, none] (plainFor_of_name (by decide)) (fun h => by cases h) (Nat.le_of_ble_eq_true rfl) (fun _ => rfl) sx_isl ?_
  refine sx_iconst (p1 := 1) dX12_falls_0 rfl ?_
  refine sx_istore (lo1 := [some _, some _, some _, some _, some _, none, none]) (p1 := 3) dX12_falls_1 rfl (by decide) rfl ?_
  refine sx_iconst (p1 := 4) dX12_falls_3 rfl ?_
  refine sx_istore (lo1 := [some _, some _, some _, some _, some _, some _, none]) (p1 := 6) dX12_falls_4 rfl (by decide) rfl ?_
  exact key _ 0 (Nat.zero_add _)
set_option maxRecDepth 20000 in
theorem c_X12_morningOf {X : sx_X} {S : St} {b : Nat} {sd : Int} (hQ : okQ S b)  : Ct X yX12_morningOf cX12_morningOf 6 (some .int) 4 0 0 [.ref 39, vI sd] (hp S) (sx_is (some (vI (mPlay (mV S) (sd, 0) (mTakes (mV S)).toNat).2)) (hp (si S 40 (mPlay (mV S) (sd, 0) (mTakes (mV S)).toNat).1))) := by
  have hV := hQ.1
  have hW := okQ_W hQ
  have b0 : 0 ≤ S.1 32 ∧ S.1 32 ≤ 16 := hV.1
  have c0 : 0 ≤ (mV S).1 0 ∧ (mV S).1 0 ≤ 16 := hV.1
  have b1 : 0 ≤ S.1 33 ∧ S.1 33 ≤ 6 := hV.2.1
  have c1 : 0 ≤ (mV S).1 1 ∧ (mV S).1 1 ≤ 6 := hV.2.1
  have b2 : 0 ≤ S.1 34 ∧ S.1 34 ≤ 99 := hV.2.2.1
  have c2 : 0 ≤ (mV S).1 2 ∧ (mV S).1 2 ≤ 99 := hV.2.2.1
  have b3 : 0 ≤ S.2 51 1 ∧ S.2 51 1 ≤ 1 := hV.2.2.2.1
  have c3 : 0 ≤ (mV S).1 3 ∧ (mV S).1 3 ≤ 1 := hV.2.2.2.1
  have b4 : 0 ≤ S.2 51 2 ∧ S.2 51 2 ≤ 16 := hV.2.2.2.2.1
  have c4 : 0 ≤ (mV S).1 4 ∧ (mV S).1 4 ≤ 16 := hV.2.2.2.2.1
  have b5 : 0 ≤ S.2 51 3 ∧ S.2 51 3 ≤ 999 := hV.2.2.2.2.2.1
  have c5 : 0 ≤ (mV S).1 5 ∧ (mV S).1 5 ≤ 999 := hV.2.2.2.2.2.1
  have b6 : 0 ≤ S.2 51 4 ∧ S.2 51 4 ≤ 1999 := hV.2.2.2.2.2.2.1
  have c6 : 0 ≤ (mV S).1 6 ∧ (mV S).1 6 ≤ 1999 := hV.2.2.2.2.2.2.1
  have b7 : 0 ≤ S.2 51 5 ∧ S.2 51 5 ≤ 16 := hV.2.2.2.2.2.2.2.1
  have c7 : 0 ≤ (mV S).1 7 ∧ (mV S).1 7 ≤ 16 := hV.2.2.2.2.2.2.2.1
  have bK : ∀ q, 0 ≤ rK S q ∧ rK S q ≤ 3 := hV.2.2.2.2.2.2.2.2.1
  have bL : ∀ q, 0 ≤ rL S q ∧ rL S q ≤ 9 := hV.2.2.2.2.2.2.2.2.2.1
  have bW : ∀ q, 0 ≤ rW S q ∧ rW S q ≤ 9 := hV.2.2.2.2.2.2.2.2.2.2.1
  have bS : ∀ q, 0 ≤ rS S q ∧ rS S q ≤ 9 := hV.2.2.2.2.2.2.2.2.2.2.2.1
  have bH : ∀ q, 0 ≤ rH S q ∧ rH S q ≤ 1 := hV.2.2.2.2.2.2.2.2.2.2.2.2
  have t1 := mTakes_b hV
  have parts : ∀ (mi : Int) (w0 : Nat) (z : Int × Int), (0 ≤ mi ∧ mi ≤ 4000) → (w0 : Int) < S.1 33 → Rn X RX12 false cX12_morningOf 6 4 0 0 (some .int) 25 [some (.ref 39), some (vI sd), some (vI (fStep (mV S) mi w0 z).2), some (vI mi), some (vI ((w0 : Int) + 1)), none] [] (hp (si S 40 (fStep (mV S) mi w0 z).1)) 0 0 (sx_is (some (vI (mPlay (mV S) (sd, 0) (mTakes (mV S)).toNat).2)) (hp (si S 40 (mPlay (mV S) (sd, 0) (mTakes (mV S)).toNat).1))) → Rn X RX12 false cX12_morningOf 6 4 0 0 (some .int) 37 [some (.ref 39), some (vI sd), some (vI z.2), some (vI mi), some (vI (w0 : Int)), some (vI 0)] [] (hp (si S 40 z.1)) 0 0 (sx_is (some (vI (mPlay (mV S) (sd, 0) (mTakes (mV S)).toNat).2)) (hp (si S 40 (mPlay (mV S) (sd, 0) (mTakes (mV S)).toNat).1))) := by
    intro mi w0 z hmi hw0 K
    have fe : fP (mV S) mi w0 z (S.1 32).toNat = (fStep (mV S) mi w0 z) := fP_end hV (show rL S (-1) = 0 from if_neg (by omega))
    rw [← fe] at K
    have r1 := hQ.2.1 w0 (by omega)
    have d2 := mul_b (show 0 ≤ (w0 : Int) ∧ (w0 : Int) ≤ 6 by omega) b2
    have key : ∀ (n i : Nat), i + n = (S.1 32).toNat → Rn X RX12 false cX12_morningOf 6 4 0 0 (some .int) 37 [some (.ref 39), some (vI sd), some (vI (fP (mV S) mi w0 z i).2), some (vI mi), some (vI (w0 : Int)), some (vI (i : Int))] [] (hp (si S 40 (fP (mV S) mi w0 z i).1)) 0 0 (sx_is (some (vI (mPlay (mV S) (sd, 0) (mTakes (mV S)).toNat).2)) (hp (si S 40 (mPlay (mV S) (sd, 0) (mTakes (mV S)).toNat).1))) := by
      intro n
      induction n with
      | zero =>
        intro i hi 
        rw [Nat.add_zero] at hi
        subst hi
        refine sx_iload (p1 := 39) dX12_morningOf_37 rfl rfl ?_
        refine sx_aload_n (p1 := 40) dX12_morningOf_39 rfl rfl ?_
        refine sx_get (v := vI (S.1 32)) (p1 := 43) dX12_morningOf_40 rfl fl_X12_95 (hp_c39 _) rfl ?_
        refine sx_icmp_ge (p1 := 46) (tg := 106) dX12_morningOf_43 rfl rfl (by omega) (by omega) (fun q43 => ?_) (fun q43 => absurd q43 (by omega))
        refine sx_iinc (lo1 := [some _, some _, some _, some _, some _, some _]) (p1 := 109) dX12_morningOf_106 rfl (by decide) rfl rfl ?_
        refine sx_goto (p1 := 25) (tg := 25) dX12_morningOf_109 rfl rfl ?_
        refine sx_drop [true, true, true, true, true, false] (lo1 := [some _, some _, some _, some _, some _, none]) rfl ?_
        exact K
      | succ n ih =>
        intro i hi 
        have l1 : rL S (i : Int) = S.2 47 i := (if_pos (by omega)).trans (by rw [Int.toNat_natCast])
        have l2 := bL (i : Int)
        have e1 := ent_iff hV (w := (w0 : Int)) (m := mi) (p := (i : Int)) (show 0 ≤ (i : Int) ∧ (i : Int) < S.1 32 by omega)
        have m7 := lot_b z.1
        have o1 := mOdds_b ((mV S).2 1 (i : Int)) (mMore (mV S) (w0 : Int))
        refine sx_iload (p1 := 39) dX12_morningOf_37 rfl rfl ?_
        refine sx_aload_n (p1 := 40) dX12_morningOf_39 rfl rfl ?_
        refine sx_get (v := vI (S.1 32)) (p1 := 43) dX12_morningOf_40 rfl fl_X12_95 (hp_c39 _) rfl ?_
        refine sx_icmp_ge (p1 := 46) (tg := 106) dX12_morningOf_43 rfl rfl (by omega) (by omega) (fun q43 => absurd q43 (by omega)) (fun q43 => ?_)
        refine sx_aload_n (p1 := 47) dX12_morningOf_46 rfl rfl ?_
        refine sx_get (p1 := 50) dX12_morningOf_47 rfl fl_X12_31 (hp_c39 _) rfl ?_
        refine sx_iload (p1 := 52) dX12_morningOf_50 rfl rfl ?_
        refine sx_iald (g := S.2 47) (p1 := 53) dX12_morningOf_52 rfl (hp_c47 _) (by omega) (by decide) ?_
        rw [Int.toNat_natCast]
        refine sx_if_le (p1 := 56) (tg := 100) dX12_morningOf_53 rfl rfl (by omega) (fun q53 => ?_) (fun q53 => ?_)
        · have zq : (fP (mV S) mi w0 z (i + 1)) = (fP (mV S) mi w0 z i) := by
            by_cases c : mEnt (mV S) w0 mi = i
            · have hh := fP_at (V := mV S) (z := z) c
              rw [hh.1, hh.2]
              unfold fStep
              rw [c, if_neg (by show ¬ 0 < rL S (i : Int); omega)]
            · exact fP_no c
          refine sx_iinc (lo1 := [some _, some _, some _, some _, some _, some _]) (p1 := 103) dX12_morningOf_100 rfl (by decide) rfl rfl ?_
          refine sx_goto (p1 := 37) (tg := 37) dX12_morningOf_103 rfl rfl ?_
          have h9 := ih (i + 1) (by omega)
          rw [zq] at h9
          exact h9
        · refine sx_aload_n (p1 := 57) dX12_morningOf_56 rfl rfl ?_
          refine sx_iload (p1 := 59) dX12_morningOf_57 rfl rfl ?_
          refine sx_iload (p1 := 61) dX12_morningOf_59 rfl rfl ?_
          refine sx_iload_n (p1 := 62) dX12_morningOf_61 rfl rfl ?_
          refine sx_callVr (p1 := 65) (As := [_, _, _]) (k1 := 0) (n1 := 0) dX12_morningOf_62 rfl rfl (c_X12_comesInto (S := si S 40 (fP (mV S) mi w0 z i).1) hV (by omega) (by omega) (by omega)) mt_X12_comesInto ml_X12_265 (hp_c39 _) rfl rfl (Nat.le_of_ble_eq_true rfl) rfl (Nat.le_of_ble_eq_true rfl) rfl rfl (Nat.le_of_ble_eq_true rfl) (Nat.le_of_ble_eq_true rfl) ?_
          refine sx_if_eq (p1 := 68) (tg := 100) dX12_morningOf_65 rfl rfl (by (show -2147483648 ≤ (if mi = S.2 51 3 + (w0 : Int) * S.1 34 + (i : Int) * (1 + S.2 51 1) then (1 : Int) else 0) ∧ (if mi = S.2 51 3 + (w0 : Int) * S.1 34 + (i : Int) * (1 + S.2 51 1) then (1 : Int) else 0) ≤ 2147483647); split <;> omega) (fun q65 => ?_) (fun q65 => ?_)
          · have zq : (fP (mV S) mi w0 z (i + 1)) = (fP (mV S) mi w0 z i) := fP_no (fun q => by
              have q8 : mi = S.2 51 3 + (w0 : Int) * S.1 34 + (i : Int) * (1 + S.2 51 1) := e1.1 q
              have q9 : (if mi = S.2 51 3 + (w0 : Int) * S.1 34 + (i : Int) * (1 + S.2 51 1) then (1 : Int) else 0) = 0 := q65
              rw [if_pos q8] at q9
              omega)
            refine sx_iinc (lo1 := [some _, some _, some _, some _, some _, some _]) (p1 := 103) dX12_morningOf_100 rfl (by decide) rfl rfl ?_
            refine sx_goto (p1 := 37) (tg := 37) dX12_morningOf_103 rfl rfl ?_
            have h9 := ih (i + 1) (by omega)
            rw [zq] at h9
            exact h9
          · have q66 : mi = S.2 51 3 + (w0 : Int) * S.1 34 + (i : Int) * (1 + S.2 51 1) := Decidable.byContradiction (fun q => by
              have q9 : (if mi = S.2 51 3 + (w0 : Int) * S.1 34 + (i : Int) * (1 + S.2 51 1) then (1 : Int) else 0) ≠ 0 := q65
              exact q9 (if_neg q))
            have ce : mEnt (mV S) w0 mi = i := e1.2 q66
            have hh := fP_at (V := mV S) (z := z) ce
            rw [hh.1]
            have h0 : 0 < (mV S).2 1 (mEnt (mV S) w0 mi) := by
              rw [ce]
              show 0 < rL S (i : Int)
              omega
            refine sx_aload_n (p1 := 69) dX12_morningOf_68 rfl rfl ?_
            refine sx_callVr (p1 := 72) (As := []) (k1 := 0) (n1 := 0) dX12_morningOf_69 rfl rfl (lot_z) mt_X12_lot ml_X12_290 (hp_c39 _) rfl rfl (Nat.le_of_ble_eq_true rfl) rfl (Nat.le_of_ble_eq_true rfl) rfl rfl (Nat.le_of_ble_eq_true rfl) (Nat.le_of_ble_eq_true rfl) ?_
            refine sx_aload_n (p1 := 73) dX12_morningOf_72 rfl rfl ?_
            refine sx_aload_n (p1 := 74) dX12_morningOf_73 rfl rfl ?_
            refine sx_get (p1 := 77) dX12_morningOf_74 rfl fl_X12_47 (hp_c39 _) rfl ?_
            refine sx_iload (p1 := 79) dX12_morningOf_77 rfl rfl ?_
            refine sx_iald (g := S.2 52) (p1 := 80) dX12_morningOf_79 rfl (hp_c52 _) (by omega) (by decide) ?_
            rw [Int.toNat_natCast]
            rw [r1]
            refine sx_iload (p1 := 82) dX12_morningOf_80 rfl rfl ?_
            refine sx_callVr (p1 := 85) (As := [_, _]) (k1 := 0) (n1 := 0) dX12_morningOf_82 rfl rfl (c_X12_treadsOf (S := si S 40 (lcg z.1)) hV (show 0 ≤ (w0 : Int) ∧ (w0 : Int) < S.1 33 by omega) (show 0 ≤ (i : Int) ∧ (i : Int) < S.1 32 by omega)) mt_X12_treadsOf ml_X12_169 (hp_c39 _) rfl rfl (Nat.le_of_ble_eq_true rfl) rfl (Nat.le_of_ble_eq_true rfl) rfl rfl (Nat.le_of_ble_eq_true rfl) (Nat.le_of_ble_eq_true rfl) ?_
            refine sx_icmp_ge (p1 := 88) (tg := 100) dX12_morningOf_85 rfl rfl (by omega) (by (show -2147483648 ≤ mOdds ((mV S).2 1 (i : Int)) (mMore (mV S) (w0 : Int)) ∧ mOdds ((mV S).2 1 (i : Int)) (mMore (mV S) (w0 : Int)) ≤ 2147483647); omega) (fun q85 => ?_) (fun q85 => ?_)
            · have q86 : mOdds ((mV S).2 1 (i : Int)) (mMore (mV S) (w0 : Int)) ≤ lot z.1 := q85
              have zq : (fP (mV S) mi w0 z (i + 1)) = (lcg z.1, z.2) := hh.2.trans ((if_pos h0).trans (if_neg (by rw [ce]; omega)))
              refine sx_iinc (lo1 := [some _, some _, some _, some _, some _, some _]) (p1 := 103) dX12_morningOf_100 rfl (by decide) rfl rfl ?_
              refine sx_goto (p1 := 37) (tg := 37) dX12_morningOf_103 rfl rfl ?_
              have h9 := ih (i + 1) (by omega)
              rw [zq] at h9
              exact h9
            · have q86 : lot z.1 < mOdds ((mV S).2 1 (i : Int)) (mMore (mV S) (w0 : Int)) := q85
              have zq : (fP (mV S) mi w0 z (i + 1)) = ((mDrop (mV S) i mi w0 (lcg z.1, 0) (S.1 33).toNat).1, z.2 + (mDrop (mV S) i mi w0 (lcg z.1, 0) (S.1 33).toNat).2) := hh.2.trans ((if_pos h0).trans ((if_pos (by rw [ce]; omega)).trans (by rw [ce]; exact mDrop_add (mV S) i mi w0 (lcg z.1) z.2 _)))
              refine sx_iload_n (p1 := 89) dX12_morningOf_88 rfl rfl ?_
              refine sx_aload_n (p1 := 90) dX12_morningOf_89 rfl rfl ?_
              refine sx_iload (p1 := 92) dX12_morningOf_90 rfl rfl ?_
              refine sx_iload (p1 := 94) dX12_morningOf_92 rfl rfl ?_
              refine sx_iload_n (p1 := 95) dX12_morningOf_94 rfl rfl ?_
              refine sx_callVr (p1 := 98) (As := [_, _, _]) (k1 := 0) (n1 := 0) dX12_morningOf_95 rfl rfl (c_X12_falls hQ (by omega) (by omega) (by omega)) mt_X12_falls ml_X12_293 (hp_c39 _) rfl rfl (Nat.le_of_ble_eq_true rfl) rfl (Nat.le_of_ble_eq_true rfl) rfl rfl (Nat.le_of_ble_eq_true rfl) (Nat.le_of_ble_eq_true rfl) ?_
              refine sx_iadd (p1 := 99) dX12_morningOf_98 rfl ?_
              refine sx_istore_n (lo1 := [some _, some _, some _, some _, some _, some _]) (p1 := 100) dX12_morningOf_99 rfl (by decide) rfl ?_
              refine sx_iinc (lo1 := [some _, some _, some _, some _, some _, some _]) (p1 := 103) dX12_morningOf_100 rfl (by decide) rfl rfl ?_
              refine sx_goto (p1 := 37) (tg := 37) dX12_morningOf_103 rfl rfl ?_
              have h9 := ih (i + 1) (by omega)
              rw [zq] at h9
              exact h9
    have h9 := key _ 0 (Nat.zero_add _)
    rw [show (fP (mV S) mi w0 z 0) = z from if_neg (by omega)] at h9
    exact h9
  have walks : ∀ (mi : Int) (z : Int × Int), (0 ≤ mi ∧ mi ≤ 4000) → Rn X RX12 false cX12_morningOf 6 4 0 0 (some .int) 112 [some (.ref 39), some (vI sd), some (vI (mPF (mV S) mi z (S.1 33).toNat).2), some (vI mi), none, none] [] (hp (si S 40 (mPF (mV S) mi z (S.1 33).toNat).1)) 0 0 (sx_is (some (vI (mPlay (mV S) (sd, 0) (mTakes (mV S)).toNat).2)) (hp (si S 40 (mPlay (mV S) (sd, 0) (mTakes (mV S)).toNat).1))) → Rn X RX12 false cX12_morningOf 6 4 0 0 (some .int) 25 [some (.ref 39), some (vI sd), some (vI z.2), some (vI mi), some (vI 0), none] [] (hp (si S 40 z.1)) 0 0 (sx_is (some (vI (mPlay (mV S) (sd, 0) (mTakes (mV S)).toNat).2)) (hp (si S 40 (mPlay (mV S) (sd, 0) (mTakes (mV S)).toNat).1))) := by
    intro mi z hmi K
    have key : ∀ (n i : Nat), i + n = (S.1 33).toNat → Rn X RX12 false cX12_morningOf 6 4 0 0 (some .int) 25 [some (.ref 39), some (vI sd), some (vI (mPF (mV S) mi z i).2), some (vI mi), some (vI (i : Int)), none] [] (hp (si S 40 (mPF (mV S) mi z i).1)) 0 0 (sx_is (some (vI (mPlay (mV S) (sd, 0) (mTakes (mV S)).toNat).2)) (hp (si S 40 (mPlay (mV S) (sd, 0) (mTakes (mV S)).toNat).1))) := by
      intro n
      induction n with
      | zero =>
        intro i hi 
        rw [Nat.add_zero] at hi
        subst hi
        refine sx_iload (p1 := 27) dX12_morningOf_25 rfl rfl ?_
        refine sx_aload_n (p1 := 28) dX12_morningOf_27 rfl rfl ?_
        refine sx_get (v := vI (S.1 33)) (p1 := 31) dX12_morningOf_28 rfl fl_X12_106 (hp_c39 _) rfl ?_
        refine sx_icmp_ge (p1 := 34) (tg := 112) dX12_morningOf_31 rfl rfl (by omega) (by omega) (fun q31 => ?_) (fun q31 => absurd q31 (by omega))
        refine sx_drop [true, true, true, true, false, false] (lo1 := [some _, some _, some _, some _, none, none]) rfl ?_
        exact K
      | succ n ih =>
        intro i hi 
        refine sx_iload (p1 := 27) dX12_morningOf_25 rfl rfl ?_
        refine sx_aload_n (p1 := 28) dX12_morningOf_27 rfl rfl ?_
        refine sx_get (v := vI (S.1 33)) (p1 := 31) dX12_morningOf_28 rfl fl_X12_106 (hp_c39 _) rfl ?_
        refine sx_icmp_ge (p1 := 34) (tg := 112) dX12_morningOf_31 rfl rfl (by omega) (by omega) (fun q31 => absurd q31 (by omega)) (fun q31 => ?_)
        refine sx_iconst (p1 := 35) dX12_morningOf_34 rfl ?_
        refine sx_istore (lo1 := [some _, some _, some _, some _, some _, some _]) (p1 := 37) dX12_morningOf_35 rfl (by decide) rfl ?_
        refine parts mi i (mPF (mV S) mi z i) hmi (by omega) ?_
        exact ih (i + 1) (by omega)
    exact key _ 0 (Nat.zero_add _)
  have suns : ∀ (mi : Int) (z : Int × Int), (0 ≤ mi ∧ mi ≤ 4000) → S.2 51 4 ≤ mi → Rn X RX12 false cX12_morningOf 6 4 0 0 (some .int) 14 [some (.ref 39), some (vI sd), some (vI (mPS (mV S) mi z (S.1 32).toNat).2), some (vI (mi + 1)), none, none] [] (hp (si S 40 (mPS (mV S) mi z (S.1 32).toNat).1)) 0 0 (sx_is (some (vI (mPlay (mV S) (sd, 0) (mTakes (mV S)).toNat).2)) (hp (si S 40 (mPlay (mV S) (sd, 0) (mTakes (mV S)).toNat).1))) → Rn X RX12 false cX12_morningOf 6 4 0 0 (some .int) 115 [some (.ref 39), some (vI sd), some (vI z.2), some (vI mi), some (vI 0), none] [] (hp (si S 40 z.1)) 0 0 (sx_is (some (vI (mPlay (mV S) (sd, 0) (mTakes (mV S)).toNat).2)) (hp (si S 40 (mPlay (mV S) (sd, 0) (mTakes (mV S)).toNat).1))) := by
    intro mi z hmi hsu K
    have key : ∀ (n i : Nat), i + n = (S.1 32).toNat → Rn X RX12 false cX12_morningOf 6 4 0 0 (some .int) 115 [some (.ref 39), some (vI sd), some (vI (mPS (mV S) mi z i).2), some (vI mi), some (vI (i : Int)), none] [] (hp (si S 40 (mPS (mV S) mi z i).1)) 0 0 (sx_is (some (vI (mPlay (mV S) (sd, 0) (mTakes (mV S)).toNat).2)) (hp (si S 40 (mPlay (mV S) (sd, 0) (mTakes (mV S)).toNat).1))) := by
      intro n
      induction n with
      | zero =>
        intro i hi 
        rw [Nat.add_zero] at hi
        subst hi
        refine sx_iload (p1 := 117) dX12_morningOf_115 rfl rfl ?_
        refine sx_aload_n (p1 := 118) dX12_morningOf_117 rfl rfl ?_
        refine sx_get (v := vI (S.1 32)) (p1 := 121) dX12_morningOf_118 rfl fl_X12_95 (hp_c39 _) rfl ?_
        refine sx_icmp_ge (p1 := 124) (tg := 174) dX12_morningOf_121 rfl rfl (by omega) (by omega) (fun q121 => ?_) (fun q121 => absurd q121 (by omega))
        refine sx_iinc (lo1 := [some _, some _, some _, some _, some _, none]) (p1 := 177) dX12_morningOf_174 rfl (by decide) rfl rfl ?_
        refine sx_goto (p1 := 14) (tg := 14) dX12_morningOf_177 rfl rfl ?_
        refine sx_drop [true, true, true, true, false, false] (lo1 := [some _, some _, some _, some _, none, none]) rfl ?_
        exact K
      | succ n ih =>
        intro i hi 
        have l1 : rL S (i : Int) = S.2 47 i := (if_pos (by omega)).trans (by rw [Int.toNat_natCast])
        have l2 := bL (i : Int)
        have m7 := lot_b (mPS (mV S) mi z i).1
        refine sx_iload (p1 := 117) dX12_morningOf_115 rfl rfl ?_
        refine sx_aload_n (p1 := 118) dX12_morningOf_117 rfl rfl ?_
        refine sx_get (v := vI (S.1 32)) (p1 := 121) dX12_morningOf_118 rfl fl_X12_95 (hp_c39 _) rfl ?_
        refine sx_icmp_ge (p1 := 124) (tg := 174) dX12_morningOf_121 rfl rfl (by omega) (by omega) (fun q121 => absurd q121 (by omega)) (fun q121 => ?_)
        refine sx_iload_n (p1 := 125) dX12_morningOf_124 rfl rfl ?_
        refine sx_aload_n (p1 := 126) dX12_morningOf_125 rfl rfl ?_
        refine sx_get (p1 := 129) dX12_morningOf_126 rfl fl_X12_44 (hp_c39 _) rfl ?_
        refine sx_iconst (p1 := 130) dX12_morningOf_129 rfl ?_
        refine sx_iald (g := S.2 51) (p1 := 131) dX12_morningOf_130 rfl (hp_c51 _) (by omega) (by decide) ?_
        rw [show Int.toNat 4 = 4 from rfl]
        refine sx_icmp_lt (p1 := 134) (tg := 174) dX12_morningOf_131 rfl rfl (by omega) (by (show -2147483648 ≤ S.2 51 4 ∧ S.2 51 4 ≤ 2147483647); omega) (fun q131 => absurd q131 (by (show ¬ mi < S.2 51 4); omega)) (fun q131 => ?_)
        refine sx_aload_n (p1 := 135) dX12_morningOf_134 rfl rfl ?_
        refine sx_get (p1 := 138) dX12_morningOf_135 rfl fl_X12_31 (hp_c39 _) rfl ?_
        refine sx_iload (p1 := 140) dX12_morningOf_138 rfl rfl ?_
        refine sx_iald (g := S.2 47) (p1 := 141) dX12_morningOf_140 rfl (hp_c47 _) (by omega) (by decide) ?_
        rw [Int.toNat_natCast]
        refine sx_if_le (p1 := 144) (tg := 168) dX12_morningOf_141 rfl rfl (by omega) (fun q141 => ?_) (fun q141 => ?_)
        · have zq : (mPS (mV S) mi z (i + 1)) = (mPS (mV S) mi z i) := if_neg (by show ¬ 0 < rL S (i : Int); omega)
          refine sx_iinc (lo1 := [some _, some _, some _, some _, some _, none]) (p1 := 171) dX12_morningOf_168 rfl (by decide) rfl rfl ?_
          refine sx_goto (p1 := 115) (tg := 115) dX12_morningOf_171 rfl rfl ?_
          have h9 := ih (i + 1) (by omega)
          rw [zq] at h9
          exact h9
        · refine sx_aload_n (p1 := 145) dX12_morningOf_144 rfl rfl ?_
          refine sx_callVr (p1 := 148) (As := []) (k1 := 0) (n1 := 0) dX12_morningOf_145 rfl rfl (lot_z) mt_X12_lot ml_X12_290 (hp_c39 _) rfl rfl (Nat.le_of_ble_eq_true rfl) rfl (Nat.le_of_ble_eq_true rfl) rfl rfl (Nat.le_of_ble_eq_true rfl) (Nat.le_of_ble_eq_true rfl) ?_
          refine sx_aload_n (p1 := 149) dX12_morningOf_148 rfl rfl ?_
          refine sx_get (p1 := 152) dX12_morningOf_149 rfl fl_X12_44 (hp_c39 _) rfl ?_
          refine sx_iconst (p1 := 153) dX12_morningOf_152 rfl ?_
          refine sx_iald (g := S.2 51) (p1 := 154) dX12_morningOf_153 rfl (hp_c51 _) (by omega) (by decide) ?_
          rw [show Int.toNat 5 = 5 from rfl]
          refine sx_icmp_ge (p1 := 157) (tg := 168) dX12_morningOf_154 rfl rfl (by omega) (by (show -2147483648 ≤ S.2 51 5 ∧ S.2 51 5 ≤ 2147483647); omega) (fun q154 => ?_) (fun q154 => ?_)
          · have q155 : S.2 51 5 ≤ lot (mPS (mV S) mi z i).1 := q154
            have zq : (mPS (mV S) mi z (i + 1)) = (lcg (mPS (mV S) mi z i).1, (mPS (mV S) mi z i).2) := (if_pos (show 0 < (mV S).2 1 (i : Int) from (by show 0 < rL S (i : Int); omega))).trans (if_neg (by show ¬ lot _ < S.2 51 5; omega))
            refine sx_iinc (lo1 := [some _, some _, some _, some _, some _, none]) (p1 := 171) dX12_morningOf_168 rfl (by decide) rfl rfl ?_
            refine sx_goto (p1 := 115) (tg := 115) dX12_morningOf_171 rfl rfl ?_
            have h9 := ih (i + 1) (by omega)
            rw [zq] at h9
            exact h9
          · have q155 : lot (mPS (mV S) mi z i).1 < S.2 51 5 := q154
            have zq : (mPS (mV S) mi z (i + 1)) = ((mDrop (mV S) i mi (-1) (lcg (mPS (mV S) mi z i).1, 0) (S.1 33).toNat).1, (mPS (mV S) mi z i).2 + (mDrop (mV S) i mi (-1) (lcg (mPS (mV S) mi z i).1, 0) (S.1 33).toNat).2) := (if_pos (show 0 < (mV S).2 1 (i : Int) from (by show 0 < rL S (i : Int); omega))).trans ((if_pos (by show lot _ < S.2 51 5; omega)).trans (mDrop_add (mV S) i mi (-1) (lcg (mPS (mV S) mi z i).1) (mPS (mV S) mi z i).2 _))
            refine sx_iload_n (p1 := 158) dX12_morningOf_157 rfl rfl ?_
            refine sx_aload_n (p1 := 159) dX12_morningOf_158 rfl rfl ?_
            refine sx_iload (p1 := 161) dX12_morningOf_159 rfl rfl ?_
            refine sx_iconst (p1 := 162) dX12_morningOf_161 rfl ?_
            refine sx_iload_n (p1 := 163) dX12_morningOf_162 rfl rfl ?_
            refine sx_callVr (p1 := 166) (As := [_, _, _]) (k1 := 0) (n1 := 0) dX12_morningOf_163 rfl rfl (c_X12_falls hQ (by omega) (by omega) (by omega)) mt_X12_falls ml_X12_293 (hp_c39 _) rfl rfl (Nat.le_of_ble_eq_true rfl) rfl (Nat.le_of_ble_eq_true rfl) rfl rfl (Nat.le_of_ble_eq_true rfl) (Nat.le_of_ble_eq_true rfl) ?_
            refine sx_iadd (p1 := 167) dX12_morningOf_166 rfl ?_
            refine sx_istore_n (lo1 := [some _, some _, some _, some _, some _, none]) (p1 := 168) dX12_morningOf_167 rfl (by decide) rfl ?_
            refine sx_iinc (lo1 := [some _, some _, some _, some _, some _, none]) (p1 := 171) dX12_morningOf_168 rfl (by decide) rfl rfl ?_
            refine sx_goto (p1 := 115) (tg := 115) dX12_morningOf_171 rfl rfl ?_
            have h9 := ih (i + 1) (by omega)
            rw [zq] at h9
            exact h9
    exact key _ 0 (Nat.zero_add _)
  have main : ∀ (n i : Nat), i + n = (mTakes (mV S)).toNat → Rn X RX12 false cX12_morningOf 6 4 0 0 (some .int) 14 [some (.ref 39), some (vI sd), some (vI (mPlay (mV S) (sd, 0) i).2), some (vI (S.2 51 3 + (i : Int))), none, none] [] (hp (si S 40 (mPlay (mV S) (sd, 0) i).1)) 0 0 (sx_is (some (vI (mPlay (mV S) (sd, 0) (mTakes (mV S)).toNat).2)) (hp (si S 40 (mPlay (mV S) (sd, 0) (mTakes (mV S)).toNat).1))) := by
    intro n
    induction n with
    | zero =>
      intro i hi
      rw [Nat.add_zero] at hi
      subst hi
      refine sx_iload_n (p1 := 15) dX12_morningOf_14 rfl rfl ?_
      refine sx_aload_n (p1 := 16) dX12_morningOf_15 rfl rfl ?_
      refine sx_callVr (p1 := 19) (As := []) (k1 := 0) (n1 := 0) dX12_morningOf_16 rfl rfl (c_X12_endsNow (S := si S 40 (mPlay (mV S) (sd, 0) (mTakes (mV S)).toNat).1) hV) mt_X12_endsNow ml_X12_211 (hp_c39 _) rfl rfl (Nat.le_of_ble_eq_true rfl) rfl (Nat.le_of_ble_eq_true rfl) rfl rfl (Nat.le_of_ble_eq_true rfl) (Nat.le_of_ble_eq_true rfl) ?_
      refine sx_icmp_ge (p1 := 22) (tg := 180) dX12_morningOf_19 rfl rfl (by omega) (by (show -2147483648 ≤ S.2 51 3 + mTakes (mV S) ∧ S.2 51 3 + mTakes (mV S) ≤ 2147483647); omega) (fun q19 => ?_) (fun q19 => absurd q19 (by (show ¬ S.2 51 3 + ((mTakes (mV S)).toNat : Int) < S.2 51 3 + mTakes (mV S)); omega))
      refine sx_iload_n (p1 := 181) dX12_morningOf_180 rfl rfl ?_
      exact sx_iret dX12_morningOf_181 rfl (sx_ri (by rfl) (by rfl))
    | succ n ih =>
      intro i hi
      have h9 := ih (i + 1) (by omega)
      rw [show S.2 51 3 + ((i + 1 : Nat) : Int) = (S.2 51 3 + (i : Int)) + 1 by omega] at h9
      refine sx_iload_n (p1 := 15) dX12_morningOf_14 rfl rfl ?_
      refine sx_aload_n (p1 := 16) dX12_morningOf_15 rfl rfl ?_
      refine sx_callVr (p1 := 19) (As := []) (k1 := 0) (n1 := 0) dX12_morningOf_16 rfl rfl (c_X12_endsNow (S := si S 40 (mPlay (mV S) (sd, 0) i).1) hV) mt_X12_endsNow ml_X12_211 (hp_c39 _) rfl rfl (Nat.le_of_ble_eq_true rfl) rfl (Nat.le_of_ble_eq_true rfl) rfl rfl (Nat.le_of_ble_eq_true rfl) (Nat.le_of_ble_eq_true rfl) ?_
      refine sx_icmp_ge (p1 := 22) (tg := 180) dX12_morningOf_19 rfl rfl (by omega) (by (show -2147483648 ≤ S.2 51 3 + mTakes (mV S) ∧ S.2 51 3 + mTakes (mV S) ≤ 2147483647); omega) (fun q19 => absurd q19 (by (show ¬ S.2 51 3 + mTakes (mV S) ≤ (S.2 51 3 + (i : Int))); omega)) (fun q19 => ?_)
      refine sx_iconst (p1 := 23) dX12_morningOf_22 rfl ?_
      refine sx_istore (lo1 := [some _, some _, some _, some _, some _, none]) (p1 := 25) dX12_morningOf_23 rfl (by decide) rfl ?_
      refine walks (S.2 51 3 + (i : Int)) (mPlay (mV S) (sd, 0) i) (by omega) ?_
      by_cases hs : (S.2 51 3 + (i : Int)) < S.2 51 4
      · have zq : (mPlay (mV S) (sd, 0) (i + 1)) = (mPF (mV S) (S.2 51 3 + (i : Int)) (mPlay (mV S) (sd, 0) i) (S.1 33).toNat) := if_pos hs
        rw [zq] at h9
        refine sx_iconst (p1 := 113) dX12_morningOf_112 rfl ?_
        refine sx_istore (lo1 := [some _, some _, some _, some _, some _, none]) (p1 := 115) dX12_morningOf_113 rfl (by decide) rfl ?_
        refine sx_iload (p1 := 117) dX12_morningOf_115 rfl rfl ?_
        refine sx_aload_n (p1 := 118) dX12_morningOf_117 rfl rfl ?_
        refine sx_get (v := vI (S.1 32)) (p1 := 121) dX12_morningOf_118 rfl fl_X12_95 (hp_c39 _) rfl ?_
        refine sx_icmp_ge (p1 := 124) (tg := 174) dX12_morningOf_121 rfl rfl (by omega) (by omega) (fun q121 => ?_) (fun q121 => ?_)
        · refine sx_iinc (lo1 := [some _, some _, some _, some _, some _, none]) (p1 := 177) dX12_morningOf_174 rfl (by decide) rfl rfl ?_
          refine sx_goto (p1 := 14) (tg := 14) dX12_morningOf_177 rfl rfl ?_
          refine sx_drop [true, true, true, true, false, false] (lo1 := [some _, some _, some _, some _, none, none]) rfl ?_
          exact h9
        · refine sx_iload_n (p1 := 125) dX12_morningOf_124 rfl rfl ?_
          refine sx_aload_n (p1 := 126) dX12_morningOf_125 rfl rfl ?_
          refine sx_get (p1 := 129) dX12_morningOf_126 rfl fl_X12_44 (hp_c39 _) rfl ?_
          refine sx_iconst (p1 := 130) dX12_morningOf_129 rfl ?_
          refine sx_iald (g := S.2 51) (p1 := 131) dX12_morningOf_130 rfl (hp_c51 _) (by omega) (by decide) ?_
          rw [show Int.toNat 4 = 4 from rfl]
          refine sx_icmp_lt (p1 := 134) (tg := 174) dX12_morningOf_131 rfl rfl (by omega) (by (show -2147483648 ≤ S.2 51 4 ∧ S.2 51 4 ≤ 2147483647); omega) (fun q131 => ?_) (fun q131 => absurd q131 (by (show ¬ S.2 51 4 ≤ (S.2 51 3 + (i : Int))); omega))
          refine sx_iinc (lo1 := [some _, some _, some _, some _, some _, none]) (p1 := 177) dX12_morningOf_174 rfl (by decide) rfl rfl ?_
          refine sx_goto (p1 := 14) (tg := 14) dX12_morningOf_177 rfl rfl ?_
          refine sx_drop [true, true, true, true, false, false] (lo1 := [some _, some _, some _, some _, none, none]) rfl ?_
          exact h9
      · have zq : (mPlay (mV S) (sd, 0) (i + 1)) = (mPS (mV S) (S.2 51 3 + (i : Int)) (mPF (mV S) (S.2 51 3 + (i : Int)) (mPlay (mV S) (sd, 0) i) (S.1 33).toNat) (S.1 32).toNat) := if_neg hs
        rw [zq] at h9
        refine sx_iconst (p1 := 113) dX12_morningOf_112 rfl ?_
        refine sx_istore (lo1 := [some _, some _, some _, some _, some _, none]) (p1 := 115) dX12_morningOf_113 rfl (by decide) rfl ?_
        refine suns (S.2 51 3 + (i : Int)) (mPF (mV S) (S.2 51 3 + (i : Int)) (mPlay (mV S) (sd, 0) i) (S.1 33).toNat) (by omega) (by omega) ?_
        exact h9
  refine Ct.of false [some (.ref 39), some (vI sd), none, none, none, none] (plainFor_of_name (by decide)) (fun h => by cases h) (Nat.le_of_ble_eq_true rfl) (fun _ => rfl) sx_isl ?_
  refine sx_aload_n (p1 := 1) dX12_morningOf_0 rfl rfl ?_
  refine sx_iload_n (p1 := 2) dX12_morningOf_1 rfl rfl ?_
  refine sx_put (p1 := 5) dX12_morningOf_2 rfl fl_X12_287 (hp_c39 _) (Nat.le_of_ble_eq_true rfl) (fun _ => rfl) (fun _ => rfl) (hp_s40 _ _) ?_
  refine sx_iconst (p1 := 6) dX12_morningOf_5 rfl ?_
  refine sx_istore_n (lo1 := [some _, some _, some _, none, none, none]) (p1 := 7) dX12_morningOf_6 rfl (by decide) rfl ?_
  refine sx_aload_n (p1 := 8) dX12_morningOf_7 rfl rfl ?_
  refine sx_get (p1 := 11) dX12_morningOf_8 rfl fl_X12_44 (hp_c39 _) rfl ?_
  refine sx_iconst (p1 := 12) dX12_morningOf_11 rfl ?_
  refine sx_iald (g := S.2 51) (p1 := 13) dX12_morningOf_12 rfl (hp_c51 _) (by omega) (by decide) ?_
  rw [show Int.toNat 3 = 3 from rfl]
  refine sx_istore_n (lo1 := [some _, some _, some _, some _, none, none]) (p1 := 14) dX12_morningOf_13 rfl (by decide) rfl ?_
  have h9 := main _ 0 (Nat.zero_add _)
  rw [show S.2 51 3 + ((0 : Nat) : Int) = S.2 51 3 from Int.add_zero _] at h9
  exact h9
