/-- the reference stands plain: the row as they go, the gap and the helmets as told -/
def okQ (S : St) (b : Nat) : Prop := okV (mV S) ∧ (∀ a : Nat, a < 6 → S.2 52 a = (a : Int)) ∧ S.1 34 = S.2 51 0 ∧ b = hbF (S.2 50) (S.1 33).toNat ∧ S.1 35 = (b : Int) ∧ ∀ i, 0 ≤ S.2 50 i ∧ S.2 50 i ≤ 1
theorem okQ_64 {S : St} {b : Nat} (h : okQ S b) : b < 64 := by
  have h1 : 0 ≤ S.1 33 ∧ S.1 33 ≤ 6 := h.1.2.1
  have h2 := hbF_lt (S.2 50) (S.1 33).toNat
  have h3 := pow_b h1
  rw [h.2.2.2.1]
  omega
theorem okQ_W {S : St} {b : Nat} (h : okQ S b) : okW S b := by
  have h1 : 0 ≤ S.1 33 ∧ S.1 33 ≤ 6 := h.1.2.1
  refine ⟨fun a ha => ?_, h.2.2.2.2.1, okQ_64 h⟩
  rw [h.2.1 a (by omega)]
  omega
theorem rHel_q {S : St} {b : Nat} (h : okQ S b) {j : Nat} (hj : (j : Int) < S.1 33) : rHel S b j = (mV S).2 4 j := by
  have h1 : 0 ≤ S.1 33 ∧ S.1 33 ≤ 6 := h.1.2.1
  unfold rHel
  rw [h.2.1 j (by omega), Int.toNat_natCast, h.2.2.2.1, hbF_bit _ h.2.2.2.2.2, if_pos (by omega)]
  show _ = rH S j
  unfold rH
  rw [if_pos (by omega), Int.toNat_natCast]
theorem sumN_swap (f : Nat → Nat → Int) (m : Nat) : ∀ n : Nat, sumN n (fun i => sumN m (f i)) = sumN m (fun j => sumN n (fun i => f i j))
  | 0 => by
    exact (sumN_z m (fun _ _ => rfl)).symm
  | n + 1 => by
    have key : ∀ k : Nat, sumN k (fun j => sumN n (fun i => f i j)) + sumN k (f n) = sumN k (fun j => sumN (n + 1) (fun i => f i j)) := by
      intro k
      induction k with
      | zero => rfl
      | succ k ih =>
        rw [sumN, sumN, sumN, sumN, ← ih]
        omega
    rw [sumN, sumN_swap f m n, key m]
theorem sumN_mul (c : Int) (f : Nat → Int) : ∀ n : Nat, c * sumN n f = sumN n (fun i => c * f i)
  | 0 => by simp [sumN]
  | n + 1 => by rw [sumN, sumN, Int.mul_add, sumN_mul c f n]
/-- others, stone by stone -/
def oT (V : Vw) (d : Int) (p j : Nat) : Int := if mApart V 0 j = 1 then 0 else mFeetT V 0 (d + j * V.1 2) 1 (V.2 4 j) p
theorem oT_z {V : Vw} {d : Int} {p : Nat} (h : V.2 1 p ≤ 0) (n : Nat) : sumN n (oT V d p) = 0 := by
  refine sumN_z n (fun j _ => ?_)
  unfold oT mFeetT mOdds
  rw [if_pos h]
  split <;> simp
theorem oT_s (V : Vw) (n d0 d1 : Int) : n * sumN (V.1 0).toNat (fun p => sumN (V.1 1).toNat (oT V (d0 + d1) p)) = mPaidS V n d0 d1 := by
  rw [sumN_swap, sumN_mul]
  unfold mPaidS
  refine sumN_congr _ (fun j _ => ?_)
  unfold mPaidT
  rcases mApart_o V 0 j with z | z
  · rw [if_neg (by omega)]
    refine congrArg (fun x => n * x) ?_
    unfold mFeet
    refine sumN_congr _ (fun p _ => ?_)
    unfold oT
    rw [if_neg (by omega)]
  · rw [if_pos z, sumN_z (f := fun i => oT V (d0 + d1) i j) _ (fun p _ => if_pos z), Int.mul_zero]
theorem mWb_p (V : Vw) (n ah co : Int) : ∀ w : Nat, (mWb V n ah co w).2 = mPaid V n ah co (mWb V n ah co w).1
  | 0 => rfl
  | w + 1 => by
    rw [mWb]
    split
    · rfl
    · exact mWb_p V n ah co w
/-- to come into a part is to enter it -/
theorem ent_iff {V : Vw} (hV : okV V) {w m p : Int} (hp : 0 ≤ p ∧ p < V.1 0) : mEnt V w m = p ↔ m = V.1 5 + w * V.1 2 + p * (1 + V.1 3) := by
  have h3 := hV.2.2.2.1
  unfold mEnt
  generalize w * V.1 2 = g
  rcases (show V.1 3 = 0 ∨ V.1 3 = 1 by omega) with z | z
  · unfold mPl
    rw [z]
    have e1 : (m - V.1 5 - g) / (1 + 0) = m - V.1 5 - g := by omega
    have e2 : (m - 1 - V.1 5 - g) / (1 + 0) = m - 1 - V.1 5 - g := by omega
    rw [e1, e2]
    (repeat' split) <;> omega
  · unfold mPl
    rw [z]
    (repeat' split) <;> omega
def fw (S : St) (x : Int × Int) : St := si (si S 37 x.1) 38 x.2
theorem fw_a (S : St) (x : Int × Int) (y z : Int) : si (si (fw S x) 37 y) 38 z = fw S (y, z) := by
  refine Prod.ext ?_ rfl
  funext b
  simp only [fw, si, sx_u]
  by_cases h1 : b = 38
  · simp [h1]
  · by_cases h2 : b = 37 <;> simp [h1, h2]
theorem fw_0 (S : St) (x y z : Int) : si (si (si S 37 x) 37 y) 38 z = fw S (y, z) := by
  refine Prod.ext ?_ rfl
  funext b
  simp only [fw, si, sx_u]
  by_cases h1 : b = 38
  · simp [h1]
  · by_cases h2 : b = 37 <;> simp [h1, h2]
set_option maxRecDepth 20000 in
theorem c_X12_byOthers {X : sx_X} {S : St} {b : Nat} {nn ah wa : Int} (hQ : okQ S b) (hah : 0 ≤ ah ∧ ah ≤ 99) (hwa : 0 ≤ wa ∧ wa ≤ 99) : Ct X yX12_byOthers cX12_byOthers 8 (some .int) 3 0 0 [.ref 39, vI nn, vI ah, vI wa] (hp S) (sx_is (some (vI (mPaidS (mV S) nn ah wa))) (hp S)) := by
  have hV := hQ.1
  have hW := okQ_W hQ
  have b0 : 0 ≤ S.1 32 ∧ S.1 32 ≤ 16 := hV.1
  have c0 : 0 ≤ (mV S).1 0 ∧ (mV S).1 0 ≤ 16 := hV.1
  have b1 : 0 ≤ S.1 33 ∧ S.1 33 ≤ 6 := hV.2.1
  have c1 : 0 ≤ (mV S).1 1 ∧ (mV S).1 1 ≤ 6 := hV.2.1
  have b2 : 0 ≤ S.1 34 ∧ S.1 34 ≤ 99 := hV.2.2.1
  have c2 : 0 ≤ (mV S).1 2 ∧ (mV S).1 2 ≤ 99 := hV.2.2.1
  have b3 : 0 ≤ S.2 51 1 ∧ S.2 51 1 ≤ 1 := hV.2.2.2.1
  have c3 : 0 ≤ (mV S).1 3 ∧ (mV S).1 3 ≤ 1 := hV.2.2.2.1
  have b4 : 0 ≤ S.2 51 2 ∧ S.2 51 2 ≤ 16 := hV.2.2.2.2.1
  have c4 : 0 ≤ (mV S).1 4 ∧ (mV S).1 4 ≤ 16 := hV.2.2.2.2.1
  have b5 : 0 ≤ S.2 51 3 ∧ S.2 51 3 ≤ 999 := hV.2.2.2.2.2.1
  have c5 : 0 ≤ (mV S).1 5 ∧ (mV S).1 5 ≤ 999 := hV.2.2.2.2.2.1
  have b6 : 0 ≤ S.2 51 4 ∧ S.2 51 4 ≤ 1999 := hV.2.2.2.2.2.2.1
  have c6 : 0 ≤ (mV S).1 6 ∧ (mV S).1 6 ≤ 1999 := hV.2.2.2.2.2.2.1
  have b7 : 0 ≤ S.2 51 5 ∧ S.2 51 5 ≤ 16 := hV.2.2.2.2.2.2.2.1
  have c7 : 0 ≤ (mV S).1 7 ∧ (mV S).1 7 ≤ 16 := hV.2.2.2.2.2.2.2.1
  have bK : ∀ q, 0 ≤ rK S q ∧ rK S q ≤ 3 := hV.2.2.2.2.2.2.2.2.1
  have bL : ∀ q, 0 ≤ rL S q ∧ rL S q ≤ 9 := hV.2.2.2.2.2.2.2.2.2.1
  have bW : ∀ q, 0 ≤ rW S q ∧ rW S q ≤ 9 := hV.2.2.2.2.2.2.2.2.2.2.1
  have bS : ∀ q, 0 ≤ rS S q ∧ rS S q ≤ 9 := hV.2.2.2.2.2.2.2.2.2.2.2.1
  have bH : ∀ q, 0 ≤ rH S q ∧ rH S q ≤ 1 := hV.2.2.2.2.2.2.2.2.2.2.2.2
  have inner : ∀ (p : Nat), (p : Int) < S.1 32 → Rn X RX12 false cX12_byOthers 8 3 0 0 (some .int) 6 [some (.ref 39), some (vI nn), some (vI ah), some (vI wa), some (vI (sumN (p + 1) (fun p => sumN (S.1 33).toNat (oT (mV S) (ah + wa) p)))), some (vI ((p : Int) + 1)), none, none] [] (hp S) 0 0 (sx_is (some (vI (mPaidS (mV S) nn ah wa))) (hp S)) → Rn X RX12 false cX12_byOthers 8 3 0 0 (some .int) 18 [some (.ref 39), some (vI nn), some (vI ah), some (vI wa), some (vI (sumN p (fun p => sumN (S.1 33).toNat (oT (mV S) (ah + wa) p)))), some (vI (p : Int)), some (vI 0), none] [] (hp S) 0 0 (sx_is (some (vI (mPaidS (mV S) nn ah wa))) (hp S)) := by
    intro p hpp K
    have e1 : sumN (p + 1) (fun p => sumN (S.1 33).toNat (oT (mV S) (ah + wa) p)) = sumN p (fun p => sumN (S.1 33).toNat (oT (mV S) (ah + wa) p)) + sumN (S.1 33).toNat (oT (mV S) (ah + wa) p) := rfl
    rw [e1] at K
    have l1 : rL S (p : Int) = S.2 47 p := (if_pos (by omega)).trans (by rw [Int.toNat_natCast])
    have l2 := bL (p : Int)
    by_cases hl : 0 < rL S (p : Int)
    · have hl2 : 0 < S.2 47 p := by omega
      have key : ∀ (n i : Nat), i + n = (S.1 33).toNat → Rn X RX12 false cX12_byOthers 8 3 0 0 (some .int) 18 [some (.ref 39), some (vI nn), some (vI ah), some (vI wa), some (vI (sumN p (fun p => sumN (S.1 33).toNat (oT (mV S) (ah + wa) p)) + sumN i (oT (mV S) (ah + wa) p))), some (vI (p : Int)), some (vI (i : Int)), none] [] (hp S) 0 0 (sx_is (some (vI (mPaidS (mV S) nn ah wa))) (hp S)) := by
        intro n
        induction n with
        | zero =>
          intro i hi 
          rw [Nat.add_zero] at hi
          subst hi
          refine sx_iload (p1 := 20) dX12_byOthers_18 rfl rfl ?_
          refine sx_aload_n (p1 := 21) dX12_byOthers_20 rfl rfl ?_
          refine sx_get (v := vI (S.1 33)) (p1 := 24) dX12_byOthers_21 rfl fl_X12_106 (hp_c39 _) rfl ?_
          refine sx_icmp_ge (p1 := 27) (tg := 101) dX12_byOthers_24 rfl rfl (by omega) (by omega) (fun q24 => ?_) (fun q24 => absurd q24 (by omega))
          refine sx_iinc (lo1 := [some _, some _, some _, some _, some _, some _, some _, none]) (p1 := 104) dX12_byOthers_101 rfl (by decide) rfl rfl ?_
          refine sx_goto (p1 := 6) (tg := 6) dX12_byOthers_104 rfl rfl ?_
          refine sx_drop [true, true, true, true, true, true, false, false] (lo1 := [some _, some _, some _, some _, some _, some _, none, none]) rfl ?_
          exact K
        | succ n ih =>
          intro i hi 
          have ap := mApart_o (mV S) 0 (i : Int)
          have p0 := mul_b (show 0 ≤ (i : Int) ∧ (i : Int) ≤ 6 by omega) b2
          have rh := rHel_q hQ (j := i) (by omega)
          have p1 : S.2 51 3 - ah + (p : Int) - wa - S.2 51 3 - (i : Int) * S.1 34 = (p : Int) * 1 - (ah + wa + (i : Int) * S.1 34) := by omega
          refine sx_iload (p1 := 20) dX12_byOthers_18 rfl rfl ?_
          refine sx_aload_n (p1 := 21) dX12_byOthers_20 rfl rfl ?_
          refine sx_get (v := vI (S.1 33)) (p1 := 24) dX12_byOthers_21 rfl fl_X12_106 (hp_c39 _) rfl ?_
          refine sx_icmp_ge (p1 := 27) (tg := 101) dX12_byOthers_24 rfl rfl (by omega) (by omega) (fun q24 => absurd q24 (by omega)) (fun q24 => ?_)
          refine sx_aload_n (p1 := 28) dX12_byOthers_27 rfl rfl ?_
          refine sx_get (p1 := 31) dX12_byOthers_28 rfl fl_X12_31 (hp_c39 _) rfl ?_
          refine sx_iload (p1 := 33) dX12_byOthers_31 rfl rfl ?_
          refine sx_iald (g := S.2 47) (p1 := 34) dX12_byOthers_33 rfl (hp_c47 _) (by omega) (by decide) ?_
          rw [Int.toNat_natCast]
          refine sx_if_le (p1 := 37) (tg := 101) dX12_byOthers_34 rfl rfl (by omega) (fun q34 => absurd q34 (by omega)) (fun q34 => ?_)
          refine sx_aload_n (p1 := 38) dX12_byOthers_37 rfl rfl ?_
          refine sx_get (p1 := 41) dX12_byOthers_38 rfl fl_X12_44 (hp_c39 _) rfl ?_
          refine sx_iconst (p1 := 42) dX12_byOthers_41 rfl ?_
          refine sx_iald (g := S.2 51) (p1 := 43) dX12_byOthers_42 rfl (hp_c51 _) (by omega) (by decide) ?_
          rw [show Int.toNat 3 = 3 from rfl]
          refine sx_iload_n (p1 := 44) dX12_byOthers_43 rfl rfl ?_
          refine sx_isub (p1 := 45) dX12_byOthers_44 rfl ?_
          refine sx_iload (p1 := 47) dX12_byOthers_45 rfl rfl ?_
          refine sx_iadd (p1 := 48) dX12_byOthers_47 rfl ?_
          refine sx_iload_n (p1 := 49) dX12_byOthers_48 rfl rfl ?_
          refine sx_isub (p1 := 50) dX12_byOthers_49 rfl ?_
          refine sx_istore (lo1 := [some _, some _, some _, some _, some _, some _, some _, some _]) (p1 := 52) dX12_byOthers_50 rfl (by decide) rfl ?_
          refine sx_iload (p1 := 54) dX12_byOthers_52 rfl rfl ?_
          refine sx_aload_n (p1 := 55) dX12_byOthers_54 rfl rfl ?_
          refine sx_iconst (p1 := 56) dX12_byOthers_55 rfl ?_
          refine sx_iload (p1 := 58) dX12_byOthers_56 rfl rfl ?_
          refine sx_callVr (p1 := 61) (As := [_, _]) (k1 := 0) (n1 := 0) dX12_byOthers_58 rfl rfl (c_X12_isAside b3 (by omega) (by omega)) mt_X12_isAside ml_X12_180 (hp_c39 _) rfl rfl (Nat.le_of_ble_eq_true rfl) rfl (Nat.le_of_ble_eq_true rfl) rfl rfl (Nat.le_of_ble_eq_true rfl) (Nat.le_of_ble_eq_true rfl) ?_
          refine sx_if_eq (p1 := 64) (tg := 68) dX12_byOthers_61 rfl rfl (by omega) (fun q61 => ?_) (fun q61 => ?_)
          · have e2 : (oT (mV S) (ah + wa) p) i = min (max (S.2 47 p + 5 / 3 - 5 / 3) 0) 16 * mHit (mV S) (p : Int) (mPl (mV S) ((p : Int) * 1 - (ah + wa + (i : Int) * S.1 34))) ((mV S).2 4 i) := by
              refine (if_neg (by omega)).trans ?_
              unfold mFeetT
              rw [show mOdds ((mV S).2 1 (p : Int)) 0 = min (max (S.2 47 p + 5 / 3 - 5 / 3) 0) 16 from by
                show mOdds (rL S (p : Int)) 0 = _
                unfold mOdds
                rw [if_neg (by omega), l1]
                omega]
              rfl
            refine sx_aload_n (p1 := 69) dX12_byOthers_68 rfl rfl ?_
            refine sx_aload_n (p1 := 70) dX12_byOthers_69 rfl rfl ?_
            refine sx_get (p1 := 73) dX12_byOthers_70 rfl fl_X12_31 (hp_c39 _) rfl ?_
            refine sx_iload (p1 := 75) dX12_byOthers_73 rfl rfl ?_
            refine sx_iald (g := S.2 47) (p1 := 76) dX12_byOthers_75 rfl (hp_c47 _) (by omega) (by decide) ?_
            rw [Int.toNat_natCast]
            refine sx_iconst (p1 := 77) dX12_byOthers_76 rfl ?_
            refine sx_iconst (p1 := 78) dX12_byOthers_77 rfl ?_
            refine sx_callVr (p1 := 81) (As := [_, _, _]) (k1 := 0) (n1 := 0) dX12_byOthers_78 rfl rfl (c_X12_oddsBy hV (by omega) (by omega) (by omega)) mt_X12_oddsBy ml_X12_166 (hp_c39 _) rfl rfl (Nat.le_of_ble_eq_true rfl) rfl (Nat.le_of_ble_eq_true rfl) rfl rfl (Nat.le_of_ble_eq_true rfl) (Nat.le_of_ble_eq_true rfl) ?_
            refine sx_aload_n (p1 := 82) dX12_byOthers_81 rfl rfl ?_
            refine sx_iload (p1 := 84) dX12_byOthers_82 rfl rfl ?_
            refine sx_iload (p1 := 86) dX12_byOthers_84 rfl rfl ?_
            refine sx_iload (p1 := 88) dX12_byOthers_86 rfl rfl ?_
            refine sx_callVr (p1 := 91) (As := [_, _, _]) (k1 := 0) (n1 := 0) dX12_byOthers_88 rfl rfl (c_X12_hitsWho hV hW (by omega) (by omega) (by omega)) mt_X12_hitsWho ml_X12_183 (hp_c39 _) rfl rfl (Nat.le_of_ble_eq_true rfl) rfl (Nat.le_of_ble_eq_true rfl) rfl rfl (Nat.le_of_ble_eq_true rfl) (Nat.le_of_ble_eq_true rfl) ?_
            rw [p1, rh]
            refine sx_imul (p1 := 92) dX12_byOthers_91 rfl ?_
            refine sx_iadd (p1 := 93) dX12_byOthers_92 rfl ?_
            refine sx_istore (lo1 := [some _, some _, some _, some _, some _, some _, some _, some _]) (p1 := 95) dX12_byOthers_93 rfl (by decide) rfl ?_
            refine sx_iinc (lo1 := [some _, some _, some _, some _, some _, some _, some _, some _]) (p1 := 98) dX12_byOthers_95 rfl (by decide) rfl rfl ?_
            refine sx_goto (p1 := 18) (tg := 18) dX12_byOthers_98 rfl rfl ?_
            refine sx_drop [true, true, true, true, true, true, true, false] (lo1 := [some _, some _, some _, some _, some _, some _, some _, none]) rfl ?_
            have h9 := ih (i + 1) (by omega)
            rw [sumN, e2, ← Int.add_assoc] at h9
            exact h9
          · have e2 : (oT (mV S) (ah + wa) p) i = 0 := if_pos (by omega)
            refine sx_iconst (p1 := 65) dX12_byOthers_64 rfl ?_
            refine sx_goto (p1 := 92) (tg := 92) dX12_byOthers_65 rfl rfl ?_
            refine sx_iadd (p1 := 93) dX12_byOthers_92 rfl ?_
            refine sx_istore (lo1 := [some _, some _, some _, some _, some _, some _, some _, some _]) (p1 := 95) dX12_byOthers_93 rfl (by decide) rfl ?_
            refine sx_iinc (lo1 := [some _, some _, some _, some _, some _, some _, some _, some _]) (p1 := 98) dX12_byOthers_95 rfl (by decide) rfl rfl ?_
            refine sx_goto (p1 := 18) (tg := 18) dX12_byOthers_98 rfl rfl ?_
            refine sx_drop [true, true, true, true, true, true, true, false] (lo1 := [some _, some _, some _, some _, some _, some _, some _, none]) rfl ?_
            have h9 := ih (i + 1) (by omega)
            rw [sumN, e2, ← Int.add_assoc] at h9
            exact h9
      have h9 := key _ 0 (Nat.zero_add _)
      rw [show sumN 0 (oT (mV S) (ah + wa) p) = 0 from rfl, Int.add_zero] at h9
      exact h9
    · rw [oT_z (show (mV S).2 1 (p : Int) ≤ 0 from (by show rL S (p : Int) ≤ 0; omega)), Int.add_zero] at K
      refine sx_iload (p1 := 20) dX12_byOthers_18 rfl rfl ?_
      refine sx_aload_n (p1 := 21) dX12_byOthers_20 rfl rfl ?_
      refine sx_get (v := vI (S.1 33)) (p1 := 24) dX12_byOthers_21 rfl fl_X12_106 (hp_c39 _) rfl ?_
      refine sx_icmp_ge (p1 := 27) (tg := 101) dX12_byOthers_24 rfl rfl (by omega) (by omega) (fun q24 => ?_) (fun q24 => ?_)
      · refine sx_iinc (lo1 := [some _, some _, some _, some _, some _, some _, some _, none]) (p1 := 104) dX12_byOthers_101 rfl (by decide) rfl rfl ?_
        refine sx_goto (p1 := 6) (tg := 6) dX12_byOthers_104 rfl rfl ?_
        refine sx_drop [true, true, true, true, true, true, false, false] (lo1 := [some _, some _, some _, some _, some _, some _, none, none]) rfl ?_
        exact K
      · refine sx_aload_n (p1 := 28) dX12_byOthers_27 rfl rfl ?_
        refine sx_get (p1 := 31) dX12_byOthers_28 rfl fl_X12_31 (hp_c39 _) rfl ?_
        refine sx_iload (p1 := 33) dX12_byOthers_31 rfl rfl ?_
        refine sx_iald (g := S.2 47) (p1 := 34) dX12_byOthers_33 rfl (hp_c47 _) (by omega) (by decide) ?_
        rw [Int.toNat_natCast]
        refine sx_if_le (p1 := 37) (tg := 101) dX12_byOthers_34 rfl rfl (by omega) (fun q34 => ?_) (fun q34 => absurd q34 (by omega))
        refine sx_iinc (lo1 := [some _, some _, some _, some _, some _, some _, some _, none]) (p1 := 104) dX12_byOthers_101 rfl (by decide) rfl rfl ?_
        refine sx_goto (p1 := 6) (tg := 6) dX12_byOthers_104 rfl rfl ?_
        refine sx_drop [true, true, true, true, true, true, false, false] (lo1 := [some _, some _, some _, some _, some _, some _, none, none]) rfl ?_
        exact K
  have e9 := oT_s (mV S) nn ah wa
  have outer : ∀ (n i : Nat), i + n = (S.1 32).toNat → Rn X RX12 false cX12_byOthers 8 3 0 0 (some .int) 6 [some (.ref 39), some (vI nn), some (vI ah), some (vI wa), some (vI (sumN i (fun p => sumN (S.1 33).toNat (oT (mV S) (ah + wa) p)))), some (vI (i : Int)), none, none] [] (hp S) 0 0 (sx_is (some (vI (mPaidS (mV S) nn ah wa))) (hp S)) := by
    intro n
    induction n with
    | zero =>
      intro i hi 
      rw [Nat.add_zero] at hi
      subst hi
      refine sx_iload (p1 := 8) dX12_byOthers_6 rfl rfl ?_
      refine sx_aload_n (p1 := 9) dX12_byOthers_8 rfl rfl ?_
      refine sx_get (v := vI (S.1 32)) (p1 := 12) dX12_byOthers_9 rfl fl_X12_95 (hp_c39 _) rfl ?_
      refine sx_icmp_ge (p1 := 15) (tg := 107) dX12_byOthers_12 rfl rfl (by omega) (by omega) (fun q12 => ?_) (fun q12 => absurd q12 (by omega))
      refine sx_iload_n (p1 := 108) dX12_byOthers_107 rfl rfl ?_
      refine sx_iload (p1 := 110) dX12_byOthers_108 rfl rfl ?_
      refine sx_imul (p1 := 111) dX12_byOthers_110 rfl ?_
      exact sx_iret dX12_byOthers_111 rfl (sx_ri (by exact e9) (by rfl))
    | succ n ih =>
      intro i hi 
      refine sx_iload (p1 := 8) dX12_byOthers_6 rfl rfl ?_
      refine sx_aload_n (p1 := 9) dX12_byOthers_8 rfl rfl ?_
      refine sx_get (v := vI (S.1 32)) (p1 := 12) dX12_byOthers_9 rfl fl_X12_95 (hp_c39 _) rfl ?_
      refine sx_icmp_ge (p1 := 15) (tg := 107) dX12_byOthers_12 rfl rfl (by omega) (by omega) (fun q12 => absurd q12 (by omega)) (fun q12 => ?_)
      refine sx_iconst (p1 := 16) dX12_byOthers_15 rfl ?_
      refine sx_istore (lo1 := [some _, some _, some _, some _, some _, some _, some _, none]) (p1 := 18) dX12_byOthers_16 rfl (by decide) rfl ?_
      refine inner i (by omega) ?_
      exact ih (i + 1) (by omega)
  refine Ct.of false [some (.ref 39), some (vI nn), some (vI ah), some (vI wa), none, none, none, none] (plainFor_of_name (by decide)) (fun h => by cases h) (Nat.le_of_ble_eq_true rfl) (fun _ => rfl) sx_isl ?_
  refine sx_iconst (p1 := 1) dX12_byOthers_0 rfl ?_
  refine sx_istore (lo1 := [some _, some _, some _, some _, some _, none, none, none]) (p1 := 3) dX12_byOthers_1 rfl (by decide) rfl ?_
  refine sx_iconst (p1 := 4) dX12_byOthers_3 rfl ?_
  refine sx_istore (lo1 := [some _, some _, some _, some _, some _, some _, none, none]) (p1 := 6) dX12_byOthers_4 rfl (by decide) rfl ?_
  exact outer _ 0 (Nat.zero_add _)
set_option maxRecDepth 20000 in
theorem c_X12_findWait {X : sx_X} {S : St} {b : Nat} {nn ah co : Int} (hQ : okQ S b) (hn : 0 ≤ nn ∧ nn ≤ 6) (hah : 0 ≤ ah ∧ ah ≤ 99) (hco : 0 ≤ co ∧ co ≤ 999) : Ct X yX12_findWait cX12_findWait 7 none 4 0 0 [.ref 39, vI nn, vI ah, vI co] (hp S) (sx_is none (hp (fw S (mWb (mV S) nn ah co 99)))) := by
  have hV := hQ.1
  have key : ∀ (n i : Nat), i + n = 99 → Rn X RX12 false cX12_findWait 7 4 0 0 none 8 [some (.ref 39), some (vI nn), some (vI ah), some (vI co), some (vI ((i : Int) + 1)), none, none] [] (hp (fw S (mWb (mV S) nn ah co i))) 0 0 (sx_is none (hp (fw S (mWb (mV S) nn ah co 99)))) := by
    intro n
    induction n with
    | zero =>
      intro i hi 
      rw [Nat.add_zero] at hi
      subst hi
      refine sx_iload (p1 := 10) dX12_findWait_8 rfl rfl ?_
      refine sx_bipush (p1 := 12) dX12_findWait_10 rfl (by decide) ?_
      refine sx_icmp_ge (p1 := 15) (tg := 100) dX12_findWait_12 rfl rfl (by omega) (by omega) (fun q12 => ?_) (fun q12 => absurd q12 (by omega))
      exact sx_vret dX12_findWait_100 rfl (sx_rv (by rfl))
    | succ n ih =>
      intro i hi 
      have m1 := mWb_b hV hn hco ah i (by omega)
      have m2 := mPaid_b hV hn hco (wa := (i : Int) + 1) (by omega) ah
      have m3 : 256 * ((i : Int) + 1) + co * mPaidS (mV S) nn ah ((i : Int) + 1) = mPaid (mV S) nn ah co ((i : Int) + 1) := by unfold mPaid; omega
      refine sx_iload (p1 := 10) dX12_findWait_8 rfl rfl ?_
      refine sx_bipush (p1 := 12) dX12_findWait_10 rfl (by decide) ?_
      refine sx_icmp_ge (p1 := 15) (tg := 100) dX12_findWait_12 rfl rfl (by omega) (by omega) (fun q12 => absurd q12 (by omega)) (fun q12 => ?_)
      refine sx_sipush (p1 := 18) dX12_findWait_15 rfl (by decide) ?_
      refine sx_iload (p1 := 20) dX12_findWait_18 rfl rfl ?_
      refine sx_imul (p1 := 21) dX12_findWait_20 rfl ?_
      refine sx_iload_n (p1 := 22) dX12_findWait_21 rfl rfl ?_
      refine sx_aload_n (p1 := 23) dX12_findWait_22 rfl rfl ?_
      refine sx_iload_n (p1 := 24) dX12_findWait_23 rfl rfl ?_
      refine sx_iload_n (p1 := 25) dX12_findWait_24 rfl rfl ?_
      refine sx_iload (p1 := 27) dX12_findWait_25 rfl rfl ?_
      refine sx_callVr (p1 := 30) (As := [_, _, _]) (k1 := 0) (n1 := 0) dX12_findWait_27 rfl rfl (c_X12_byOthers (S := fw S (mWb (mV S) nn ah co i)) (b := b) hQ hah (by omega)) mt_X12_byOthers ml_X12_248 (hp_c39 _) rfl rfl (Nat.le_of_ble_eq_true rfl) rfl (Nat.le_of_ble_eq_true rfl) rfl rfl (Nat.le_of_ble_eq_true rfl) (Nat.le_of_ble_eq_true rfl) ?_
      refine sx_imul (p1 := 31) dX12_findWait_30 rfl ?_
      refine sx_iadd (p1 := 32) dX12_findWait_31 rfl ?_
      rw [show mPaidS (mV (fw S (mWb (mV S) nn ah co i))) nn ah ((i : Int) + 1) = mPaidS (mV S) nn ah ((i : Int) + 1) from rfl, m3]
      refine sx_istore (lo1 := [some _, some _, some _, some _, some _, some _, none]) (p1 := 34) dX12_findWait_32 rfl (by decide) rfl ?_
      refine sx_aload_n (p1 := 35) dX12_findWait_34 rfl rfl ?_
      refine sx_get (v := vI (mWb (mV S) nn ah co i).1) (p1 := 38) dX12_findWait_35 rfl fl_X12_245 (hp_c39 _) rfl ?_
      refine sx_iconst (p1 := 39) dX12_findWait_38 rfl ?_
      refine sx_icmp_eq (p1 := 42) (tg := 51) dX12_findWait_39 rfl rfl (by omega) (by omega) (fun q39 => absurd q39 (by omega)) (fun q39 => ?_)
      refine sx_iload (p1 := 44) dX12_findWait_42 rfl rfl ?_
      refine sx_aload_n (p1 := 45) dX12_findWait_44 rfl rfl ?_
      refine sx_get (v := vI (mWb (mV S) nn ah co i).2) (p1 := 48) dX12_findWait_45 rfl fl_X12_251 (hp_c39 _) rfl ?_
      refine sx_icmp_ge (p1 := 51) (tg := 55) dX12_findWait_48 rfl rfl (by omega) (by omega) (fun q48 => ?_) (fun q48 => ?_)
      · have zq4 : (mWb (mV S) nn ah co (i + 1)) = (mWb (mV S) nn ah co i) := if_neg (by omega)
        refine sx_iconst (p1 := 56) dX12_findWait_55 rfl ?_
        refine sx_istore (lo1 := [some _, some _, some _, some _, some _, some _, some _]) (p1 := 58) dX12_findWait_56 rfl (by decide) rfl ?_
        refine sx_aload_n (p1 := 59) dX12_findWait_58 rfl rfl ?_
        refine sx_iload (p1 := 61) dX12_findWait_59 rfl rfl ?_
        refine sx_if_eq (p1 := 64) (tg := 69) dX12_findWait_61 rfl rfl (by omega) (fun q61 => ?_) (fun q61 => absurd q61 (by omega))
        refine sx_aload_n (p1 := 70) dX12_findWait_69 rfl rfl ?_
        refine sx_get (v := vI (mWb (mV S) nn ah co i).1) (p1 := 73) dX12_findWait_70 rfl fl_X12_245 (hp_c39 _) rfl ?_
        refine sx_put (p1 := 76) dX12_findWait_73 rfl fl_X12_245 (hp_c39 _) (Nat.le_of_ble_eq_true rfl) (fun _ => rfl) (fun _ => rfl) (hp_s37 _ _) ?_
        refine sx_aload_n (p1 := 77) dX12_findWait_76 rfl rfl ?_
        refine sx_iload (p1 := 79) dX12_findWait_77 rfl rfl ?_
        refine sx_if_eq (p1 := 82) (tg := 87) dX12_findWait_79 rfl rfl (by omega) (fun q79 => ?_) (fun q79 => absurd q79 (by omega))
        refine sx_aload_n (p1 := 88) dX12_findWait_87 rfl rfl ?_
        refine sx_get (p1 := 91) dX12_findWait_88 rfl fl_X12_251 (hp_c39 _) rfl ?_
        refine sx_put (p1 := 94) dX12_findWait_91 rfl fl_X12_251 (hp_c39 _) (Nat.le_of_ble_eq_true rfl) (fun _ => rfl) (fun _ => rfl) (hp_s38 _ _) ?_
        refine sx_iinc (lo1 := [some _, some _, some _, some _, some _, some _, some _]) (p1 := 97) dX12_findWait_94 rfl (by decide) rfl rfl ?_
        refine sx_goto (p1 := 8) (tg := 8) dX12_findWait_97 rfl rfl ?_
        refine sx_drop [true, true, true, true, true, false, false] (lo1 := [some _, some _, some _, some _, some _, none, none]) rfl ?_
        rw [fw_a]
        have h9 := ih (i + 1) (by omega)
        rw [zq4] at h9
        exact h9
      · have zq4 : (mWb (mV S) nn ah co (i + 1)) = ((i : Int) + 1, mPaid (mV S) nn ah co ((i : Int) + 1)) := if_pos (by omega)
        refine sx_iconst (p1 := 52) dX12_findWait_51 rfl ?_
        refine sx_goto (p1 := 56) (tg := 56) dX12_findWait_52 rfl rfl ?_
        refine sx_istore (lo1 := [some _, some _, some _, some _, some _, some _, some _]) (p1 := 58) dX12_findWait_56 rfl (by decide) rfl ?_
        refine sx_aload_n (p1 := 59) dX12_findWait_58 rfl rfl ?_
        refine sx_iload (p1 := 61) dX12_findWait_59 rfl rfl ?_
        refine sx_if_eq (p1 := 64) (tg := 69) dX12_findWait_61 rfl rfl (by omega) (fun q61 => absurd q61 (by omega)) (fun q61 => ?_)
        refine sx_iload (p1 := 66) dX12_findWait_64 rfl rfl ?_
        refine sx_goto (p1 := 73) (tg := 73) dX12_findWait_66 rfl rfl ?_
        refine sx_put (p1 := 76) dX12_findWait_73 rfl fl_X12_245 (hp_c39 _) (Nat.le_of_ble_eq_true rfl) (fun _ => rfl) (fun _ => rfl) (hp_s37 _ _) ?_
        refine sx_aload_n (p1 := 77) dX12_findWait_76 rfl rfl ?_
        refine sx_iload (p1 := 79) dX12_findWait_77 rfl rfl ?_
        refine sx_if_eq (p1 := 82) (tg := 87) dX12_findWait_79 rfl rfl (by omega) (fun q79 => absurd q79 (by omega)) (fun q79 => ?_)
        refine sx_iload (p1 := 84) dX12_findWait_82 rfl rfl ?_
        refine sx_goto (p1 := 91) (tg := 91) dX12_findWait_84 rfl rfl ?_
        refine sx_put (p1 := 94) dX12_findWait_91 rfl fl_X12_251 (hp_c39 _) (Nat.le_of_ble_eq_true rfl) (fun _ => rfl) (fun _ => rfl) (hp_s38 _ _) ?_
        refine sx_iinc (lo1 := [some _, some _, some _, some _, some _, some _, some _]) (p1 := 97) dX12_findWait_94 rfl (by decide) rfl rfl ?_
        refine sx_goto (p1 := 8) (tg := 8) dX12_findWait_97 rfl rfl ?_
        refine sx_drop [true, true, true, true, true, false, false] (lo1 := [some _, some _, some _, some _, some _, none, none]) rfl ?_
        rw [fw_a]
        have h9 := ih (i + 1) (by omega)
        rw [zq4] at h9
        exact h9
  have m2 := mPaid_b hV hn hco (wa := 0) (by omega) ah
  have m3 : 256 * 0 + co * mPaidS (mV S) nn ah 0 = mPaid (mV S) nn ah co 0 := by unfold mPaid; omega
  refine Ct.of false [some (.ref 39), some (vI nn), some (vI ah), some (vI co), none, none, none] (plainFor_of_name (by decide)) (fun h => by cases h) (Nat.le_of_ble_eq_true rfl) (fun _ => rfl) sx_isl ?_
  refine sx_aload_n (p1 := 1) dX12_findWait_0 rfl rfl ?_
  refine sx_iconst (p1 := 2) dX12_findWait_1 rfl ?_
  refine sx_put (p1 := 5) dX12_findWait_2 rfl fl_X12_245 (hp_c39 _) (Nat.le_of_ble_eq_true rfl) (fun _ => rfl) (fun _ => rfl) (hp_s37 _ _) ?_
  refine sx_iconst (p1 := 6) dX12_findWait_5 rfl ?_
  refine sx_istore (lo1 := [some _, some _, some _, some _, some _, none, none]) (p1 := 8) dX12_findWait_6 rfl (by decide) rfl ?_
  refine sx_iload (p1 := 10) dX12_findWait_8 rfl rfl ?_
  refine sx_bipush (p1 := 12) dX12_findWait_10 rfl (by decide) ?_
  refine sx_icmp_ge (p1 := 15) (tg := 100) dX12_findWait_12 rfl rfl (by omega) (by omega) (fun q12 => absurd q12 (by omega)) (fun q12 => ?_)
  refine sx_sipush (p1 := 18) dX12_findWait_15 rfl (by decide) ?_
  refine sx_iload (p1 := 20) dX12_findWait_18 rfl rfl ?_
  refine sx_imul (p1 := 21) dX12_findWait_20 rfl ?_
  refine sx_iload_n (p1 := 22) dX12_findWait_21 rfl rfl ?_
  refine sx_aload_n (p1 := 23) dX12_findWait_22 rfl rfl ?_
  refine sx_iload_n (p1 := 24) dX12_findWait_23 rfl rfl ?_
  refine sx_iload_n (p1 := 25) dX12_findWait_24 rfl rfl ?_
  refine sx_iload (p1 := 27) dX12_findWait_25 rfl rfl ?_
  refine sx_callVr (p1 := 30) (As := [_, _, _]) (k1 := 0) (n1 := 0) dX12_findWait_27 rfl rfl (c_X12_byOthers (S := si S 37 (-1)) (b := b) hQ hah (by decide)) mt_X12_byOthers ml_X12_248 (hp_c39 _) rfl rfl (Nat.le_of_ble_eq_true rfl) rfl (Nat.le_of_ble_eq_true rfl) rfl rfl (Nat.le_of_ble_eq_true rfl) (Nat.le_of_ble_eq_true rfl) ?_
  refine sx_imul (p1 := 31) dX12_findWait_30 rfl ?_
  refine sx_iadd (p1 := 32) dX12_findWait_31 rfl ?_
  rw [show mPaidS (mV (si S 37 (-1))) nn ah 0 = mPaidS (mV S) nn ah 0 from rfl, m3]
  refine sx_istore (lo1 := [some _, some _, some _, some _, some _, some _, none]) (p1 := 34) dX12_findWait_32 rfl (by decide) rfl ?_
  refine sx_aload_n (p1 := 35) dX12_findWait_34 rfl rfl ?_
  refine sx_get (v := vI (-1)) (p1 := 38) dX12_findWait_35 rfl fl_X12_245 (hp_c39 _) rfl ?_
  refine sx_iconst (p1 := 39) dX12_findWait_38 rfl ?_
  refine sx_icmp_eq (p1 := 42) (tg := 51) dX12_findWait_39 rfl rfl (by omega) (by omega) (fun q39 => ?_) (fun q39 => absurd q39 (by omega))
  refine sx_iconst (p1 := 52) dX12_findWait_51 rfl ?_
  refine sx_goto (p1 := 56) (tg := 56) dX12_findWait_52 rfl rfl ?_
  refine sx_istore (lo1 := [some _, some _, some _, some _, some _, some _, some _]) (p1 := 58) dX12_findWait_56 rfl (by decide) rfl ?_
  refine sx_aload_n (p1 := 59) dX12_findWait_58 rfl rfl ?_
  refine sx_iload (p1 := 61) dX12_findWait_59 rfl rfl ?_
  refine sx_if_eq (p1 := 64) (tg := 69) dX12_findWait_61 rfl rfl (by omega) (fun q61 => absurd q61 (by omega)) (fun q61 => ?_)
  refine sx_iload (p1 := 66) dX12_findWait_64 rfl rfl ?_
  refine sx_goto (p1 := 73) (tg := 73) dX12_findWait_66 rfl rfl ?_
  refine sx_put (p1 := 76) dX12_findWait_73 rfl fl_X12_245 (hp_c39 _) (Nat.le_of_ble_eq_true rfl) (fun _ => rfl) (fun _ => rfl) (hp_s37 _ _) ?_
  refine sx_aload_n (p1 := 77) dX12_findWait_76 rfl rfl ?_
  refine sx_iload (p1 := 79) dX12_findWait_77 rfl rfl ?_
  refine sx_if_eq (p1 := 82) (tg := 87) dX12_findWait_79 rfl rfl (by omega) (fun q79 => absurd q79 (by omega)) (fun q79 => ?_)
  refine sx_iload (p1 := 84) dX12_findWait_82 rfl rfl ?_
  refine sx_goto (p1 := 91) (tg := 91) dX12_findWait_84 rfl rfl ?_
  refine sx_put (p1 := 94) dX12_findWait_91 rfl fl_X12_251 (hp_c39 _) (Nat.le_of_ble_eq_true rfl) (fun _ => rfl) (fun _ => rfl) (hp_s38 _ _) ?_
  rw [fw_0]
  refine sx_iinc (lo1 := [some _, some _, some _, some _, some _, some _, some _]) (p1 := 97) dX12_findWait_94 rfl (by decide) rfl rfl ?_
  refine sx_goto (p1 := 8) (tg := 8) dX12_findWait_97 rfl rfl ?_
  refine sx_drop [true, true, true, true, true, false, false] (lo1 := [some _, some _, some _, some _, some _, none, none]) rfl ?_
  have h9 := key 99 0 rfl
  exact h9
set_option maxRecDepth 20000 in
theorem c_X12_tellsWait {X : sx_X} {S : St} {k : Int} (h7 : -2147483648 ≤ S.1 37 ∧ S.1 37 ≤ 2147483647) (h8 : 0 ≤ S.1 38 ∧ S.1 38 ≤ 2147483647) (hk : 0 ≤ k ∧ k ≤ 2) : Ct X yX12_tellsWait cX12_tellsWait 2 (some .long) 1 0 0 [.ref 39, vI k] (hp S) (sx_is (some (vJ (if k = 0 then S.1 37 else mFrac (S.1 38) 256 (k - 1)))) (hp (S))) := by
  refine Ct.of false [some (.ref 39), some (vI k)] (plainFor_of_name (by decide)) (fun h => by cases h) (Nat.le_of_ble_eq_true rfl) (fun _ => rfl) sx_isl ?_
  refine sx_iload_n (p1 := 1) dX12_tellsWait_0 rfl rfl ?_
  refine sx_if_ne (p1 := 4) (tg := 12) dX12_tellsWait_1 rfl rfl (by omega) (fun q1 => ?_) (fun q1 => ?_)
  · refine sx_aload_n (p1 := 13) dX12_tellsWait_12 rfl rfl ?_
    refine sx_get (p1 := 16) dX12_tellsWait_13 rfl fl_X12_251 (hp_c39 _) rfl ?_
    refine sx_i2l (p1 := 17) dX12_tellsWait_16 rfl (by omega) ?_
    refine sx_ldc2 (z := 256) (p1 := 20) dX12_tellsWait_17 rfl kc_X12_195 (by decide) ?_
    refine sx_iload_n (p1 := 21) dX12_tellsWait_20 rfl rfl ?_
    refine sx_iconst (p1 := 22) dX12_tellsWait_21 rfl ?_
    refine sx_isub (p1 := 23) dX12_tellsWait_22 rfl ?_
    refine sx_callSr (p1 := 26) (As := [_, _, _]) (k1 := 0) (n1 := 0) dX12_tellsWait_23 rfl rfl (c_X12_part (by omega) (by omega) (by omega)) mt_X12_part ml_X12_197 (Nat.le_of_ble_eq_true rfl) rfl (Nat.le_of_ble_eq_true rfl) rfl rfl (Nat.le_of_ble_eq_true rfl) (Nat.le_of_ble_eq_true rfl) ?_
    exact sx_lret dX12_tellsWait_26 rfl (sx_rj (by first | (rw [if_pos (by omega)]; done) | (rw [if_neg (by omega)]; done)) (by rfl))
  · refine sx_aload_n (p1 := 5) dX12_tellsWait_4 rfl rfl ?_
    refine sx_get (p1 := 8) dX12_tellsWait_5 rfl fl_X12_245 (hp_c39 _) rfl ?_
    refine sx_i2l (p1 := 9) dX12_tellsWait_8 rfl (by omega) ?_
    refine sx_goto (p1 := 26) (tg := 26) dX12_tellsWait_9 rfl rfl ?_
    exact sx_lret dX12_tellsWait_26 rfl (sx_rj (by first | (rw [if_pos (by omega)]; done) | (rw [if_neg (by omega)]; done)) (by rfl))
set_option maxRecDepth 20000 in
theorem c_X12_footOf {X : sx_X} {S : St} {b : Nat} {pp mi k : Int} (hQ : okQ S b) (hpp : 0 ≤ pp ∧ pp < S.1 32) (hmi : 0 ≤ mi ∧ mi ≤ 1999) (hk : 0 ≤ k ∧ k ≤ 1) : Ct X yX12_footOf cX12_footOf 6 (some .long) 3 0 0 [.ref 39, vI pp, vI mi, vI k] (hp S) (sx_is (some (vJ (if mFoot (mV S) pp mi + aSt (mV S) pp mi = 0 then -9223372036854775805 else mFrac (mFoot (mV S) pp mi) (mFoot (mV S) pp mi + aSt (mV S) pp mi) k))) (hp S)) := by
  have hV := hQ.1
  have hW := okQ_W hQ
  have b0 : 0 ≤ S.1 32 ∧ S.1 32 ≤ 16 := hV.1
  have c0 : 0 ≤ (mV S).1 0 ∧ (mV S).1 0 ≤ 16 := hV.1
  have b1 : 0 ≤ S.1 33 ∧ S.1 33 ≤ 6 := hV.2.1
  have c1 : 0 ≤ (mV S).1 1 ∧ (mV S).1 1 ≤ 6 := hV.2.1
  have b2 : 0 ≤ S.1 34 ∧ S.1 34 ≤ 99 := hV.2.2.1
  have c2 : 0 ≤ (mV S).1 2 ∧ (mV S).1 2 ≤ 99 := hV.2.2.1
  have b3 : 0 ≤ S.2 51 1 ∧ S.2 51 1 ≤ 1 := hV.2.2.2.1
  have c3 : 0 ≤ (mV S).1 3 ∧ (mV S).1 3 ≤ 1 := hV.2.2.2.1
  have b4 : 0 ≤ S.2 51 2 ∧ S.2 51 2 ≤ 16 := hV.2.2.2.2.1
  have c4 : 0 ≤ (mV S).1 4 ∧ (mV S).1 4 ≤ 16 := hV.2.2.2.2.1
  have b5 : 0 ≤ S.2 51 3 ∧ S.2 51 3 ≤ 999 := hV.2.2.2.2.2.1
  have c5 : 0 ≤ (mV S).1 5 ∧ (mV S).1 5 ≤ 999 := hV.2.2.2.2.2.1
  have b6 : 0 ≤ S.2 51 4 ∧ S.2 51 4 ≤ 1999 := hV.2.2.2.2.2.2.1
  have c6 : 0 ≤ (mV S).1 6 ∧ (mV S).1 6 ≤ 1999 := hV.2.2.2.2.2.2.1
  have b7 : 0 ≤ S.2 51 5 ∧ S.2 51 5 ≤ 16 := hV.2.2.2.2.2.2.2.1
  have c7 : 0 ≤ (mV S).1 7 ∧ (mV S).1 7 ≤ 16 := hV.2.2.2.2.2.2.2.1
  have bK : ∀ q, 0 ≤ rK S q ∧ rK S q ≤ 3 := hV.2.2.2.2.2.2.2.2.1
  have bL : ∀ q, 0 ≤ rL S q ∧ rL S q ≤ 9 := hV.2.2.2.2.2.2.2.2.2.1
  have bW : ∀ q, 0 ≤ rW S q ∧ rW S q ≤ 9 := hV.2.2.2.2.2.2.2.2.2.2.1
  have bS : ∀ q, 0 ≤ rS S q ∧ rS S q ≤ 9 := hV.2.2.2.2.2.2.2.2.2.2.2.1
  have bH : ∀ q, 0 ≤ rH S q ∧ rH S q ≤ 1 := hV.2.2.2.2.2.2.2.2.2.2.2.2
  have l1 : rL S pp = S.2 47 pp.toNat := if_pos hpp
  have l2 := bL pp
  have f1 := mFoot_b hV pp mi
  have f2 : aSt (mV S) pp mi = if 0 < rL S pp ∧ S.2 51 4 ≤ mi then S.2 51 5 else 0 := rfl
  have f3 : 0 ≤ aSt (mV S) pp mi ∧ aSt (mV S) pp mi ≤ 16 := by rw [f2]; split <;> omega
  have fin : Rn X RX12 false cX12_footOf 6 3 0 0 (some .long) 53 [some (.ref 39), some (vI pp), some (vI mi), some (vI k), some (vI (mFoot (mV S) pp mi)), none] [] (hp S) 0 0 (sx_is (some (vJ (if mFoot (mV S) pp mi + aSt (mV S) pp mi = 0 then -9223372036854775805 else mFrac (mFoot (mV S) pp mi) (mFoot (mV S) pp mi + aSt (mV S) pp mi) k))) (hp S)) := by
    refine sx_iload (p1 := 55) dX12_footOf_53 rfl rfl ?_
    refine sx_aload_n (p1 := 56) dX12_footOf_55 rfl rfl ?_
    refine sx_get (p1 := 59) dX12_footOf_56 rfl fl_X12_31 (hp_c39 _) rfl ?_
    refine sx_iload_n (p1 := 60) dX12_footOf_59 rfl rfl ?_
    refine sx_iald (g := S.2 47) (p1 := 61) dX12_footOf_60 rfl (hp_c47 _) (by omega) (by decide) ?_
    refine sx_if_le (p1 := 64) (tg := 83) dX12_footOf_61 rfl rfl (by omega) (fun q61 => ?_) (fun q61 => ?_)
    · refine sx_iconst (p1 := 84) dX12_footOf_83 rfl ?_
      refine sx_iadd (p1 := 85) dX12_footOf_84 rfl ?_
      first | rw [show mFoot (mV S) pp mi + S.2 51 5 = mFoot (mV S) pp mi + aSt (mV S) pp mi from by rw [f2, if_pos (by omega)]] | rw [show mFoot (mV S) pp mi + 0 = mFoot (mV S) pp mi + aSt (mV S) pp mi from by rw [f2, if_neg (by omega)]]
      refine sx_istore (lo1 := [some _, some _, some _, some _, some _, some _]) (p1 := 87) dX12_footOf_85 rfl (by decide) rfl ?_
      refine sx_iload (p1 := 89) dX12_footOf_87 rfl rfl ?_
      refine sx_if_ne (p1 := 92) (tg := 100) dX12_footOf_89 rfl rfl (by omega) (fun q89 => ?_) (fun q89 => ?_)
      · refine sx_iload (p1 := 102) dX12_footOf_100 rfl rfl ?_
        refine sx_i2l (p1 := 103) dX12_footOf_102 rfl (by omega) ?_
        refine sx_iload (p1 := 105) dX12_footOf_103 rfl rfl ?_
        refine sx_i2l (p1 := 106) dX12_footOf_105 rfl (by omega) ?_
        refine sx_iload_n (p1 := 107) dX12_footOf_106 rfl rfl ?_
        refine sx_callSr (p1 := 110) (As := [_, _, _]) (k1 := 0) (n1 := 0) dX12_footOf_107 rfl rfl (c_X12_part (by omega) (by omega) (by omega)) mt_X12_part ml_X12_197 (Nat.le_of_ble_eq_true rfl) rfl (Nat.le_of_ble_eq_true rfl) rfl rfl (Nat.le_of_ble_eq_true rfl) (Nat.le_of_ble_eq_true rfl) ?_
        exact sx_lret dX12_footOf_110 rfl (sx_rj (by first | (rw [if_pos (by omega)]; omega) | (rw [if_pos (by omega)]; done) | (rw [if_neg (by omega)]; done)) (by rfl))
      · refine sx_bipush (p1 := 94) dX12_footOf_92 rfl (by decide) ?_
        refine sx_callSr (p1 := 97) (As := [_]) (k1 := 0) (n1 := 0) dX12_footOf_94 rfl rfl (c_X12_no (by omega)) mt_X12_no ml_X12_201 (Nat.le_of_ble_eq_true rfl) rfl (Nat.le_of_ble_eq_true rfl) rfl rfl (Nat.le_of_ble_eq_true rfl) (Nat.le_of_ble_eq_true rfl) ?_
        refine sx_goto (p1 := 110) (tg := 110) dX12_footOf_97 rfl rfl ?_
        exact sx_lret dX12_footOf_110 rfl (sx_rj (by first | (rw [if_pos (by omega)]; omega) | (rw [if_pos (by omega)]; done) | (rw [if_neg (by omega)]; done)) (by rfl))
    · refine sx_iload_n (p1 := 65) dX12_footOf_64 rfl rfl ?_
      refine sx_aload_n (p1 := 66) dX12_footOf_65 rfl rfl ?_
      refine sx_get (p1 := 69) dX12_footOf_66 rfl fl_X12_44 (hp_c39 _) rfl ?_
      refine sx_iconst (p1 := 70) dX12_footOf_69 rfl ?_
      refine sx_iald (g := S.2 51) (p1 := 71) dX12_footOf_70 rfl (hp_c51 _) (by omega) (by decide) ?_
      rw [show Int.toNat 4 = 4 from rfl]
      refine sx_icmp_lt (p1 := 74) (tg := 83) dX12_footOf_71 rfl rfl (by omega) (by omega) (fun q71 => ?_) (fun q71 => ?_)
      · refine sx_iconst (p1 := 84) dX12_footOf_83 rfl ?_
        refine sx_iadd (p1 := 85) dX12_footOf_84 rfl ?_
        first | rw [show mFoot (mV S) pp mi + S.2 51 5 = mFoot (mV S) pp mi + aSt (mV S) pp mi from by rw [f2, if_pos (by omega)]] | rw [show mFoot (mV S) pp mi + 0 = mFoot (mV S) pp mi + aSt (mV S) pp mi from by rw [f2, if_neg (by omega)]]
        refine sx_istore (lo1 := [some _, some _, some _, some _, some _, some _]) (p1 := 87) dX12_footOf_85 rfl (by decide) rfl ?_
        refine sx_iload (p1 := 89) dX12_footOf_87 rfl rfl ?_
        refine sx_if_ne (p1 := 92) (tg := 100) dX12_footOf_89 rfl rfl (by omega) (fun q89 => ?_) (fun q89 => ?_)
        · refine sx_iload (p1 := 102) dX12_footOf_100 rfl rfl ?_
          refine sx_i2l (p1 := 103) dX12_footOf_102 rfl (by omega) ?_
          refine sx_iload (p1 := 105) dX12_footOf_103 rfl rfl ?_
          refine sx_i2l (p1 := 106) dX12_footOf_105 rfl (by omega) ?_
          refine sx_iload_n (p1 := 107) dX12_footOf_106 rfl rfl ?_
          refine sx_callSr (p1 := 110) (As := [_, _, _]) (k1 := 0) (n1 := 0) dX12_footOf_107 rfl rfl (c_X12_part (by omega) (by omega) (by omega)) mt_X12_part ml_X12_197 (Nat.le_of_ble_eq_true rfl) rfl (Nat.le_of_ble_eq_true rfl) rfl rfl (Nat.le_of_ble_eq_true rfl) (Nat.le_of_ble_eq_true rfl) ?_
          exact sx_lret dX12_footOf_110 rfl (sx_rj (by first | (rw [if_pos (by omega)]; omega) | (rw [if_pos (by omega)]; done) | (rw [if_neg (by omega)]; done)) (by rfl))
        · refine sx_bipush (p1 := 94) dX12_footOf_92 rfl (by decide) ?_
          refine sx_callSr (p1 := 97) (As := [_]) (k1 := 0) (n1 := 0) dX12_footOf_94 rfl rfl (c_X12_no (by omega)) mt_X12_no ml_X12_201 (Nat.le_of_ble_eq_true rfl) rfl (Nat.le_of_ble_eq_true rfl) rfl rfl (Nat.le_of_ble_eq_true rfl) (Nat.le_of_ble_eq_true rfl) ?_
          refine sx_goto (p1 := 110) (tg := 110) dX12_footOf_97 rfl rfl ?_
          exact sx_lret dX12_footOf_110 rfl (sx_rj (by first | (rw [if_pos (by omega)]; omega) | (rw [if_pos (by omega)]; done) | (rw [if_neg (by omega)]; done)) (by rfl))
      · refine sx_aload_n (p1 := 75) dX12_footOf_74 rfl rfl ?_
        refine sx_get (p1 := 78) dX12_footOf_75 rfl fl_X12_44 (hp_c39 _) rfl ?_
        refine sx_iconst (p1 := 79) dX12_footOf_78 rfl ?_
        refine sx_iald (g := S.2 51) (p1 := 80) dX12_footOf_79 rfl (hp_c51 _) (by omega) (by decide) ?_
        rw [show Int.toNat 5 = 5 from rfl]
        refine sx_goto (p1 := 84) (tg := 84) dX12_footOf_80 rfl rfl ?_
        refine sx_iadd (p1 := 85) dX12_footOf_84 rfl ?_
        first | rw [show mFoot (mV S) pp mi + S.2 51 5 = mFoot (mV S) pp mi + aSt (mV S) pp mi from by rw [f2, if_pos (by omega)]] | rw [show mFoot (mV S) pp mi + 0 = mFoot (mV S) pp mi + aSt (mV S) pp mi from by rw [f2, if_neg (by omega)]]
        refine sx_istore (lo1 := [some _, some _, some _, some _, some _, some _]) (p1 := 87) dX12_footOf_85 rfl (by decide) rfl ?_
        refine sx_iload (p1 := 89) dX12_footOf_87 rfl rfl ?_
        refine sx_if_ne (p1 := 92) (tg := 100) dX12_footOf_89 rfl rfl (by omega) (fun q89 => ?_) (fun q89 => ?_)
        · refine sx_iload (p1 := 102) dX12_footOf_100 rfl rfl ?_
          refine sx_i2l (p1 := 103) dX12_footOf_102 rfl (by omega) ?_
          refine sx_iload (p1 := 105) dX12_footOf_103 rfl rfl ?_
          refine sx_i2l (p1 := 106) dX12_footOf_105 rfl (by omega) ?_
          refine sx_iload_n (p1 := 107) dX12_footOf_106 rfl rfl ?_
          refine sx_callSr (p1 := 110) (As := [_, _, _]) (k1 := 0) (n1 := 0) dX12_footOf_107 rfl rfl (c_X12_part (by omega) (by omega) (by omega)) mt_X12_part ml_X12_197 (Nat.le_of_ble_eq_true rfl) rfl (Nat.le_of_ble_eq_true rfl) rfl rfl (Nat.le_of_ble_eq_true rfl) (Nat.le_of_ble_eq_true rfl) ?_
          exact sx_lret dX12_footOf_110 rfl (sx_rj (by first | (rw [if_pos (by omega)]; omega) | (rw [if_pos (by omega)]; done) | (rw [if_neg (by omega)]; done)) (by rfl))
        · refine sx_bipush (p1 := 94) dX12_footOf_92 rfl (by decide) ?_
          refine sx_callSr (p1 := 97) (As := [_]) (k1 := 0) (n1 := 0) dX12_footOf_94 rfl rfl (c_X12_no (by omega)) mt_X12_no ml_X12_201 (Nat.le_of_ble_eq_true rfl) rfl (Nat.le_of_ble_eq_true rfl) rfl rfl (Nat.le_of_ble_eq_true rfl) (Nat.le_of_ble_eq_true rfl) ?_
          refine sx_goto (p1 := 110) (tg := 110) dX12_footOf_97 rfl rfl ?_
          exact sx_lret dX12_footOf_110 rfl (sx_rj (by first | (rw [if_pos (by omega)]; omega) | (rw [if_pos (by omega)]; done) | (rw [if_neg (by omega)]; done)) (by rfl))
  have key : ∀ (n i : Nat), i + n = (S.1 33).toNat → Rn X RX12 false cX12_footOf 6 3 0 0 (some .long) 6 [some (.ref 39), some (vI pp), some (vI mi), some (vI k), some (vI (sumN i (mFootT (mV S) pp mi))), some (vI (i : Int))] [] (hp S) 0 0 (sx_is (some (vJ (if mFoot (mV S) pp mi + aSt (mV S) pp mi = 0 then -9223372036854775805 else mFrac (mFoot (mV S) pp mi) (mFoot (mV S) pp mi + aSt (mV S) pp mi) k))) (hp S)) := by
    intro n
    induction n with
    | zero =>
      intro i hi 
      rw [Nat.add_zero] at hi
      subst hi
      refine sx_iload (p1 := 8) dX12_footOf_6 rfl rfl ?_
      refine sx_aload_n (p1 := 9) dX12_footOf_8 rfl rfl ?_
      refine sx_get (v := vI (S.1 33)) (p1 := 12) dX12_footOf_9 rfl fl_X12_106 (hp_c39 _) rfl ?_
      refine sx_icmp_ge (p1 := 15) (tg := 53) dX12_footOf_12 rfl rfl (by omega) (by omega) (fun q12 => ?_) (fun q12 => absurd q12 (by omega))
      refine sx_drop [true, true, true, true, true, false] (lo1 := [some _, some _, some _, some _, some _, none]) rfl ?_
      exact fin
    | succ n ih =>
      intro i hi 
      have r1 := hQ.2.1 i (by omega)
      have t1 := mOdds_b ((mV S).2 1 pp) (mMore (mV S) (i : Int))
      have e1 := ent_iff hV (w := (i : Int)) (m := mi) hpp
      refine sx_iload (p1 := 8) dX12_footOf_6 rfl rfl ?_
      refine sx_aload_n (p1 := 9) dX12_footOf_8 rfl rfl ?_
      refine sx_get (v := vI (S.1 33)) (p1 := 12) dX12_footOf_9 rfl fl_X12_106 (hp_c39 _) rfl ?_
      refine sx_icmp_ge (p1 := 15) (tg := 53) dX12_footOf_12 rfl rfl (by omega) (by omega) (fun q12 => absurd q12 (by omega)) (fun q12 => ?_)
      refine sx_iload (p1 := 17) dX12_footOf_15 rfl rfl ?_
      refine sx_aload_n (p1 := 18) dX12_footOf_17 rfl rfl ?_
      refine sx_iload (p1 := 20) dX12_footOf_18 rfl rfl ?_
      refine sx_iload_n (p1 := 21) dX12_footOf_20 rfl rfl ?_
      refine sx_iload_n (p1 := 22) dX12_footOf_21 rfl rfl ?_
      refine sx_callVr (p1 := 25) (As := [_, _, _]) (k1 := 0) (n1 := 0) dX12_footOf_22 rfl rfl (c_X12_comesInto hV (by omega) (by omega) (by omega)) mt_X12_comesInto ml_X12_265 (hp_c39 _) rfl rfl (Nat.le_of_ble_eq_true rfl) rfl (Nat.le_of_ble_eq_true rfl) rfl rfl (Nat.le_of_ble_eq_true rfl) (Nat.le_of_ble_eq_true rfl) ?_
      refine sx_if_eq (p1 := 28) (tg := 43) dX12_footOf_25 rfl rfl (by split <;> omega) (fun q25 => ?_) (fun q25 => ?_)
      · have e2 : (mFootT (mV S) pp mi) i = 0 := if_neg (fun q => by
          have q8 : mi = S.2 51 3 + (i : Int) * S.1 34 + pp * (1 + S.2 51 1) := e1.1 q
          rw [if_pos q8] at q25
          omega)
        refine sx_iconst (p1 := 44) dX12_footOf_43 rfl ?_
        refine sx_iadd (p1 := 45) dX12_footOf_44 rfl ?_
        refine sx_istore (lo1 := [some _, some _, some _, some _, some _, some _]) (p1 := 47) dX12_footOf_45 rfl (by decide) rfl ?_
        refine sx_iinc (lo1 := [some _, some _, some _, some _, some _, some _]) (p1 := 50) dX12_footOf_47 rfl (by decide) rfl rfl ?_
        refine sx_goto (p1 := 6) (tg := 6) dX12_footOf_50 rfl rfl ?_
        have h9 := ih (i + 1) (by omega)
        rw [sumN, e2] at h9
        exact h9
      · have e2 : (mFootT (mV S) pp mi) i = mOdds ((mV S).2 1 pp) (mMore (mV S) (i : Int)) := if_pos (e1.2 (Decidable.byContradiction (fun q => q25 (if_neg q))))
        refine sx_aload_n (p1 := 29) dX12_footOf_28 rfl rfl ?_
        refine sx_aload_n (p1 := 30) dX12_footOf_29 rfl rfl ?_
        refine sx_get (p1 := 33) dX12_footOf_30 rfl fl_X12_47 (hp_c39 _) rfl ?_
        refine sx_iload (p1 := 35) dX12_footOf_33 rfl rfl ?_
        refine sx_iald (g := S.2 52) (p1 := 36) dX12_footOf_35 rfl (hp_c52 _) (by omega) (by decide) ?_
        rw [Int.toNat_natCast]
        rw [r1]
        refine sx_iload_n (p1 := 37) dX12_footOf_36 rfl rfl ?_
        refine sx_callVr (p1 := 40) (As := [_, _]) (k1 := 0) (n1 := 0) dX12_footOf_37 rfl rfl (c_X12_treadsOf hV (by omega) (by omega)) mt_X12_treadsOf ml_X12_169 (hp_c39 _) rfl rfl (Nat.le_of_ble_eq_true rfl) rfl (Nat.le_of_ble_eq_true rfl) rfl rfl (Nat.le_of_ble_eq_true rfl) (Nat.le_of_ble_eq_true rfl) ?_
        refine sx_goto (p1 := 44) (tg := 44) dX12_footOf_40 rfl rfl ?_
        refine sx_iadd (p1 := 45) dX12_footOf_44 rfl ?_
        refine sx_istore (lo1 := [some _, some _, some _, some _, some _, some _]) (p1 := 47) dX12_footOf_45 rfl (by decide) rfl ?_
        refine sx_iinc (lo1 := [some _, some _, some _, some _, some _, some _]) (p1 := 50) dX12_footOf_47 rfl (by decide) rfl rfl ?_
        refine sx_goto (p1 := 6) (tg := 6) dX12_footOf_50 rfl rfl ?_
        have h9 := ih (i + 1) (by omega)
        rw [sumN, e2] at h9
        exact h9
  refine Ct.of false [some (.ref 39), some (vI pp), some (vI mi), some (vI k), none, none] (plainFor_of_name (by decide)) (fun h => by cases h) (Nat.le_of_ble_eq_true rfl) (fun _ => rfl) sx_isl ?_
  refine sx_iconst (p1 := 1) dX12_footOf_0 rfl ?_
  refine sx_istore (lo1 := [some _, some _, some _, some _, some _, none]) (p1 := 3) dX12_footOf_1 rfl (by decide) rfl ?_
  refine sx_iconst (p1 := 4) dX12_footOf_3 rfl ?_
  refine sx_istore (lo1 := [some _, some _, some _, some _, some _, some _]) (p1 := 6) dX12_footOf_4 rfl (by decide) rfl ?_
  exact key _ 0 (Nat.zero_add _)
set_option maxRecDepth 20000 in
theorem c_X12_likely {X : sx_X} {S : St} {q fig : Int} (hV : okV (mV S)) (hT : 0 ≤ S.1 39 ∧ S.1 39 ≤ 8) (hA : ∀ i, -2147483648 ≤ S.2 54 i ∧ S.2 54 i ≤ 2147483647) (hfig : 1 ≤ fig ∧ fig ≤ 9) (hq : -2147483648 ≤ q ∧ q ≤ 2147483647) : Ct X yX12_likely cX12_likely 8 (some .long) 2 0 0 [.ref 39, vI q, vI fig] (hp S) (sx_is (some (vJ (mLik (mV S) (fun i => S.2 54 (3 * i)) (fun i => S.2 54 (3 * i + 1)) (fun i => S.2 54 (3 * i + 2)) (S.1 39).toNat fig q))) (hp S)) := by
  have b0 : 0 ≤ S.1 32 ∧ S.1 32 ≤ 16 := hV.1
  have c0 : 0 ≤ (mV S).1 0 ∧ (mV S).1 0 ≤ 16 := hV.1
  have b1 : 0 ≤ S.1 33 ∧ S.1 33 ≤ 6 := hV.2.1
  have c1 : 0 ≤ (mV S).1 1 ∧ (mV S).1 1 ≤ 6 := hV.2.1
  have b2 : 0 ≤ S.1 34 ∧ S.1 34 ≤ 99 := hV.2.2.1
  have c2 : 0 ≤ (mV S).1 2 ∧ (mV S).1 2 ≤ 99 := hV.2.2.1
  have b3 : 0 ≤ S.2 51 1 ∧ S.2 51 1 ≤ 1 := hV.2.2.2.1
  have c3 : 0 ≤ (mV S).1 3 ∧ (mV S).1 3 ≤ 1 := hV.2.2.2.1
  have b4 : 0 ≤ S.2 51 2 ∧ S.2 51 2 ≤ 16 := hV.2.2.2.2.1
  have c4 : 0 ≤ (mV S).1 4 ∧ (mV S).1 4 ≤ 16 := hV.2.2.2.2.1
  have b5 : 0 ≤ S.2 51 3 ∧ S.2 51 3 ≤ 999 := hV.2.2.2.2.2.1
  have c5 : 0 ≤ (mV S).1 5 ∧ (mV S).1 5 ≤ 999 := hV.2.2.2.2.2.1
  have b6 : 0 ≤ S.2 51 4 ∧ S.2 51 4 ≤ 1999 := hV.2.2.2.2.2.2.1
  have c6 : 0 ≤ (mV S).1 6 ∧ (mV S).1 6 ≤ 1999 := hV.2.2.2.2.2.2.1
  have b7 : 0 ≤ S.2 51 5 ∧ S.2 51 5 ≤ 16 := hV.2.2.2.2.2.2.2.1
  have c7 : 0 ≤ (mV S).1 7 ∧ (mV S).1 7 ≤ 16 := hV.2.2.2.2.2.2.2.1
  have bK : ∀ q, 0 ≤ rK S q ∧ rK S q ≤ 3 := hV.2.2.2.2.2.2.2.2.1
  have bL : ∀ q, 0 ≤ rL S q ∧ rL S q ≤ 9 := hV.2.2.2.2.2.2.2.2.2.1
  have bW : ∀ q, 0 ≤ rW S q ∧ rW S q ≤ 9 := hV.2.2.2.2.2.2.2.2.2.2.1
  have bS : ∀ q, 0 ≤ rS S q ∧ rS S q ≤ 9 := hV.2.2.2.2.2.2.2.2.2.2.2.1
  have bH : ∀ q, 0 ≤ rH S q ∧ rH S q ≤ 1 := hV.2.2.2.2.2.2.2.2.2.2.2.2
  have key : ∀ (n i : Nat), i + n = (S.1 39).toNat → Rn X RX12 false cX12_likely 8 2 0 0 (some .long) 5 [some (.ref 39), some (vI q), some (vI fig), some (vJ (prodN i (mLikT (mV S) (fun i => S.2 54 (3 * i)) (fun i => S.2 54 (3 * i + 1)) (fun i => S.2 54 (3 * i + 2)) fig q))), none, some (vI (i : Int)), none, none] [] (hp S) 0 0 (sx_is (some (vJ (mLik (mV S) (fun i => S.2 54 (3 * i)) (fun i => S.2 54 (3 * i + 1)) (fun i => S.2 54 (3 * i + 2)) (S.1 39).toNat fig q))) (hp S)) := by
    intro n
    induction n with
    | zero =>
      intro i hi 
      rw [Nat.add_zero] at hi
      subst hi
      refine sx_iload (p1 := 7) dX12_likely_5 rfl rfl ?_
      refine sx_aload_n (p1 := 8) dX12_likely_7 rfl rfl ?_
      refine sx_get (v := vI (S.1 39)) (p1 := 11) dX12_likely_8 rfl fl_X12_275 (hp_c39 _) rfl ?_
      refine sx_icmp_ge (p1 := 14) (tg := 106) dX12_likely_11 rfl rfl (by omega) (by omega) (fun q11 => ?_) (fun q11 => absurd q11 (by omega))
      refine sx_lload_n (p1 := 107) dX12_likely_106 rfl rfl ?_
      exact sx_lret dX12_likely_107 rfl (sx_rj (by first | rfl | omega) (by rfl))
    | succ n ih =>
      intro i hi 
      have a0 := hA (3 * i)
      have a1 := hA (3 * i + 1)
      have a2 := hA (3 * i + 2)
      have n0 : (3 * (i : Int)).toNat = 3 * i := by omega
      have n1 : (3 * (i : Int) + 1).toNat = 3 * i + 1 := by omega
      have n2 : (3 * (i : Int) + 2).toNat = 3 * i + 2 := by omega
      have w1 := bW (S.2 54 (3 * i))
      have w2 := bS (S.2 54 (3 * i))
      refine sx_iload (p1 := 7) dX12_likely_5 rfl rfl ?_
      refine sx_aload_n (p1 := 8) dX12_likely_7 rfl rfl ?_
      refine sx_get (v := vI (S.1 39)) (p1 := 11) dX12_likely_8 rfl fl_X12_275 (hp_c39 _) rfl ?_
      refine sx_icmp_ge (p1 := 14) (tg := 106) dX12_likely_11 rfl rfl (by omega) (by omega) (fun q11 => absurd q11 (by omega)) (fun q11 => ?_)
      refine sx_aload_n (p1 := 15) dX12_likely_14 rfl rfl ?_
      refine sx_get (p1 := 18) dX12_likely_15 rfl fl_X12_53 (hp_c39 _) rfl ?_
      refine sx_iconst (p1 := 19) dX12_likely_18 rfl ?_
      refine sx_iload (p1 := 21) dX12_likely_19 rfl rfl ?_
      refine sx_imul (p1 := 22) dX12_likely_21 rfl ?_
      refine sx_iald (g := S.2 54) (p1 := 23) dX12_likely_22 rfl (hp_c54 _) (by omega) (by decide) ?_
      rw [n0]
      refine sx_istore (lo1 := [some _, some _, some _, some _, none, some _, some _, none]) (p1 := 25) dX12_likely_23 rfl (by decide) rfl ?_
      refine sx_aload_n (p1 := 26) dX12_likely_25 rfl rfl ?_
      refine sx_iload (p1 := 28) dX12_likely_26 rfl rfl ?_
      refine sx_callVr (p1 := 31) (As := [_]) (k1 := 0) (n1 := 0) dX12_likely_28 rfl rfl (c_X12_isWalker hV (by omega)) mt_X12_isWalker ml_X12_126 (hp_c39 _) rfl rfl (Nat.le_of_ble_eq_true rfl) rfl (Nat.le_of_ble_eq_true rfl) rfl rfl (Nat.le_of_ble_eq_true rfl) (Nat.le_of_ble_eq_true rfl) ?_
      refine sx_if_eq (p1 := 34) (tg := 100) dX12_likely_31 rfl rfl (by split <;> omega) (fun q31 => ?_) (fun q31 => ?_)
      · rw [← (show prodN (i + 1) (mLikT (mV S) (fun i => S.2 54 (3 * i)) (fun i => S.2 54 (3 * i + 1)) (fun i => S.2 54 (3 * i + 2)) fig q) = prodN i (mLikT (mV S) (fun i => S.2 54 (3 * i)) (fun i => S.2 54 (3 * i + 1)) (fun i => S.2 54 (3 * i + 2)) fig q) from by rw [prodN, show (mLikT (mV S) (fun i => S.2 54 (3 * i)) (fun i => S.2 54 (3 * i + 1)) (fun i => S.2 54 (3 * i + 2)) fig q) i = 1 from if_neg (fun z => by
          have z9 : 0 ≤ S.2 54 (3 * i) ∧ S.2 54 (3 * i) < (mV S).1 1 := z.2
          rw [if_pos z9] at q31
          omega), Int.mul_one])]
        refine sx_iinc (lo1 := [some _, some _, some _, some _, none, some _, some _, none]) (p1 := 103) dX12_likely_100 rfl (by decide) rfl rfl ?_
        refine sx_goto (p1 := 5) (tg := 5) dX12_likely_103 rfl rfl ?_
        refine sx_drop [true, true, true, true, false, true, false, false] (lo1 := [some _, some _, some _, some _, none, some _, none, none]) rfl ?_
        first | exact ih (i + 1) (by omega) | (have h9 := ih (i + 1) (by omega); rw [prodN, zq8] at h9; exact h9)
      · have zq7 : 0 ≤ S.2 54 (3 * i) ∧ S.2 54 (3 * i) < (mV S).1 1 := Decidable.byContradiction (fun z => by rw [if_neg z] at q31; exact q31 rfl)
        have w3 : rW S (S.2 54 (3 * i)) = S.2 48 (S.2 54 (3 * i)).toNat := if_pos zq7
        have w4 : rS S (S.2 54 (3 * i)) = S.2 49 (S.2 54 (3 * i)).toNat := if_pos zq7
        have w5 : min (max (fig + S.2 48 (S.2 54 (3 * i)).toNat / 3 - S.2 49 (S.2 54 (3 * i)).toNat / 3) 0) 16 = mOdds fig (mMore (mV S) (S.2 54 (3 * i))) := by
          show _ = mOdds fig (rW S (S.2 54 (3 * i)) / 3 - rS S (S.2 54 (3 * i)) / 3)
          unfold mOdds
          rw [if_neg (by omega)]
          omega
        have w6 := mOdds_b fig (mMore (mV S) (S.2 54 (3 * i)))
        refine sx_aload_n (p1 := 35) dX12_likely_34 rfl rfl ?_
        refine sx_get (p1 := 38) dX12_likely_35 rfl fl_X12_53 (hp_c39 _) rfl ?_
        refine sx_iconst (p1 := 39) dX12_likely_38 rfl ?_
        refine sx_iload (p1 := 41) dX12_likely_39 rfl rfl ?_
        refine sx_imul (p1 := 42) dX12_likely_41 rfl ?_
        refine sx_iconst (p1 := 43) dX12_likely_42 rfl ?_
        refine sx_iadd (p1 := 44) dX12_likely_43 rfl ?_
        refine sx_iald (g := S.2 54) (p1 := 45) dX12_likely_44 rfl (hp_c54 _) (by omega) (by decide) ?_
        rw [n1]
        refine sx_iload_n (p1 := 46) dX12_likely_45 rfl rfl ?_
        refine sx_icmp_ne (p1 := 49) (tg := 100) dX12_likely_46 rfl rfl (by omega) (by omega) (fun q46 => ?_) (fun q46 => ?_)
        · rw [← (show prodN (i + 1) (mLikT (mV S) (fun i => S.2 54 (3 * i)) (fun i => S.2 54 (3 * i + 1)) (fun i => S.2 54 (3 * i + 2)) fig q) = prodN i (mLikT (mV S) (fun i => S.2 54 (3 * i)) (fun i => S.2 54 (3 * i + 1)) (fun i => S.2 54 (3 * i + 2)) fig q) from by rw [prodN, show (mLikT (mV S) (fun i => S.2 54 (3 * i)) (fun i => S.2 54 (3 * i + 1)) (fun i => S.2 54 (3 * i + 2)) fig q) i = 1 from if_neg (fun z => q46 z.1), Int.mul_one])]
          refine sx_iinc (lo1 := [some _, some _, some _, some _, none, some _, some _, none]) (p1 := 103) dX12_likely_100 rfl (by decide) rfl rfl ?_
          refine sx_goto (p1 := 5) (tg := 5) dX12_likely_103 rfl rfl ?_
          refine sx_drop [true, true, true, true, false, true, false, false] (lo1 := [some _, some _, some _, some _, none, some _, none, none]) rfl ?_
          first | exact ih (i + 1) (by omega) | (have h9 := ih (i + 1) (by omega); rw [prodN, zq8] at h9; exact h9)
        · refine sx_aload_n (p1 := 50) dX12_likely_49 rfl rfl ?_
          refine sx_iload_n (p1 := 51) dX12_likely_50 rfl rfl ?_
          refine sx_aload_n (p1 := 52) dX12_likely_51 rfl rfl ?_
          refine sx_get (p1 := 55) dX12_likely_52 rfl fl_X12_34 (hp_c39 _) rfl ?_
          refine sx_iload (p1 := 57) dX12_likely_55 rfl rfl ?_
          refine sx_iald (g := S.2 48) (p1 := 58) dX12_likely_57 rfl (hp_c48 _) (by omega) (by decide) ?_
          refine sx_aload_n (p1 := 59) dX12_likely_58 rfl rfl ?_
          refine sx_get (p1 := 62) dX12_likely_59 rfl fl_X12_37 (hp_c39 _) rfl ?_
          refine sx_iload (p1 := 64) dX12_likely_62 rfl rfl ?_
          refine sx_iald (g := S.2 49) (p1 := 65) dX12_likely_64 rfl (hp_c49 _) (by omega) (by decide) ?_
          refine sx_callVr (p1 := 68) (As := [_, _, _]) (k1 := 0) (n1 := 0) dX12_likely_65 rfl rfl (c_X12_oddsBy hV (by omega) (by omega) (by omega)) mt_X12_oddsBy ml_X12_166 (hp_c39 _) rfl rfl (Nat.le_of_ble_eq_true rfl) rfl (Nat.le_of_ble_eq_true rfl) rfl rfl (Nat.le_of_ble_eq_true rfl) (Nat.le_of_ble_eq_true rfl) ?_
          rw [w5]
          refine sx_istore (lo1 := [some _, some _, some _, some _, none, some _, some _, some _]) (p1 := 70) dX12_likely_68 rfl (by decide) rfl ?_
          refine sx_lload_n (p1 := 71) dX12_likely_70 rfl rfl ?_
          refine sx_aload_n (p1 := 72) dX12_likely_71 rfl rfl ?_
          refine sx_get (p1 := 75) dX12_likely_72 rfl fl_X12_53 (hp_c39 _) rfl ?_
          refine sx_iconst (p1 := 76) dX12_likely_75 rfl ?_
          refine sx_iload (p1 := 78) dX12_likely_76 rfl rfl ?_
          refine sx_imul (p1 := 79) dX12_likely_78 rfl ?_
          refine sx_iconst (p1 := 80) dX12_likely_79 rfl ?_
          refine sx_iadd (p1 := 81) dX12_likely_80 rfl ?_
          refine sx_iald (g := S.2 54) (p1 := 82) dX12_likely_81 rfl (hp_c54 _) (by omega) (by decide) ?_
          rw [n2]
          refine sx_iconst (p1 := 83) dX12_likely_82 rfl ?_
          refine sx_icmp_ne (p1 := 86) (tg := 92) dX12_likely_83 rfl rfl (by omega) (by omega) (fun q83 => ?_) (fun q83 => ?_)
          · have zq8 : (mLikT (mV S) (fun i => S.2 54 (3 * i)) (fun i => S.2 54 (3 * i + 1)) (fun i => S.2 54 (3 * i + 2)) fig q) i = 16 - mOdds fig (mMore (mV S) (S.2 54 (3 * i))) := (if_pos ⟨q46, zq7⟩).trans (if_neg q83)
            refine sx_bipush (p1 := 94) dX12_likely_92 rfl (by decide) ?_
            refine sx_iload (p1 := 96) dX12_likely_94 rfl rfl ?_
            refine sx_isub (p1 := 97) dX12_likely_96 rfl ?_
            refine sx_i2l (p1 := 98) dX12_likely_97 rfl (by omega) ?_
            refine sx_lmul (p1 := 99) dX12_likely_98 rfl ?_
            refine sx_lstore_n (lo1 := [some _, some _, some _, some _, none, some _, some _, some _]) (p1 := 100) dX12_likely_99 rfl (by decide) rfl ?_
            refine sx_iinc (lo1 := [some _, some _, some _, some _, none, some _, some _, some _]) (p1 := 103) dX12_likely_100 rfl (by decide) rfl rfl ?_
            refine sx_goto (p1 := 5) (tg := 5) dX12_likely_103 rfl rfl ?_
            refine sx_drop [true, true, true, true, false, true, false, false] (lo1 := [some _, some _, some _, some _, none, some _, none, none]) rfl ?_
            first | exact ih (i + 1) (by omega) | (have h9 := ih (i + 1) (by omega); rw [prodN, zq8] at h9; exact h9)
          · have zq8 : (mLikT (mV S) (fun i => S.2 54 (3 * i)) (fun i => S.2 54 (3 * i + 1)) (fun i => S.2 54 (3 * i + 2)) fig q) i = mOdds fig (mMore (mV S) (S.2 54 (3 * i))) := (if_pos ⟨q46, zq7⟩).trans (if_pos q83)
            refine sx_iload (p1 := 88) dX12_likely_86 rfl rfl ?_
            refine sx_i2l (p1 := 89) dX12_likely_88 rfl (by omega) ?_
            refine sx_goto (p1 := 98) (tg := 98) dX12_likely_89 rfl rfl ?_
            refine sx_lmul (p1 := 99) dX12_likely_98 rfl ?_
            refine sx_lstore_n (lo1 := [some _, some _, some _, some _, none, some _, some _, some _]) (p1 := 100) dX12_likely_99 rfl (by decide) rfl ?_
            refine sx_iinc (lo1 := [some _, some _, some _, some _, none, some _, some _, some _]) (p1 := 103) dX12_likely_100 rfl (by decide) rfl rfl ?_
            refine sx_goto (p1 := 5) (tg := 5) dX12_likely_103 rfl rfl ?_
            refine sx_drop [true, true, true, true, false, true, false, false] (lo1 := [some _, some _, some _, some _, none, some _, none, none]) rfl ?_
            first | exact ih (i + 1) (by omega) | (have h9 := ih (i + 1) (by omega); rw [prodN, zq8] at h9; exact h9)
  refine Ct.of false [some (.ref 39), some (vI q), some (vI fig), none, none, none, none, none] (plainFor_of_name (by decide)) (fun h => by cases h) (Nat.le_of_ble_eq_true rfl) (fun _ => rfl) sx_isl ?_
  refine sx_lconst (y := 1) (p1 := 1) dX12_likely_0 rfl (by decide) ?_
  refine sx_lstore_n (lo1 := [some _, some _, some _, some _, none, none, none, none]) (p1 := 2) dX12_likely_1 rfl (by decide) rfl ?_
  refine sx_iconst (p1 := 3) dX12_likely_2 rfl ?_
  refine sx_istore (lo1 := [some _, some _, some _, some _, none, some _, none, none]) (p1 := 5) dX12_likely_3 rfl (by decide) rfl ?_
  exact key _ 0 (Nat.zero_add _)
set_option maxRecDepth 20000 in
theorem c_X12_looseOf {X : sx_X} {S : St} {q : Int} (hV : okV (mV S)) (hT : 0 ≤ S.1 39 ∧ S.1 39 ≤ 8) (hA : ∀ i, -2147483648 ≤ S.2 54 i ∧ S.2 54 i ≤ 2147483647) (hq : -2147483648 ≤ q ∧ q ≤ 2147483647) : Ct X yX12_looseOf cX12_looseOf 8 (some .int) 3 0 0 [.ref 39, vI q] (hp S) (sx_is (some (vI (mLb (mV S) (fun i => S.2 54 (3 * i)) (fun i => S.2 54 (3 * i + 1)) (fun i => S.2 54 (3 * i + 2)) (S.1 39).toNat q 9).1)) (hp S)) := by
  have key : ∀ (n i : Nat), i + n = 9 → Rn X RX12 false cX12_looseOf 8 3 0 0 (some .int) 7 [some (.ref 39), some (vI q), some (vI (mLb (mV S) (fun i => S.2 54 (3 * i)) (fun i => S.2 54 (3 * i + 1)) (fun i => S.2 54 (3 * i + 2)) (S.1 39).toNat q i).1), some (vJ (mLb (mV S) (fun i => S.2 54 (3 * i)) (fun i => S.2 54 (3 * i + 1)) (fun i => S.2 54 (3 * i + 2)) (S.1 39).toNat q i).2), none, some (vI ((i : Int) + 1)), none, none] [] (hp S) 0 0 (sx_is (some (vI (mLb (mV S) (fun i => S.2 54 (3 * i)) (fun i => S.2 54 (3 * i + 1)) (fun i => S.2 54 (3 * i + 2)) (S.1 39).toNat q 9).1)) (hp S)) := by
    intro n
    induction n with
    | zero =>
      intro i hi 
      rw [Nat.add_zero] at hi
      subst hi
      refine sx_iload (p1 := 9) dX12_looseOf_7 rfl rfl ?_
      refine sx_bipush (p1 := 11) dX12_looseOf_9 rfl (by decide) ?_
      refine sx_icmp_ge (p1 := 14) (tg := 57) dX12_looseOf_11 rfl rfl (by omega) (by omega) (fun q11 => ?_) (fun q11 => absurd q11 (by omega))
      refine sx_iload_n (p1 := 58) dX12_looseOf_57 rfl rfl ?_
      exact sx_iret dX12_looseOf_58 rfl (sx_ri (by first | rfl | omega) (by rfl))
    | succ n ih =>
      intro i hi 
      have m1 := mLb_b (mV S) (fun i => S.2 54 (3 * i)) (fun i => S.2 54 (3 * i + 1)) (fun i => S.2 54 (3 * i + 2)) (n := (S.1 39).toNat) (by omega) q i
      have m2 := mLik_8 (mV S) (fun i => S.2 54 (3 * i)) (fun i => S.2 54 (3 * i + 1)) (fun i => S.2 54 (3 * i + 2)) ((i : Int) + 1) q (n := (S.1 39).toNat) (by omega)
      refine sx_iload (p1 := 9) dX12_looseOf_7 rfl rfl ?_
      refine sx_bipush (p1 := 11) dX12_looseOf_9 rfl (by decide) ?_
      refine sx_icmp_ge (p1 := 14) (tg := 57) dX12_looseOf_11 rfl rfl (by omega) (by omega) (fun q11 => absurd q11 (by omega)) (fun q11 => ?_)
      refine sx_aload_n (p1 := 15) dX12_looseOf_14 rfl rfl ?_
      refine sx_iload_n (p1 := 16) dX12_looseOf_15 rfl rfl ?_
      refine sx_iload (p1 := 18) dX12_looseOf_16 rfl rfl ?_
      refine sx_callVr (p1 := 21) (As := [_, _]) (k1 := 0) (n1 := 0) dX12_looseOf_18 rfl rfl (c_X12_likely hV hT hA (by omega) hq) mt_X12_likely ml_X12_280 (hp_c39 _) rfl rfl (Nat.le_of_ble_eq_true rfl) rfl (Nat.le_of_ble_eq_true rfl) rfl rfl (Nat.le_of_ble_eq_true rfl) (Nat.le_of_ble_eq_true rfl) ?_
      refine sx_lstore (lo1 := [some _, some _, some _, some _, none, some _, some _, none]) (p1 := 23) dX12_looseOf_21 rfl (by decide) rfl ?_
      refine sx_lload (p1 := 25) dX12_looseOf_23 rfl rfl ?_
      refine sx_lload_n (p1 := 26) dX12_looseOf_25 rfl rfl ?_
      refine sx_lcmp_le (p2 := 0) (p1 := 30) (tg := 35) dX12_looseOf_26 dX12_looseOf_27 rfl rfl (by omega) (by omega) (fun q26 => ?_) (fun q26 => ?_)
      · have zq4 : (mLb (mV S) (fun i => S.2 54 (3 * i)) (fun i => S.2 54 (3 * i + 1)) (fun i => S.2 54 (3 * i + 2)) (S.1 39).toNat q (i + 1)) = (mLb (mV S) (fun i => S.2 54 (3 * i)) (fun i => S.2 54 (3 * i + 1)) (fun i => S.2 54 (3 * i + 2)) (S.1 39).toNat q i) := if_neg (by omega)
        refine sx_iload_n (p1 := 36) dX12_looseOf_35 rfl rfl ?_
        refine sx_istore_n (lo1 := [some _, some _, some _, some _, none, some _, some _, none]) (p1 := 37) dX12_looseOf_36 rfl (by decide) rfl ?_
        refine sx_lload (p1 := 39) dX12_looseOf_37 rfl rfl ?_
        refine sx_lload_n (p1 := 40) dX12_looseOf_39 rfl rfl ?_
        refine sx_lcmp_le (p2 := 0) (p1 := 44) (tg := 49) dX12_looseOf_40 dX12_looseOf_41 rfl rfl (by omega) (by omega) (fun q40 => ?_) (fun q40 => absurd q40 (by omega))
        refine sx_lload_n (p1 := 50) dX12_looseOf_49 rfl rfl ?_
        refine sx_lstore_n (lo1 := [some _, some _, some _, some _, none, some _, some _, none]) (p1 := 51) dX12_looseOf_50 rfl (by decide) rfl ?_
        refine sx_iinc (lo1 := [some _, some _, some _, some _, none, some _, some _, none]) (p1 := 54) dX12_looseOf_51 rfl (by decide) rfl rfl ?_
        refine sx_goto (p1 := 7) (tg := 7) dX12_looseOf_54 rfl rfl ?_
        refine sx_drop [true, true, true, true, false, true, false, false] (lo1 := [some _, some _, some _, some _, none, some _, none, none]) rfl ?_
        have h9 := ih (i + 1) (by omega)
        rw [zq4] at h9
        exact h9
      · have zq4 : (mLb (mV S) (fun i => S.2 54 (3 * i)) (fun i => S.2 54 (3 * i + 1)) (fun i => S.2 54 (3 * i + 2)) (S.1 39).toNat q (i + 1)) = ((i : Int) + 1, mLik (mV S) (fun i => S.2 54 (3 * i)) (fun i => S.2 54 (3 * i + 1)) (fun i => S.2 54 (3 * i + 2)) (S.1 39).toNat ((i : Int) + 1) q) := if_pos (by omega)
        refine sx_iload (p1 := 32) dX12_looseOf_30 rfl rfl ?_
        refine sx_goto (p1 := 36) (tg := 36) dX12_looseOf_32 rfl rfl ?_
        refine sx_istore_n (lo1 := [some _, some _, some _, some _, none, some _, some _, none]) (p1 := 37) dX12_looseOf_36 rfl (by decide) rfl ?_
        refine sx_lload (p1 := 39) dX12_looseOf_37 rfl rfl ?_
        refine sx_lload_n (p1 := 40) dX12_looseOf_39 rfl rfl ?_
        refine sx_lcmp_le (p2 := 0) (p1 := 44) (tg := 49) dX12_looseOf_40 dX12_looseOf_41 rfl rfl (by omega) (by omega) (fun q40 => absurd q40 (by omega)) (fun q40 => ?_)
        refine sx_lload (p1 := 46) dX12_looseOf_44 rfl rfl ?_
        refine sx_goto (p1 := 50) (tg := 50) dX12_looseOf_46 rfl rfl ?_
        refine sx_lstore_n (lo1 := [some _, some _, some _, some _, none, some _, some _, none]) (p1 := 51) dX12_looseOf_50 rfl (by decide) rfl ?_
        refine sx_iinc (lo1 := [some _, some _, some _, some _, none, some _, some _, none]) (p1 := 54) dX12_looseOf_51 rfl (by decide) rfl rfl ?_
        refine sx_goto (p1 := 7) (tg := 7) dX12_looseOf_54 rfl rfl ?_
        refine sx_drop [true, true, true, true, false, true, false, false] (lo1 := [some _, some _, some _, some _, none, some _, none, none]) rfl ?_
        have h9 := ih (i + 1) (by omega)
        rw [zq4] at h9
        exact h9
  refine Ct.of false [some (.ref 39), some (vI q), none, none, none, none, none, none] (plainFor_of_name (by decide)) (fun h => by cases h) (Nat.le_of_ble_eq_true rfl) (fun _ => rfl) sx_isl ?_
  refine sx_iconst (p1 := 1) dX12_looseOf_0 rfl ?_
  refine sx_istore_n (lo1 := [some _, some _, some _, none, none, none, none, none]) (p1 := 2) dX12_looseOf_1 rfl (by decide) rfl ?_
  refine sx_lconst (y := 0) (p1 := 3) dX12_looseOf_2 rfl (by decide) ?_
  refine sx_lstore_n (lo1 := [some _, some _, some _, some _, none, none, none, none]) (p1 := 4) dX12_looseOf_3 rfl (by decide) rfl ?_
  refine sx_iconst (p1 := 5) dX12_looseOf_4 rfl ?_
  refine sx_istore (lo1 := [some _, some _, some _, some _, none, some _, none, none]) (p1 := 7) dX12_looseOf_5 rfl (by decide) rfl ?_
  exact key 9 0 rfl
