def bitZ (b w : Nat) : Int := ((b / 2 ^ w % 2 : Nat) : Int)
theorem bit_ok : ∀ b : Nat, b < 64 → ∀ w : Nat, w < 6 → sx_and (sx_shr b w) 1 = bitZ b w := by decide +kernel
theorem bitZ_b (b w : Nat) : 0 ≤ bitZ b w ∧ bitZ b w ≤ 1 := by
  unfold bitZ
  omega
def pop6 (b : Nat) : Nat := b % 2 + b / 2 % 2 + b / 4 % 2 + b / 8 % 2 + b / 16 % 2 + b / 32 % 2
theorem shl_ok : ∀ w : Nat, w < 7 → sx_shl 1 w = ((2 ^ w : Nat) : Int) := by decide +kernel
theorem shl_I {x : Int} (h : 0 ≤ x ∧ x ≤ 6) : sx_shl 1 x = ((2 ^ x.toNat : Nat) : Int) := by
  have h1 := shl_ok x.toNat (by omega)
  rwa [Int.toNat_of_nonneg h.1] at h1
theorem pow_b {x : Int} (h : 0 ≤ x ∧ x ≤ 6) : 1 ≤ 2 ^ x.toNat ∧ 2 ^ x.toNat ≤ 64 := by
  have h1 : ∀ n, n < 7 → 1 ≤ 2 ^ n ∧ 2 ^ n ≤ 64 := by decide
  exact h1 _ (by omega)
def mHelmT (V : Vw) (gap : Int) (bits t : Nat) : Int := mTo V t (bitZ bits t) gap
def mHelm (V : Vw) (gap : Int) (bits : Nat) : Int := sumN (V.1 1).toNat (mHelmT V gap bits)
theorem mHelm_b {V : Vw} (hV : okV V) (gap : Int) (bits : Nat) : 0 ≤ mHelm V gap bits ∧ mHelm V gap bits ≤ 1200000 := by
  have h1 := hV.2.1
  have h := sumN_le (f := mHelmT V gap bits) (b := 200000) (V.1 1).toNat (fun i hi => mTo_b hV (by omega) _ _)
  unfold mHelm
  omega
/-- the best so far, before the bits b: which, and how much -/
def mHb (V : Vw) (gap k : Int) : Nat → Int × Int
  | 0 => (0, 9223372036854775807)
  | b + 1 => if (pop6 b : Int) = k ∧ mHelm V gap b < (mHb V gap k b).2 then ((b : Int), mHelm V gap b) else mHb V gap k b
theorem mHb_b {V : Vw} (hV : okV V) (gap k : Int) : ∀ b : Nat, 0 ≤ (mHb V gap k b).2 ∧ (mHb V gap k b).2 ≤ 9223372036854775807
  | 0 => by simp [mHb]
  | b + 1 => by
    have h1 := mHb_b hV gap k b
    have h2 := mHelm_b hV gap b
    rw [mHb]
    split
    · show 0 ≤ mHelm V gap b ∧ _
      omega
    · exact h1
theorem mHb_c {V : Vw} (gap k : Int) : ∀ b : Nat, 0 ≤ (mHb V gap k b).1 ∧ (mHb V gap k b).1 ≤ b
  | 0 => by simp [mHb]
  | b + 1 => by
    have h1 := mHb_c (V := V) gap k b
    rw [mHb]
    split
    · show 0 ≤ (b : Int) ∧ (b : Int) ≤ _
      omega
    · omega
/-- the row of harms -/
def hmF (V : Vw) (gap : Int) (f : Nat → Int) (i j : Nat) : Int := if j < i then (if ((j / 2 : Nat) : Int) < V.1 1 then mTo V ((j / 2 : Nat) : Int) ((j % 2 : Nat) : Int) gap else 0) else f j
theorem hmF_0 (V : Vw) (gap : Int) (f : Nat → Int) : hmF V gap f 0 = f := by
  funext j
  unfold hmF
  rw [if_neg (by omega)]
theorem hmF_s (V : Vw) (gap : Int) (f : Nat → Int) (i : Nat) {x : Int} (hx : x = if ((i / 2 : Nat) : Int) < V.1 1 then mTo V ((i / 2 : Nat) : Int) ((i % 2 : Nat) : Int) gap else 0) : sx_u (hmF V gap f i) i x = hmF V gap f (i + 1) := by
  funext j
  unfold sx_u hmF
  by_cases h : j = i
  · subst h
    rw [if_pos rfl, if_pos (by omega), hx]
  · rw [if_neg h]
    by_cases h2 : j < i
    · rw [if_pos h2, if_pos (show j < i + 1 by omega)]
    · rw [if_neg h2, if_neg (show ¬ j < i + 1 by omega)]
theorem hmF_at {V : Vw} (hV : okV V) (gap : Int) (f : Nat → Int) {t b : Nat} (ht : (t : Int) < V.1 1) : hmF V gap f 12 (2 * (t : Int) + bitZ b t).toNat = mHelmT V gap b t := by
  have h1 := hV.2.1
  have h2 := bitZ_b b t
  unfold hmF mHelmT
  rw [if_pos (by omega), if_pos (by omega), show (2 * (t : Int) + bitZ b t).toNat / 2 = t by omega, show ((2 * (t : Int) + bitZ b t).toNat % 2 : Nat) = (bitZ b t).toNat by omega, Int.toNat_of_nonneg h2.1]
theorem pop_ok : ∀ b : Nat, b < 64 → sx_and (sx_and (sx_and ((b : Int) - sx_and (sx_ush ((b : Int)) 1) 1431655765) 858993459 + sx_and (sx_ush ((b : Int) - sx_and (sx_ush ((b : Int)) 1) 1431655765) 2) 858993459 + sx_ush (sx_and ((b : Int) - sx_and (sx_ush ((b : Int)) 1) 1431655765) 858993459 + sx_and (sx_ush ((b : Int) - sx_and (sx_ush ((b : Int)) 1) 1431655765) 2) 858993459) 4) 252645135 + sx_ush (sx_and (sx_and ((b : Int) - sx_and (sx_ush ((b : Int)) 1) 1431655765) 858993459 + sx_and (sx_ush ((b : Int) - sx_and (sx_ush ((b : Int)) 1) 1431655765) 2) 858993459 + sx_ush (sx_and ((b : Int) - sx_and (sx_ush ((b : Int)) 1) 1431655765) 858993459 + sx_and (sx_ush ((b : Int) - sx_and (sx_ush ((b : Int)) 1) 1431655765) 2) 858993459) 4) 252645135) 8 + sx_ush (sx_and (sx_and ((b : Int) - sx_and (sx_ush ((b : Int)) 1) 1431655765) 858993459 + sx_and (sx_ush ((b : Int) - sx_and (sx_ush ((b : Int)) 1) 1431655765) 2) 858993459 + sx_ush (sx_and ((b : Int) - sx_and (sx_ush ((b : Int)) 1) 1431655765) 858993459 + sx_and (sx_ush ((b : Int) - sx_and (sx_ush ((b : Int)) 1) 1431655765) 2) 858993459) 4) 252645135 + sx_ush (sx_and (sx_and ((b : Int) - sx_and (sx_ush ((b : Int)) 1) 1431655765) 858993459 + sx_and (sx_ush ((b : Int) - sx_and (sx_ush ((b : Int)) 1) 1431655765) 2) 858993459 + sx_ush (sx_and ((b : Int) - sx_and (sx_ush ((b : Int)) 1) 1431655765) 858993459 + sx_and (sx_ush ((b : Int) - sx_and (sx_ush ((b : Int)) 1) 1431655765) 2) 858993459) 4) 252645135) 8) 16) 63 = (pop6 b : Int) := by decide +kernel
set_option maxRecDepth 20000 in
theorem c_J6_bitCount_0f7a4 {X : sx_X} {h : sx_H} {b : Nat} (hb : b < 64) : Ct X yJ6_bitCount_0f7a4 cJ6_bitCount_0f7a4 1 (some .int) 0 0 0 [vI (b : Int)] (h) (sx_is (some (vI (pop6 b))) (h)) := by
  refine Ct.of false [some (vI (b : Int))] (by decide +kernel) (fun h => by cases h) (Nat.le_of_ble_eq_true rfl) (fun _ => rfl) (fun _ _ q => by rw [q.2]; rfl) ?_
  refine sx_iload_n (p1 := 1) dJ6_bitCount_0f7a4_0 rfl rfl ?_
  refine sx_iload_n (p1 := 2) dJ6_bitCount_0f7a4_1 rfl rfl ?_
  refine sx_iconst (p1 := 3) dJ6_bitCount_0f7a4_2 rfl ?_
  refine sx_iushr (p1 := 4) dJ6_bitCount_0f7a4_3 rfl ?_
  refine sx_ldcw (z := 1431655765) (p1 := 7) dJ6_bitCount_0f7a4_4 rfl kc_J6_265 (by decide) ?_
  refine sx_iand (p1 := 8) dJ6_bitCount_0f7a4_7 rfl ?_
  refine sx_isub (p1 := 9) dJ6_bitCount_0f7a4_8 rfl ?_
  refine sx_istore_n (lo1 := [some _]) (p1 := 10) dJ6_bitCount_0f7a4_9 rfl (by decide) rfl ?_
  refine sx_iload_n (p1 := 11) dJ6_bitCount_0f7a4_10 rfl rfl ?_
  refine sx_ldcw (z := 858993459) (p1 := 14) dJ6_bitCount_0f7a4_11 rfl kc_J6_266 (by decide) ?_
  refine sx_iand (p1 := 15) dJ6_bitCount_0f7a4_14 rfl ?_
  refine sx_iload_n (p1 := 16) dJ6_bitCount_0f7a4_15 rfl rfl ?_
  refine sx_iconst (p1 := 17) dJ6_bitCount_0f7a4_16 rfl ?_
  refine sx_iushr (p1 := 18) dJ6_bitCount_0f7a4_17 rfl ?_
  refine sx_ldcw (z := 858993459) (p1 := 21) dJ6_bitCount_0f7a4_18 rfl kc_J6_266 (by decide) ?_
  refine sx_iand (p1 := 22) dJ6_bitCount_0f7a4_21 rfl ?_
  refine sx_iadd (p1 := 23) dJ6_bitCount_0f7a4_22 rfl ?_
  refine sx_istore_n (lo1 := [some _]) (p1 := 24) dJ6_bitCount_0f7a4_23 rfl (by decide) rfl ?_
  refine sx_iload_n (p1 := 25) dJ6_bitCount_0f7a4_24 rfl rfl ?_
  refine sx_iload_n (p1 := 26) dJ6_bitCount_0f7a4_25 rfl rfl ?_
  refine sx_iconst (p1 := 27) dJ6_bitCount_0f7a4_26 rfl ?_
  refine sx_iushr (p1 := 28) dJ6_bitCount_0f7a4_27 rfl ?_
  refine sx_iadd (p1 := 29) dJ6_bitCount_0f7a4_28 rfl ?_
  refine sx_ldcw (z := 252645135) (p1 := 32) dJ6_bitCount_0f7a4_29 rfl kc_J6_267 (by decide) ?_
  refine sx_iand (p1 := 33) dJ6_bitCount_0f7a4_32 rfl ?_
  refine sx_istore_n (lo1 := [some _]) (p1 := 34) dJ6_bitCount_0f7a4_33 rfl (by decide) rfl ?_
  refine sx_iload_n (p1 := 35) dJ6_bitCount_0f7a4_34 rfl rfl ?_
  refine sx_iload_n (p1 := 36) dJ6_bitCount_0f7a4_35 rfl rfl ?_
  refine sx_bipush (p1 := 38) dJ6_bitCount_0f7a4_36 rfl (by decide) ?_
  refine sx_iushr (p1 := 39) dJ6_bitCount_0f7a4_38 rfl ?_
  refine sx_iadd (p1 := 40) dJ6_bitCount_0f7a4_39 rfl ?_
  refine sx_istore_n (lo1 := [some _]) (p1 := 41) dJ6_bitCount_0f7a4_40 rfl (by decide) rfl ?_
  refine sx_iload_n (p1 := 42) dJ6_bitCount_0f7a4_41 rfl rfl ?_
  refine sx_iload_n (p1 := 43) dJ6_bitCount_0f7a4_42 rfl rfl ?_
  refine sx_bipush (p1 := 45) dJ6_bitCount_0f7a4_43 rfl (by decide) ?_
  refine sx_iushr (p1 := 46) dJ6_bitCount_0f7a4_45 rfl ?_
  refine sx_iadd (p1 := 47) dJ6_bitCount_0f7a4_46 rfl ?_
  refine sx_istore_n (lo1 := [some _]) (p1 := 48) dJ6_bitCount_0f7a4_47 rfl (by decide) rfl ?_
  refine sx_iload_n (p1 := 49) dJ6_bitCount_0f7a4_48 rfl rfl ?_
  refine sx_bipush (p1 := 51) dJ6_bitCount_0f7a4_49 rfl (by decide) ?_
  refine sx_iand (p1 := 52) dJ6_bitCount_0f7a4_51 rfl ?_
  exact sx_iret dJ6_bitCount_0f7a4_52 rfl ⟨by rw [← pop_ok b hb], rfl⟩
set_option maxRecDepth 20000 in
theorem c_X1_harmWith {X : sx_X} {S : St} {gap : Int} {f0 : Nat → Int} {bits : Nat} (hV : okV (cV S)) (hb : bits < 64) : Ct X yX1_harmWith cX1_harmWith 6 (some .long) 1 0 0 [.ref 22, vI (bits : Int)] (hp (sA S 23 (hmF (cV S) gap f0 12))) (sx_is (some (vJ (mHelm (cV S) gap bits))) (hp (sA S 23 (hmF (cV S) gap f0 12)))) := by
  have b0 : 0 ≤ S.1 2 ∧ S.1 2 ≤ 16 := hV.1
  have b1 : 0 ≤ S.1 4 ∧ S.1 4 ≤ 6 := hV.2.1
  have b2 : 0 ≤ S.1 6 ∧ S.1 6 ≤ 99 := hV.2.2.1
  have b3 : 0 ≤ S.1 7 ∧ S.1 7 ≤ 1 := hV.2.2.2.1
  have b4 : 0 ≤ S.1 8 ∧ S.1 8 ≤ 16 := hV.2.2.2.2.1
  have b5 : 0 ≤ S.1 9 ∧ S.1 9 ≤ 999 := hV.2.2.2.2.2.1
  have b6 : 0 ≤ S.1 10 ∧ S.1 10 ≤ 1999 := hV.2.2.2.2.2.2.1
  have b7 : 0 ≤ S.1 11 ∧ S.1 11 ≤ 16 := hV.2.2.2.2.2.2.2.1
  have bK : ∀ q, 0 ≤ gK S q ∧ gK S q ≤ 3 := hV.2.2.2.2.2.2.2.2.1
  have bL : ∀ q, 0 ≤ gL S q ∧ gL S q ≤ 9 := hV.2.2.2.2.2.2.2.2.2.1
  have bW : ∀ q, 0 ≤ pW S q ∧ pW S q ≤ 9 := hV.2.2.2.2.2.2.2.2.2.2.1
  have bS : ∀ q, 0 ≤ pS S q ∧ pS S q ≤ 9 := hV.2.2.2.2.2.2.2.2.2.2.2.1
  have bH : ∀ q, 0 ≤ pH S q ∧ pH S q ≤ 1 := hV.2.2.2.2.2.2.2.2.2.2.2.2
  have c0 : 0 ≤ (cV S).1 0 ∧ (cV S).1 0 ≤ 16 := b0
  have c1 : 0 ≤ (cV S).1 1 ∧ (cV S).1 1 ≤ 6 := b1
  have c2 : 0 ≤ (cV S).1 2 ∧ (cV S).1 2 ≤ 99 := b2
  have c3 : 0 ≤ (cV S).1 3 ∧ (cV S).1 3 ≤ 1 := b3
  have c4 : 0 ≤ (cV S).1 4 ∧ (cV S).1 4 ≤ 16 := b4
  have c5 : 0 ≤ (cV S).1 5 ∧ (cV S).1 5 ≤ 999 := b5
  have c6 : 0 ≤ (cV S).1 6 ∧ (cV S).1 6 ≤ 1999 := b6
  have c7 : 0 ≤ (cV S).1 7 ∧ (cV S).1 7 ≤ 16 := b7
  have key : ∀ (n i : Nat), i + n = ((cV S).1 1).toNat → Rn X RX1 false cX1_harmWith 6 1 0 0 (some .long) 5 [some (.ref 22), some (vI (bits : Int)), some (vJ (sumN i (mHelmT (cV S) gap bits))), none, some (vI (i : Int)), none] [] (hp (sA S 23 (hmF (cV S) gap f0 12))) 0 0 (sx_is (some (vJ (mHelm (cV S) gap bits))) (hp (sA S 23 (hmF (cV S) gap f0 12)))) := by
    intro n
    induction n with
    | zero =>
      intro i hi 
      rw [Nat.add_zero] at hi
      subst hi
      refine sx_iload (p1 := 7) dX1_harmWith_5 rfl rfl ?_
      refine sx_aload_n (p1 := 8) dX1_harmWith_7 rfl rfl ?_
      refine sx_get (p1 := 11) dX1_harmWith_8 rfl fl_X1_15 (hp_c22 _) rfl ?_
      refine sx_callVr (p1 := 14) (As := []) (k1 := 0) (n1 := 0) dX1_harmWith_11 rfl rfl (v_X5_size (V := cV S) rfl hV) mt_X5_size ml_X1_47 (hp_c10 _) rfl rfl (Nat.le_of_ble_eq_true rfl) rfl (Nat.le_of_ble_eq_true rfl) rfl rfl (Nat.le_of_ble_eq_true rfl) (Nat.le_of_ble_eq_true rfl) ?_
      refine sx_icmp_ge (p1 := 17) (tg := 61) dX1_harmWith_14 rfl rfl (by omega) (by omega) (fun q14 => ?_) (fun q14 => absurd q14 (by omega))
      refine sx_lload_n (p1 := 62) dX1_harmWith_61 rfl rfl ?_
      exact sx_lret dX1_harmWith_62 rfl (sx_rj (by first | rfl | omega) (by rfl))
    | succ n ih =>
      intro i hi 
      have e1 := bit_ok bits hb i (by omega)
      have e2 := bitZ_b bits i
      have e3 := hmF_at hV gap f0 (t := i) (b := bits) (by omega)
      refine sx_iload (p1 := 7) dX1_harmWith_5 rfl rfl ?_
      refine sx_aload_n (p1 := 8) dX1_harmWith_7 rfl rfl ?_
      refine sx_get (p1 := 11) dX1_harmWith_8 rfl fl_X1_15 (hp_c22 _) rfl ?_
      refine sx_callVr (p1 := 14) (As := []) (k1 := 0) (n1 := 0) dX1_harmWith_11 rfl rfl (v_X5_size (V := cV S) rfl hV) mt_X5_size ml_X1_47 (hp_c10 _) rfl rfl (Nat.le_of_ble_eq_true rfl) rfl (Nat.le_of_ble_eq_true rfl) rfl rfl (Nat.le_of_ble_eq_true rfl) (Nat.le_of_ble_eq_true rfl) ?_
      refine sx_icmp_ge (p1 := 17) (tg := 61) dX1_harmWith_14 rfl rfl (by omega) (by omega) (fun q14 => absurd q14 (by omega)) (fun q14 => ?_)
      refine sx_iconst (p1 := 18) dX1_harmWith_17 rfl ?_
      refine sx_iload (p1 := 20) dX1_harmWith_18 rfl rfl ?_
      refine sx_imul (p1 := 21) dX1_harmWith_20 rfl ?_
      refine sx_iload_n (p1 := 22) dX1_harmWith_21 rfl rfl ?_
      refine sx_iload (p1 := 24) dX1_harmWith_22 rfl rfl ?_
      refine sx_ishr (p1 := 25) dX1_harmWith_24 rfl ?_
      refine sx_iconst (p1 := 26) dX1_harmWith_25 rfl ?_
      refine sx_iand (p1 := 27) dX1_harmWith_26 rfl ?_
      rw [e1]
      refine sx_iadd (p1 := 28) dX1_harmWith_27 rfl ?_
      refine sx_istore (lo1 := [some _, some _, some _, none, some _, some _]) (p1 := 30) dX1_harmWith_28 rfl (by decide) rfl ?_
      refine sx_iload (p1 := 32) dX1_harmWith_30 rfl rfl ?_
      refine sx_if_lt (p1 := 35) (tg := 55) dX1_harmWith_32 rfl rfl (by omega) (fun q32 => absurd q32 (by omega)) (fun q32 => ?_)
      refine sx_iload (p1 := 37) dX1_harmWith_35 rfl rfl ?_
      refine sx_aload_n (p1 := 38) dX1_harmWith_37 rfl rfl ?_
      refine sx_get (p1 := 41) dX1_harmWith_38 rfl fl_X1_9 (hp_c22 _) rfl ?_
      refine sx_alen (p1 := 42) dX1_harmWith_41 rfl (hp_c23 _) (fun _ => rfl) ?_
      refine sx_icmp_ge (p1 := 45) (tg := 55) dX1_harmWith_42 rfl rfl (by omega) (by omega) (fun q42 => absurd q42 (by omega)) (fun q42 => ?_)
      refine sx_lload_n (p1 := 46) dX1_harmWith_45 rfl rfl ?_
      refine sx_aload_n (p1 := 47) dX1_harmWith_46 rfl rfl ?_
      refine sx_get (p1 := 50) dX1_harmWith_47 rfl fl_X1_9 (hp_c22 _) rfl ?_
      refine sx_iload (p1 := 52) dX1_harmWith_50 rfl rfl ?_
      refine sx_lald (g := hmF (cV S) gap f0 12) (p1 := 53) dX1_harmWith_52 rfl (hp_c23 _) (by omega) (by decide) ?_
      rw [e3]
      refine sx_ladd (p1 := 54) dX1_harmWith_53 rfl ?_
      refine sx_lstore_n (lo1 := [some _, some _, some _, none, some _, some _]) (p1 := 55) dX1_harmWith_54 rfl (by decide) rfl ?_
      refine sx_iinc (lo1 := [some _, some _, some _, none, some _, some _]) (p1 := 58) dX1_harmWith_55 rfl (by decide) rfl rfl ?_
      refine sx_goto (p1 := 5) (tg := 5) dX1_harmWith_58 rfl rfl ?_
      refine sx_drop [true, true, true, false, true, false] (lo1 := [some _, some _, some _, none, some _, none]) rfl ?_
      exact ih (i + 1) (by omega)
  refine Ct.of false [some (.ref 22), some (vI (bits : Int)), none, none, none, none] (plainFor_of_name (by decide)) (fun h => by cases h) (Nat.le_of_ble_eq_true rfl) (fun _ => rfl) sx_isl ?_
  refine sx_lconst (y := 0) (p1 := 1) dX1_harmWith_0 rfl (by decide) ?_
  refine sx_lstore_n (lo1 := [some _, some _, some _, none, none, none]) (p1 := 2) dX1_harmWith_1 rfl (by decide) rfl ?_
  refine sx_iconst (p1 := 3) dX1_harmWith_2 rfl ?_
  refine sx_istore (lo1 := [some _, some _, some _, none, some _, none]) (p1 := 5) dX1_harmWith_3 rfl (by decide) rfl ?_
  exact key _ 0 (Nat.zero_add _)
set_option maxRecDepth 20000 in
theorem c_X1_search {X : sx_X} {S : St} {k : Int} (hV : okV (cV S)) (hF : okF S) (hk : -2147483648 ≤ k ∧ k ≤ 2147483647) : Ct X yX1_search cX1_search 6 (some .int) 4 0 0 [.ref 22, vI k] (hp S) (sx_is (some (vI (mHb (cV S) (S.1 6) k (2 ^ (S.1 4).toNat)).1)) (hp (sA S 23 (hmF (cV S) (S.1 6) (S.2 23) 12)))) := by
  have b0 : 0 ≤ S.1 2 ∧ S.1 2 ≤ 16 := hV.1
  have b1 : 0 ≤ S.1 4 ∧ S.1 4 ≤ 6 := hV.2.1
  have b2 : 0 ≤ S.1 6 ∧ S.1 6 ≤ 99 := hV.2.2.1
  have b3 : 0 ≤ S.1 7 ∧ S.1 7 ≤ 1 := hV.2.2.2.1
  have b4 : 0 ≤ S.1 8 ∧ S.1 8 ≤ 16 := hV.2.2.2.2.1
  have b5 : 0 ≤ S.1 9 ∧ S.1 9 ≤ 999 := hV.2.2.2.2.2.1
  have b6 : 0 ≤ S.1 10 ∧ S.1 10 ≤ 1999 := hV.2.2.2.2.2.2.1
  have b7 : 0 ≤ S.1 11 ∧ S.1 11 ≤ 16 := hV.2.2.2.2.2.2.2.1
  have bK : ∀ q, 0 ≤ gK S q ∧ gK S q ≤ 3 := hV.2.2.2.2.2.2.2.2.1
  have bL : ∀ q, 0 ≤ gL S q ∧ gL S q ≤ 9 := hV.2.2.2.2.2.2.2.2.2.1
  have bW : ∀ q, 0 ≤ pW S q ∧ pW S q ≤ 9 := hV.2.2.2.2.2.2.2.2.2.2.1
  have bS : ∀ q, 0 ≤ pS S q ∧ pS S q ≤ 9 := hV.2.2.2.2.2.2.2.2.2.2.2.1
  have bH : ∀ q, 0 ≤ pH S q ∧ pH S q ≤ 1 := hV.2.2.2.2.2.2.2.2.2.2.2.2
  have c0 : 0 ≤ (cV S).1 0 ∧ (cV S).1 0 ≤ 16 := b0
  have c1 : 0 ≤ (cV S).1 1 ∧ (cV S).1 1 ≤ 6 := b1
  have c2 : 0 ≤ (cV S).1 2 ∧ (cV S).1 2 ≤ 99 := b2
  have c3 : 0 ≤ (cV S).1 3 ∧ (cV S).1 3 ≤ 1 := b3
  have c4 : 0 ≤ (cV S).1 4 ∧ (cV S).1 4 ≤ 16 := b4
  have c5 : 0 ≤ (cV S).1 5 ∧ (cV S).1 5 ≤ 999 := b5
  have c6 : 0 ≤ (cV S).1 6 ∧ (cV S).1 6 ≤ 1999 := b6
  have c7 : 0 ≤ (cV S).1 7 ∧ (cV S).1 7 ≤ 16 := b7
  have p1 := pow_b b1
  have p2 := shl_I b1
  have bits : ∀ (n i : Nat), i + n = 2 ^ (S.1 4).toNat → Rn X RX1 false cX1_search 6 4 0 0 (some .int) 69 [some (.ref 22), some (vI k), some (vI (mHb (cV S) (S.1 6) k i).1), some (vJ (mHb (cV S) (S.1 6) k i).2), none, some (vI (i : Int))] [] (hp (sA S 23 (hmF (cV S) (S.1 6) (S.2 23) 12))) 0 0 (sx_is (some (vI (mHb (cV S) (S.1 6) k (2 ^ (S.1 4).toNat)).1)) (hp (sA S 23 (hmF (cV S) (S.1 6) (S.2 23) 12)))) := by
    intro n
    induction n with
    | zero =>
      intro i hi 
      rw [Nat.add_zero] at hi
      subst hi
      refine sx_iload (p1 := 71) dX1_search_69 rfl rfl ?_
      refine sx_iconst (p1 := 72) dX1_search_71 rfl ?_
      refine sx_aload_n (p1 := 73) dX1_search_72 rfl rfl ?_
      refine sx_get (p1 := 76) dX1_search_73 rfl fl_X1_15 (hp_c22 _) rfl ?_
      refine sx_callVr (p1 := 79) (As := []) (k1 := 0) (n1 := 0) dX1_search_76 rfl rfl (v_X5_size (V := cV S) rfl hV) mt_X5_size ml_X1_47 (hp_c10 _) rfl rfl (Nat.le_of_ble_eq_true rfl) rfl (Nat.le_of_ble_eq_true rfl) rfl rfl (Nat.le_of_ble_eq_true rfl) (Nat.le_of_ble_eq_true rfl) ?_
      refine sx_ishl (p1 := 80) dX1_search_79 rfl ?_
      rw [show sx_shl 1 ((cV S).1 1) = _ from p2]
      refine sx_icmp_ge (p1 := 83) (tg := 119) dX1_search_80 rfl rfl (by omega) (by omega) (fun q80 => ?_) (fun q80 => absurd q80 (by omega))
      refine sx_iload_n (p1 := 120) dX1_search_119 rfl rfl ?_
      exact sx_iret dX1_search_120 rfl (sx_ri (by first | rfl | omega) (by rfl))
    | succ n ih =>
      intro i hi 
      have hb : i < 64 := by omega
      have e1 := mHb_b hV (S.1 6) k i
      have e2 := mHelm_b hV (S.1 6) i
      have e3 : pop6 i ≤ 6 := by unfold pop6; omega
      refine sx_iload (p1 := 71) dX1_search_69 rfl rfl ?_
      refine sx_iconst (p1 := 72) dX1_search_71 rfl ?_
      refine sx_aload_n (p1 := 73) dX1_search_72 rfl rfl ?_
      refine sx_get (p1 := 76) dX1_search_73 rfl fl_X1_15 (hp_c22 _) rfl ?_
      refine sx_callVr (p1 := 79) (As := []) (k1 := 0) (n1 := 0) dX1_search_76 rfl rfl (v_X5_size (V := cV S) rfl hV) mt_X5_size ml_X1_47 (hp_c10 _) rfl rfl (Nat.le_of_ble_eq_true rfl) rfl (Nat.le_of_ble_eq_true rfl) rfl rfl (Nat.le_of_ble_eq_true rfl) (Nat.le_of_ble_eq_true rfl) ?_
      refine sx_ishl (p1 := 80) dX1_search_79 rfl ?_
      rw [show sx_shl 1 ((cV S).1 1) = _ from p2]
      refine sx_icmp_ge (p1 := 83) (tg := 119) dX1_search_80 rfl rfl (by omega) (by omega) (fun q80 => absurd q80 (by omega)) (fun q80 => ?_)
      refine sx_iload (p1 := 85) dX1_search_83 rfl rfl ?_
      refine sx_callSr (p1 := 88) (As := [_]) (k1 := 0) (n1 := 0) dX1_search_85 rfl rfl (c_J6_bitCount_0f7a4 hb) mt_J6_bitCount_0f7a4 ml_X1_51 (Nat.le_of_ble_eq_true rfl) rfl (Nat.le_of_ble_eq_true rfl) rfl rfl (Nat.le_of_ble_eq_true rfl) (Nat.le_of_ble_eq_true rfl) ?_
      refine sx_iload_n (p1 := 89) dX1_search_88 rfl rfl ?_
      refine sx_icmp_ne (p1 := 92) (tg := 113) dX1_search_89 rfl rfl (by omega) (by omega) (fun q89 => ?_) (fun q89 => ?_)
      · have e4 : mHb (cV S) (S.1 6) k (i + 1) = (mHb (cV S) (S.1 6) k i) := if_neg (fun q => q89 q.1)
        refine sx_iinc (lo1 := [some _, some _, some _, some _, none, some _]) (p1 := 116) dX1_search_113 rfl (by decide) rfl rfl ?_
        refine sx_goto (p1 := 69) (tg := 69) dX1_search_116 rfl rfl ?_
        have h9 := ih (i + 1) (by omega)
        rw [e4] at h9
        exact h9
      · refine sx_aload_n (p1 := 93) dX1_search_92 rfl rfl ?_
        refine sx_iload (p1 := 95) dX1_search_93 rfl rfl ?_
        refine sx_callVr (p1 := 98) (As := [_]) (k1 := 0) (n1 := 0) dX1_search_95 rfl rfl (c_X1_harmWith hV hb) mt_X1_harmWith ml_X1_57 (hp_c22 _) rfl rfl (Nat.le_of_ble_eq_true rfl) rfl (Nat.le_of_ble_eq_true rfl) rfl rfl (Nat.le_of_ble_eq_true rfl) (Nat.le_of_ble_eq_true rfl) ?_
        refine sx_lload_n (p1 := 99) dX1_search_98 rfl rfl ?_
        refine sx_lcmp_ge (p2 := 0) (p1 := 103) (tg := 113) dX1_search_99 dX1_search_100 rfl rfl (by omega) (by omega) (fun q99 => ?_) (fun q99 => ?_)
        · have e4 : mHb (cV S) (S.1 6) k (i + 1) = (mHb (cV S) (S.1 6) k i) := if_neg (fun q => by omega)
          refine sx_iinc (lo1 := [some _, some _, some _, some _, none, some _]) (p1 := 116) dX1_search_113 rfl (by decide) rfl rfl ?_
          refine sx_goto (p1 := 69) (tg := 69) dX1_search_116 rfl rfl ?_
          have h9 := ih (i + 1) (by omega)
          rw [e4] at h9
          exact h9
        · have e4 : mHb (cV S) (S.1 6) k (i + 1) = ((i : Int), mHelm (cV S) (S.1 6) i) := if_pos ⟨q89, q99⟩
          refine sx_aload_n (p1 := 104) dX1_search_103 rfl rfl ?_
          refine sx_iload (p1 := 106) dX1_search_104 rfl rfl ?_
          refine sx_callVr (p1 := 109) (As := [_]) (k1 := 0) (n1 := 0) dX1_search_106 rfl rfl (c_X1_harmWith hV hb) mt_X1_harmWith ml_X1_57 (hp_c22 _) rfl rfl (Nat.le_of_ble_eq_true rfl) rfl (Nat.le_of_ble_eq_true rfl) rfl rfl (Nat.le_of_ble_eq_true rfl) (Nat.le_of_ble_eq_true rfl) ?_
          refine sx_lstore_n (lo1 := [some _, some _, some _, some _, none, some _]) (p1 := 110) dX1_search_109 rfl (by decide) rfl ?_
          refine sx_iload (p1 := 112) dX1_search_110 rfl rfl ?_
          refine sx_istore_n (lo1 := [some _, some _, some _, some _, none, some _]) (p1 := 113) dX1_search_112 rfl (by decide) rfl ?_
          refine sx_iinc (lo1 := [some _, some _, some _, some _, none, some _]) (p1 := 116) dX1_search_113 rfl (by decide) rfl rfl ?_
          refine sx_goto (p1 := 69) (tg := 69) dX1_search_116 rfl rfl ?_
          have h9 := ih (i + 1) (by omega)
          rw [e4] at h9
          exact h9
  have rows : ∀ (n i : Nat), i + n = 12 → Rn X RX1 false cX1_search 6 4 0 0 (some .int) 2 [some (.ref 22), some (vI k), some (vI (i : Int)), none, none, none] [] (hp (sA S 23 (hmF (cV S) (S.1 6) (S.2 23) i))) 0 0 (sx_is (some (vI (mHb (cV S) (S.1 6) k (2 ^ (S.1 4).toNat)).1)) (hp (sA S 23 (hmF (cV S) (S.1 6) (S.2 23) 12)))) := by
    intro n
    induction n with
    | zero =>
      intro i hi 
      rw [Nat.add_zero] at hi
      subst hi
      refine sx_iload_n (p1 := 3) dX1_search_2 rfl rfl ?_
      refine sx_aload_n (p1 := 4) dX1_search_3 rfl rfl ?_
      refine sx_get (p1 := 7) dX1_search_4 rfl fl_X1_9 (hp_c22 _) rfl ?_
      refine sx_alen (p1 := 8) dX1_search_7 rfl (hp_c23 _) (fun _ => rfl) ?_
      refine sx_icmp_ge (p1 := 11) (tg := 60) dX1_search_8 rfl rfl (by omega) (by omega) (fun q8 => ?_) (fun q8 => absurd q8 (by omega))
      refine sx_iconst (p1 := 61) dX1_search_60 rfl ?_
      refine sx_istore_n (lo1 := [some _, some _, some _, none, none, none]) (p1 := 62) dX1_search_61 rfl (by decide) rfl ?_
      refine sx_ldc2 (z := 9223372036854775807) (p1 := 65) dX1_search_62 rfl kc_X1_45 (by decide) ?_
      refine sx_lstore_n (lo1 := [some _, some _, some _, some _, none, none]) (p1 := 66) dX1_search_65 rfl (by decide) rfl ?_
      refine sx_iconst (p1 := 67) dX1_search_66 rfl ?_
      refine sx_istore (lo1 := [some _, some _, some _, some _, none, some _]) (p1 := 69) dX1_search_67 rfl (by decide) rfl ?_
      exact bits _ 0 (Nat.zero_add _)
    | succ n ih =>
      intro i hi 
      refine sx_iload_n (p1 := 3) dX1_search_2 rfl rfl ?_
      refine sx_aload_n (p1 := 4) dX1_search_3 rfl rfl ?_
      refine sx_get (p1 := 7) dX1_search_4 rfl fl_X1_9 (hp_c22 _) rfl ?_
      refine sx_alen (p1 := 8) dX1_search_7 rfl (hp_c23 _) (fun _ => rfl) ?_
      refine sx_icmp_ge (p1 := 11) (tg := 60) dX1_search_8 rfl rfl (by omega) (by omega) (fun q8 => absurd q8 (by omega)) (fun q8 => ?_)
      refine sx_aload_n (p1 := 12) dX1_search_11 rfl rfl ?_
      refine sx_get (p1 := 15) dX1_search_12 rfl fl_X1_9 (hp_c22 _) rfl ?_
      refine sx_iload_n (p1 := 16) dX1_search_15 rfl rfl ?_
      refine sx_aload_n (p1 := 17) dX1_search_16 rfl rfl ?_
      refine sx_get (p1 := 20) dX1_search_17 rfl fl_X1_15 (hp_c22 _) rfl ?_
      refine sx_iload_n (p1 := 21) dX1_search_20 rfl rfl ?_
      refine sx_iconst (p1 := 22) dX1_search_21 rfl ?_
      refine sx_idiv (p1 := 23) dX1_search_22 rfl (by omega) (by omega) ?_
      refine sx_callVr (p1 := 26) (As := [_]) (k1 := 0) (n1 := 0) dX1_search_23 rfl rfl (v_X5_has (V := cV S) rfl hV (by omega)) mt_X5_has ml_X1_27 (hp_c10 _) rfl rfl (Nat.le_of_ble_eq_true rfl) rfl (Nat.le_of_ble_eq_true rfl) rfl rfl (Nat.le_of_ble_eq_true rfl) (Nat.le_of_ble_eq_true rfl) ?_
      refine sx_if_eq (p1 := 29) (tg := 52) dX1_search_26 rfl rfl (by split <;> omega) (fun q26 => ?_) (fun q26 => ?_)
      · have e5 : (0 : Int) = if ((i / 2 : Nat) : Int) < (cV S).1 1 then mTo (cV S) ((i / 2 : Nat) : Int) ((i % 2 : Nat) : Int) (S.1 6) else 0 := by
          rw [if_neg]
          intro h9
          rw [if_pos (by omega)] at q26
          omega
        refine sx_lconst (y := 0) (p1 := 53) dX1_search_52 rfl (by decide) ?_
        refine sx_last (p1 := 54) dX1_search_53 rfl (hp_c23 _) (by omega) (by decide) (hp_a23 _ (i) _) ?_
        refine sx_iinc (lo1 := [some _, some _, some _, none, none, none]) (p1 := 57) dX1_search_54 rfl (by decide) rfl rfl ?_
        refine sx_goto (p1 := 2) (tg := 2) dX1_search_57 rfl rfl ?_
        have h9 := ih (i + 1) (by omega)
        rw [← hmF_s _ _ _ i e5, ← sa_sA] at h9
        exact h9
      · have e6 : ((i / 2 : Nat) : Int) < (cV S).1 1 := by
          apply Decidable.byContradiction
          intro h9
          rw [if_neg (by omega)] at q26
          omega
        have e5 : mTo (cV S) ((i / 2 : Nat) : Int) ((i % 2 : Nat) : Int) (S.1 6) = if ((i / 2 : Nat) : Int) < (cV S).1 1 then mTo (cV S) ((i / 2 : Nat) : Int) ((i % 2 : Nat) : Int) (S.1 6) else 0 := (if_pos e6).symm
        refine sx_aload_n (p1 := 30) dX1_search_29 rfl rfl ?_
        refine sx_get (p1 := 33) dX1_search_30 rfl fl_X1_23 (hp_c22 _) rfl ?_
        refine sx_iload_n (p1 := 34) dX1_search_33 rfl rfl ?_
        refine sx_iconst (p1 := 35) dX1_search_34 rfl ?_
        refine sx_idiv (p1 := 36) dX1_search_35 rfl (by omega) (by omega) ?_
        refine sx_iload_n (p1 := 37) dX1_search_36 rfl rfl ?_
        refine sx_iconst (p1 := 38) dX1_search_37 rfl ?_
        refine sx_irem (p1 := 39) dX1_search_38 rfl (by omega) (by omega) ?_
        refine sx_aload_n (p1 := 40) dX1_search_39 rfl rfl ?_
        refine sx_get (p1 := 43) dX1_search_40 rfl fl_X1_19 (hp_c22 _) rfl ?_
        refine sx_get (v := vI (S.1 6)) (p1 := 46) dX1_search_43 rfl fl_X1_33 (hp_c14 _) rfl ?_
        refine sx_callVr (p1 := 49) (As := [_, _, _]) (k1 := 0) (n1 := 0) dX1_search_46 rfl rfl (v_X8_toWalker (V := cV S) rfl hV hF (by omega) (by omega) b2) mt_X8_toWalker ml_X1_39 (hp_c15 _) rfl rfl (Nat.le_of_ble_eq_true rfl) rfl (Nat.le_of_ble_eq_true rfl) rfl rfl (Nat.le_of_ble_eq_true rfl) (Nat.le_of_ble_eq_true rfl) ?_
        refine sx_goto (p1 := 53) (tg := 53) dX1_search_49 rfl rfl ?_
        refine sx_last (p1 := 54) dX1_search_53 rfl (hp_c23 _) (by omega) (by decide) (hp_a23 _ (i) _) ?_
        refine sx_iinc (lo1 := [some _, some _, some _, none, none, none]) (p1 := 57) dX1_search_54 rfl (by decide) rfl rfl ?_
        refine sx_goto (p1 := 2) (tg := 2) dX1_search_57 rfl rfl ?_
        have h9 := ih (i + 1) (by omega)
        rw [← hmF_s _ _ _ i e5, ← sa_sA] at h9
        exact h9
  refine Ct.of false [some (.ref 22), some (vI k), none, none, none, none] (plainFor_of_name (by decide)) (fun h => by cases h) (Nat.le_of_ble_eq_true rfl) (fun _ => rfl) sx_isl ?_
  refine sx_iconst (p1 := 1) dX1_search_0 rfl ?_
  refine sx_istore_n (lo1 := [some _, some _, some _, none, none, none]) (p1 := 2) dX1_search_1 rfl (by decide) rfl ?_
  have h9 := rows 12 0 rfl
  rw [hmF_0, sA_self] at h9
  exact h9
