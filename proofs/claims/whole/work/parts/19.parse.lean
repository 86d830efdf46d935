def kdOf (b : Int) : Int := if b = 46 then 0 else if b = 115 then 1 else if b = 110 then 2 else if b = 108 then 3 else -1
def figZ (b : Int) : Int := if 48 ≤ b ∧ b ≤ 57 then b - 48 else -1
theorem kdOf_b (b : Int) : -1 ≤ kdOf b ∧ kdOf b ≤ 3 := by
  unfold kdOf
  (repeat' split) <;> omega
theorem figZ_b (b : Int) : -1 ≤ figZ b ∧ figZ b ≤ 9 := by
  unfold figZ
  split <;> omega
/-- how far, how many PARTS, the fault, kinds, LOOSE -/
abbrev G5 : Type := Int × Int × Int × (Nat → Int) × (Nat → Int)
def gStep (B : Int → Int) (n : Int) (g : G5) : G5 :=
  if g.1 < n ∧ g.2.2.1 = -1 then
    (if kdOf (B g.1) = -1 ∨ 16 ≤ g.2.1 then (g.1, g.2.1, g.1, g.2.2.2)
     else if kdOf (B g.1) ≠ 3 then (g.1 + 1, g.2.1 + 1, g.2.2.1, sx_u g.2.2.2.1 g.2.1.toNat (kdOf (B g.1)), sx_u g.2.2.2.2 g.2.1.toNat 0)
     else if figZ (B (g.1 + 1)) < 1 then (g.1, g.2.1, g.1 + 1, g.2.2.2)
     else (g.1 + 2, g.2.1 + 1, g.2.2.1, sx_u g.2.2.2.1 g.2.1.toNat 3, sx_u g.2.2.2.2 g.2.1.toNat (figZ (B (g.1 + 1)))))
  else g
def gIt (B : Int → Int) (n : Int) (K L : Nat → Int) : Nat → G5
  | 0 => (0, 0, -1, K, L)
  | k + 1 => gStep B n (gIt B n K L k)
def gEnd (g : G5) : G5 := if g.2.2.1 = -1 then g else (g.1, 0, g.2.2.1, g.2.2.2)
theorem gIt_b (B : Int → Int) (n : Int) (K L : Nat → Int) : ∀ k : Nat, (0 ≤ (gIt B n K L k).1 ∧ (gIt B n K L k).1 ≤ 2 * k) ∧ (0 ≤ (gIt B n K L k).2.1 ∧ (gIt B n K L k).2.1 ≤ 16) ∧ -1 ≤ (gIt B n K L k).2.2.1 ∧ (gIt B n K L k).2.2.1 ≤ 2 * k
  | 0 => by
    simp only [gIt]
    omega
  | k + 1 => by
    have h := gIt_b B n K L k
    rw [gIt]
    unfold gStep
    (repeat' split) <;> (try simp only) <;> omega
theorem gIt_fix (B : Int → Int) (n : Int) (K L : Nat → Int) {k : Nat} (h : ¬ ((gIt B n K L k).1 < n ∧ (gIt B n K L k).2.2.1 = -1)) : ∀ j : Nat, k ≤ j → gIt B n K L j = gIt B n K L k
  | 0, h1 => by rw [show k = 0 by omega]
  | j + 1, h1 => by
    by_cases e : k = j + 1
    · rw [e]
    · rw [gIt, gIt_fix B n K L h j (by omega)]
      unfold gStep
      rw [if_neg h]
def gS (S : St) (g : G5) : St := si (si (sA (sA S 8 g.2.2.2.1) 9 g.2.2.2.2) 2 g.2.1) 3 g.2.2.1
theorem gS_f (S : St) (a p f x : Int) (K L : Nat → Int) : si (gS S (a, p, f, K, L)) 3 x = gS S (a, p, x, K, L) := by
  refine Prod.ext ?_ rfl
  funext b
  simp only [gS, si, sx_u]
  by_cases h1 : b = 3 <;> simp [h1]
theorem gS_p (S : St) (a p f x : Int) (K L : Nat → Int) : si (gS S (a, p, f, K, L)) 2 x = gS S (a, x, f, K, L) := by
  refine Prod.ext ?_ rfl
  funext b
  simp only [gS, si, sx_u]
  by_cases h1 : b = 2
  · subst h1
    simp
  · by_cases h2 : b = 3 <;> simp [h1, h2]
theorem gS_at (S : St) (a a' p f : Int) (K L : Nat → Int) : gS S (a, p, f, K, L) = gS S (a', p, f, K, L) := rfl
theorem gS_add (S : St) (a p f x y z : Int) (i : Nat) (K L : Nat → Int) : si (sa (sa (gS S (a, p, f, K, L)) 8 i x) 9 i y) 2 z = gS S (a, z, f, sx_u K i x, sx_u L i y) := by
  refine Prod.ext ?_ ?_
  · funext b
    simp only [gS, si, sa, sA, sx_u]
    by_cases h1 : b = 2
    · subst h1
      simp
    · by_cases h2 : b = 3 <;> simp [h1, h2]
  · funext b
    simp only [gS, si, sa, sA, sx_u]
    by_cases h1 : b = 9
    · subst h1
      simp
    · by_cases h2 : b = 8
      · subst h2
        simp
      · simp [h1, h2]
theorem gS_0 (S : St) : si (si S 2 0) 3 (-1) = gS S (0, 0, -1, S.2 8, S.2 9) := by
  refine Prod.ext rfl ?_
  funext b
  simp only [gS, si, sA, sx_u]
  by_cases h1 : b = 9
  · subst h1
    simp
  · by_cases h2 : b = 8 <;> simp [h1, h2]
set_option maxRecDepth 20000 in
theorem c_X0_kindOf {X : sx_X} {S : St} {b : Int} (hb : -2147483648 ≤ b ∧ b ≤ 2147483647) : Ct X yX0_kindOf cX0_kindOf 1 (some .int) 0 0 0 [vI b] (hp S) (sx_is (some (vI (kdOf b))) (hp S)) := by
  refine Ct.of false [some (vI b)] (plainFor_of_name (by decide)) (fun h => by cases h) (Nat.le_of_ble_eq_true rfl) (fun _ => rfl) sx_isl ?_
  refine sx_iload_n (p1 := 1) dX0_kindOf_0 rfl rfl ?_
  by_cases k46 : b = 46
  · subst k46
    refine sx_lsw (p1 := 44) (tg := 44) dX0_kindOf_1 (by decide) (by decide) rfl rfl rfl ?_
    refine sx_iconst (p1 := 45) dX0_kindOf_44 rfl ?_
    exact sx_iret dX0_kindOf_45 rfl (sx_ri (by rfl) rfl)
  by_cases k115 : b = 115
  · subst k115
    refine sx_lsw (p1 := 46) (tg := 46) dX0_kindOf_1 (by decide) (by decide) rfl rfl rfl ?_
    refine sx_iconst (p1 := 47) dX0_kindOf_46 rfl ?_
    exact sx_iret dX0_kindOf_47 rfl (sx_ri (by rfl) rfl)
  by_cases k110 : b = 110
  · subst k110
    refine sx_lsw (p1 := 48) (tg := 48) dX0_kindOf_1 (by decide) (by decide) rfl rfl rfl ?_
    refine sx_iconst (p1 := 49) dX0_kindOf_48 rfl ?_
    exact sx_iret dX0_kindOf_49 rfl (sx_ri (by rfl) rfl)
  by_cases k108 : b = 108
  · subst k108
    refine sx_lsw (p1 := 50) (tg := 50) dX0_kindOf_1 (by decide) (by decide) rfl rfl rfl ?_
    refine sx_iconst (p1 := 51) dX0_kindOf_50 rfl ?_
    exact sx_iret dX0_kindOf_51 rfl (sx_ri (by rfl) rfl)
  refine sx_lsw (p1 := 52) (tg := 52) (off := 51) dX0_kindOf_1 (by omega) (by decide) (by rw [Op.lookupswitch.offset_cons, if_neg (by omega), Op.lookupswitch.offset_cons, if_neg (by omega), Op.lookupswitch.offset_cons, if_neg (by omega), Op.lookupswitch.offset_cons, if_neg (by omega)]; rfl) rfl rfl ?_
  refine sx_iconst (p1 := 53) dX0_kindOf_52 rfl ?_
  exact sx_iret dX0_kindOf_53 rfl (sx_ri (by unfold kdOf; rw [if_neg k46, if_neg k115, if_neg k110, if_neg k108]) rfl)
set_option maxRecDepth 20000 in
theorem c_X0_add {X : sx_X} {S : St} {i j : Int} (b0 : 0 ≤ S.1 2 ∧ S.1 2 < 16) : Ct X yX0_add cX0_add 3 none 0 0 0 [.ref 7, vI i, vI j] (hp S) (sx_is none (hp (si (sa (sa S 8 (S.1 2).toNat i) 9 (S.1 2).toNat j) 2 (S.1 2 + 1)))) := by
  refine Ct.of false [some (.ref 7), some (vI i), some (vI j)] (plainFor_of_name (by decide)) (fun h => by cases h) (Nat.le_of_ble_eq_true rfl) (fun _ => rfl) sx_isl ?_
  refine sx_aload_n (p1 := 1) dX0_add_0 rfl rfl ?_
  refine sx_get (v := vI (S.1 2)) (p1 := 4) dX0_add_1 rfl fl_X0_22 (hp_c7 _) rfl ?_
  refine sx_if_lt (p1 := 7) (tg := 61) dX0_add_4 rfl rfl (by omega) (fun q4 => absurd q4 (by omega)) (fun q4 => ?_)
  refine sx_aload_n (p1 := 8) dX0_add_7 rfl rfl ?_
  refine sx_get (v := vI (S.1 2)) (p1 := 11) dX0_add_8 rfl fl_X0_22 (hp_c7 _) rfl ?_
  refine sx_aload_n (p1 := 12) dX0_add_11 rfl rfl ?_
  refine sx_get (p1 := 15) dX0_add_12 rfl fl_X0_9 (hp_c7 _) rfl ?_
  refine sx_alen (p1 := 16) dX0_add_15 rfl (hp_c8 _) (fun _ => rfl) ?_
  refine sx_icmp_ge (p1 := 19) (tg := 61) dX0_add_16 rfl rfl (by omega) (by omega) (fun q16 => absurd q16 (by omega)) (fun q16 => ?_)
  refine sx_aload_n (p1 := 20) dX0_add_19 rfl rfl ?_
  refine sx_get (v := vI (S.1 2)) (p1 := 23) dX0_add_20 rfl fl_X0_22 (hp_c7 _) rfl ?_
  refine sx_aload_n (p1 := 24) dX0_add_23 rfl rfl ?_
  refine sx_get (p1 := 27) dX0_add_24 rfl fl_X0_15 (hp_c7 _) rfl ?_
  refine sx_alen (p1 := 28) dX0_add_27 rfl (hp_c9 _) (fun _ => rfl) ?_
  refine sx_icmp_ge (p1 := 31) (tg := 61) dX0_add_28 rfl rfl (by omega) (by omega) (fun q28 => absurd q28 (by omega)) (fun q28 => ?_)
  refine sx_aload_n (p1 := 32) dX0_add_31 rfl rfl ?_
  refine sx_get (p1 := 35) dX0_add_32 rfl fl_X0_9 (hp_c7 _) rfl ?_
  refine sx_aload_n (p1 := 36) dX0_add_35 rfl rfl ?_
  refine sx_get (v := vI (S.1 2)) (p1 := 39) dX0_add_36 rfl fl_X0_22 (hp_c7 _) rfl ?_
  refine sx_iload_n (p1 := 40) dX0_add_39 rfl rfl ?_
  refine sx_iast (p1 := 41) dX0_add_40 rfl (hp_c8 _) (by omega) (by decide) (hp_a8 _ _ _) ?_
  refine sx_aload_n (p1 := 42) dX0_add_41 rfl rfl ?_
  refine sx_get (p1 := 45) dX0_add_42 rfl fl_X0_15 (hp_c7 _) rfl ?_
  refine sx_aload_n (p1 := 46) dX0_add_45 rfl rfl ?_
  refine sx_get (v := vI (S.1 2)) (p1 := 49) dX0_add_46 rfl fl_X0_22 (hp_c7 _) rfl ?_
  refine sx_iload_n (p1 := 50) dX0_add_49 rfl rfl ?_
  refine sx_iast (p1 := 51) dX0_add_50 rfl (hp_c9 _) (by omega) (by decide) (hp_a9 _ _ _) ?_
  refine sx_aload_n (p1 := 52) dX0_add_51 rfl rfl ?_
  refine sx_dup (p1 := 53) dX0_add_52 rfl rfl ?_
  refine sx_get (v := vI (S.1 2)) (p1 := 56) dX0_add_53 rfl fl_X0_22 (hp_c7 _) rfl ?_
  refine sx_iconst (p1 := 57) dX0_add_56 rfl ?_
  refine sx_iadd (p1 := 58) dX0_add_57 rfl ?_
  refine sx_put (p1 := 61) dX0_add_58 rfl fl_X0_22 (hp_c7 _) (Nat.le_of_ble_eq_true rfl) (fun _ => rfl) (fun _ => rfl) (hp_s2 _ _) ?_
  exact sx_vret dX0_add_61 rfl (sx_rv (by rfl))
theorem gl_len {X : sx_X} {S : St} {g : G5} (hl : 0 ≤ S.1 0 ∧ S.1 0 ≤ 32) : Ct X yX10_length cX10_length 1 (some .int) 0 0 0 [.ref 3] (hp (gS S g)) (sx_is (some (vI (S.1 0))) (hp (gS S g))) := c_X10_length (S := gS S g) (t := 0) (by decide) hl
theorem gl_byte {X : sx_X} {S : St} {g : G5} {i : Int} (hl : 0 ≤ S.1 0 ∧ S.1 0 ≤ 32) (hi : -2147483648 ≤ i ∧ i ≤ 2147483647) : Ct X yX10_byteAt cX10_byteAt 2 (some .int) 0 0 0 [.ref 3, vI i] (hp (gS S g)) (sx_is (some (vI (txB S 0 i))) (hp (gS S g))) := c_X10_byteAt (S := gS S g) (t := 0) (by decide) hl hi
theorem gl_fig {X : sx_X} {S : St} {g : G5} {i : Int} (hl : 0 ≤ S.1 0 ∧ S.1 0 ≤ 32) (hi : -2147483648 ≤ i ∧ i ≤ 2147483647) : Ct X yX10_figureAt cX10_figureAt 3 (some .int) 1 0 0 [.ref 3, vI i] (hp (gS S g)) (sx_is (some (vI (figZ (txB S 0 i)))) (hp (gS S g))) := c_X10_figureAt (S := gS S g) (t := 0) (by decide) hl hi
theorem gl_add {X : sx_X} {S : St} {a p f : Int} {K L : Nat → Int} {i j : Int} (b0 : 0 ≤ p ∧ p < 16) : Ct X yX0_add cX0_add 3 none 0 0 0 [.ref 7, vI i, vI j] (hp (gS S (a, p, f, K, L))) (sx_is none (hp (gS S (a, p + 1, f, sx_u K p.toNat i, sx_u L p.toNat j)))) := by
  have h := c_X0_add (X := X) (S := gS S (a, p, f, K, L)) (i := i) (j := j) b0
  rw [gS_add] at h
  exact h
set_option maxRecDepth 20000 in
theorem c_X0_parse {X : sx_X} {S : St} (hl : 0 ≤ S.1 0 ∧ S.1 0 ≤ 32) : Ct X yX0_parse cX0_parse 5 none 2 0 0 [.ref 7, .ref 3] (hp S) (sx_is none (hp (gS S (gEnd (gIt (txB S 0) (S.1 0) (S.2 8) (S.2 9) 32))))) := by
  have fin : ∀ (at_ pa fa x y : Int) (K L : Nat → Int), gIt (txB S 0) (S.1 0) (S.2 8) (S.2 9) 32 = (at_, pa, fa, K, L) → (-1 ≤ fa ∧ fa ≤ 100) → Rn X RX0 false cX0_parse 5 2 0 0 none 130 [some (.ref 7), some (.ref 3), some (vI x), some (vI y), none] [] (hp (gS S (at_, pa, fa, K, L))) 0 0 (sx_is none (hp (gS S (gEnd (gIt (txB S 0) (S.1 0) (S.2 8) (S.2 9) 32))))) := by
    intro at_ pa fa x y K L he hf
    rw [he]
    refine sx_aload_n (p1 := 131) dX0_parse_130 rfl rfl ?_
    refine sx_get (v := vI fa) (p1 := 134) dX0_parse_131 rfl fl_X0_18 (hp_c7 _) rfl ?_
    refine sx_iconst (p1 := 135) dX0_parse_134 rfl ?_
    refine sx_icmp_eq (p1 := 138) (tg := 143) dX0_parse_135 rfl rfl (by omega) (by omega) (fun q135 => ?_) (fun q135 => ?_)
    · rw [show gEnd (at_, pa, fa, K, L) = (at_, pa, fa, K, L) from if_pos q135]
      try rw [gS_p]
      exact sx_vret dX0_parse_143 rfl (sx_rv (by rfl))
    · rw [show gEnd (at_, pa, fa, K, L) = (at_, 0, fa, K, L) from if_neg q135]
      refine sx_aload_n (p1 := 139) dX0_parse_138 rfl rfl ?_
      refine sx_iconst (p1 := 140) dX0_parse_139 rfl ?_
      refine sx_put (p1 := 143) dX0_parse_140 rfl fl_X0_22 (hp_c7 _) (Nat.le_of_ble_eq_true rfl) (fun _ => rfl) (fun _ => rfl) (hp_s2 _ _) ?_
      try rw [gS_p]
      exact sx_vret dX0_parse_143 rfl (sx_rv (by rfl))
  have key : ∀ (n k : Nat), k + n = 32 → ∀ (at_ pa fa : Int) (K L : Nat → Int), gIt (txB S 0) (S.1 0) (S.2 8) (S.2 9) k = (at_, pa, fa, K, L) → Rn X RX0 false cX0_parse 5 2 0 0 none 14 [some (.ref 7), some (.ref 3), some (vI at_), some (vI (k : Int)), none] [] (hp (gS S (at_, pa, fa, K, L))) 0 0 (sx_is none (hp (gS S (gEnd (gIt (txB S 0) (S.1 0) (S.2 8) (S.2 9) 32))))) := by
    intro n
    induction n with
    | zero =>
      intro k hk at_ pa fa K L he
      rw [Nat.add_zero] at hk
      subst hk
      have hb := gIt_b (txB S 0) (S.1 0) (S.2 8) (S.2 9) 32
      rw [he] at hb
      simp only at hb
      refine sx_iload_n (p1 := 15) dX0_parse_14 rfl rfl ?_
      refine sx_bipush (p1 := 17) dX0_parse_15 rfl (by decide) ?_
      refine sx_icmp_ge (p1 := 20) (tg := 130) dX0_parse_17 rfl rfl (by omega) (by omega) (fun q17 => ?_) (fun q17 => absurd q17 (by omega))
      exact fin _ _ _ _ _ _ _ he (by omega)
    | succ n ih =>
      intro k hk at_ pa fa K L he
      have hb := gIt_b (txB S 0) (S.1 0) (S.2 8) (S.2 9) k
      have hfix := @gIt_fix (txB S 0) (S.1 0) (S.2 8) (S.2 9) k
      have hstep : gIt (txB S 0) (S.1 0) (S.2 8) (S.2 9) (k + 1) = gStep (txB S 0) (S.1 0) (at_, pa, fa, K, L) := by rw [gIt, he]
      rw [he] at hb hfix
      simp only at hb hfix
      have kb := kdOf_b (txB S 0 at_)
      have fb := figZ_b (txB S 0 (at_ + 1))
      have tb := txB_b S 0 at_
      refine sx_iload_n (p1 := 15) dX0_parse_14 rfl rfl ?_
      refine sx_bipush (p1 := 17) dX0_parse_15 rfl (by decide) ?_
      refine sx_icmp_ge (p1 := 20) (tg := 130) dX0_parse_17 rfl rfl (by omega) (by omega) (fun q17 => absurd q17 (by omega)) (fun q17 => ?_)
      refine sx_iload_n (p1 := 21) dX0_parse_20 rfl rfl ?_
      refine sx_aload_n (p1 := 22) dX0_parse_21 rfl rfl ?_
      refine sx_callVr (p1 := 25) (As := []) (k1 := 0) (n1 := 0) dX0_parse_22 rfl rfl (gl_len hl) mt_X10_length ml_X0_29 (hp_c3 _) rfl rfl (Nat.le_of_ble_eq_true rfl) rfl (Nat.le_of_ble_eq_true rfl) rfl rfl (Nat.le_of_ble_eq_true rfl) (Nat.le_of_ble_eq_true rfl) ?_
      refine sx_icmp_ge (p1 := 28) (tg := 130) dX0_parse_25 rfl rfl (by omega) (by omega) (fun q25 => ?_) (fun q25 => ?_)
      · exact fin _ _ _ _ _ _ _ (hfix (by omega) 32 (by omega)) (by omega)
      · refine sx_aload_n (p1 := 29) dX0_parse_28 rfl rfl ?_
        refine sx_get (v := vI fa) (p1 := 32) dX0_parse_29 rfl fl_X0_18 (hp_c7 _) rfl ?_
        refine sx_iconst (p1 := 33) dX0_parse_32 rfl ?_
        refine sx_icmp_ne (p1 := 36) (tg := 130) dX0_parse_33 rfl rfl (by omega) (by omega) (fun q33 => ?_) (fun q33 => ?_)
        · exact fin _ _ _ _ _ _ _ (hfix (by omega) 32 (by omega)) (by omega)
        · refine sx_aload_n (p1 := 37) dX0_parse_36 rfl rfl ?_
          refine sx_iload_n (p1 := 38) dX0_parse_37 rfl rfl ?_
          refine sx_callVr (p1 := 41) (As := [_]) (k1 := 0) (n1 := 0) dX0_parse_38 rfl rfl (gl_byte hl (by omega)) mt_X10_byteAt ml_X0_35 (hp_c3 _) rfl rfl (Nat.le_of_ble_eq_true rfl) rfl (Nat.le_of_ble_eq_true rfl) rfl rfl (Nat.le_of_ble_eq_true rfl) (Nat.le_of_ble_eq_true rfl) ?_
          refine sx_callSr (p1 := 44) (As := [_]) (k1 := 0) (n1 := 0) dX0_parse_41 rfl rfl (c_X0_kindOf (by omega)) mt_X0_kindOf ml_X0_38 (Nat.le_of_ble_eq_true rfl) rfl (Nat.le_of_ble_eq_true rfl) rfl rfl (Nat.le_of_ble_eq_true rfl) (Nat.le_of_ble_eq_true rfl) ?_
          refine sx_istore (lo1 := [some _, some _, some _, some _, some _]) (p1 := 46) dX0_parse_44 rfl (by decide) rfl ?_
          refine sx_iload (p1 := 48) dX0_parse_46 rfl rfl ?_
          refine sx_iconst (p1 := 49) dX0_parse_48 rfl ?_
          refine sx_icmp_eq (p1 := 52) (tg := 61) dX0_parse_49 rfl rfl (by omega) (by omega) (fun q49 => ?_) (fun q49 => ?_)
          · unfold gStep at hstep
            simp only at hstep
            rw [if_pos ⟨q25, q33⟩, if_pos (Or.inl q49)] at hstep
            refine sx_aload_n (p1 := 62) dX0_parse_61 rfl rfl ?_
            refine sx_iload_n (p1 := 63) dX0_parse_62 rfl rfl ?_
            refine sx_put (p1 := 66) dX0_parse_63 rfl fl_X0_18 (hp_c7 _) (Nat.le_of_ble_eq_true rfl) (fun _ => rfl) (fun _ => rfl) (hp_s3 _ _) ?_
            rw [gS_f]
            refine sx_goto (p1 := 124) (tg := 124) dX0_parse_66 rfl rfl ?_
            refine sx_iinc (lo1 := [some _, some _, some _, some _, some _]) (p1 := 127) dX0_parse_124 rfl (by decide) rfl rfl ?_
            refine sx_goto (p1 := 14) (tg := 14) dX0_parse_127 rfl rfl ?_
            refine sx_drop [true, true, true, true, false] (lo1 := [some _, some _, some _, some _, none]) rfl ?_
            exact ih (k + 1) (by omega) _ _ _ _ _ hstep
          · refine sx_aload_n (p1 := 53) dX0_parse_52 rfl rfl ?_
            refine sx_get (v := vI pa) (p1 := 56) dX0_parse_53 rfl fl_X0_22 (hp_c7 _) rfl ?_
            refine sx_bipush (p1 := 58) dX0_parse_56 rfl (by decide) ?_
            refine sx_icmp_lt (p1 := 61) (tg := 69) dX0_parse_58 rfl rfl (by omega) (by omega) (fun q58 => ?_) (fun q58 => ?_)
            · refine sx_iload (p1 := 71) dX0_parse_69 rfl rfl ?_
              refine sx_iconst (p1 := 72) dX0_parse_71 rfl ?_
              refine sx_icmp_eq (p1 := 75) (tg := 88) dX0_parse_72 rfl rfl (by omega) (by omega) (fun q72 => ?_) (fun q72 => ?_)
              · refine sx_aload_n (p1 := 89) dX0_parse_88 rfl rfl ?_
                refine sx_iload_n (p1 := 90) dX0_parse_89 rfl rfl ?_
                refine sx_iconst (p1 := 91) dX0_parse_90 rfl ?_
                refine sx_iadd (p1 := 92) dX0_parse_91 rfl ?_
                refine sx_callVr (p1 := 95) (As := [_]) (k1 := 0) (n1 := 0) dX0_parse_92 rfl rfl (gl_fig hl (by omega)) mt_X10_figureAt ml_X0_45 (hp_c3 _) rfl rfl (Nat.le_of_ble_eq_true rfl) rfl (Nat.le_of_ble_eq_true rfl) rfl rfl (Nat.le_of_ble_eq_true rfl) (Nat.le_of_ble_eq_true rfl) ?_
                refine sx_iconst (p1 := 96) dX0_parse_95 rfl ?_
                refine sx_icmp_ge (p1 := 99) (tg := 109) dX0_parse_96 rfl rfl (by omega) (by omega) (fun q96 => ?_) (fun q96 => ?_)
                · unfold gStep at hstep
                  simp only at hstep
                  rw [if_pos ⟨q25, q33⟩, if_neg (by omega), if_neg (by omega), if_neg (by omega)] at hstep
                  refine sx_aload_n (p1 := 110) dX0_parse_109 rfl rfl ?_
                  refine sx_iconst (p1 := 111) dX0_parse_110 rfl ?_
                  refine sx_aload_n (p1 := 112) dX0_parse_111 rfl rfl ?_
                  refine sx_iload_n (p1 := 113) dX0_parse_112 rfl rfl ?_
                  refine sx_iconst (p1 := 114) dX0_parse_113 rfl ?_
                  refine sx_iadd (p1 := 115) dX0_parse_114 rfl ?_
                  refine sx_callVr (p1 := 118) (As := [_]) (k1 := 0) (n1 := 0) dX0_parse_115 rfl rfl (gl_fig hl (by omega)) mt_X10_figureAt ml_X0_45 (hp_c3 _) rfl rfl (Nat.le_of_ble_eq_true rfl) rfl (Nat.le_of_ble_eq_true rfl) rfl rfl (Nat.le_of_ble_eq_true rfl) (Nat.le_of_ble_eq_true rfl) ?_
                  refine sx_callVn (p1 := 121) (As := [_, _]) (k1 := 0) (n1 := 0) dX0_parse_118 rfl rfl (gl_add (by omega)) mt_X0_add ml_X0_41 (hp_c7 _) rfl rfl (Nat.le_of_ble_eq_true rfl) rfl (Nat.le_of_ble_eq_true rfl) rfl rfl (Nat.le_of_ble_eq_true rfl) (Nat.le_of_ble_eq_true rfl) ?_
                  refine sx_iinc (lo1 := [some _, some _, some _, some _, some _]) (p1 := 124) dX0_parse_121 rfl (by decide) rfl rfl ?_
                  refine sx_iinc (lo1 := [some _, some _, some _, some _, some _]) (p1 := 127) dX0_parse_124 rfl (by decide) rfl rfl ?_
                  refine sx_goto (p1 := 14) (tg := 14) dX0_parse_127 rfl rfl ?_
                  refine sx_drop [true, true, true, true, false] (lo1 := [some _, some _, some _, some _, none]) rfl ?_
                  exact ih (k + 1) (by omega) _ _ _ _ _ hstep
                · unfold gStep at hstep
                  simp only at hstep
                  rw [if_pos ⟨q25, q33⟩, if_neg (by omega), if_neg (by omega), if_pos (by omega)] at hstep
                  refine sx_aload_n (p1 := 100) dX0_parse_99 rfl rfl ?_
                  refine sx_iload_n (p1 := 101) dX0_parse_100 rfl rfl ?_
                  refine sx_iconst (p1 := 102) dX0_parse_101 rfl ?_
                  refine sx_iadd (p1 := 103) dX0_parse_102 rfl ?_
                  refine sx_put (p1 := 106) dX0_parse_103 rfl fl_X0_18 (hp_c7 _) (Nat.le_of_ble_eq_true rfl) (fun _ => rfl) (fun _ => rfl) (hp_s3 _ _) ?_
                  rw [gS_f]
                  refine sx_goto (p1 := 124) (tg := 124) dX0_parse_106 rfl rfl ?_
                  refine sx_iinc (lo1 := [some _, some _, some _, some _, some _]) (p1 := 127) dX0_parse_124 rfl (by decide) rfl rfl ?_
                  refine sx_goto (p1 := 14) (tg := 14) dX0_parse_127 rfl rfl ?_
                  refine sx_drop [true, true, true, true, false] (lo1 := [some _, some _, some _, some _, none]) rfl ?_
                  exact ih (k + 1) (by omega) _ _ _ _ _ hstep
              · unfold gStep at hstep
                simp only at hstep
                rw [if_pos ⟨q25, q33⟩, if_neg (by omega), if_pos (by omega)] at hstep
                refine sx_aload_n (p1 := 76) dX0_parse_75 rfl rfl ?_
                refine sx_iload (p1 := 78) dX0_parse_76 rfl rfl ?_
                refine sx_iconst (p1 := 79) dX0_parse_78 rfl ?_
                refine sx_callVn (p1 := 82) (As := [_, _]) (k1 := 0) (n1 := 0) dX0_parse_79 rfl rfl (gl_add (by omega)) mt_X0_add ml_X0_41 (hp_c7 _) rfl rfl (Nat.le_of_ble_eq_true rfl) rfl (Nat.le_of_ble_eq_true rfl) rfl rfl (Nat.le_of_ble_eq_true rfl) (Nat.le_of_ble_eq_true rfl) ?_
                refine sx_iinc (lo1 := [some _, some _, some _, some _, some _]) (p1 := 85) dX0_parse_82 rfl (by decide) rfl rfl ?_
                refine sx_goto (p1 := 124) (tg := 124) dX0_parse_85 rfl rfl ?_
                refine sx_iinc (lo1 := [some _, some _, some _, some _, some _]) (p1 := 127) dX0_parse_124 rfl (by decide) rfl rfl ?_
                refine sx_goto (p1 := 14) (tg := 14) dX0_parse_127 rfl rfl ?_
                refine sx_drop [true, true, true, true, false] (lo1 := [some _, some _, some _, some _, none]) rfl ?_
                exact ih (k + 1) (by omega) _ _ _ _ _ hstep
            · unfold gStep at hstep
              simp only at hstep
              rw [if_pos ⟨q25, q33⟩, if_pos (Or.inr (by omega))] at hstep
              refine sx_aload_n (p1 := 62) dX0_parse_61 rfl rfl ?_
              refine sx_iload_n (p1 := 63) dX0_parse_62 rfl rfl ?_
              refine sx_put (p1 := 66) dX0_parse_63 rfl fl_X0_18 (hp_c7 _) (Nat.le_of_ble_eq_true rfl) (fun _ => rfl) (fun _ => rfl) (hp_s3 _ _) ?_
              rw [gS_f]
              refine sx_goto (p1 := 124) (tg := 124) dX0_parse_66 rfl rfl ?_
              refine sx_iinc (lo1 := [some _, some _, some _, some _, some _]) (p1 := 127) dX0_parse_124 rfl (by decide) rfl rfl ?_
              refine sx_goto (p1 := 14) (tg := 14) dX0_parse_127 rfl rfl ?_
              refine sx_drop [true, true, true, true, false] (lo1 := [some _, some _, some _, some _, none]) rfl ?_
              exact ih (k + 1) (by omega) _ _ _ _ _ hstep
  refine Ct.of false [some (.ref 7), some (.ref 3), none, none, none] (plainFor_of_name (by decide)) (fun h => by cases h) (Nat.le_of_ble_eq_true rfl) (fun _ => rfl) sx_isl ?_
  refine sx_aload_n (p1 := 1) dX0_parse_0 rfl rfl ?_
  refine sx_iconst (p1 := 2) dX0_parse_1 rfl ?_
  refine sx_put (p1 := 5) dX0_parse_2 rfl fl_X0_22 (hp_c7 _) (Nat.le_of_ble_eq_true rfl) (fun _ => rfl) (fun _ => rfl) (hp_s2 _ _) ?_
  refine sx_aload_n (p1 := 6) dX0_parse_5 rfl rfl ?_
  refine sx_iconst (p1 := 7) dX0_parse_6 rfl ?_
  refine sx_put (p1 := 10) dX0_parse_7 rfl fl_X0_18 (hp_c7 _) (Nat.le_of_ble_eq_true rfl) (fun _ => rfl) (fun _ => rfl) (hp_s3 _ _) ?_
  rw [gS_0]
  refine sx_iconst (p1 := 11) dX0_parse_10 rfl ?_
  refine sx_istore_n (lo1 := [some _, some _, some _, none, none]) (p1 := 12) dX0_parse_11 rfl (by decide) rfl ?_
  refine sx_iconst (p1 := 13) dX0_parse_12 rfl ?_
  refine sx_istore_n (lo1 := [some _, some _, some _, some _, none]) (p1 := 14) dX0_parse_13 rfl (by decide) rfl ?_
  exact key 32 0 rfl _ _ _ _ _ rfl
