/-- the class's own state is in order -/
def CI (S : St) : Prop := okV (cV S) ∧ okF S ∧ (0 ≤ S.1 0 ∧ S.1 0 ≤ 32) ∧ (0 ≤ S.1 1 ∧ S.1 1 ≤ 23) ∧ (0 ≤ S.1 15 ∧ S.1 15 ≤ 8) ∧ (∀ i, 0 ≤ S.2 27 i ∧ S.2 27 i ≤ 5) ∧ (∀ i, 0 ≤ S.2 28 i ∧ S.2 28 i ≤ 15) ∧ (∀ i, 0 ≤ S.2 29 i ∧ S.2 29 i ≤ 1) ∧ (∀ s, s < 4 → (0 ≤ S.1 (17 + 2 * s) ∧ S.1 (17 + 2 * s) ≤ 60) ∧ (-1 ≤ S.1 (16 + 2 * s) ∧ S.1 (16 + 2 * s) ≤ 2) ∧ ∀ i, -2147483648 ≤ S.2 (32 + 2 * s) i ∧ S.2 (32 + 2 * s) i ≤ 2147483647) ∧ (-1 ≤ S.1 3 ∧ S.1 3 ≤ 100) ∧ -1 ≤ S.1 5 ∧ S.1 5 ≤ 100
/-- Euclid -/
def eu : Nat → Int → Int → Int
  | 0, a, _ => a
  | k + 1, a, b => if b = 0 then a else eu k b (a % b)
def dn : Nat → Int → Int → Prop
  | 0, _, b => b = 0
  | k + 1, a, b => b = 0 ∨ dn k b (a % b)
theorem dn_2 : ∀ (j : Nat) (a b : Int), 0 ≤ a → 0 ≤ b → b < 2 ^ j → dn (2 * j) a b
  | 0, a, b, _, h1, h2 => by
    have : b = 0 := by
      have : (2 : Int) ^ 0 = 1 := rfl
      omega
    exact this
  | j + 1, a, b, h0, h1, h2 => by
    by_cases hb : b = 0
    · exact Or.inl hb
    · have hbp : 0 < b := by omega
      have r0 := Int.emod_nonneg a hb
      have r1 := Int.emod_lt_of_pos a hbp
      refine Or.inr ?_
      show dn (2 * j + 1) b (a % b)
      by_cases hr : a % b = 0
      · exact Or.inl hr
      · refine Or.inr ?_
        have s0 := Int.emod_nonneg b hr
        have s1 := Int.emod_lt_of_pos b (show 0 < a % b by omega)
        refine dn_2 j (a % b) (b % (a % b)) r0 s0 ?_
        have hp : (2 : Int) ^ (j + 1) = 2 ^ j * 2 := Int.pow_succ 2 j
        by_cases hh : 2 * (a % b) ≤ b
        · omega
        · have e : b % (a % b) = b - a % b := by
            have h5 : b / (a % b) = 1 := by
              apply Int.le_antisymm
              · have := Int.ediv_lt_of_lt_mul (show 0 < a % b by omega) (show b < 2 * (a % b) by omega)
                omega
              · exact Int.le_ediv_of_mul_le (by omega) (by omega)
            have h6 := Int.emod_add_mul_ediv b (a % b)
            rw [h5] at h6
            omega
          omega
theorem eu_s : ∀ (k : Nat) (a b : Int), dn k a b → ∀ j, k ≤ j → eu j a b = eu k a b
  | 0, a, b, h, j, _ => by
    have hb : b = 0 := h
    cases j with
    | zero => rfl
    | succ j => simp [eu, hb]
  | k + 1, a, b, h, j, hj => by
    cases j with
    | zero => omega
    | succ j =>
      by_cases hb : b = 0
      · simp [eu, hb]
      · rcases h with h | h
        · exact absurd h hb
        · rw [eu, eu, if_neg hb, if_neg hb, eu_s k b (a % b) h j (by omega)]
theorem eu_p : ∀ (k : Nat) (a b : Int), 0 ≤ a → 0 ≤ b → 0 < a + b → dn k a b → 0 < eu k a b
  | 0, a, b, h0, h1, h2, h => by
    have hb : b = 0 := h
    show 0 < a
    omega
  | k + 1, a, b, h0, h1, h2, h => by
    rw [eu]
    by_cases hb : b = 0
    · rw [if_pos hb]
      omega
    · rw [if_neg hb]
      have r0 := Int.emod_nonneg a hb
      exact eu_p k b (a % b) h1 r0 (by omega) (h.elim (fun q => absurd q hb) id)
theorem eu_le : ∀ (k : Nat) (a b M : Int), 0 ≤ a → 0 ≤ b → a ≤ M → b ≤ M → 0 ≤ eu k a b ∧ eu k a b ≤ M
  | 0, a, b, M, h0, h1, h2, h3 => ⟨h0, h2⟩
  | k + 1, a, b, M, h0, h1, h2, h3 => by
    rw [eu]
    by_cases hb : b = 0
    · rw [if_pos hb]
      exact ⟨h0, h2⟩
    · rw [if_neg hb]
      have r0 := Int.emod_nonneg a hb
      have r1 := Int.emod_lt_of_pos a (show 0 < b by omega)
      exact eu_le k b (a % b) M h1 r0 h3 (by omega)
def mFrac (a b wh : Int) : Int := (if wh = 0 then a else b) / eu 100 a b
theorem mFr_g {a b : Int} (ha : 0 ≤ a ∧ a ≤ 1000000000000) (hb : 0 < b ∧ b ≤ 1000) : 0 < eu 100 a b ∧ eu 100 a b ≤ 1000000000000 := by
  have h1 : dn 100 a b := by
    have := dn_2 50 a b ha.1 (by omega) (by have : (1000 : Int) < 2 ^ 50 := by decide
                                            omega)
    exact this
  exact ⟨eu_p 100 a b ha.1 (by omega) (by omega) h1, (eu_le 100 a b 1000000000000 ha.1 (by omega) ha.2 (by omega)).2⟩
set_option maxRecDepth 20000 in
theorem c_X11_greatestDivisor {X : sx_X} {S : St} {x y : Int} (hx : 0 ≤ x ∧ x ≤ 1000000000000) (hy : 0 ≤ y ∧ y ≤ 1000000000000) : Ct X yX11_greatestDivisor cX11_greatestDivisor 11 (some .long) 0 0 0 [vJ x, vJ y] (hp S) (sx_is (some (vJ (eu 100 x y))) (hp S)) := by
  have key : ∀ (n i : Nat) (a b : Int), i + n = 100 → (0 ≤ a ∧ a ≤ 1000000000000) → (0 ≤ b ∧ b ≤ 1000000000000) → eu 100 x y = eu n a b → Rn X RX11 false cX11_greatestDivisor 11 0 0 0 (some .long) 9 [some (vJ x), none, some (vJ y), none, some (vJ a), none, some (vJ b), none, some (vI (i : Int)), none, none] [] (hp S) 0 0 (sx_is (some (vJ (eu 100 x y))) (hp S)) := by
    intro n
    induction n with
    | zero =>
      intro i a b hi ha hb he
      rw [he]
      refine sx_iload (p1 := 11) dX11_greatestDivisor_9 rfl rfl ?_
      refine sx_bipush (p1 := 13) dX11_greatestDivisor_11 rfl (by decide) ?_
      refine sx_icmp_ge (p1 := 16) (tg := 44) dX11_greatestDivisor_13 rfl rfl (by omega) (by omega) (fun q13 => ?_) (fun q13 => absurd q13 (by omega))
      refine sx_lload (p1 := 46) dX11_greatestDivisor_44 rfl rfl ?_
      exact sx_lret dX11_greatestDivisor_46 rfl (sx_rj (by first | rfl | omega) (by rfl))
    | succ n ih =>
      intro i a b hi ha hb he
      refine sx_iload (p1 := 11) dX11_greatestDivisor_9 rfl rfl ?_
      refine sx_bipush (p1 := 13) dX11_greatestDivisor_11 rfl (by decide) ?_
      refine sx_icmp_ge (p1 := 16) (tg := 44) dX11_greatestDivisor_13 rfl rfl (by omega) (by omega) (fun q13 => absurd q13 (by omega)) (fun q13 => ?_)
      refine sx_lload (p1 := 18) dX11_greatestDivisor_16 rfl rfl ?_
      refine sx_lconst (y := 0) (p1 := 19) dX11_greatestDivisor_18 rfl (by decide) ?_
      refine sx_lcmp_eq (p2 := 0) (p1 := 23) (tg := 44) dX11_greatestDivisor_19 dX11_greatestDivisor_20 rfl rfl (by omega) (by omega) (fun q19 => ?_) (fun q19 => ?_)
      · rw [he, show eu (n + 1) a b = a from if_pos q19]
        refine sx_lload (p1 := 46) dX11_greatestDivisor_44 rfl rfl ?_
        exact sx_lret dX11_greatestDivisor_46 rfl (sx_rj (by first | rfl | omega) (by rfl))
      · have zq1 : eu (n + 1) a b = eu n b (a % b) := if_neg q19
        have zq2 := Int.emod_nonneg a q19
        have zq3 := Int.emod_lt_of_pos a (show 0 < b by omega)
        refine sx_lload (p1 := 25) dX11_greatestDivisor_23 rfl rfl ?_
        refine sx_lload (p1 := 27) dX11_greatestDivisor_25 rfl rfl ?_
        refine sx_lrem (p1 := 28) dX11_greatestDivisor_27 rfl (by omega) (by omega) ?_
        refine sx_lstore (lo1 := [some _, none, some _, none, some _, none, some _, none, some _, some _, none]) (p1 := 30) dX11_greatestDivisor_28 rfl (by decide) rfl ?_
        refine sx_lload (p1 := 32) dX11_greatestDivisor_30 rfl rfl ?_
        refine sx_lstore (lo1 := [some _, none, some _, none, some _, none, some _, none, some _, some _, none]) (p1 := 34) dX11_greatestDivisor_32 rfl (by decide) rfl ?_
        refine sx_lload (p1 := 36) dX11_greatestDivisor_34 rfl rfl ?_
        refine sx_lstore (lo1 := [some _, none, some _, none, some _, none, some _, none, some _, some _, none]) (p1 := 38) dX11_greatestDivisor_36 rfl (by decide) rfl ?_
        refine sx_iinc (lo1 := [some _, none, some _, none, some _, none, some _, none, some _, some _, none]) (p1 := 41) dX11_greatestDivisor_38 rfl (by decide) rfl rfl ?_
        refine sx_goto (p1 := 9) (tg := 9) dX11_greatestDivisor_41 rfl rfl ?_
        refine sx_drop [true, false, true, false, true, false, true, false, true, false, false] (lo1 := [some _, none, some _, none, some _, none, some _, none, some _, none, none]) rfl ?_
        exact ih (i + 1) _ _ (by omega) hb (by omega) (he.trans zq1)
  refine Ct.of false [some (vJ x), none, some (vJ y), none, none, none, none, none, none, none, none] (plainFor_of_name (by decide)) (fun h => by cases h) (Nat.le_of_ble_eq_true rfl) (fun _ => rfl) sx_isl ?_
  refine sx_lload_n (p1 := 1) dX11_greatestDivisor_0 rfl rfl ?_
  refine sx_lstore (lo1 := [some _, none, some _, none, some _, none, none, none, none, none, none]) (p1 := 3) dX11_greatestDivisor_1 rfl (by decide) rfl ?_
  refine sx_lload_n (p1 := 4) dX11_greatestDivisor_3 rfl rfl ?_
  refine sx_lstore (lo1 := [some _, none, some _, none, some _, none, some _, none, none, none, none]) (p1 := 6) dX11_greatestDivisor_4 rfl (by decide) rfl ?_
  refine sx_iconst (p1 := 7) dX11_greatestDivisor_6 rfl ?_
  refine sx_istore (lo1 := [some _, none, some _, none, some _, none, some _, none, some _, none, none]) (p1 := 9) dX11_greatestDivisor_7 rfl (by decide) rfl ?_
  exact key 100 0 x y rfl hx hy rfl
set_option maxRecDepth 20000 in
theorem c_X11_fraction {X : sx_X} {S : St} {x y k : Int} (hx : 0 ≤ x ∧ x ≤ 1000000000000) (hy : 0 < y ∧ y ≤ 1000) (hk : -2147483648 ≤ k ∧ k ≤ 2147483647) : Ct X yX11_fraction cX11_fraction 7 (some .long) 1 0 0 [vJ x, vJ y, vI k] (hp S) (sx_is (some (vJ (mFrac x y k))) (hp (S))) := by
  have g := mFr_g hx hy
  refine Ct.of false [some (vJ x), none, some (vJ y), none, some (vI k), none, none] (plainFor_of_name (by decide)) (fun h => by cases h) (Nat.le_of_ble_eq_true rfl) (fun _ => rfl) sx_isl ?_
  refine sx_lload_n (p1 := 1) dX11_fraction_0 rfl rfl ?_
  refine sx_lload_n (p1 := 2) dX11_fraction_1 rfl rfl ?_
  refine sx_callSr (p1 := 5) (As := [_, _]) (k1 := 0) (n1 := 0) dX11_fraction_2 rfl rfl (c_X11_greatestDivisor hx (by omega)) mt_X11_greatestDivisor ml_X11_390 (Nat.le_of_ble_eq_true rfl) rfl (Nat.le_of_ble_eq_true rfl) rfl rfl (Nat.le_of_ble_eq_true rfl) (Nat.le_of_ble_eq_true rfl) ?_
  refine sx_lstore (lo1 := [some _, none, some _, none, some _, some _, none]) (p1 := 7) dX11_fraction_5 rfl (by decide) rfl ?_
  refine sx_lload (p1 := 9) dX11_fraction_7 rfl rfl ?_
  refine sx_lconst (y := 0) (p1 := 10) dX11_fraction_9 rfl (by decide) ?_
  refine sx_lcmp_gt (p2 := 0) (p1 := 14) (tg := 25) dX11_fraction_10 dX11_fraction_11 rfl rfl (by omega) (by omega) (fun q10 => ?_) (fun q10 => absurd q10 (by omega))
  refine sx_iload (p1 := 27) dX11_fraction_25 rfl rfl ?_
  refine sx_if_ne (p1 := 30) (tg := 34) dX11_fraction_27 rfl rfl (by omega) (fun q27 => ?_) (fun q27 => ?_)
  · refine sx_lload_n (p1 := 35) dX11_fraction_34 rfl rfl ?_
    refine sx_lload (p1 := 37) dX11_fraction_35 rfl rfl ?_
    refine sx_ldiv (p1 := 38) dX11_fraction_37 rfl (by omega) (by omega) ?_
    exact sx_lret dX11_fraction_38 rfl (sx_rj (by unfold mFrac; split <;> first | rfl | omega) (by rfl))
  · refine sx_lload_n (p1 := 31) dX11_fraction_30 rfl rfl ?_
    refine sx_goto (p1 := 35) (tg := 35) dX11_fraction_31 rfl rfl ?_
    refine sx_lload (p1 := 37) dX11_fraction_35 rfl rfl ?_
    refine sx_ldiv (p1 := 38) dX11_fraction_37 rfl (by omega) (by omega) ?_
    exact sx_lret dX11_fraction_38 rfl (sx_rj (by unfold mFrac; split <;> first | rfl | omega) (by rfl))
set_option maxRecDepth 20000 in
theorem c_X11_fault {X : sx_X} {S : St} {i : Int} (hC : CI S) (hi : -2147483648 ≤ i ∧ i ≤ 2147483647)  : Ct X yX11_fault cX11_fault 2 (some .int) 1 0 0 [.ref 2, vI i] (hp S) (sx_is (some (vI (if i = 0 then S.1 3 else if i = 1 then S.1 5 else -2))) (hp (S))) := by
  obtain ⟨hV, hF, l0, l1, bT, bA, bB, bC, bSh, g3, g5⟩ := hC
  have b0 : 0 ≤ S.1 2 ∧ S.1 2 ≤ 16 := hV.1
  have b1 : 0 ≤ S.1 4 ∧ S.1 4 ≤ 6 := hV.2.1
  have b2 : 0 ≤ S.1 6 ∧ S.1 6 ≤ 99 := hV.2.2.1
  have b3 : 0 ≤ S.1 7 ∧ S.1 7 ≤ 1 := hV.2.2.2.1
  have b4 : 0 ≤ S.1 8 ∧ S.1 8 ≤ 16 := hV.2.2.2.2.1
  have b5 : 0 ≤ S.1 9 ∧ S.1 9 ≤ 999 := hV.2.2.2.2.2.1
  have b6 : 0 ≤ S.1 10 ∧ S.1 10 ≤ 1999 := hV.2.2.2.2.2.2.1
  have b7 : 0 ≤ S.1 11 ∧ S.1 11 ≤ 16 := hV.2.2.2.2.2.2.2.1
  have bK : ∀ q, 0 ≤ gK S q ∧ gK S q ≤ 3 := hV.2.2.2.2.2.2.2.2.1
  have bL : ∀ q, 0 ≤ gL S q ∧ gL S q ≤ 9 := hV.2.2.2.2.2.2.2.2.2.1
  have bW : ∀ q, 0 ≤ pW S q ∧ pW S q ≤ 9 := hV.2.2.2.2.2.2.2.2.2.2.1
  have bS : ∀ q, 0 ≤ pS S q ∧ pS S q ≤ 9 := hV.2.2.2.2.2.2.2.2.2.2.2.1
  have bH : ∀ q, 0 ≤ pH S q ∧ pH S q ≤ 1 := hV.2.2.2.2.2.2.2.2.2.2.2.2
  have c0 : 0 ≤ (cV S).1 0 ∧ (cV S).1 0 ≤ 16 := b0
  have c1 : 0 ≤ (cV S).1 1 ∧ (cV S).1 1 ≤ 6 := b1
  have c2 : 0 ≤ (cV S).1 2 ∧ (cV S).1 2 ≤ 99 := b2
  have c3 : 0 ≤ (cV S).1 3 ∧ (cV S).1 3 ≤ 1 := b3
  have c4 : 0 ≤ (cV S).1 4 ∧ (cV S).1 4 ≤ 16 := b4
  have c5 : 0 ≤ (cV S).1 5 ∧ (cV S).1 5 ≤ 999 := b5
  have c6 : 0 ≤ (cV S).1 6 ∧ (cV S).1 6 ≤ 1999 := b6
  have c7 : 0 ≤ (cV S).1 7 ∧ (cV S).1 7 ≤ 16 := b7
  refine Ct.of false [some (.ref 2), some (vI i)] (plainFor_of_name (by decide)) (fun h => by cases h) (Nat.le_of_ble_eq_true rfl) (fun _ => rfl) sx_isl ?_
  refine sx_iload_n (p1 := 1) dX11_fault_0 rfl rfl ?_
  refine sx_iconst (p1 := 2) dX11_fault_1 rfl ?_
  refine sx_iconst (p1 := 3) dX11_fault_2 rfl ?_
  refine sx_callSr (p1 := 6) (As := [_, _, _]) (k1 := 0) (n1 := 0) dX11_fault_3 rfl rfl (c_X11_within (by omega) (by omega) (by omega)) mt_X11_within ml_X11_101 (Nat.le_of_ble_eq_true rfl) rfl (Nat.le_of_ble_eq_true rfl) rfl rfl (Nat.le_of_ble_eq_true rfl) (Nat.le_of_ble_eq_true rfl) ?_
  refine sx_if_ne (p1 := 9) (tg := 12) dX11_fault_6 rfl rfl (by omega) (fun q6 => ?_) (fun q6 => ?_)
  · refine sx_iload_n (p1 := 13) dX11_fault_12 rfl rfl ?_
    refine sx_if_ne (p1 := 16) (tg := 26) dX11_fault_13 rfl rfl (by omega) (fun q13 => ?_) (fun q13 => ?_)
    · refine sx_aload_n (p1 := 27) dX11_fault_26 rfl rfl ?_
      refine sx_get (p1 := 30) dX11_fault_27 rfl fl_X11_31 (hp_c2 _) rfl ?_
      refine sx_callVr (p1 := 33) (As := []) (k1 := 0) (n1 := 0) dX11_fault_30 rfl rfl (c_X5_faultPlace) mt_X5_faultPlace ml_X11_125 (hp_c10 _) rfl rfl (Nat.le_of_ble_eq_true rfl) rfl (Nat.le_of_ble_eq_true rfl) rfl rfl (Nat.le_of_ble_eq_true rfl) (Nat.le_of_ble_eq_true rfl) ?_
      exact sx_iret dX11_fault_33 rfl (sx_ri (by first | omega | ((repeat' split) <;> first | omega | rfl)) (by rfl))
    · refine sx_aload_n (p1 := 17) dX11_fault_16 rfl rfl ?_
      refine sx_get (p1 := 20) dX11_fault_17 rfl fl_X11_24 (hp_c2 _) rfl ?_
      refine sx_callVr (p1 := 23) (As := []) (k1 := 0) (n1 := 0) dX11_fault_20 rfl rfl (c_X0_faultPlace) mt_X0_faultPlace ml_X11_122 (hp_c7 _) rfl rfl (Nat.le_of_ble_eq_true rfl) rfl (Nat.le_of_ble_eq_true rfl) rfl rfl (Nat.le_of_ble_eq_true rfl) (Nat.le_of_ble_eq_true rfl) ?_
      refine sx_goto (p1 := 33) (tg := 33) dX11_fault_23 rfl rfl ?_
      exact sx_iret dX11_fault_33 rfl (sx_ri (by first | omega | ((repeat' split) <;> first | omega | rfl)) (by rfl))
  · refine sx_bipush (p1 := 11) dX11_fault_9 rfl (by decide) ?_
    exact sx_iret dX11_fault_11 rfl (sx_ri (by first | omega | ((repeat' split) <;> first | omega | rfl)) (by rfl))
set_option maxRecDepth 20000 in
theorem c_X11_part {X : sx_X} {S : St} {i j : Int} (hC : CI S) (hi : -2147483648 ≤ i ∧ i ≤ 2147483647) (hj : -2147483648 ≤ j ∧ j ≤ 2147483647)  : Ct X yX11_part cX11_part 3 (some .int) 1 0 0 [.ref 2, vI i, vI j] (hp S) (sx_is (some (vI (if (0 ≤ i ∧ i < (cV S).1 0) ∧ 0 ≤ j ∧ j ≤ 1 then (if j = 0 then (cV S).2 0 i else (cV S).2 1 i) else -2))) (hp (S))) := by
  obtain ⟨hV, hF, l0, l1, bT, bA, bB, bC, bSh, g3, g5⟩ := hC
  have b0 : 0 ≤ S.1 2 ∧ S.1 2 ≤ 16 := hV.1
  have b1 : 0 ≤ S.1 4 ∧ S.1 4 ≤ 6 := hV.2.1
  have b2 : 0 ≤ S.1 6 ∧ S.1 6 ≤ 99 := hV.2.2.1
  have b3 : 0 ≤ S.1 7 ∧ S.1 7 ≤ 1 := hV.2.2.2.1
  have b4 : 0 ≤ S.1 8 ∧ S.1 8 ≤ 16 := hV.2.2.2.2.1
  have b5 : 0 ≤ S.1 9 ∧ S.1 9 ≤ 999 := hV.2.2.2.2.2.1
  have b6 : 0 ≤ S.1 10 ∧ S.1 10 ≤ 1999 := hV.2.2.2.2.2.2.1
  have b7 : 0 ≤ S.1 11 ∧ S.1 11 ≤ 16 := hV.2.2.2.2.2.2.2.1
  have bK : ∀ q, 0 ≤ gK S q ∧ gK S q ≤ 3 := hV.2.2.2.2.2.2.2.2.1
  have bL : ∀ q, 0 ≤ gL S q ∧ gL S q ≤ 9 := hV.2.2.2.2.2.2.2.2.2.1
  have bW : ∀ q, 0 ≤ pW S q ∧ pW S q ≤ 9 := hV.2.2.2.2.2.2.2.2.2.2.1
  have bS : ∀ q, 0 ≤ pS S q ∧ pS S q ≤ 9 := hV.2.2.2.2.2.2.2.2.2.2.2.1
  have bH : ∀ q, 0 ≤ pH S q ∧ pH S q ≤ 1 := hV.2.2.2.2.2.2.2.2.2.2.2.2
  have c0 : 0 ≤ (cV S).1 0 ∧ (cV S).1 0 ≤ 16 := b0
  have c1 : 0 ≤ (cV S).1 1 ∧ (cV S).1 1 ≤ 6 := b1
  have c2 : 0 ≤ (cV S).1 2 ∧ (cV S).1 2 ≤ 99 := b2
  have c3 : 0 ≤ (cV S).1 3 ∧ (cV S).1 3 ≤ 1 := b3
  have c4 : 0 ≤ (cV S).1 4 ∧ (cV S).1 4 ≤ 16 := b4
  have c5 : 0 ≤ (cV S).1 5 ∧ (cV S).1 5 ≤ 999 := b5
  have c6 : 0 ≤ (cV S).1 6 ∧ (cV S).1 6 ≤ 1999 := b6
  have c7 : 0 ≤ (cV S).1 7 ∧ (cV S).1 7 ≤ 16 := b7
  refine Ct.of false [some (.ref 2), some (vI i), some (vI j)] (plainFor_of_name (by decide)) (fun h => by cases h) (Nat.le_of_ble_eq_true rfl) (fun _ => rfl) sx_isl ?_
  refine sx_aload_n (p1 := 1) dX11_part_0 rfl rfl ?_
  refine sx_get (p1 := 4) dX11_part_1 rfl fl_X11_24 (hp_c2 _) rfl ?_
  refine sx_iload_n (p1 := 5) dX11_part_4 rfl rfl ?_
  refine sx_callVr (p1 := 8) (As := [_]) (k1 := 0) (n1 := 0) dX11_part_5 rfl rfl (v_X0_has (V := cV S) rfl hV (by omega)) mt_X0_has ml_X11_126 (hp_c7 _) rfl rfl (Nat.le_of_ble_eq_true rfl) rfl (Nat.le_of_ble_eq_true rfl) rfl rfl (Nat.le_of_ble_eq_true rfl) (Nat.le_of_ble_eq_true rfl) ?_
  refine sx_if_eq (p1 := 11) (tg := 20) dX11_part_8 rfl rfl (by omega) (fun q8 => ?_) (fun q8 => ?_)
  · refine sx_bipush (p1 := 22) dX11_part_20 rfl (by decide) ?_
    exact sx_iret dX11_part_22 rfl (sx_ri (by first | omega | ((repeat' split) <;> first | omega | rfl)) (by rfl))
  · refine sx_iload_n (p1 := 12) dX11_part_11 rfl rfl ?_
    refine sx_iconst (p1 := 13) dX11_part_12 rfl ?_
    refine sx_iconst (p1 := 14) dX11_part_13 rfl ?_
    refine sx_callSr (p1 := 17) (As := [_, _, _]) (k1 := 0) (n1 := 0) dX11_part_14 rfl rfl (c_X11_within (by omega) (by omega) (by omega)) mt_X11_within ml_X11_101 (Nat.le_of_ble_eq_true rfl) rfl (Nat.le_of_ble_eq_true rfl) rfl rfl (Nat.le_of_ble_eq_true rfl) (Nat.le_of_ble_eq_true rfl) ?_
    refine sx_if_ne (p1 := 20) (tg := 23) dX11_part_17 rfl rfl (by omega) (fun q17 => ?_) (fun q17 => ?_)
    · refine sx_iload_n (p1 := 24) dX11_part_23 rfl rfl ?_
      refine sx_if_ne (p1 := 27) (tg := 38) dX11_part_24 rfl rfl (by omega) (fun q24 => ?_) (fun q24 => ?_)
      · refine sx_aload_n (p1 := 39) dX11_part_38 rfl rfl ?_
        refine sx_get (p1 := 42) dX11_part_39 rfl fl_X11_24 (hp_c2 _) rfl ?_
        refine sx_iload_n (p1 := 43) dX11_part_42 rfl rfl ?_
        refine sx_callVr (p1 := 46) (As := [_]) (k1 := 0) (n1 := 0) dX11_part_43 rfl rfl (v_X0_loosenessAt (V := cV S) rfl hV (by omega)) mt_X0_loosenessAt ml_X11_134 (hp_c7 _) rfl rfl (Nat.le_of_ble_eq_true rfl) rfl (Nat.le_of_ble_eq_true rfl) rfl rfl (Nat.le_of_ble_eq_true rfl) (Nat.le_of_ble_eq_true rfl) ?_
        exact sx_iret dX11_part_46 rfl (sx_ri (by first | omega | ((repeat' split) <;> first | omega | rfl)) (by rfl))
      · refine sx_aload_n (p1 := 28) dX11_part_27 rfl rfl ?_
        refine sx_get (p1 := 31) dX11_part_28 rfl fl_X11_24 (hp_c2 _) rfl ?_
        refine sx_iload_n (p1 := 32) dX11_part_31 rfl rfl ?_
        refine sx_callVr (p1 := 35) (As := [_]) (k1 := 0) (n1 := 0) dX11_part_32 rfl rfl (v_X0_kindAt (V := cV S) rfl hV (by omega)) mt_X0_kindAt ml_X11_130 (hp_c7 _) rfl rfl (Nat.le_of_ble_eq_true rfl) rfl (Nat.le_of_ble_eq_true rfl) rfl rfl (Nat.le_of_ble_eq_true rfl) (Nat.le_of_ble_eq_true rfl) ?_
        refine sx_goto (p1 := 46) (tg := 46) dX11_part_35 rfl rfl ?_
        exact sx_iret dX11_part_46 rfl (sx_ri (by first | omega | ((repeat' split) <;> first | omega | rfl)) (by rfl))
    · refine sx_bipush (p1 := 22) dX11_part_20 rfl (by decide) ?_
      exact sx_iret dX11_part_22 rfl (sx_ri (by first | omega | ((repeat' split) <;> first | omega | rfl)) (by rfl))
set_option maxRecDepth 20000 in
theorem c_X11_walker {X : sx_X} {S : St} {i j : Int} (hC : CI S) (hi : -2147483648 ≤ i ∧ i ≤ 2147483647) (hj : -2147483648 ≤ j ∧ j ≤ 2147483647)  : Ct X yX11_walker cX11_walker 3 (some .int) 1 0 0 [.ref 2, vI i, vI j] (hp S) (sx_is (some (vI (if (0 ≤ i ∧ i < (cV S).1 1) ∧ 0 ≤ j ∧ j ≤ 2 then (if j = 0 then pW S i else if j = 1 then pS S i else (cV S).2 4 i) else -2))) (hp (S))) := by
  obtain ⟨hV, hF, l0, l1, bT, bA, bB, bC, bSh, g3, g5⟩ := hC
  have b0 : 0 ≤ S.1 2 ∧ S.1 2 ≤ 16 := hV.1
  have b1 : 0 ≤ S.1 4 ∧ S.1 4 ≤ 6 := hV.2.1
  have b2 : 0 ≤ S.1 6 ∧ S.1 6 ≤ 99 := hV.2.2.1
  have b3 : 0 ≤ S.1 7 ∧ S.1 7 ≤ 1 := hV.2.2.2.1
  have b4 : 0 ≤ S.1 8 ∧ S.1 8 ≤ 16 := hV.2.2.2.2.1
  have b5 : 0 ≤ S.1 9 ∧ S.1 9 ≤ 999 := hV.2.2.2.2.2.1
  have b6 : 0 ≤ S.1 10 ∧ S.1 10 ≤ 1999 := hV.2.2.2.2.2.2.1
  have b7 : 0 ≤ S.1 11 ∧ S.1 11 ≤ 16 := hV.2.2.2.2.2.2.2.1
  have bK : ∀ q, 0 ≤ gK S q ∧ gK S q ≤ 3 := hV.2.2.2.2.2.2.2.2.1
  have bL : ∀ q, 0 ≤ gL S q ∧ gL S q ≤ 9 := hV.2.2.2.2.2.2.2.2.2.1
  have bW : ∀ q, 0 ≤ pW S q ∧ pW S q ≤ 9 := hV.2.2.2.2.2.2.2.2.2.2.1
  have bS : ∀ q, 0 ≤ pS S q ∧ pS S q ≤ 9 := hV.2.2.2.2.2.2.2.2.2.2.2.1
  have bH : ∀ q, 0 ≤ pH S q ∧ pH S q ≤ 1 := hV.2.2.2.2.2.2.2.2.2.2.2.2
  have c0 : 0 ≤ (cV S).1 0 ∧ (cV S).1 0 ≤ 16 := b0
  have c1 : 0 ≤ (cV S).1 1 ∧ (cV S).1 1 ≤ 6 := b1
  have c2 : 0 ≤ (cV S).1 2 ∧ (cV S).1 2 ≤ 99 := b2
  have c3 : 0 ≤ (cV S).1 3 ∧ (cV S).1 3 ≤ 1 := b3
  have c4 : 0 ≤ (cV S).1 4 ∧ (cV S).1 4 ≤ 16 := b4
  have c5 : 0 ≤ (cV S).1 5 ∧ (cV S).1 5 ≤ 999 := b5
  have c6 : 0 ≤ (cV S).1 6 ∧ (cV S).1 6 ≤ 1999 := b6
  have c7 : 0 ≤ (cV S).1 7 ∧ (cV S).1 7 ≤ 16 := b7
  refine Ct.of false [some (.ref 2), some (vI i), some (vI j)] (plainFor_of_name (by decide)) (fun h => by cases h) (Nat.le_of_ble_eq_true rfl) (fun _ => rfl) sx_isl ?_
  refine sx_aload_n (p1 := 1) dX11_walker_0 rfl rfl ?_
  refine sx_get (p1 := 4) dX11_walker_1 rfl fl_X11_31 (hp_c2 _) rfl ?_
  refine sx_iload_n (p1 := 5) dX11_walker_4 rfl rfl ?_
  refine sx_callVr (p1 := 8) (As := [_]) (k1 := 0) (n1 := 0) dX11_walker_5 rfl rfl (v_X5_has (V := cV S) rfl hV (by omega)) mt_X5_has ml_X11_137 (hp_c10 _) rfl rfl (Nat.le_of_ble_eq_true rfl) rfl (Nat.le_of_ble_eq_true rfl) rfl rfl (Nat.le_of_ble_eq_true rfl) (Nat.le_of_ble_eq_true rfl) ?_
  refine sx_if_eq (p1 := 11) (tg := 20) dX11_walker_8 rfl rfl (by omega) (fun q8 => ?_) (fun q8 => ?_)
  · refine sx_bipush (p1 := 22) dX11_walker_20 rfl (by decide) ?_
    exact sx_iret dX11_walker_22 rfl (sx_ri (by first | omega | ((repeat' split) <;> first | omega | rfl)) (by rfl))
  · refine sx_iload_n (p1 := 12) dX11_walker_11 rfl rfl ?_
    refine sx_iconst (p1 := 13) dX11_walker_12 rfl ?_
    refine sx_iconst (p1 := 14) dX11_walker_13 rfl ?_
    refine sx_callSr (p1 := 17) (As := [_, _, _]) (k1 := 0) (n1 := 0) dX11_walker_14 rfl rfl (c_X11_within (by omega) (by omega) (by omega)) mt_X11_within ml_X11_101 (Nat.le_of_ble_eq_true rfl) rfl (Nat.le_of_ble_eq_true rfl) rfl rfl (Nat.le_of_ble_eq_true rfl) (Nat.le_of_ble_eq_true rfl) ?_
    refine sx_if_ne (p1 := 20) (tg := 23) dX11_walker_17 rfl rfl (by omega) (fun q17 => ?_) (fun q17 => ?_)
    · refine sx_iload_n (p1 := 24) dX11_walker_23 rfl rfl ?_
      refine sx_if_ne (p1 := 27) (tg := 36) dX11_walker_24 rfl rfl (by omega) (fun q24 => ?_) (fun q24 => ?_)
      · refine sx_iload_n (p1 := 37) dX11_walker_36 rfl rfl ?_
        refine sx_iconst (p1 := 38) dX11_walker_37 rfl ?_
        refine sx_icmp_ne (p1 := 41) (tg := 52) dX11_walker_38 rfl rfl (by omega) (by omega) (fun q38 => ?_) (fun q38 => ?_)
        · refine sx_aload_n (p1 := 53) dX11_walker_52 rfl rfl ?_
          refine sx_get (p1 := 56) dX11_walker_53 rfl fl_X11_31 (hp_c2 _) rfl ?_
          refine sx_iload_n (p1 := 57) dX11_walker_56 rfl rfl ?_
          refine sx_callVr (p1 := 60) (As := [_]) (k1 := 0) (n1 := 0) dX11_walker_57 rfl rfl (v_X5_helmetOf (V := cV S) rfl hV (by omega)) mt_X5_helmetOf ml_X11_144 (hp_c10 _) rfl rfl (Nat.le_of_ble_eq_true rfl) rfl (Nat.le_of_ble_eq_true rfl) rfl rfl (Nat.le_of_ble_eq_true rfl) (Nat.le_of_ble_eq_true rfl) ?_
          exact sx_iret dX11_walker_60 rfl (sx_ri (by first | omega | ((repeat' split) <;> first | omega | rfl)) (by rfl))
        · refine sx_aload_n (p1 := 42) dX11_walker_41 rfl rfl ?_
          refine sx_get (p1 := 45) dX11_walker_42 rfl fl_X11_31 (hp_c2 _) rfl ?_
          refine sx_iload_n (p1 := 46) dX11_walker_45 rfl rfl ?_
          refine sx_callVr (p1 := 49) (As := [_]) (k1 := 0) (n1 := 0) dX11_walker_46 rfl rfl (c_X5_skillOf (by omega) b1) mt_X5_skillOf ml_X11_141 (hp_c10 _) rfl rfl (Nat.le_of_ble_eq_true rfl) rfl (Nat.le_of_ble_eq_true rfl) rfl rfl (Nat.le_of_ble_eq_true rfl) (Nat.le_of_ble_eq_true rfl) ?_
          refine sx_goto (p1 := 60) (tg := 60) dX11_walker_49 rfl rfl ?_
          exact sx_iret dX11_walker_60 rfl (sx_ri (by first | omega | ((repeat' split) <;> first | omega | rfl)) (by rfl))
      · refine sx_aload_n (p1 := 28) dX11_walker_27 rfl rfl ?_
        refine sx_get (p1 := 31) dX11_walker_28 rfl fl_X11_31 (hp_c2 _) rfl ?_
        refine sx_iload_n (p1 := 32) dX11_walker_31 rfl rfl ?_
        refine sx_callVr (p1 := 35) (As := [_]) (k1 := 0) (n1 := 0) dX11_walker_32 rfl rfl (c_X5_weightOf (by omega) b1) mt_X5_weightOf ml_X11_138 (hp_c10 _) rfl rfl (Nat.le_of_ble_eq_true rfl) rfl (Nat.le_of_ble_eq_true rfl) rfl rfl (Nat.le_of_ble_eq_true rfl) (Nat.le_of_ble_eq_true rfl) ?_
        exact sx_iret dX11_walker_35 rfl (sx_ri (by first | omega | ((repeat' split) <;> first | omega | rfl)) (by rfl))
    · refine sx_bipush (p1 := 22) dX11_walker_20 rfl (by decide) ?_
      exact sx_iret dX11_walker_22 rfl (sx_ri (by first | omega | ((repeat' split) <;> first | omega | rfl)) (by rfl))
set_option maxRecDepth 20000 in
theorem c_X11_place {X : sx_X} {S : St} {i j : Int} (hC : CI S) (hi : -2147483648 ≤ i ∧ i ≤ 2147483647) (hj : -2147483648 ≤ j ∧ j ≤ 2147483647)  : Ct X yX11_place cX11_place 3 (some .int) 2 0 0 [.ref 2, vI i, vI j] (hp S) (sx_is (some (vI (if (0 ≤ i ∧ i < (cV S).1 1) ∧ 0 ≤ j ∧ j ≤ 1999 then mPl (cV S) (j - (cV S).1 5 - i * (cV S).1 2) else -2))) (hp (S))) := by
  obtain ⟨hV, hF, l0, l1, bT, bA, bB, bC, bSh, g3, g5⟩ := hC
  have b0 : 0 ≤ S.1 2 ∧ S.1 2 ≤ 16 := hV.1
  have b1 : 0 ≤ S.1 4 ∧ S.1 4 ≤ 6 := hV.2.1
  have b2 : 0 ≤ S.1 6 ∧ S.1 6 ≤ 99 := hV.2.2.1
  have b3 : 0 ≤ S.1 7 ∧ S.1 7 ≤ 1 := hV.2.2.2.1
  have b4 : 0 ≤ S.1 8 ∧ S.1 8 ≤ 16 := hV.2.2.2.2.1
  have b5 : 0 ≤ S.1 9 ∧ S.1 9 ≤ 999 := hV.2.2.2.2.2.1
  have b6 : 0 ≤ S.1 10 ∧ S.1 10 ≤ 1999 := hV.2.2.2.2.2.2.1
  have b7 : 0 ≤ S.1 11 ∧ S.1 11 ≤ 16 := hV.2.2.2.2.2.2.2.1
  have bK : ∀ q, 0 ≤ gK S q ∧ gK S q ≤ 3 := hV.2.2.2.2.2.2.2.2.1
  have bL : ∀ q, 0 ≤ gL S q ∧ gL S q ≤ 9 := hV.2.2.2.2.2.2.2.2.2.1
  have bW : ∀ q, 0 ≤ pW S q ∧ pW S q ≤ 9 := hV.2.2.2.2.2.2.2.2.2.2.1
  have bS : ∀ q, 0 ≤ pS S q ∧ pS S q ≤ 9 := hV.2.2.2.2.2.2.2.2.2.2.2.1
  have bH : ∀ q, 0 ≤ pH S q ∧ pH S q ≤ 1 := hV.2.2.2.2.2.2.2.2.2.2.2.2
  have c0 : 0 ≤ (cV S).1 0 ∧ (cV S).1 0 ≤ 16 := b0
  have c1 : 0 ≤ (cV S).1 1 ∧ (cV S).1 1 ≤ 6 := b1
  have c2 : 0 ≤ (cV S).1 2 ∧ (cV S).1 2 ≤ 99 := b2
  have c3 : 0 ≤ (cV S).1 3 ∧ (cV S).1 3 ≤ 1 := b3
  have c4 : 0 ≤ (cV S).1 4 ∧ (cV S).1 4 ≤ 16 := b4
  have c5 : 0 ≤ (cV S).1 5 ∧ (cV S).1 5 ≤ 999 := b5
  have c6 : 0 ≤ (cV S).1 6 ∧ (cV S).1 6 ≤ 1999 := b6
  have c7 : 0 ≤ (cV S).1 7 ∧ (cV S).1 7 ≤ 16 := b7
  refine Ct.of false [some (.ref 2), some (vI i), some (vI j)] (plainFor_of_name (by decide)) (fun h => by cases h) (Nat.le_of_ble_eq_true rfl) (fun _ => rfl) sx_isl ?_
  refine sx_aload_n (p1 := 1) dX11_place_0 rfl rfl ?_
  refine sx_get (p1 := 4) dX11_place_1 rfl fl_X11_31 (hp_c2 _) rfl ?_
  refine sx_iload_n (p1 := 5) dX11_place_4 rfl rfl ?_
  refine sx_callVr (p1 := 8) (As := [_]) (k1 := 0) (n1 := 0) dX11_place_5 rfl rfl (v_X5_has (V := cV S) rfl hV (by omega)) mt_X5_has ml_X11_137 (hp_c10 _) rfl rfl (Nat.le_of_ble_eq_true rfl) rfl (Nat.le_of_ble_eq_true rfl) rfl rfl (Nat.le_of_ble_eq_true rfl) (Nat.le_of_ble_eq_true rfl) ?_
  refine sx_if_eq (p1 := 11) (tg := 22) dX11_place_8 rfl rfl (by omega) (fun q8 => ?_) (fun q8 => ?_)
  · refine sx_bipush (p1 := 24) dX11_place_22 rfl (by decide) ?_
    exact sx_iret dX11_place_24 rfl (sx_ri (by first | omega | ((repeat' split) <;> first | omega | rfl)) (by rfl))
  · refine sx_iload_n (p1 := 12) dX11_place_11 rfl rfl ?_
    refine sx_iconst (p1 := 13) dX11_place_12 rfl ?_
    refine sx_sipush (p1 := 16) dX11_place_13 rfl (by decide) ?_
    refine sx_callSr (p1 := 19) (As := [_, _, _]) (k1 := 0) (n1 := 0) dX11_place_16 rfl rfl (c_X11_within (by omega) (by omega) (by omega)) mt_X11_within ml_X11_101 (Nat.le_of_ble_eq_true rfl) rfl (Nat.le_of_ble_eq_true rfl) rfl rfl (Nat.le_of_ble_eq_true rfl) (Nat.le_of_ble_eq_true rfl) ?_
    refine sx_if_ne (p1 := 22) (tg := 25) dX11_place_19 rfl rfl (by omega) (fun q19 => ?_) (fun q19 => ?_)
    · refine sx_aload_n (p1 := 26) dX11_place_25 rfl rfl ?_
      refine sx_get (p1 := 29) dX11_place_26 rfl fl_X11_47 (hp_c2 _) rfl ?_
      refine sx_iload_n (p1 := 30) dX11_place_29 rfl rfl ?_
      refine sx_iload_n (p1 := 31) dX11_place_30 rfl rfl ?_
      refine sx_callVr (p1 := 34) (As := [_, _]) (k1 := 0) (n1 := 0) dX11_place_31 rfl rfl (v_X8_partOf (V := cV S) rfl hV (by omega) (by omega)) mt_X8_partOf ml_X11_158 (hp_c15 _) rfl rfl (Nat.le_of_ble_eq_true rfl) rfl (Nat.le_of_ble_eq_true rfl) rfl rfl (Nat.le_of_ble_eq_true rfl) (Nat.le_of_ble_eq_true rfl) ?_
      exact sx_iret dX11_place_34 rfl (sx_ri (by first | omega | ((repeat' split) <;> first | omega | rfl)) (by rfl))
    · refine sx_bipush (p1 := 24) dX11_place_22 rfl (by decide) ?_
      exact sx_iret dX11_place_24 rfl (sx_ri (by first | omega | ((repeat' split) <;> first | omega | rfl)) (by rfl))
set_option maxRecDepth 20000 in
theorem c_X11_treads {X : sx_X} {S : St} {i j : Int} (hC : CI S) (hi : -2147483648 ≤ i ∧ i ≤ 2147483647) (hj : -2147483648 ≤ j ∧ j ≤ 2147483647)  : Ct X yX11_treads cX11_treads 3 (some .int) 3 0 0 [.ref 2, vI i, vI j] (hp S) (sx_is (some (vI (if (0 ≤ i ∧ i < (cV S).1 1) ∧ 0 ≤ j ∧ j < (cV S).1 0 then mOdds ((cV S).2 1 j) (mMore (cV S) i) else -2))) (hp (S))) := by
  obtain ⟨hV, hF, l0, l1, bT, bA, bB, bC, bSh, g3, g5⟩ := hC
  have b0 : 0 ≤ S.1 2 ∧ S.1 2 ≤ 16 := hV.1
  have b1 : 0 ≤ S.1 4 ∧ S.1 4 ≤ 6 := hV.2.1
  have b2 : 0 ≤ S.1 6 ∧ S.1 6 ≤ 99 := hV.2.2.1
  have b3 : 0 ≤ S.1 7 ∧ S.1 7 ≤ 1 := hV.2.2.2.1
  have b4 : 0 ≤ S.1 8 ∧ S.1 8 ≤ 16 := hV.2.2.2.2.1
  have b5 : 0 ≤ S.1 9 ∧ S.1 9 ≤ 999 := hV.2.2.2.2.2.1
  have b6 : 0 ≤ S.1 10 ∧ S.1 10 ≤ 1999 := hV.2.2.2.2.2.2.1
  have b7 : 0 ≤ S.1 11 ∧ S.1 11 ≤ 16 := hV.2.2.2.2.2.2.2.1
  have bK : ∀ q, 0 ≤ gK S q ∧ gK S q ≤ 3 := hV.2.2.2.2.2.2.2.2.1
  have bL : ∀ q, 0 ≤ gL S q ∧ gL S q ≤ 9 := hV.2.2.2.2.2.2.2.2.2.1
  have bW : ∀ q, 0 ≤ pW S q ∧ pW S q ≤ 9 := hV.2.2.2.2.2.2.2.2.2.2.1
  have bS : ∀ q, 0 ≤ pS S q ∧ pS S q ≤ 9 := hV.2.2.2.2.2.2.2.2.2.2.2.1
  have bH : ∀ q, 0 ≤ pH S q ∧ pH S q ≤ 1 := hV.2.2.2.2.2.2.2.2.2.2.2.2
  have c0 : 0 ≤ (cV S).1 0 ∧ (cV S).1 0 ≤ 16 := b0
  have c1 : 0 ≤ (cV S).1 1 ∧ (cV S).1 1 ≤ 6 := b1
  have c2 : 0 ≤ (cV S).1 2 ∧ (cV S).1 2 ≤ 99 := b2
  have c3 : 0 ≤ (cV S).1 3 ∧ (cV S).1 3 ≤ 1 := b3
  have c4 : 0 ≤ (cV S).1 4 ∧ (cV S).1 4 ≤ 16 := b4
  have c5 : 0 ≤ (cV S).1 5 ∧ (cV S).1 5 ≤ 999 := b5
  have c6 : 0 ≤ (cV S).1 6 ∧ (cV S).1 6 ≤ 1999 := b6
  have c7 : 0 ≤ (cV S).1 7 ∧ (cV S).1 7 ≤ 16 := b7
  refine Ct.of false [some (.ref 2), some (vI i), some (vI j)] (plainFor_of_name (by decide)) (fun h => by cases h) (Nat.le_of_ble_eq_true rfl) (fun _ => rfl) sx_isl ?_
  refine sx_aload_n (p1 := 1) dX11_treads_0 rfl rfl ?_
  refine sx_get (p1 := 4) dX11_treads_1 rfl fl_X11_31 (hp_c2 _) rfl ?_
  refine sx_iload_n (p1 := 5) dX11_treads_4 rfl rfl ?_
  refine sx_callVr (p1 := 8) (As := [_]) (k1 := 0) (n1 := 0) dX11_treads_5 rfl rfl (v_X5_has (V := cV S) rfl hV (by omega)) mt_X5_has ml_X11_137 (hp_c10 _) rfl rfl (Nat.le_of_ble_eq_true rfl) rfl (Nat.le_of_ble_eq_true rfl) rfl rfl (Nat.le_of_ble_eq_true rfl) (Nat.le_of_ble_eq_true rfl) ?_
  refine sx_if_eq (p1 := 11) (tg := 22) dX11_treads_8 rfl rfl (by omega) (fun q8 => ?_) (fun q8 => ?_)
  · refine sx_bipush (p1 := 24) dX11_treads_22 rfl (by decide) ?_
    exact sx_iret dX11_treads_24 rfl (sx_ri (by first | omega | ((repeat' split) <;> first | omega | rfl)) (by rfl))
  · refine sx_aload_n (p1 := 12) dX11_treads_11 rfl rfl ?_
    refine sx_get (p1 := 15) dX11_treads_12 rfl fl_X11_24 (hp_c2 _) rfl ?_
    refine sx_iload_n (p1 := 16) dX11_treads_15 rfl rfl ?_
    refine sx_callVr (p1 := 19) (As := [_]) (k1 := 0) (n1 := 0) dX11_treads_16 rfl rfl (v_X0_has (V := cV S) rfl hV (by omega)) mt_X0_has ml_X11_126 (hp_c7 _) rfl rfl (Nat.le_of_ble_eq_true rfl) rfl (Nat.le_of_ble_eq_true rfl) rfl rfl (Nat.le_of_ble_eq_true rfl) (Nat.le_of_ble_eq_true rfl) ?_
    refine sx_if_ne (p1 := 22) (tg := 25) dX11_treads_19 rfl rfl (by omega) (fun q19 => ?_) (fun q19 => ?_)
    · refine sx_aload_n (p1 := 26) dX11_treads_25 rfl rfl ?_
      refine sx_get (p1 := 29) dX11_treads_26 rfl fl_X11_47 (hp_c2 _) rfl ?_
      refine sx_iload_n (p1 := 30) dX11_treads_29 rfl rfl ?_
      refine sx_iload_n (p1 := 31) dX11_treads_30 rfl rfl ?_
      refine sx_callVr (p1 := 34) (As := [_, _]) (k1 := 0) (n1 := 0) dX11_treads_31 rfl rfl (v_X8_oddsOf (V := cV S) rfl hV (by omega) (by omega)) mt_X8_oddsOf ml_X11_161 (hp_c15 _) rfl rfl (Nat.le_of_ble_eq_true rfl) rfl (Nat.le_of_ble_eq_true rfl) rfl rfl (Nat.le_of_ble_eq_true rfl) (Nat.le_of_ble_eq_true rfl) ?_
      exact sx_iret dX11_treads_34 rfl (sx_ri (by first | omega | ((repeat' split) <;> first | omega | rfl)) (by rfl))
    · refine sx_bipush (p1 := 24) dX11_treads_22 rfl (by decide) ?_
      exact sx_iret dX11_treads_24 rfl (sx_ri (by first | omega | ((repeat' split) <;> first | omega | rfl)) (by rfl))
set_option maxRecDepth 20000 in
theorem c_X11_hits {X : sx_X} {S : St} {i j k : Int} (hC : CI S) (hi : -2147483648 ≤ i ∧ i ≤ 2147483647) (hj : -2147483648 ≤ j ∧ j ≤ 2147483647) (hk : -2147483648 ≤ k ∧ k ≤ 2147483647)  : Ct X yX11_hits cX11_hits 4 (some .int) 2 0 0 [.ref 2, vI i, vI j, vI k] (hp S) (sx_is (some (vI (if (0 ≤ i ∧ i < (cV S).1 0) ∧ (0 ≤ j ∧ j < (cV S).1 0) ∧ 0 ≤ k ∧ k ≤ 1 then mHit (cV S) i j k else -2))) (hp (S))) := by
  obtain ⟨hV, hF, l0, l1, bT, bA, bB, bC, bSh, g3, g5⟩ := hC
  have b0 : 0 ≤ S.1 2 ∧ S.1 2 ≤ 16 := hV.1
  have b1 : 0 ≤ S.1 4 ∧ S.1 4 ≤ 6 := hV.2.1
  have b2 : 0 ≤ S.1 6 ∧ S.1 6 ≤ 99 := hV.2.2.1
  have b3 : 0 ≤ S.1 7 ∧ S.1 7 ≤ 1 := hV.2.2.2.1
  have b4 : 0 ≤ S.1 8 ∧ S.1 8 ≤ 16 := hV.2.2.2.2.1
  have b5 : 0 ≤ S.1 9 ∧ S.1 9 ≤ 999 := hV.2.2.2.2.2.1
  have b6 : 0 ≤ S.1 10 ∧ S.1 10 ≤ 1999 := hV.2.2.2.2.2.2.1
  have b7 : 0 ≤ S.1 11 ∧ S.1 11 ≤ 16 := hV.2.2.2.2.2.2.2.1
  have bK : ∀ q, 0 ≤ gK S q ∧ gK S q ≤ 3 := hV.2.2.2.2.2.2.2.2.1
  have bL : ∀ q, 0 ≤ gL S q ∧ gL S q ≤ 9 := hV.2.2.2.2.2.2.2.2.2.1
  have bW : ∀ q, 0 ≤ pW S q ∧ pW S q ≤ 9 := hV.2.2.2.2.2.2.2.2.2.2.1
  have bS : ∀ q, 0 ≤ pS S q ∧ pS S q ≤ 9 := hV.2.2.2.2.2.2.2.2.2.2.2.1
  have bH : ∀ q, 0 ≤ pH S q ∧ pH S q ≤ 1 := hV.2.2.2.2.2.2.2.2.2.2.2.2
  have c0 : 0 ≤ (cV S).1 0 ∧ (cV S).1 0 ≤ 16 := b0
  have c1 : 0 ≤ (cV S).1 1 ∧ (cV S).1 1 ≤ 6 := b1
  have c2 : 0 ≤ (cV S).1 2 ∧ (cV S).1 2 ≤ 99 := b2
  have c3 : 0 ≤ (cV S).1 3 ∧ (cV S).1 3 ≤ 1 := b3
  have c4 : 0 ≤ (cV S).1 4 ∧ (cV S).1 4 ≤ 16 := b4
  have c5 : 0 ≤ (cV S).1 5 ∧ (cV S).1 5 ≤ 999 := b5
  have c6 : 0 ≤ (cV S).1 6 ∧ (cV S).1 6 ≤ 1999 := b6
  have c7 : 0 ≤ (cV S).1 7 ∧ (cV S).1 7 ≤ 16 := b7
  refine Ct.of false [some (.ref 2), some (vI i), some (vI j), some (vI k)] (plainFor_of_name (by decide)) (fun h => by cases h) (Nat.le_of_ble_eq_true rfl) (fun _ => rfl) sx_isl ?_
  refine sx_aload_n (p1 := 1) dX11_hits_0 rfl rfl ?_
  refine sx_get (p1 := 4) dX11_hits_1 rfl fl_X11_24 (hp_c2 _) rfl ?_
  refine sx_iload_n (p1 := 5) dX11_hits_4 rfl rfl ?_
  refine sx_callVr (p1 := 8) (As := [_]) (k1 := 0) (n1 := 0) dX11_hits_5 rfl rfl (v_X0_has (V := cV S) rfl hV (by omega)) mt_X0_has ml_X11_126 (hp_c7 _) rfl rfl (Nat.le_of_ble_eq_true rfl) rfl (Nat.le_of_ble_eq_true rfl) rfl rfl (Nat.le_of_ble_eq_true rfl) (Nat.le_of_ble_eq_true rfl) ?_
  refine sx_if_eq (p1 := 11) (tg := 31) dX11_hits_8 rfl rfl (by omega) (fun q8 => ?_) (fun q8 => ?_)
  · refine sx_bipush (p1 := 33) dX11_hits_31 rfl (by decide) ?_
    exact sx_iret dX11_hits_33 rfl (sx_ri (by first | omega | ((repeat' split) <;> first | omega | rfl)) (by rfl))
  · refine sx_aload_n (p1 := 12) dX11_hits_11 rfl rfl ?_
    refine sx_get (p1 := 15) dX11_hits_12 rfl fl_X11_24 (hp_c2 _) rfl ?_
    refine sx_iload_n (p1 := 16) dX11_hits_15 rfl rfl ?_
    refine sx_callVr (p1 := 19) (As := [_]) (k1 := 0) (n1 := 0) dX11_hits_16 rfl rfl (v_X0_has (V := cV S) rfl hV (by omega)) mt_X0_has ml_X11_126 (hp_c7 _) rfl rfl (Nat.le_of_ble_eq_true rfl) rfl (Nat.le_of_ble_eq_true rfl) rfl rfl (Nat.le_of_ble_eq_true rfl) (Nat.le_of_ble_eq_true rfl) ?_
    refine sx_if_eq (p1 := 22) (tg := 31) dX11_hits_19 rfl rfl (by omega) (fun q19 => ?_) (fun q19 => ?_)
    · refine sx_bipush (p1 := 33) dX11_hits_31 rfl (by decide) ?_
      exact sx_iret dX11_hits_33 rfl (sx_ri (by first | omega | ((repeat' split) <;> first | omega | rfl)) (by rfl))
    · refine sx_iload_n (p1 := 23) dX11_hits_22 rfl rfl ?_
      refine sx_iconst (p1 := 24) dX11_hits_23 rfl ?_
      refine sx_iconst (p1 := 25) dX11_hits_24 rfl ?_
      refine sx_callSr (p1 := 28) (As := [_, _, _]) (k1 := 0) (n1 := 0) dX11_hits_25 rfl rfl (c_X11_within (by omega) (by omega) (by omega)) mt_X11_within ml_X11_101 (Nat.le_of_ble_eq_true rfl) rfl (Nat.le_of_ble_eq_true rfl) rfl rfl (Nat.le_of_ble_eq_true rfl) (Nat.le_of_ble_eq_true rfl) ?_
      refine sx_if_ne (p1 := 31) (tg := 34) dX11_hits_28 rfl rfl (by omega) (fun q28 => ?_) (fun q28 => ?_)
      · refine sx_aload_n (p1 := 35) dX11_hits_34 rfl rfl ?_
        refine sx_get (p1 := 38) dX11_hits_35 rfl fl_X11_47 (hp_c2 _) rfl ?_
        refine sx_iload_n (p1 := 39) dX11_hits_38 rfl rfl ?_
        refine sx_iload_n (p1 := 40) dX11_hits_39 rfl rfl ?_
        refine sx_iload_n (p1 := 41) dX11_hits_40 rfl rfl ?_
        refine sx_callVr (p1 := 44) (As := [_, _, _]) (k1 := 0) (n1 := 0) dX11_hits_41 rfl rfl (v_X8_struck (V := cV S) rfl hV (by omega) (by omega) (by omega)) mt_X8_struck ml_X11_164 (hp_c15 _) rfl rfl (Nat.le_of_ble_eq_true rfl) rfl (Nat.le_of_ble_eq_true rfl) rfl rfl (Nat.le_of_ble_eq_true rfl) (Nat.le_of_ble_eq_true rfl) ?_
        exact sx_iret dX11_hits_44 rfl (sx_ri (by first | omega | ((repeat' split) <;> first | omega | rfl)) (by rfl))
      · refine sx_bipush (p1 := 33) dX11_hits_31 rfl (by decide) ?_
        exact sx_iret dX11_hits_33 rfl (sx_ri (by first | omega | ((repeat' split) <;> first | omega | rfl)) (by rfl))
set_option maxRecDepth 20000 in
theorem c_X11_harm {X : sx_X} {S : St} {i j k : Int} (hC : CI S) (hi : -2147483648 ≤ i ∧ i ≤ 2147483647) (hj : -2147483648 ≤ j ∧ j ≤ 2147483647) (hk : -2147483648 ≤ k ∧ k ≤ 2147483647)  : Ct X yX11_harm cX11_harm 8 (some .long) 4 0 0 [.ref 2, vI i, vI j, vI k] (hp S) (sx_is (some (vJ (if (i = -1 ∨ (0 ≤ i ∧ i < (cV S).1 1)) ∧ (0 ≤ j ∧ j < (cV S).1 1) ∧ i ≠ j ∧ 0 ≤ k ∧ k ≤ 1 then mFrac (if i = -1 then mSun (cV S) j ((cV S).1 2) ((cV S).2 4 j) else mBy (cV S) i j ((cV S).1 2) ((cV S).2 4 j)) 256 k else -9223372036854775806))) (hp (S))) := by
  obtain ⟨hV, hF, l0, l1, bT, bA, bB, bC, bSh, g3, g5⟩ := hC
  have b0 : 0 ≤ S.1 2 ∧ S.1 2 ≤ 16 := hV.1
  have b1 : 0 ≤ S.1 4 ∧ S.1 4 ≤ 6 := hV.2.1
  have b2 : 0 ≤ S.1 6 ∧ S.1 6 ≤ 99 := hV.2.2.1
  have b3 : 0 ≤ S.1 7 ∧ S.1 7 ≤ 1 := hV.2.2.2.1
  have b4 : 0 ≤ S.1 8 ∧ S.1 8 ≤ 16 := hV.2.2.2.2.1
  have b5 : 0 ≤ S.1 9 ∧ S.1 9 ≤ 999 := hV.2.2.2.2.2.1
  have b6 : 0 ≤ S.1 10 ∧ S.1 10 ≤ 1999 := hV.2.2.2.2.2.2.1
  have b7 : 0 ≤ S.1 11 ∧ S.1 11 ≤ 16 := hV.2.2.2.2.2.2.2.1
  have bK : ∀ q, 0 ≤ gK S q ∧ gK S q ≤ 3 := hV.2.2.2.2.2.2.2.2.1
  have bL : ∀ q, 0 ≤ gL S q ∧ gL S q ≤ 9 := hV.2.2.2.2.2.2.2.2.2.1
  have bW : ∀ q, 0 ≤ pW S q ∧ pW S q ≤ 9 := hV.2.2.2.2.2.2.2.2.2.2.1
  have bS : ∀ q, 0 ≤ pS S q ∧ pS S q ≤ 9 := hV.2.2.2.2.2.2.2.2.2.2.2.1
  have bH : ∀ q, 0 ≤ pH S q ∧ pH S q ≤ 1 := hV.2.2.2.2.2.2.2.2.2.2.2.2
  have c0 : 0 ≤ (cV S).1 0 ∧ (cV S).1 0 ≤ 16 := b0
  have c1 : 0 ≤ (cV S).1 1 ∧ (cV S).1 1 ≤ 6 := b1
  have c2 : 0 ≤ (cV S).1 2 ∧ (cV S).1 2 ≤ 99 := b2
  have c3 : 0 ≤ (cV S).1 3 ∧ (cV S).1 3 ≤ 1 := b3
  have c4 : 0 ≤ (cV S).1 4 ∧ (cV S).1 4 ≤ 16 := b4
  have c5 : 0 ≤ (cV S).1 5 ∧ (cV S).1 5 ≤ 999 := b5
  have c6 : 0 ≤ (cV S).1 6 ∧ (cV S).1 6 ≤ 1999 := b6
  have c7 : 0 ≤ (cV S).1 7 ∧ (cV S).1 7 ≤ 16 := b7
  have z1 := mSun_b hV j (S.1 6) ((cV S).2 4 j)
  have z2 := mBy_b hV i j ((cV S).1 2) ((cV S).2 4 j)
  have z3 : 0 ≤ (cV S).2 4 j ∧ (cV S).2 4 j ≤ 1 := bH j
  refine Ct.of false [some (.ref 2), some (vI i), some (vI j), some (vI k), none, none, none, none] (plainFor_of_name (by decide)) (fun h => by cases h) (Nat.le_of_ble_eq_true rfl) (fun _ => rfl) sx_isl ?_
  refine sx_iload_n (p1 := 1) dX11_harm_0 rfl rfl ?_
  refine sx_iconst (p1 := 2) dX11_harm_1 rfl ?_
  refine sx_icmp_eq (p1 := 5) (tg := 16) dX11_harm_2 rfl rfl (by omega) (by omega) (fun q2 => ?_) (fun q2 => ?_)
  · refine sx_iconst (p1 := 17) dX11_harm_16 rfl ?_
    refine sx_goto (p1 := 21) (tg := 21) dX11_harm_17 rfl rfl ?_
    refine sx_istore (lo1 := [some _, some _, some _, some _, some _, none, none, none]) (p1 := 23) dX11_harm_21 rfl (by decide) rfl ?_
    refine sx_iload (p1 := 25) dX11_harm_23 rfl rfl ?_
    refine sx_if_eq (p1 := 28) (tg := 53) dX11_harm_25 rfl rfl (by omega) (fun q25 => absurd q25 (by omega)) (fun q25 => ?_)
    refine sx_aload_n (p1 := 29) dX11_harm_28 rfl rfl ?_
    refine sx_get (p1 := 32) dX11_harm_29 rfl fl_X11_31 (hp_c2 _) rfl ?_
    refine sx_iload_n (p1 := 33) dX11_harm_32 rfl rfl ?_
    refine sx_callVr (p1 := 36) (As := [_]) (k1 := 0) (n1 := 0) dX11_harm_33 rfl rfl (v_X5_has (V := cV S) rfl hV (by omega)) mt_X5_has ml_X11_137 (hp_c10 _) rfl rfl (Nat.le_of_ble_eq_true rfl) rfl (Nat.le_of_ble_eq_true rfl) rfl rfl (Nat.le_of_ble_eq_true rfl) (Nat.le_of_ble_eq_true rfl) ?_
    refine sx_if_eq (p1 := 39) (tg := 53) dX11_harm_36 rfl rfl (by omega) (fun q36 => ?_) (fun q36 => ?_)
    · refine sx_bipush (p1 := 55) dX11_harm_53 rfl (by decide) ?_
      refine sx_callSr (p1 := 58) (As := [_]) (k1 := 0) (n1 := 0) dX11_harm_55 rfl rfl (c_X11_refusal (by omega)) mt_X11_refusal ml_X11_168 (Nat.le_of_ble_eq_true rfl) rfl (Nat.le_of_ble_eq_true rfl) rfl rfl (Nat.le_of_ble_eq_true rfl) (Nat.le_of_ble_eq_true rfl) ?_
      exact sx_lret dX11_harm_58 rfl (sx_rj (by (repeat' split) <;> first | omega | rfl) (by rfl))
    · refine sx_iload_n (p1 := 40) dX11_harm_39 rfl rfl ?_
      refine sx_iload_n (p1 := 41) dX11_harm_40 rfl rfl ?_
      refine sx_icmp_eq (p1 := 44) (tg := 53) dX11_harm_41 rfl rfl (by omega) (by omega) (fun q41 => ?_) (fun q41 => ?_)
      · refine sx_bipush (p1 := 55) dX11_harm_53 rfl (by decide) ?_
        refine sx_callSr (p1 := 58) (As := [_]) (k1 := 0) (n1 := 0) dX11_harm_55 rfl rfl (c_X11_refusal (by omega)) mt_X11_refusal ml_X11_168 (Nat.le_of_ble_eq_true rfl) rfl (Nat.le_of_ble_eq_true rfl) rfl rfl (Nat.le_of_ble_eq_true rfl) (Nat.le_of_ble_eq_true rfl) ?_
        exact sx_lret dX11_harm_58 rfl (sx_rj (by (repeat' split) <;> first | omega | rfl) (by rfl))
      · refine sx_iload_n (p1 := 45) dX11_harm_44 rfl rfl ?_
        refine sx_iconst (p1 := 46) dX11_harm_45 rfl ?_
        refine sx_iconst (p1 := 47) dX11_harm_46 rfl ?_
        refine sx_callSr (p1 := 50) (As := [_, _, _]) (k1 := 0) (n1 := 0) dX11_harm_47 rfl rfl (c_X11_within (by omega) (by omega) (by omega)) mt_X11_within ml_X11_101 (Nat.le_of_ble_eq_true rfl) rfl (Nat.le_of_ble_eq_true rfl) rfl rfl (Nat.le_of_ble_eq_true rfl) (Nat.le_of_ble_eq_true rfl) ?_
        refine sx_if_ne (p1 := 53) (tg := 59) dX11_harm_50 rfl rfl (by omega) (fun q50 => ?_) (fun q50 => ?_)
        · refine sx_aload_n (p1 := 60) dX11_harm_59 rfl rfl ?_
          refine sx_get (p1 := 63) dX11_harm_60 rfl fl_X11_31 (hp_c2 _) rfl ?_
          refine sx_iload_n (p1 := 64) dX11_harm_63 rfl rfl ?_
          refine sx_callVr (p1 := 67) (As := [_]) (k1 := 0) (n1 := 0) dX11_harm_64 rfl rfl (v_X5_helmetOf (V := cV S) rfl hV (by omega)) mt_X5_helmetOf ml_X11_144 (hp_c10 _) rfl rfl (Nat.le_of_ble_eq_true rfl) rfl (Nat.le_of_ble_eq_true rfl) rfl rfl (Nat.le_of_ble_eq_true rfl) (Nat.le_of_ble_eq_true rfl) ?_
          refine sx_istore (lo1 := [some _, some _, some _, some _, some _, some _, none, none]) (p1 := 69) dX11_harm_67 rfl (by decide) rfl ?_
          refine sx_iload_n (p1 := 70) dX11_harm_69 rfl rfl ?_
          refine sx_iconst (p1 := 71) dX11_harm_70 rfl ?_
          refine sx_icmp_ne (p1 := 74) (tg := 94) dX11_harm_71 rfl rfl (by omega) (by omega) (fun q71 => ?_) (fun q71 => ?_)
          · refine sx_aload_n (p1 := 95) dX11_harm_94 rfl rfl ?_
            refine sx_get (p1 := 98) dX11_harm_95 rfl fl_X11_47 (hp_c2 _) rfl ?_
            refine sx_iload_n (p1 := 99) dX11_harm_98 rfl rfl ?_
            refine sx_iload_n (p1 := 100) dX11_harm_99 rfl rfl ?_
            refine sx_iload (p1 := 102) dX11_harm_100 rfl rfl ?_
            refine sx_callVr (p1 := 105) (As := [_, _, _]) (k1 := 0) (n1 := 0) dX11_harm_102 rfl rfl (v_X8_byWalker (V := cV S) rfl hV (by omega) (by omega) (by omega)) mt_X8_byWalker ml_X11_180 (hp_c15 _) rfl rfl (Nat.le_of_ble_eq_true rfl) rfl (Nat.le_of_ble_eq_true rfl) rfl rfl (Nat.le_of_ble_eq_true rfl) (Nat.le_of_ble_eq_true rfl) ?_
            refine sx_lstore (lo1 := [some _, some _, some _, some _, some _, some _, some _, none]) (p1 := 107) dX11_harm_105 rfl (by decide) rfl ?_
            refine sx_lload (p1 := 109) dX11_harm_107 rfl rfl ?_
            refine sx_ldc2 (z := 256) (p1 := 112) dX11_harm_109 rfl kc_X11_183 (by decide) ?_
            refine sx_iload_n (p1 := 113) dX11_harm_112 rfl rfl ?_
            refine sx_callSr (p1 := 116) (As := [_, _, _]) (k1 := 0) (n1 := 0) dX11_harm_113 rfl rfl (c_X11_fraction (by omega) (by omega) (by omega)) mt_X11_fraction ml_X11_185 (Nat.le_of_ble_eq_true rfl) rfl (Nat.le_of_ble_eq_true rfl) rfl rfl (Nat.le_of_ble_eq_true rfl) (Nat.le_of_ble_eq_true rfl) ?_
            exact sx_lret dX11_harm_116 rfl (sx_rj (by (repeat' split) <;> first | omega | rfl) (by rfl))
          · refine sx_aload_n (p1 := 75) dX11_harm_74 rfl rfl ?_
            refine sx_get (p1 := 78) dX11_harm_75 rfl fl_X11_47 (hp_c2 _) rfl ?_
            refine sx_iload_n (p1 := 79) dX11_harm_78 rfl rfl ?_
            refine sx_iload (p1 := 81) dX11_harm_79 rfl rfl ?_
            refine sx_aload_n (p1 := 82) dX11_harm_81 rfl rfl ?_
            refine sx_get (p1 := 85) dX11_harm_82 rfl fl_X11_38 (hp_c2 _) rfl ?_
            refine sx_get (v := vI (S.1 6)) (p1 := 88) dX11_harm_85 rfl fl_X11_172 (hp_c14 _) rfl ?_
            refine sx_callVr (p1 := 91) (As := [_, _, _]) (k1 := 0) (n1 := 0) dX11_harm_88 rfl rfl (v_X8_bySun (V := cV S) rfl hV hF (by omega) (by omega) (by omega)) mt_X8_bySun ml_X11_176 (hp_c15 _) rfl rfl (Nat.le_of_ble_eq_true rfl) rfl (Nat.le_of_ble_eq_true rfl) rfl rfl (Nat.le_of_ble_eq_true rfl) (Nat.le_of_ble_eq_true rfl) ?_
            refine sx_goto (p1 := 105) (tg := 105) dX11_harm_91 rfl rfl ?_
            refine sx_lstore (lo1 := [some _, some _, some _, some _, some _, some _, some _, none]) (p1 := 107) dX11_harm_105 rfl (by decide) rfl ?_
            refine sx_lload (p1 := 109) dX11_harm_107 rfl rfl ?_
            refine sx_ldc2 (z := 256) (p1 := 112) dX11_harm_109 rfl kc_X11_183 (by decide) ?_
            refine sx_iload_n (p1 := 113) dX11_harm_112 rfl rfl ?_
            refine sx_callSr (p1 := 116) (As := [_, _, _]) (k1 := 0) (n1 := 0) dX11_harm_113 rfl rfl (c_X11_fraction (by omega) (by omega) (by omega)) mt_X11_fraction ml_X11_185 (Nat.le_of_ble_eq_true rfl) rfl (Nat.le_of_ble_eq_true rfl) rfl rfl (Nat.le_of_ble_eq_true rfl) (Nat.le_of_ble_eq_true rfl) ?_
            exact sx_lret dX11_harm_116 rfl (sx_rj (by (repeat' split) <;> first | omega | rfl) (by rfl))
        · refine sx_bipush (p1 := 55) dX11_harm_53 rfl (by decide) ?_
          refine sx_callSr (p1 := 58) (As := [_]) (k1 := 0) (n1 := 0) dX11_harm_55 rfl rfl (c_X11_refusal (by omega)) mt_X11_refusal ml_X11_168 (Nat.le_of_ble_eq_true rfl) rfl (Nat.le_of_ble_eq_true rfl) rfl rfl (Nat.le_of_ble_eq_true rfl) (Nat.le_of_ble_eq_true rfl) ?_
          exact sx_lret dX11_harm_58 rfl (sx_rj (by (repeat' split) <;> first | omega | rfl) (by rfl))
  · refine sx_aload_n (p1 := 6) dX11_harm_5 rfl rfl ?_
    refine sx_get (p1 := 9) dX11_harm_6 rfl fl_X11_31 (hp_c2 _) rfl ?_
    refine sx_iload_n (p1 := 10) dX11_harm_9 rfl rfl ?_
    refine sx_callVr (p1 := 13) (As := [_]) (k1 := 0) (n1 := 0) dX11_harm_10 rfl rfl (v_X5_has (V := cV S) rfl hV (by omega)) mt_X5_has ml_X11_137 (hp_c10 _) rfl rfl (Nat.le_of_ble_eq_true rfl) rfl (Nat.le_of_ble_eq_true rfl) rfl rfl (Nat.le_of_ble_eq_true rfl) (Nat.le_of_ble_eq_true rfl) ?_
    refine sx_if_eq (p1 := 16) (tg := 20) dX11_harm_13 rfl rfl (by omega) (fun q13 => ?_) (fun q13 => ?_)
    · refine sx_iconst (p1 := 21) dX11_harm_20 rfl ?_
      refine sx_istore (lo1 := [some _, some _, some _, some _, some _, none, none, none]) (p1 := 23) dX11_harm_21 rfl (by decide) rfl ?_
      refine sx_iload (p1 := 25) dX11_harm_23 rfl rfl ?_
      refine sx_if_eq (p1 := 28) (tg := 53) dX11_harm_25 rfl rfl (by omega) (fun q25 => ?_) (fun q25 => absurd q25 (by omega))
      refine sx_bipush (p1 := 55) dX11_harm_53 rfl (by decide) ?_
      refine sx_callSr (p1 := 58) (As := [_]) (k1 := 0) (n1 := 0) dX11_harm_55 rfl rfl (c_X11_refusal (by omega)) mt_X11_refusal ml_X11_168 (Nat.le_of_ble_eq_true rfl) rfl (Nat.le_of_ble_eq_true rfl) rfl rfl (Nat.le_of_ble_eq_true rfl) (Nat.le_of_ble_eq_true rfl) ?_
      exact sx_lret dX11_harm_58 rfl (sx_rj (by (repeat' split) <;> first | omega | rfl) (by rfl))
    · refine sx_iconst (p1 := 17) dX11_harm_16 rfl ?_
      refine sx_goto (p1 := 21) (tg := 21) dX11_harm_17 rfl rfl ?_
      refine sx_istore (lo1 := [some _, some _, some _, some _, some _, none, none, none]) (p1 := 23) dX11_harm_21 rfl (by decide) rfl ?_
      refine sx_iload (p1 := 25) dX11_harm_23 rfl rfl ?_
      refine sx_if_eq (p1 := 28) (tg := 53) dX11_harm_25 rfl rfl (by omega) (fun q25 => absurd q25 (by omega)) (fun q25 => ?_)
      refine sx_aload_n (p1 := 29) dX11_harm_28 rfl rfl ?_
      refine sx_get (p1 := 32) dX11_harm_29 rfl fl_X11_31 (hp_c2 _) rfl ?_
      refine sx_iload_n (p1 := 33) dX11_harm_32 rfl rfl ?_
      refine sx_callVr (p1 := 36) (As := [_]) (k1 := 0) (n1 := 0) dX11_harm_33 rfl rfl (v_X5_has (V := cV S) rfl hV (by omega)) mt_X5_has ml_X11_137 (hp_c10 _) rfl rfl (Nat.le_of_ble_eq_true rfl) rfl (Nat.le_of_ble_eq_true rfl) rfl rfl (Nat.le_of_ble_eq_true rfl) (Nat.le_of_ble_eq_true rfl) ?_
      refine sx_if_eq (p1 := 39) (tg := 53) dX11_harm_36 rfl rfl (by omega) (fun q36 => ?_) (fun q36 => ?_)
      · refine sx_bipush (p1 := 55) dX11_harm_53 rfl (by decide) ?_
        refine sx_callSr (p1 := 58) (As := [_]) (k1 := 0) (n1 := 0) dX11_harm_55 rfl rfl (c_X11_refusal (by omega)) mt_X11_refusal ml_X11_168 (Nat.le_of_ble_eq_true rfl) rfl (Nat.le_of_ble_eq_true rfl) rfl rfl (Nat.le_of_ble_eq_true rfl) (Nat.le_of_ble_eq_true rfl) ?_
        exact sx_lret dX11_harm_58 rfl (sx_rj (by (repeat' split) <;> first | omega | rfl) (by rfl))
      · refine sx_iload_n (p1 := 40) dX11_harm_39 rfl rfl ?_
        refine sx_iload_n (p1 := 41) dX11_harm_40 rfl rfl ?_
        refine sx_icmp_eq (p1 := 44) (tg := 53) dX11_harm_41 rfl rfl (by omega) (by omega) (fun q41 => ?_) (fun q41 => ?_)
        · refine sx_bipush (p1 := 55) dX11_harm_53 rfl (by decide) ?_
          refine sx_callSr (p1 := 58) (As := [_]) (k1 := 0) (n1 := 0) dX11_harm_55 rfl rfl (c_X11_refusal (by omega)) mt_X11_refusal ml_X11_168 (Nat.le_of_ble_eq_true rfl) rfl (Nat.le_of_ble_eq_true rfl) rfl rfl (Nat.le_of_ble_eq_true rfl) (Nat.le_of_ble_eq_true rfl) ?_
          exact sx_lret dX11_harm_58 rfl (sx_rj (by (repeat' split) <;> first | omega | rfl) (by rfl))
        · refine sx_iload_n (p1 := 45) dX11_harm_44 rfl rfl ?_
          refine sx_iconst (p1 := 46) dX11_harm_45 rfl ?_
          refine sx_iconst (p1 := 47) dX11_harm_46 rfl ?_
          refine sx_callSr (p1 := 50) (As := [_, _, _]) (k1 := 0) (n1 := 0) dX11_harm_47 rfl rfl (c_X11_within (by omega) (by omega) (by omega)) mt_X11_within ml_X11_101 (Nat.le_of_ble_eq_true rfl) rfl (Nat.le_of_ble_eq_true rfl) rfl rfl (Nat.le_of_ble_eq_true rfl) (Nat.le_of_ble_eq_true rfl) ?_
          refine sx_if_ne (p1 := 53) (tg := 59) dX11_harm_50 rfl rfl (by omega) (fun q50 => ?_) (fun q50 => ?_)
          · refine sx_aload_n (p1 := 60) dX11_harm_59 rfl rfl ?_
            refine sx_get (p1 := 63) dX11_harm_60 rfl fl_X11_31 (hp_c2 _) rfl ?_
            refine sx_iload_n (p1 := 64) dX11_harm_63 rfl rfl ?_
            refine sx_callVr (p1 := 67) (As := [_]) (k1 := 0) (n1 := 0) dX11_harm_64 rfl rfl (v_X5_helmetOf (V := cV S) rfl hV (by omega)) mt_X5_helmetOf ml_X11_144 (hp_c10 _) rfl rfl (Nat.le_of_ble_eq_true rfl) rfl (Nat.le_of_ble_eq_true rfl) rfl rfl (Nat.le_of_ble_eq_true rfl) (Nat.le_of_ble_eq_true rfl) ?_
            refine sx_istore (lo1 := [some _, some _, some _, some _, some _, some _, none, none]) (p1 := 69) dX11_harm_67 rfl (by decide) rfl ?_
            refine sx_iload_n (p1 := 70) dX11_harm_69 rfl rfl ?_
            refine sx_iconst (p1 := 71) dX11_harm_70 rfl ?_
            refine sx_icmp_ne (p1 := 74) (tg := 94) dX11_harm_71 rfl rfl (by omega) (by omega) (fun q71 => ?_) (fun q71 => ?_)
            · refine sx_aload_n (p1 := 95) dX11_harm_94 rfl rfl ?_
              refine sx_get (p1 := 98) dX11_harm_95 rfl fl_X11_47 (hp_c2 _) rfl ?_
              refine sx_iload_n (p1 := 99) dX11_harm_98 rfl rfl ?_
              refine sx_iload_n (p1 := 100) dX11_harm_99 rfl rfl ?_
              refine sx_iload (p1 := 102) dX11_harm_100 rfl rfl ?_
              refine sx_callVr (p1 := 105) (As := [_, _, _]) (k1 := 0) (n1 := 0) dX11_harm_102 rfl rfl (v_X8_byWalker (V := cV S) rfl hV (by omega) (by omega) (by omega)) mt_X8_byWalker ml_X11_180 (hp_c15 _) rfl rfl (Nat.le_of_ble_eq_true rfl) rfl (Nat.le_of_ble_eq_true rfl) rfl rfl (Nat.le_of_ble_eq_true rfl) (Nat.le_of_ble_eq_true rfl) ?_
              refine sx_lstore (lo1 := [some _, some _, some _, some _, some _, some _, some _, none]) (p1 := 107) dX11_harm_105 rfl (by decide) rfl ?_
              refine sx_lload (p1 := 109) dX11_harm_107 rfl rfl ?_
              refine sx_ldc2 (z := 256) (p1 := 112) dX11_harm_109 rfl kc_X11_183 (by decide) ?_
              refine sx_iload_n (p1 := 113) dX11_harm_112 rfl rfl ?_
              refine sx_callSr (p1 := 116) (As := [_, _, _]) (k1 := 0) (n1 := 0) dX11_harm_113 rfl rfl (c_X11_fraction (by omega) (by omega) (by omega)) mt_X11_fraction ml_X11_185 (Nat.le_of_ble_eq_true rfl) rfl (Nat.le_of_ble_eq_true rfl) rfl rfl (Nat.le_of_ble_eq_true rfl) (Nat.le_of_ble_eq_true rfl) ?_
              exact sx_lret dX11_harm_116 rfl (sx_rj (by (repeat' split) <;> first | omega | rfl) (by rfl))
            · refine sx_aload_n (p1 := 75) dX11_harm_74 rfl rfl ?_
              refine sx_get (p1 := 78) dX11_harm_75 rfl fl_X11_47 (hp_c2 _) rfl ?_
              refine sx_iload_n (p1 := 79) dX11_harm_78 rfl rfl ?_
              refine sx_iload (p1 := 81) dX11_harm_79 rfl rfl ?_
              refine sx_aload_n (p1 := 82) dX11_harm_81 rfl rfl ?_
              refine sx_get (p1 := 85) dX11_harm_82 rfl fl_X11_38 (hp_c2 _) rfl ?_
              refine sx_get (v := vI (S.1 6)) (p1 := 88) dX11_harm_85 rfl fl_X11_172 (hp_c14 _) rfl ?_
              refine sx_callVr (p1 := 91) (As := [_, _, _]) (k1 := 0) (n1 := 0) dX11_harm_88 rfl rfl (v_X8_bySun (V := cV S) rfl hV hF (by omega) (by omega) (by omega)) mt_X8_bySun ml_X11_176 (hp_c15 _) rfl rfl (Nat.le_of_ble_eq_true rfl) rfl (Nat.le_of_ble_eq_true rfl) rfl rfl (Nat.le_of_ble_eq_true rfl) (Nat.le_of_ble_eq_true rfl) ?_
              refine sx_goto (p1 := 105) (tg := 105) dX11_harm_91 rfl rfl ?_
              refine sx_lstore (lo1 := [some _, some _, some _, some _, some _, some _, some _, none]) (p1 := 107) dX11_harm_105 rfl (by decide) rfl ?_
              refine sx_lload (p1 := 109) dX11_harm_107 rfl rfl ?_
              refine sx_ldc2 (z := 256) (p1 := 112) dX11_harm_109 rfl kc_X11_183 (by decide) ?_
              refine sx_iload_n (p1 := 113) dX11_harm_112 rfl rfl ?_
              refine sx_callSr (p1 := 116) (As := [_, _, _]) (k1 := 0) (n1 := 0) dX11_harm_113 rfl rfl (c_X11_fraction (by omega) (by omega) (by omega)) mt_X11_fraction ml_X11_185 (Nat.le_of_ble_eq_true rfl) rfl (Nat.le_of_ble_eq_true rfl) rfl rfl (Nat.le_of_ble_eq_true rfl) (Nat.le_of_ble_eq_true rfl) ?_
              exact sx_lret dX11_harm_116 rfl (sx_rj (by (repeat' split) <;> first | omega | rfl) (by rfl))
          · refine sx_bipush (p1 := 55) dX11_harm_53 rfl (by decide) ?_
            refine sx_callSr (p1 := 58) (As := [_]) (k1 := 0) (n1 := 0) dX11_harm_55 rfl rfl (c_X11_refusal (by omega)) mt_X11_refusal ml_X11_168 (Nat.le_of_ble_eq_true rfl) rfl (Nat.le_of_ble_eq_true rfl) rfl rfl (Nat.le_of_ble_eq_true rfl) (Nat.le_of_ble_eq_true rfl) ?_
            exact sx_lret dX11_harm_58 rfl (sx_rj (by (repeat' split) <;> first | omega | rfl) (by rfl))
set_option maxRecDepth 20000 in
theorem c_X11_all {X : sx_X} {S : St} {i j : Int} (hC : CI S) (hi : -2147483648 ≤ i ∧ i ≤ 2147483647) (hj : -2147483648 ≤ j ∧ j ≤ 2147483647)  : Ct X yX11_all cX11_all 7 (some .long) 5 0 0 [.ref 2, vI i, vI j] (hp S) (sx_is (some (vJ (if (i = -1 ∨ (0 ≤ i ∧ i < (cV S).1 1)) ∧ 0 ≤ j ∧ j ≤ 1 then mFrac (if i = -1 then mAll (cV S) ((cV S).1 2) else mTo (cV S) i ((cV S).2 4 i) ((cV S).1 2)) 256 j else -9223372036854775806))) (hp (S))) := by
  obtain ⟨hV, hF, l0, l1, bT, bA, bB, bC, bSh, g3, g5⟩ := hC
  have b0 : 0 ≤ S.1 2 ∧ S.1 2 ≤ 16 := hV.1
  have b1 : 0 ≤ S.1 4 ∧ S.1 4 ≤ 6 := hV.2.1
  have b2 : 0 ≤ S.1 6 ∧ S.1 6 ≤ 99 := hV.2.2.1
  have b3 : 0 ≤ S.1 7 ∧ S.1 7 ≤ 1 := hV.2.2.2.1
  have b4 : 0 ≤ S.1 8 ∧ S.1 8 ≤ 16 := hV.2.2.2.2.1
  have b5 : 0 ≤ S.1 9 ∧ S.1 9 ≤ 999 := hV.2.2.2.2.2.1
  have b6 : 0 ≤ S.1 10 ∧ S.1 10 ≤ 1999 := hV.2.2.2.2.2.2.1
  have b7 : 0 ≤ S.1 11 ∧ S.1 11 ≤ 16 := hV.2.2.2.2.2.2.2.1
  have bK : ∀ q, 0 ≤ gK S q ∧ gK S q ≤ 3 := hV.2.2.2.2.2.2.2.2.1
  have bL : ∀ q, 0 ≤ gL S q ∧ gL S q ≤ 9 := hV.2.2.2.2.2.2.2.2.2.1
  have bW : ∀ q, 0 ≤ pW S q ∧ pW S q ≤ 9 := hV.2.2.2.2.2.2.2.2.2.2.1
  have bS : ∀ q, 0 ≤ pS S q ∧ pS S q ≤ 9 := hV.2.2.2.2.2.2.2.2.2.2.2.1
  have bH : ∀ q, 0 ≤ pH S q ∧ pH S q ≤ 1 := hV.2.2.2.2.2.2.2.2.2.2.2.2
  have c0 : 0 ≤ (cV S).1 0 ∧ (cV S).1 0 ≤ 16 := b0
  have c1 : 0 ≤ (cV S).1 1 ∧ (cV S).1 1 ≤ 6 := b1
  have c2 : 0 ≤ (cV S).1 2 ∧ (cV S).1 2 ≤ 99 := b2
  have c3 : 0 ≤ (cV S).1 3 ∧ (cV S).1 3 ≤ 1 := b3
  have c4 : 0 ≤ (cV S).1 4 ∧ (cV S).1 4 ≤ 16 := b4
  have c5 : 0 ≤ (cV S).1 5 ∧ (cV S).1 5 ≤ 999 := b5
  have c6 : 0 ≤ (cV S).1 6 ∧ (cV S).1 6 ≤ 1999 := b6
  have c7 : 0 ≤ (cV S).1 7 ∧ (cV S).1 7 ≤ 16 := b7
  have z1 := mAll_b hV (S.1 6)
  have z3 : 0 ≤ (cV S).2 4 i ∧ (cV S).2 4 i ≤ 1 := bH i
  have z2 : i ≤ 6 → _ := fun q => mTo_b hV q ((cV S).2 4 i) (S.1 6)
  refine Ct.of false [some (.ref 2), some (vI i), some (vI j), none, none, none, none] (plainFor_of_name (by decide)) (fun h => by cases h) (Nat.le_of_ble_eq_true rfl) (fun _ => rfl) sx_isl ?_
  refine sx_aload_n (p1 := 1) dX11_all_0 rfl rfl ?_
  refine sx_get (p1 := 4) dX11_all_1 rfl fl_X11_31 (hp_c2 _) rfl ?_
  refine sx_iload_n (p1 := 5) dX11_all_4 rfl rfl ?_
  refine sx_callVr (p1 := 8) (As := [_]) (k1 := 0) (n1 := 0) dX11_all_5 rfl rfl (v_X5_has (V := cV S) rfl hV (by omega)) mt_X5_has ml_X11_137 (hp_c10 _) rfl rfl (Nat.le_of_ble_eq_true rfl) rfl (Nat.le_of_ble_eq_true rfl) rfl rfl (Nat.le_of_ble_eq_true rfl) (Nat.le_of_ble_eq_true rfl) ?_
  refine sx_istore_n (lo1 := [some _, some _, some _, some _, none, none, none]) (p1 := 9) dX11_all_8 rfl (by decide) rfl ?_
  refine sx_iload_n (p1 := 10) dX11_all_9 rfl rfl ?_
  refine sx_if_ne (p1 := 13) (tg := 18) dX11_all_10 rfl rfl (by omega) (fun q10 => ?_) (fun q10 => ?_)
  · refine sx_iload_n (p1 := 19) dX11_all_18 rfl rfl ?_
    refine sx_iconst (p1 := 20) dX11_all_19 rfl ?_
    refine sx_iconst (p1 := 21) dX11_all_20 rfl ?_
    refine sx_callSr (p1 := 24) (As := [_, _, _]) (k1 := 0) (n1 := 0) dX11_all_21 rfl rfl (c_X11_within (by omega) (by omega) (by omega)) mt_X11_within ml_X11_101 (Nat.le_of_ble_eq_true rfl) rfl (Nat.le_of_ble_eq_true rfl) rfl rfl (Nat.le_of_ble_eq_true rfl) (Nat.le_of_ble_eq_true rfl) ?_
    refine sx_if_ne (p1 := 27) (tg := 33) dX11_all_24 rfl rfl (by omega) (fun q24 => ?_) (fun q24 => ?_)
    · refine sx_aload_n (p1 := 34) dX11_all_33 rfl rfl ?_
      refine sx_get (p1 := 37) dX11_all_34 rfl fl_X11_38 (hp_c2 _) rfl ?_
      refine sx_get (v := vI (S.1 6)) (p1 := 40) dX11_all_37 rfl fl_X11_172 (hp_c14 _) rfl ?_
      refine sx_istore (lo1 := [some _, some _, some _, some _, some _, none, none]) (p1 := 42) dX11_all_40 rfl (by decide) rfl ?_
      refine sx_iload_n (p1 := 43) dX11_all_42 rfl rfl ?_
      refine sx_if_eq (p1 := 46) (tg := 67) dX11_all_43 rfl rfl (by omega) (fun q43 => ?_) (fun q43 => ?_)
      · refine sx_aload_n (p1 := 68) dX11_all_67 rfl rfl ?_
        refine sx_get (p1 := 71) dX11_all_68 rfl fl_X11_47 (hp_c2 _) rfl ?_
        refine sx_iload (p1 := 73) dX11_all_71 rfl rfl ?_
        refine sx_callVr (p1 := 76) (As := [_]) (k1 := 0) (n1 := 0) dX11_all_73 rfl rfl (v_X8_together (V := cV S) rfl hV hF (by omega)) mt_X8_together ml_X11_192 (hp_c15 _) rfl rfl (Nat.le_of_ble_eq_true rfl) rfl (Nat.le_of_ble_eq_true rfl) rfl rfl (Nat.le_of_ble_eq_true rfl) (Nat.le_of_ble_eq_true rfl) ?_
        refine sx_lstore (lo1 := [some _, some _, some _, some _, some _, some _, none]) (p1 := 78) dX11_all_76 rfl (by decide) rfl ?_
        refine sx_lload (p1 := 80) dX11_all_78 rfl rfl ?_
        refine sx_ldc2 (z := 256) (p1 := 83) dX11_all_80 rfl kc_X11_183 (by decide) ?_
        refine sx_iload_n (p1 := 84) dX11_all_83 rfl rfl ?_
        refine sx_callSr (p1 := 87) (As := [_, _, _]) (k1 := 0) (n1 := 0) dX11_all_84 rfl rfl (c_X11_fraction (by omega) (by omega) (by omega)) mt_X11_fraction ml_X11_185 (Nat.le_of_ble_eq_true rfl) rfl (Nat.le_of_ble_eq_true rfl) rfl rfl (Nat.le_of_ble_eq_true rfl) (Nat.le_of_ble_eq_true rfl) ?_
        exact sx_lret dX11_all_87 rfl (sx_rj (by (repeat' split) <;> first | omega | rfl) (by rfl))
      · refine sx_aload_n (p1 := 47) dX11_all_46 rfl rfl ?_
        refine sx_get (p1 := 50) dX11_all_47 rfl fl_X11_47 (hp_c2 _) rfl ?_
        refine sx_iload_n (p1 := 51) dX11_all_50 rfl rfl ?_
        refine sx_aload_n (p1 := 52) dX11_all_51 rfl rfl ?_
        refine sx_get (p1 := 55) dX11_all_52 rfl fl_X11_31 (hp_c2 _) rfl ?_
        refine sx_iload_n (p1 := 56) dX11_all_55 rfl rfl ?_
        refine sx_callVr (p1 := 59) (As := [_]) (k1 := 0) (n1 := 0) dX11_all_56 rfl rfl (v_X5_helmetOf (V := cV S) rfl hV (by omega)) mt_X5_helmetOf ml_X11_144 (hp_c10 _) rfl rfl (Nat.le_of_ble_eq_true rfl) rfl (Nat.le_of_ble_eq_true rfl) rfl rfl (Nat.le_of_ble_eq_true rfl) (Nat.le_of_ble_eq_true rfl) ?_
        refine sx_iload (p1 := 61) dX11_all_59 rfl rfl ?_
        refine sx_callVr (p1 := 64) (As := [_, _, _]) (k1 := 0) (n1 := 0) dX11_all_61 rfl rfl (v_X8_toWalker (V := cV S) rfl hV hF (by omega) (by omega) (by omega)) mt_X8_toWalker ml_X11_189 (hp_c15 _) rfl rfl (Nat.le_of_ble_eq_true rfl) rfl (Nat.le_of_ble_eq_true rfl) rfl rfl (Nat.le_of_ble_eq_true rfl) (Nat.le_of_ble_eq_true rfl) ?_
        refine sx_goto (p1 := 76) (tg := 76) dX11_all_64 rfl rfl ?_
        refine sx_lstore (lo1 := [some _, some _, some _, some _, some _, some _, none]) (p1 := 78) dX11_all_76 rfl (by decide) rfl ?_
        refine sx_lload (p1 := 80) dX11_all_78 rfl rfl ?_
        refine sx_ldc2 (z := 256) (p1 := 83) dX11_all_80 rfl kc_X11_183 (by decide) ?_
        refine sx_iload_n (p1 := 84) dX11_all_83 rfl rfl ?_
        refine sx_callSr (p1 := 87) (As := [_, _, _]) (k1 := 0) (n1 := 0) dX11_all_84 rfl rfl (c_X11_fraction (by omega) (by omega) (by omega)) mt_X11_fraction ml_X11_185 (Nat.le_of_ble_eq_true rfl) rfl (Nat.le_of_ble_eq_true rfl) rfl rfl (Nat.le_of_ble_eq_true rfl) (Nat.le_of_ble_eq_true rfl) ?_
        exact sx_lret dX11_all_87 rfl (sx_rj (by (repeat' split) <;> first | omega | rfl) (by rfl))
    · refine sx_bipush (p1 := 29) dX11_all_27 rfl (by decide) ?_
      refine sx_callSr (p1 := 32) (As := [_]) (k1 := 0) (n1 := 0) dX11_all_29 rfl rfl (c_X11_refusal (by omega)) mt_X11_refusal ml_X11_168 (Nat.le_of_ble_eq_true rfl) rfl (Nat.le_of_ble_eq_true rfl) rfl rfl (Nat.le_of_ble_eq_true rfl) (Nat.le_of_ble_eq_true rfl) ?_
      exact sx_lret dX11_all_32 rfl (sx_rj (by (repeat' split) <;> first | omega | rfl) (by rfl))
  · refine sx_iload_n (p1 := 14) dX11_all_13 rfl rfl ?_
    refine sx_iconst (p1 := 15) dX11_all_14 rfl ?_
    refine sx_icmp_ne (p1 := 18) (tg := 27) dX11_all_15 rfl rfl (by omega) (by omega) (fun q15 => ?_) (fun q15 => ?_)
    · refine sx_bipush (p1 := 29) dX11_all_27 rfl (by decide) ?_
      refine sx_callSr (p1 := 32) (As := [_]) (k1 := 0) (n1 := 0) dX11_all_29 rfl rfl (c_X11_refusal (by omega)) mt_X11_refusal ml_X11_168 (Nat.le_of_ble_eq_true rfl) rfl (Nat.le_of_ble_eq_true rfl) rfl rfl (Nat.le_of_ble_eq_true rfl) (Nat.le_of_ble_eq_true rfl) ?_
      exact sx_lret dX11_all_32 rfl (sx_rj (by (repeat' split) <;> first | omega | rfl) (by rfl))
    · refine sx_iload_n (p1 := 19) dX11_all_18 rfl rfl ?_
      refine sx_iconst (p1 := 20) dX11_all_19 rfl ?_
      refine sx_iconst (p1 := 21) dX11_all_20 rfl ?_
      refine sx_callSr (p1 := 24) (As := [_, _, _]) (k1 := 0) (n1 := 0) dX11_all_21 rfl rfl (c_X11_within (by omega) (by omega) (by omega)) mt_X11_within ml_X11_101 (Nat.le_of_ble_eq_true rfl) rfl (Nat.le_of_ble_eq_true rfl) rfl rfl (Nat.le_of_ble_eq_true rfl) (Nat.le_of_ble_eq_true rfl) ?_
      refine sx_if_ne (p1 := 27) (tg := 33) dX11_all_24 rfl rfl (by omega) (fun q24 => ?_) (fun q24 => ?_)
      · refine sx_aload_n (p1 := 34) dX11_all_33 rfl rfl ?_
        refine sx_get (p1 := 37) dX11_all_34 rfl fl_X11_38 (hp_c2 _) rfl ?_
        refine sx_get (v := vI (S.1 6)) (p1 := 40) dX11_all_37 rfl fl_X11_172 (hp_c14 _) rfl ?_
        refine sx_istore (lo1 := [some _, some _, some _, some _, some _, none, none]) (p1 := 42) dX11_all_40 rfl (by decide) rfl ?_
        refine sx_iload_n (p1 := 43) dX11_all_42 rfl rfl ?_
        refine sx_if_eq (p1 := 46) (tg := 67) dX11_all_43 rfl rfl (by omega) (fun q43 => ?_) (fun q43 => ?_)
        · refine sx_aload_n (p1 := 68) dX11_all_67 rfl rfl ?_
          refine sx_get (p1 := 71) dX11_all_68 rfl fl_X11_47 (hp_c2 _) rfl ?_
          refine sx_iload (p1 := 73) dX11_all_71 rfl rfl ?_
          refine sx_callVr (p1 := 76) (As := [_]) (k1 := 0) (n1 := 0) dX11_all_73 rfl rfl (v_X8_together (V := cV S) rfl hV hF (by omega)) mt_X8_together ml_X11_192 (hp_c15 _) rfl rfl (Nat.le_of_ble_eq_true rfl) rfl (Nat.le_of_ble_eq_true rfl) rfl rfl (Nat.le_of_ble_eq_true rfl) (Nat.le_of_ble_eq_true rfl) ?_
          refine sx_lstore (lo1 := [some _, some _, some _, some _, some _, some _, none]) (p1 := 78) dX11_all_76 rfl (by decide) rfl ?_
          refine sx_lload (p1 := 80) dX11_all_78 rfl rfl ?_
          refine sx_ldc2 (z := 256) (p1 := 83) dX11_all_80 rfl kc_X11_183 (by decide) ?_
          refine sx_iload_n (p1 := 84) dX11_all_83 rfl rfl ?_
          refine sx_callSr (p1 := 87) (As := [_, _, _]) (k1 := 0) (n1 := 0) dX11_all_84 rfl rfl (c_X11_fraction (by omega) (by omega) (by omega)) mt_X11_fraction ml_X11_185 (Nat.le_of_ble_eq_true rfl) rfl (Nat.le_of_ble_eq_true rfl) rfl rfl (Nat.le_of_ble_eq_true rfl) (Nat.le_of_ble_eq_true rfl) ?_
          exact sx_lret dX11_all_87 rfl (sx_rj (by (repeat' split) <;> first | omega | rfl) (by rfl))
        · refine sx_aload_n (p1 := 47) dX11_all_46 rfl rfl ?_
          refine sx_get (p1 := 50) dX11_all_47 rfl fl_X11_47 (hp_c2 _) rfl ?_
          refine sx_iload_n (p1 := 51) dX11_all_50 rfl rfl ?_
          refine sx_aload_n (p1 := 52) dX11_all_51 rfl rfl ?_
          refine sx_get (p1 := 55) dX11_all_52 rfl fl_X11_31 (hp_c2 _) rfl ?_
          refine sx_iload_n (p1 := 56) dX11_all_55 rfl rfl ?_
          refine sx_callVr (p1 := 59) (As := [_]) (k1 := 0) (n1 := 0) dX11_all_56 rfl rfl (v_X5_helmetOf (V := cV S) rfl hV (by omega)) mt_X5_helmetOf ml_X11_144 (hp_c10 _) rfl rfl (Nat.le_of_ble_eq_true rfl) rfl (Nat.le_of_ble_eq_true rfl) rfl rfl (Nat.le_of_ble_eq_true rfl) (Nat.le_of_ble_eq_true rfl) ?_
          refine sx_iload (p1 := 61) dX11_all_59 rfl rfl ?_
          refine sx_callVr (p1 := 64) (As := [_, _, _]) (k1 := 0) (n1 := 0) dX11_all_61 rfl rfl (v_X8_toWalker (V := cV S) rfl hV hF (by omega) (by omega) (by omega)) mt_X8_toWalker ml_X11_189 (hp_c15 _) rfl rfl (Nat.le_of_ble_eq_true rfl) rfl (Nat.le_of_ble_eq_true rfl) rfl rfl (Nat.le_of_ble_eq_true rfl) (Nat.le_of_ble_eq_true rfl) ?_
          refine sx_goto (p1 := 76) (tg := 76) dX11_all_64 rfl rfl ?_
          refine sx_lstore (lo1 := [some _, some _, some _, some _, some _, some _, none]) (p1 := 78) dX11_all_76 rfl (by decide) rfl ?_
          refine sx_lload (p1 := 80) dX11_all_78 rfl rfl ?_
          refine sx_ldc2 (z := 256) (p1 := 83) dX11_all_80 rfl kc_X11_183 (by decide) ?_
          refine sx_iload_n (p1 := 84) dX11_all_83 rfl rfl ?_
          refine sx_callSr (p1 := 87) (As := [_, _, _]) (k1 := 0) (n1 := 0) dX11_all_84 rfl rfl (c_X11_fraction (by omega) (by omega) (by omega)) mt_X11_fraction ml_X11_185 (Nat.le_of_ble_eq_true rfl) rfl (Nat.le_of_ble_eq_true rfl) rfl rfl (Nat.le_of_ble_eq_true rfl) (Nat.le_of_ble_eq_true rfl) ?_
          exact sx_lret dX11_all_87 rfl (sx_rj (by (repeat' split) <;> first | omega | rfl) (by rfl))
      · refine sx_bipush (p1 := 29) dX11_all_27 rfl (by decide) ?_
        refine sx_callSr (p1 := 32) (As := [_]) (k1 := 0) (n1 := 0) dX11_all_29 rfl rfl (c_X11_refusal (by omega)) mt_X11_refusal ml_X11_168 (Nat.le_of_ble_eq_true rfl) rfl (Nat.le_of_ble_eq_true rfl) rfl rfl (Nat.le_of_ble_eq_true rfl) (Nat.le_of_ble_eq_true rfl) ?_
        exact sx_lret dX11_all_32 rfl (sx_rj (by (repeat' split) <;> first | omega | rfl) (by rfl))
set_option maxRecDepth 20000 in
theorem c_X11_ends {X : sx_X} {S : St} (hC : CI S)   : Ct X yX11_ends cX11_ends 1 (some .int) 2 0 0 [.ref 2] (hp S) (sx_is (some (vI ((cV S).1 5 + mTakes (cV S)))) (hp (S))) := by
  obtain ⟨hV, hF, l0, l1, bT, bA, bB, bC, bSh, g3, g5⟩ := hC
  have b0 : 0 ≤ S.1 2 ∧ S.1 2 ≤ 16 := hV.1
  have b1 : 0 ≤ S.1 4 ∧ S.1 4 ≤ 6 := hV.2.1
  have b2 : 0 ≤ S.1 6 ∧ S.1 6 ≤ 99 := hV.2.2.1
  have b3 : 0 ≤ S.1 7 ∧ S.1 7 ≤ 1 := hV.2.2.2.1
  have b4 : 0 ≤ S.1 8 ∧ S.1 8 ≤ 16 := hV.2.2.2.2.1
  have b5 : 0 ≤ S.1 9 ∧ S.1 9 ≤ 999 := hV.2.2.2.2.2.1
  have b6 : 0 ≤ S.1 10 ∧ S.1 10 ≤ 1999 := hV.2.2.2.2.2.2.1
  have b7 : 0 ≤ S.1 11 ∧ S.1 11 ≤ 16 := hV.2.2.2.2.2.2.2.1
  have bK : ∀ q, 0 ≤ gK S q ∧ gK S q ≤ 3 := hV.2.2.2.2.2.2.2.2.1
  have bL : ∀ q, 0 ≤ gL S q ∧ gL S q ≤ 9 := hV.2.2.2.2.2.2.2.2.2.1
  have bW : ∀ q, 0 ≤ pW S q ∧ pW S q ≤ 9 := hV.2.2.2.2.2.2.2.2.2.2.1
  have bS : ∀ q, 0 ≤ pS S q ∧ pS S q ≤ 9 := hV.2.2.2.2.2.2.2.2.2.2.2.1
  have bH : ∀ q, 0 ≤ pH S q ∧ pH S q ≤ 1 := hV.2.2.2.2.2.2.2.2.2.2.2.2
  have c0 : 0 ≤ (cV S).1 0 ∧ (cV S).1 0 ≤ 16 := b0
  have c1 : 0 ≤ (cV S).1 1 ∧ (cV S).1 1 ≤ 6 := b1
  have c2 : 0 ≤ (cV S).1 2 ∧ (cV S).1 2 ≤ 99 := b2
  have c3 : 0 ≤ (cV S).1 3 ∧ (cV S).1 3 ≤ 1 := b3
  have c4 : 0 ≤ (cV S).1 4 ∧ (cV S).1 4 ≤ 16 := b4
  have c5 : 0 ≤ (cV S).1 5 ∧ (cV S).1 5 ≤ 999 := b5
  have c6 : 0 ≤ (cV S).1 6 ∧ (cV S).1 6 ≤ 1999 := b6
  have c7 : 0 ≤ (cV S).1 7 ∧ (cV S).1 7 ≤ 16 := b7
  refine Ct.of false [some (.ref 2)] (plainFor_of_name (by decide)) (fun h => by cases h) (Nat.le_of_ble_eq_true rfl) (fun _ => rfl) sx_isl ?_
  refine sx_aload_n (p1 := 1) dX11_ends_0 rfl rfl ?_
  refine sx_get (p1 := 4) dX11_ends_1 rfl fl_X11_38 (hp_c2 _) rfl ?_
  refine sx_get (v := vI (S.1 9)) (p1 := 7) dX11_ends_4 rfl fl_X11_195 (hp_c14 _) rfl ?_
  refine sx_aload_n (p1 := 8) dX11_ends_7 rfl rfl ?_
  refine sx_get (p1 := 11) dX11_ends_8 rfl fl_X11_47 (hp_c2 _) rfl ?_
  refine sx_callVr (p1 := 14) (As := []) (k1 := 0) (n1 := 0) dX11_ends_11 rfl rfl (v_X8_minutesInAll (V := cV S) rfl hV) mt_X8_minutesInAll ml_X11_198 (hp_c15 _) rfl rfl (Nat.le_of_ble_eq_true rfl) rfl (Nat.le_of_ble_eq_true rfl) rfl rfl (Nat.le_of_ble_eq_true rfl) (Nat.le_of_ble_eq_true rfl) ?_
  refine sx_iadd (p1 := 15) dX11_ends_14 rfl ?_
  exact sx_iret dX11_ends_15 rfl (sx_ri (by rfl) (by rfl))
set_option maxRecDepth 20000 in
theorem c_X11_latest {X : sx_X} {S : St} (hC : CI S)   : Ct X yX11_latest cX11_latest 2 (some .int) 2 0 0 [.ref 2] (hp S) (sx_is (some (vI (if (cV S).1 6 - mTakes (cV S) < 0 then -1 else min 999 ((cV S).1 6 - mTakes (cV S))))) (hp (S))) := by
  obtain ⟨hV, hF, l0, l1, bT, bA, bB, bC, bSh, g3, g5⟩ := hC
  have b0 : 0 ≤ S.1 2 ∧ S.1 2 ≤ 16 := hV.1
  have b1 : 0 ≤ S.1 4 ∧ S.1 4 ≤ 6 := hV.2.1
  have b2 : 0 ≤ S.1 6 ∧ S.1 6 ≤ 99 := hV.2.2.1
  have b3 : 0 ≤ S.1 7 ∧ S.1 7 ≤ 1 := hV.2.2.2.1
  have b4 : 0 ≤ S.1 8 ∧ S.1 8 ≤ 16 := hV.2.2.2.2.1
  have b5 : 0 ≤ S.1 9 ∧ S.1 9 ≤ 999 := hV.2.2.2.2.2.1
  have b6 : 0 ≤ S.1 10 ∧ S.1 10 ≤ 1999 := hV.2.2.2.2.2.2.1
  have b7 : 0 ≤ S.1 11 ∧ S.1 11 ≤ 16 := hV.2.2.2.2.2.2.2.1
  have bK : ∀ q, 0 ≤ gK S q ∧ gK S q ≤ 3 := hV.2.2.2.2.2.2.2.2.1
  have bL : ∀ q, 0 ≤ gL S q ∧ gL S q ≤ 9 := hV.2.2.2.2.2.2.2.2.2.1
  have bW : ∀ q, 0 ≤ pW S q ∧ pW S q ≤ 9 := hV.2.2.2.2.2.2.2.2.2.2.1
  have bS : ∀ q, 0 ≤ pS S q ∧ pS S q ≤ 9 := hV.2.2.2.2.2.2.2.2.2.2.2.1
  have bH : ∀ q, 0 ≤ pH S q ∧ pH S q ≤ 1 := hV.2.2.2.2.2.2.2.2.2.2.2.2
  have c0 : 0 ≤ (cV S).1 0 ∧ (cV S).1 0 ≤ 16 := b0
  have c1 : 0 ≤ (cV S).1 1 ∧ (cV S).1 1 ≤ 6 := b1
  have c2 : 0 ≤ (cV S).1 2 ∧ (cV S).1 2 ≤ 99 := b2
  have c3 : 0 ≤ (cV S).1 3 ∧ (cV S).1 3 ≤ 1 := b3
  have c4 : 0 ≤ (cV S).1 4 ∧ (cV S).1 4 ≤ 16 := b4
  have c5 : 0 ≤ (cV S).1 5 ∧ (cV S).1 5 ≤ 999 := b5
  have c6 : 0 ≤ (cV S).1 6 ∧ (cV S).1 6 ≤ 1999 := b6
  have c7 : 0 ≤ (cV S).1 7 ∧ (cV S).1 7 ≤ 16 := b7
  have z1 := mTakes_b hV
  have z2 : (cV S).1 6 = S.1 10 := rfl
  refine Ct.of false [some (.ref 2), none] (plainFor_of_name (by decide)) (fun h => by cases h) (Nat.le_of_ble_eq_true rfl) (fun _ => rfl) sx_isl ?_
  refine sx_sipush (p1 := 3) dX11_latest_0 rfl (by decide) ?_
  refine sx_aload_n (p1 := 4) dX11_latest_3 rfl rfl ?_
  refine sx_get (p1 := 7) dX11_latest_4 rfl fl_X11_38 (hp_c2 _) rfl ?_
  refine sx_get (v := vI (S.1 10)) (p1 := 10) dX11_latest_7 rfl fl_X11_201 (hp_c14 _) rfl ?_
  refine sx_aload_n (p1 := 11) dX11_latest_10 rfl rfl ?_
  refine sx_get (p1 := 14) dX11_latest_11 rfl fl_X11_47 (hp_c2 _) rfl ?_
  refine sx_callVr (p1 := 17) (As := []) (k1 := 0) (n1 := 0) dX11_latest_14 rfl rfl (v_X8_minutesInAll (V := cV S) rfl hV) mt_X8_minutesInAll ml_X11_198 (hp_c15 _) rfl rfl (Nat.le_of_ble_eq_true rfl) rfl (Nat.le_of_ble_eq_true rfl) rfl rfl (Nat.le_of_ble_eq_true rfl) (Nat.le_of_ble_eq_true rfl) ?_
  refine sx_isub (p1 := 18) dX11_latest_17 rfl ?_
  refine sx_callSr (p1 := 21) (As := [_, _]) (k1 := 0) (n1 := 0) dX11_latest_18 rfl rfl (c_J9_min_7cf53 (by omega) (by omega)) mt_J9_min_7cf53 ml_X11_204 (Nat.le_of_ble_eq_true rfl) rfl (Nat.le_of_ble_eq_true rfl) rfl rfl (Nat.le_of_ble_eq_true rfl) (Nat.le_of_ble_eq_true rfl) ?_
  refine sx_istore_n (lo1 := [some _, some _]) (p1 := 22) dX11_latest_21 rfl (by decide) rfl ?_
  refine sx_iload_n (p1 := 23) dX11_latest_22 rfl rfl ?_
  refine sx_if_ge (p1 := 26) (tg := 30) dX11_latest_23 rfl rfl (by omega) (fun q23 => ?_) (fun q23 => ?_)
  · refine sx_iload_n (p1 := 31) dX11_latest_30 rfl rfl ?_
    exact sx_iret dX11_latest_31 rfl (sx_ri (by first | omega | ((repeat' split) <;> first | omega | rfl)) (by rfl))
  · refine sx_iconst (p1 := 27) dX11_latest_26 rfl ?_
    refine sx_goto (p1 := 31) (tg := 31) dX11_latest_27 rfl rfl ?_
    exact sx_iret dX11_latest_31 rfl (sx_ri (by first | omega | ((repeat' split) <;> first | omega | rfl)) (by rfl))
set_option maxRecDepth 20000 in
theorem c_X11_curve {X : sx_X} {S : St} {i j : Int} (hC : CI S) (hi : -2147483648 ≤ i ∧ i ≤ 2147483647) (hj : -2147483648 ≤ j ∧ j ≤ 2147483647)  : Ct X yX11_curve cX11_curve 3 (some .long) 5 0 0 [.ref 2, vI i, vI j] (hp S) (sx_is (some (vJ (if (0 ≤ i ∧ i ≤ 99) ∧ 0 ≤ j ∧ j ≤ 1 then mFrac (mAll (cV S) i) 256 j else -9223372036854775806))) (hp (S))) := by
  obtain ⟨hV, hF, l0, l1, bT, bA, bB, bC, bSh, g3, g5⟩ := hC
  have b0 : 0 ≤ S.1 2 ∧ S.1 2 ≤ 16 := hV.1
  have b1 : 0 ≤ S.1 4 ∧ S.1 4 ≤ 6 := hV.2.1
  have b2 : 0 ≤ S.1 6 ∧ S.1 6 ≤ 99 := hV.2.2.1
  have b3 : 0 ≤ S.1 7 ∧ S.1 7 ≤ 1 := hV.2.2.2.1
  have b4 : 0 ≤ S.1 8 ∧ S.1 8 ≤ 16 := hV.2.2.2.2.1
  have b5 : 0 ≤ S.1 9 ∧ S.1 9 ≤ 999 := hV.2.2.2.2.2.1
  have b6 : 0 ≤ S.1 10 ∧ S.1 10 ≤ 1999 := hV.2.2.2.2.2.2.1
  have b7 : 0 ≤ S.1 11 ∧ S.1 11 ≤ 16 := hV.2.2.2.2.2.2.2.1
  have bK : ∀ q, 0 ≤ gK S q ∧ gK S q ≤ 3 := hV.2.2.2.2.2.2.2.2.1
  have bL : ∀ q, 0 ≤ gL S q ∧ gL S q ≤ 9 := hV.2.2.2.2.2.2.2.2.2.1
  have bW : ∀ q, 0 ≤ pW S q ∧ pW S q ≤ 9 := hV.2.2.2.2.2.2.2.2.2.2.1
  have bS : ∀ q, 0 ≤ pS S q ∧ pS S q ≤ 9 := hV.2.2.2.2.2.2.2.2.2.2.2.1
  have bH : ∀ q, 0 ≤ pH S q ∧ pH S q ≤ 1 := hV.2.2.2.2.2.2.2.2.2.2.2.2
  have c0 : 0 ≤ (cV S).1 0 ∧ (cV S).1 0 ≤ 16 := b0
  have c1 : 0 ≤ (cV S).1 1 ∧ (cV S).1 1 ≤ 6 := b1
  have c2 : 0 ≤ (cV S).1 2 ∧ (cV S).1 2 ≤ 99 := b2
  have c3 : 0 ≤ (cV S).1 3 ∧ (cV S).1 3 ≤ 1 := b3
  have c4 : 0 ≤ (cV S).1 4 ∧ (cV S).1 4 ≤ 16 := b4
  have c5 : 0 ≤ (cV S).1 5 ∧ (cV S).1 5 ≤ 999 := b5
  have c6 : 0 ≤ (cV S).1 6 ∧ (cV S).1 6 ≤ 1999 := b6
  have c7 : 0 ≤ (cV S).1 7 ∧ (cV S).1 7 ≤ 16 := b7
  have z1 := mAll_b hV i
  refine Ct.of false [some (.ref 2), some (vI i), some (vI j)] (plainFor_of_name (by decide)) (fun h => by cases h) (Nat.le_of_ble_eq_true rfl) (fun _ => rfl) sx_isl ?_
  refine sx_iload_n (p1 := 1) dX11_curve_0 rfl rfl ?_
  refine sx_iconst (p1 := 2) dX11_curve_1 rfl ?_
  refine sx_bipush (p1 := 4) dX11_curve_2 rfl (by decide) ?_
  refine sx_callSr (p1 := 7) (As := [_, _, _]) (k1 := 0) (n1 := 0) dX11_curve_4 rfl rfl (c_X11_within (by omega) (by omega) (by omega)) mt_X11_within ml_X11_101 (Nat.le_of_ble_eq_true rfl) rfl (Nat.le_of_ble_eq_true rfl) rfl rfl (Nat.le_of_ble_eq_true rfl) (Nat.le_of_ble_eq_true rfl) ?_
  refine sx_if_eq (p1 := 10) (tg := 19) dX11_curve_7 rfl rfl (by omega) (fun q7 => ?_) (fun q7 => ?_)
  · refine sx_bipush (p1 := 21) dX11_curve_19 rfl (by decide) ?_
    refine sx_callSr (p1 := 24) (As := [_]) (k1 := 0) (n1 := 0) dX11_curve_21 rfl rfl (c_X11_refusal (by omega)) mt_X11_refusal ml_X11_168 (Nat.le_of_ble_eq_true rfl) rfl (Nat.le_of_ble_eq_true rfl) rfl rfl (Nat.le_of_ble_eq_true rfl) (Nat.le_of_ble_eq_true rfl) ?_
    exact sx_lret dX11_curve_24 rfl (sx_rj (by first | omega | ((repeat' split) <;> first | omega | rfl)) (by rfl))
  · refine sx_iload_n (p1 := 11) dX11_curve_10 rfl rfl ?_
    refine sx_iconst (p1 := 12) dX11_curve_11 rfl ?_
    refine sx_iconst (p1 := 13) dX11_curve_12 rfl ?_
    refine sx_callSr (p1 := 16) (As := [_, _, _]) (k1 := 0) (n1 := 0) dX11_curve_13 rfl rfl (c_X11_within (by omega) (by omega) (by omega)) mt_X11_within ml_X11_101 (Nat.le_of_ble_eq_true rfl) rfl (Nat.le_of_ble_eq_true rfl) rfl rfl (Nat.le_of_ble_eq_true rfl) (Nat.le_of_ble_eq_true rfl) ?_
    refine sx_if_ne (p1 := 19) (tg := 25) dX11_curve_16 rfl rfl (by omega) (fun q16 => ?_) (fun q16 => ?_)
    · refine sx_aload_n (p1 := 26) dX11_curve_25 rfl rfl ?_
      refine sx_get (p1 := 29) dX11_curve_26 rfl fl_X11_47 (hp_c2 _) rfl ?_
      refine sx_iload_n (p1 := 30) dX11_curve_29 rfl rfl ?_
      refine sx_callVr (p1 := 33) (As := [_]) (k1 := 0) (n1 := 0) dX11_curve_30 rfl rfl (v_X8_together (V := cV S) rfl hV hF (by omega)) mt_X8_together ml_X11_192 (hp_c15 _) rfl rfl (Nat.le_of_ble_eq_true rfl) rfl (Nat.le_of_ble_eq_true rfl) rfl rfl (Nat.le_of_ble_eq_true rfl) (Nat.le_of_ble_eq_true rfl) ?_
      refine sx_ldc2 (z := 256) (p1 := 36) dX11_curve_33 rfl kc_X11_183 (by decide) ?_
      refine sx_iload_n (p1 := 37) dX11_curve_36 rfl rfl ?_
      refine sx_callSr (p1 := 40) (As := [_, _, _]) (k1 := 0) (n1 := 0) dX11_curve_37 rfl rfl (c_X11_fraction (by omega) (by omega) (by omega)) mt_X11_fraction ml_X11_185 (Nat.le_of_ble_eq_true rfl) rfl (Nat.le_of_ble_eq_true rfl) rfl rfl (Nat.le_of_ble_eq_true rfl) (Nat.le_of_ble_eq_true rfl) ?_
      exact sx_lret dX11_curve_40 rfl (sx_rj (by first | omega | ((repeat' split) <;> first | omega | rfl)) (by rfl))
    · refine sx_bipush (p1 := 21) dX11_curve_19 rfl (by decide) ?_
      refine sx_callSr (p1 := 24) (As := [_]) (k1 := 0) (n1 := 0) dX11_curve_21 rfl rfl (c_X11_refusal (by omega)) mt_X11_refusal ml_X11_168 (Nat.le_of_ble_eq_true rfl) rfl (Nat.le_of_ble_eq_true rfl) rfl rfl (Nat.le_of_ble_eq_true rfl) (Nat.le_of_ble_eq_true rfl) ?_
      exact sx_lret dX11_curve_24 rfl (sx_rj (by first | omega | ((repeat' split) <;> first | omega | rfl)) (by rfl))
set_option maxRecDepth 20000 in
theorem c_X11_loose {X : sx_X} {S : St} {i : Int} (hC : CI S) (hi : -2147483648 ≤ i ∧ i ≤ 2147483647)  : Ct X yX11_loose cX11_loose 2 (some .int) 4 0 0 [.ref 2, vI i] (hp S) (sx_is (some (vI (if 0 ≤ i ∧ i < (cV S).1 0 then (mLb (cV S) (S.2 27) (S.2 28) (S.2 29) (S.1 15).toNat i 9).1 else -2))) (hp (S))) := by
  obtain ⟨hV, hF, l0, l1, bT, bA, bB, bC, bSh, g3, g5⟩ := hC
  have b0 : 0 ≤ S.1 2 ∧ S.1 2 ≤ 16 := hV.1
  have b1 : 0 ≤ S.1 4 ∧ S.1 4 ≤ 6 := hV.2.1
  have b2 : 0 ≤ S.1 6 ∧ S.1 6 ≤ 99 := hV.2.2.1
  have b3 : 0 ≤ S.1 7 ∧ S.1 7 ≤ 1 := hV.2.2.2.1
  have b4 : 0 ≤ S.1 8 ∧ S.1 8 ≤ 16 := hV.2.2.2.2.1
  have b5 : 0 ≤ S.1 9 ∧ S.1 9 ≤ 999 := hV.2.2.2.2.2.1
  have b6 : 0 ≤ S.1 10 ∧ S.1 10 ≤ 1999 := hV.2.2.2.2.2.2.1
  have b7 : 0 ≤ S.1 11 ∧ S.1 11 ≤ 16 := hV.2.2.2.2.2.2.2.1
  have bK : ∀ q, 0 ≤ gK S q ∧ gK S q ≤ 3 := hV.2.2.2.2.2.2.2.2.1
  have bL : ∀ q, 0 ≤ gL S q ∧ gL S q ≤ 9 := hV.2.2.2.2.2.2.2.2.2.1
  have bW : ∀ q, 0 ≤ pW S q ∧ pW S q ≤ 9 := hV.2.2.2.2.2.2.2.2.2.2.1
  have bS : ∀ q, 0 ≤ pS S q ∧ pS S q ≤ 9 := hV.2.2.2.2.2.2.2.2.2.2.2.1
  have bH : ∀ q, 0 ≤ pH S q ∧ pH S q ≤ 1 := hV.2.2.2.2.2.2.2.2.2.2.2.2
  have c0 : 0 ≤ (cV S).1 0 ∧ (cV S).1 0 ≤ 16 := b0
  have c1 : 0 ≤ (cV S).1 1 ∧ (cV S).1 1 ≤ 6 := b1
  have c2 : 0 ≤ (cV S).1 2 ∧ (cV S).1 2 ≤ 99 := b2
  have c3 : 0 ≤ (cV S).1 3 ∧ (cV S).1 3 ≤ 1 := b3
  have c4 : 0 ≤ (cV S).1 4 ∧ (cV S).1 4 ≤ 16 := b4
  have c5 : 0 ≤ (cV S).1 5 ∧ (cV S).1 5 ≤ 999 := b5
  have c6 : 0 ≤ (cV S).1 6 ∧ (cV S).1 6 ≤ 1999 := b6
  have c7 : 0 ≤ (cV S).1 7 ∧ (cV S).1 7 ≤ 16 := b7
  refine Ct.of false [some (.ref 2), some (vI i)] (plainFor_of_name (by decide)) (fun h => by cases h) (Nat.le_of_ble_eq_true rfl) (fun _ => rfl) sx_isl ?_
  refine sx_aload_n (p1 := 1) dX11_loose_0 rfl rfl ?_
  refine sx_get (p1 := 4) dX11_loose_1 rfl fl_X11_24 (hp_c2 _) rfl ?_
  refine sx_iload_n (p1 := 5) dX11_loose_4 rfl rfl ?_
  refine sx_callVr (p1 := 8) (As := [_]) (k1 := 0) (n1 := 0) dX11_loose_5 rfl rfl (v_X0_has (V := cV S) rfl hV (by omega)) mt_X0_has ml_X11_126 (hp_c7 _) rfl rfl (Nat.le_of_ble_eq_true rfl) rfl (Nat.le_of_ble_eq_true rfl) rfl rfl (Nat.le_of_ble_eq_true rfl) (Nat.le_of_ble_eq_true rfl) ?_
  refine sx_if_ne (p1 := 11) (tg := 14) dX11_loose_8 rfl rfl (by omega) (fun q8 => ?_) (fun q8 => ?_)
  · refine sx_aload_n (p1 := 15) dX11_loose_14 rfl rfl ?_
    refine sx_get (p1 := 18) dX11_loose_15 rfl fl_X11_86 (hp_c2 _) rfl ?_
    refine sx_iload_n (p1 := 19) dX11_loose_18 rfl rfl ?_
    refine sx_aload_n (p1 := 20) dX11_loose_19 rfl rfl ?_
    refine sx_get (p1 := 23) dX11_loose_20 rfl fl_X11_31 (hp_c2 _) rfl ?_
    refine sx_callVr (p1 := 26) (As := [_, _]) (k1 := 0) (n1 := 0) dX11_loose_23 rfl rfl (v_X9_likeliest (V := cV S) rfl hV bT bA bB bC (by omega)) mt_X9_likeliest ml_X11_249 (hp_c26 _) rfl rfl (Nat.le_of_ble_eq_true rfl) rfl (Nat.le_of_ble_eq_true rfl) rfl rfl (Nat.le_of_ble_eq_true rfl) (Nat.le_of_ble_eq_true rfl) ?_
    exact sx_iret dX11_loose_26 rfl (sx_ri (by first | omega | ((repeat' split) <;> first | omega | rfl)) (by rfl))
  · refine sx_bipush (p1 := 13) dX11_loose_11 rfl (by decide) ?_
    exact sx_iret dX11_loose_13 rfl (sx_ri (by first | omega | ((repeat' split) <;> first | omega | rfl)) (by rfl))
set_option maxRecDepth 20000 in
theorem c_X11_forget {X : sx_X} {S : St} (hC : CI S)   : Ct X yX11_forget cX11_forget 2 (some .int) 1 0 0 [.ref 2] (hp S) (sx_is (some (vI (S.1 15))) (hp (si S 15 0))) := by
  obtain ⟨hV, hF, l0, l1, bT, bA, bB, bC, bSh, g3, g5⟩ := hC
  have b0 : 0 ≤ S.1 2 ∧ S.1 2 ≤ 16 := hV.1
  have b1 : 0 ≤ S.1 4 ∧ S.1 4 ≤ 6 := hV.2.1
  have b2 : 0 ≤ S.1 6 ∧ S.1 6 ≤ 99 := hV.2.2.1
  have b3 : 0 ≤ S.1 7 ∧ S.1 7 ≤ 1 := hV.2.2.2.1
  have b4 : 0 ≤ S.1 8 ∧ S.1 8 ≤ 16 := hV.2.2.2.2.1
  have b5 : 0 ≤ S.1 9 ∧ S.1 9 ≤ 999 := hV.2.2.2.2.2.1
  have b6 : 0 ≤ S.1 10 ∧ S.1 10 ≤ 1999 := hV.2.2.2.2.2.2.1
  have b7 : 0 ≤ S.1 11 ∧ S.1 11 ≤ 16 := hV.2.2.2.2.2.2.2.1
  have bK : ∀ q, 0 ≤ gK S q ∧ gK S q ≤ 3 := hV.2.2.2.2.2.2.2.2.1
  have bL : ∀ q, 0 ≤ gL S q ∧ gL S q ≤ 9 := hV.2.2.2.2.2.2.2.2.2.1
  have bW : ∀ q, 0 ≤ pW S q ∧ pW S q ≤ 9 := hV.2.2.2.2.2.2.2.2.2.2.1
  have bS : ∀ q, 0 ≤ pS S q ∧ pS S q ≤ 9 := hV.2.2.2.2.2.2.2.2.2.2.2.1
  have bH : ∀ q, 0 ≤ pH S q ∧ pH S q ≤ 1 := hV.2.2.2.2.2.2.2.2.2.2.2.2
  have c0 : 0 ≤ (cV S).1 0 ∧ (cV S).1 0 ≤ 16 := b0
  have c1 : 0 ≤ (cV S).1 1 ∧ (cV S).1 1 ≤ 6 := b1
  have c2 : 0 ≤ (cV S).1 2 ∧ (cV S).1 2 ≤ 99 := b2
  have c3 : 0 ≤ (cV S).1 3 ∧ (cV S).1 3 ≤ 1 := b3
  have c4 : 0 ≤ (cV S).1 4 ∧ (cV S).1 4 ≤ 16 := b4
  have c5 : 0 ≤ (cV S).1 5 ∧ (cV S).1 5 ≤ 999 := b5
  have c6 : 0 ≤ (cV S).1 6 ∧ (cV S).1 6 ≤ 1999 := b6
  have c7 : 0 ≤ (cV S).1 7 ∧ (cV S).1 7 ≤ 16 := b7
  refine Ct.of false [some (.ref 2), none] (plainFor_of_name (by decide)) (fun h => by cases h) (Nat.le_of_ble_eq_true rfl) (fun _ => rfl) sx_isl ?_
  refine sx_aload_n (p1 := 1) dX11_forget_0 rfl rfl ?_
  refine sx_get (p1 := 4) dX11_forget_1 rfl fl_X11_86 (hp_c2 _) rfl ?_
  refine sx_callVr (p1 := 7) (As := []) (k1 := 0) (n1 := 0) dX11_forget_4 rfl rfl (c_X9_size) mt_X9_size ml_X11_245 (hp_c26 _) rfl rfl (Nat.le_of_ble_eq_true rfl) rfl (Nat.le_of_ble_eq_true rfl) rfl rfl (Nat.le_of_ble_eq_true rfl) (Nat.le_of_ble_eq_true rfl) ?_
  refine sx_istore_n (lo1 := [some _, some _]) (p1 := 8) dX11_forget_7 rfl (by decide) rfl ?_
  refine sx_aload_n (p1 := 9) dX11_forget_8 rfl rfl ?_
  refine sx_get (p1 := 12) dX11_forget_9 rfl fl_X11_86 (hp_c2 _) rfl ?_
  refine sx_callVn (p1 := 15) (As := []) (k1 := 0) (n1 := 0) dX11_forget_12 rfl rfl (c_X9_clear) mt_X9_clear ml_X11_246 (hp_c26 _) rfl rfl (Nat.le_of_ble_eq_true rfl) rfl (Nat.le_of_ble_eq_true rfl) rfl rfl (Nat.le_of_ble_eq_true rfl) (Nat.le_of_ble_eq_true rfl) ?_
  refine sx_iload_n (p1 := 16) dX11_forget_15 rfl rfl ?_
  exact sx_iret dX11_forget_16 rfl (sx_ri (by first | omega | ((repeat' split) <;> first | omega | rfl)) (by rfl))
