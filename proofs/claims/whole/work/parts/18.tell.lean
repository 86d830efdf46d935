set_option maxRecDepth 20000 in
theorem c_X9_size {X : sx_X} {S : St}  : Ct X yX9_size cX9_size 1 (some .int) 0 0 0 [.ref 26] (hp S) (sx_is (some (vI (S.1 15))) (hp (S))) := by
  refine Ct.of false [some (.ref 26)] (plainFor_of_name (by decide)) (fun h => by cases h) (Nat.le_of_ble_eq_true rfl) (fun _ => rfl) sx_isl ?_
  refine sx_aload_n (p1 := 1) dX9_size_0 rfl rfl ?_
  refine sx_get (p1 := 4) dX9_size_1 rfl fl_X9_25 (hp_c26 _) rfl ?_
  exact sx_iret dX9_size_4 rfl (sx_ri (by first | rfl | omega) (by rfl))
set_option maxRecDepth 20000 in
theorem c_X9_isFull {X : sx_X} {S : St} (bT : 0 ≤ S.1 15 ∧ S.1 15 ≤ 8)  : Ct X yX9_isFull cX9_isFull 1 (some .boolean) 0 0 0 [.ref 26] (hp S) (sx_is (some (vI (if 8 ≤ S.1 15 then 1 else 0))) (hp (S))) := by
  refine Ct.of false [some (.ref 26)] (plainFor_of_name (by decide)) (fun h => by cases h) (Nat.le_of_ble_eq_true rfl) (fun _ => rfl) sx_isl ?_
  refine sx_aload_n (p1 := 1) dX9_isFull_0 rfl rfl ?_
  refine sx_get (p1 := 4) dX9_isFull_1 rfl fl_X9_25 (hp_c26 _) rfl ?_
  refine sx_bipush (p1 := 6) dX9_isFull_4 rfl (by decide) ?_
  refine sx_icmp_lt (p1 := 9) (tg := 13) dX9_isFull_6 rfl rfl (by omega) (by omega) (fun q6 => ?_) (fun q6 => ?_)
  · refine sx_iconst (p1 := 14) dX9_isFull_13 rfl ?_
    exact sx_zret dX9_isFull_14 rfl (by omega) (sx_ri (by simp; omega) (by rfl))
  · refine sx_iconst (p1 := 10) dX9_isFull_9 rfl ?_
    refine sx_goto (p1 := 14) (tg := 14) dX9_isFull_10 rfl rfl ?_
    exact sx_zret dX9_isFull_14 rfl (by omega) (sx_ri (by simp; omega) (by rfl))
set_option maxRecDepth 20000 in
theorem c_X9_clear {X : sx_X} {S : St}  : Ct X yX9_clear cX9_clear 1 none 0 0 0 [.ref 26] (hp S) (sx_is none (hp (si S 15 0))) := by
  refine Ct.of false [some (.ref 26)] (plainFor_of_name (by decide)) (fun h => by cases h) (Nat.le_of_ble_eq_true rfl) (fun _ => rfl) sx_isl ?_
  refine sx_aload_n (p1 := 1) dX9_clear_0 rfl rfl ?_
  refine sx_iconst (p1 := 2) dX9_clear_1 rfl ?_
  refine sx_put (p1 := 5) dX9_clear_2 rfl fl_X9_25 (hp_c26 _) (Nat.le_of_ble_eq_true rfl) (fun _ => rfl) (fun _ => rfl) (hp_s15 _ _) ?_
  exact sx_vret dX9_clear_5 rfl (sx_rv (by rfl))
set_option maxRecDepth 20000 in
theorem c_X9_fits {X : sx_X} {S : St} {i j k : Int} (hi : -2147483648 ≤ i ∧ i ≤ 2147483647) (hj : -2147483648 ≤ j ∧ j ≤ 2147483647) (hk : -2147483648 ≤ k ∧ k ≤ 2147483647) : Ct X yX9_fits cX9_fits 3 (some .boolean) 1 0 0 [vI i, vI j, vI k] (hp S) (sx_is (some (vI (if (0 ≤ i ∧ i ≤ 5) ∧ (0 ≤ j ∧ j ≤ 15) ∧ 0 ≤ k ∧ k ≤ 1 then 1 else 0))) (hp (S))) := by
  refine Ct.of false [some (vI i), some (vI j), some (vI k)] (plainFor_of_name (by decide)) (fun h => by cases h) (Nat.le_of_ble_eq_true rfl) (fun _ => rfl) sx_isl ?_
  refine sx_iload_n (p1 := 1) dX9_fits_0 rfl rfl ?_
  refine sx_iconst (p1 := 2) dX9_fits_1 rfl ?_
  refine sx_iconst (p1 := 3) dX9_fits_2 rfl ?_
  refine sx_callSNr (p1 := 6) (As := [_, _, _]) (k1 := 0) (n1 := 0) dX9_fits_3 rfl rfl (c_X11_within (by omega) (by omega) (by omega)) mt_X11_within ml_X9_21 (Nat.le_of_ble_eq_true rfl) rfl (Nat.le_of_ble_eq_true rfl) rfl rfl (Nat.le_of_ble_eq_true rfl) (Nat.le_of_ble_eq_true rfl) ?_
  refine sx_if_eq (p1 := 9) (tg := 32) dX9_fits_6 rfl rfl (by omega) (fun q6 => ?_) (fun q6 => ?_)
  · refine sx_iconst (p1 := 33) dX9_fits_32 rfl ?_
    exact sx_zret dX9_fits_33 rfl (by omega) (sx_ri (by omega) (by rfl))
  · refine sx_iload_n (p1 := 10) dX9_fits_9 rfl rfl ?_
    refine sx_iconst (p1 := 11) dX9_fits_10 rfl ?_
    refine sx_bipush (p1 := 13) dX9_fits_11 rfl (by decide) ?_
    refine sx_callSNr (p1 := 16) (As := [_, _, _]) (k1 := 0) (n1 := 0) dX9_fits_13 rfl rfl (c_X11_within (by omega) (by omega) (by omega)) mt_X11_within ml_X9_21 (Nat.le_of_ble_eq_true rfl) rfl (Nat.le_of_ble_eq_true rfl) rfl rfl (Nat.le_of_ble_eq_true rfl) (Nat.le_of_ble_eq_true rfl) ?_
    refine sx_if_eq (p1 := 19) (tg := 32) dX9_fits_16 rfl rfl (by omega) (fun q16 => ?_) (fun q16 => ?_)
    · refine sx_iconst (p1 := 33) dX9_fits_32 rfl ?_
      exact sx_zret dX9_fits_33 rfl (by omega) (sx_ri (by omega) (by rfl))
    · refine sx_iload_n (p1 := 20) dX9_fits_19 rfl rfl ?_
      refine sx_iconst (p1 := 21) dX9_fits_20 rfl ?_
      refine sx_iconst (p1 := 22) dX9_fits_21 rfl ?_
      refine sx_callSNr (p1 := 25) (As := [_, _, _]) (k1 := 0) (n1 := 0) dX9_fits_22 rfl rfl (c_X11_within (by omega) (by omega) (by omega)) mt_X11_within ml_X9_21 (Nat.le_of_ble_eq_true rfl) rfl (Nat.le_of_ble_eq_true rfl) rfl rfl (Nat.le_of_ble_eq_true rfl) (Nat.le_of_ble_eq_true rfl) ?_
      refine sx_if_eq (p1 := 28) (tg := 32) dX9_fits_25 rfl rfl (by omega) (fun q25 => ?_) (fun q25 => ?_)
      · refine sx_iconst (p1 := 33) dX9_fits_32 rfl ?_
        exact sx_zret dX9_fits_33 rfl (by omega) (sx_ri (by omega) (by rfl))
      · refine sx_iconst (p1 := 29) dX9_fits_28 rfl ?_
        refine sx_goto (p1 := 33) (tg := 33) dX9_fits_29 rfl rfl ?_
        exact sx_zret dX9_fits_33 rfl (by omega) (sx_ri (by omega) (by rfl))
set_option maxRecDepth 20000 in
theorem c_X9_add {X : sx_X} {S : St} {i j k : Int} (bT : 0 ≤ S.1 15 ∧ S.1 15 ≤ 8) (hf : S.1 15 < 8) : Ct X yX9_add cX9_add 4 none 0 0 0 [.ref 26, vI i, vI j, vI k] (hp S) (sx_is none (hp (si (sa (sa (sa S 27 (S.1 15).toNat i) 28 (S.1 15).toNat j) 29 (S.1 15).toNat k) 15 (S.1 15 + 1)))) := by
  refine Ct.of false [some (.ref 26), some (vI i), some (vI j), some (vI k)] (plainFor_of_name (by decide)) (fun h => by cases h) (Nat.le_of_ble_eq_true rfl) (fun _ => rfl) sx_isl ?_
  refine sx_aload_n (p1 := 1) dX9_add_0 rfl rfl ?_
  refine sx_get (v := vI (S.1 15)) (p1 := 4) dX9_add_1 rfl fl_X9_25 (hp_c26 _) rfl ?_
  refine sx_if_lt (p1 := 7) (tg := 83) dX9_add_4 rfl rfl (by omega) (fun q4 => absurd q4 (by omega)) (fun q4 => ?_)
  refine sx_aload_n (p1 := 8) dX9_add_7 rfl rfl ?_
  refine sx_get (v := vI (S.1 15)) (p1 := 11) dX9_add_8 rfl fl_X9_25 (hp_c26 _) rfl ?_
  refine sx_aload_n (p1 := 12) dX9_add_11 rfl rfl ?_
  refine sx_get (p1 := 15) dX9_add_12 rfl fl_X9_9 (hp_c26 _) rfl ?_
  refine sx_alen (p1 := 16) dX9_add_15 rfl (hp_c27 _) (fun _ => rfl) ?_
  refine sx_icmp_ge (p1 := 19) (tg := 83) dX9_add_16 rfl rfl (by omega) (by omega) (fun q16 => absurd q16 (by omega)) (fun q16 => ?_)
  refine sx_aload_n (p1 := 20) dX9_add_19 rfl rfl ?_
  refine sx_get (v := vI (S.1 15)) (p1 := 23) dX9_add_20 rfl fl_X9_25 (hp_c26 _) rfl ?_
  refine sx_aload_n (p1 := 24) dX9_add_23 rfl rfl ?_
  refine sx_get (p1 := 27) dX9_add_24 rfl fl_X9_15 (hp_c26 _) rfl ?_
  refine sx_alen (p1 := 28) dX9_add_27 rfl (hp_c28 _) (fun _ => rfl) ?_
  refine sx_icmp_ge (p1 := 31) (tg := 83) dX9_add_28 rfl rfl (by omega) (by omega) (fun q28 => absurd q28 (by omega)) (fun q28 => ?_)
  refine sx_aload_n (p1 := 32) dX9_add_31 rfl rfl ?_
  refine sx_get (v := vI (S.1 15)) (p1 := 35) dX9_add_32 rfl fl_X9_25 (hp_c26 _) rfl ?_
  refine sx_aload_n (p1 := 36) dX9_add_35 rfl rfl ?_
  refine sx_get (p1 := 39) dX9_add_36 rfl fl_X9_18 (hp_c26 _) rfl ?_
  refine sx_alen (p1 := 40) dX9_add_39 rfl (hp_c29 _) (fun _ => rfl) ?_
  refine sx_icmp_ge (p1 := 43) (tg := 83) dX9_add_40 rfl rfl (by omega) (by omega) (fun q40 => absurd q40 (by omega)) (fun q40 => ?_)
  refine sx_aload_n (p1 := 44) dX9_add_43 rfl rfl ?_
  refine sx_get (p1 := 47) dX9_add_44 rfl fl_X9_9 (hp_c26 _) rfl ?_
  refine sx_aload_n (p1 := 48) dX9_add_47 rfl rfl ?_
  refine sx_get (v := vI (S.1 15)) (p1 := 51) dX9_add_48 rfl fl_X9_25 (hp_c26 _) rfl ?_
  refine sx_iload_n (p1 := 52) dX9_add_51 rfl rfl ?_
  refine sx_iast (p1 := 53) dX9_add_52 rfl (hp_c27 _) (by omega) (by decide) (hp_a27 _ _ _) ?_
  refine sx_aload_n (p1 := 54) dX9_add_53 rfl rfl ?_
  refine sx_get (p1 := 57) dX9_add_54 rfl fl_X9_15 (hp_c26 _) rfl ?_
  refine sx_aload_n (p1 := 58) dX9_add_57 rfl rfl ?_
  refine sx_get (v := vI (S.1 15)) (p1 := 61) dX9_add_58 rfl fl_X9_25 (hp_c26 _) rfl ?_
  refine sx_iload_n (p1 := 62) dX9_add_61 rfl rfl ?_
  refine sx_iast (p1 := 63) dX9_add_62 rfl (hp_c28 _) (by omega) (by decide) (hp_a28 _ _ _) ?_
  refine sx_aload_n (p1 := 64) dX9_add_63 rfl rfl ?_
  refine sx_get (p1 := 67) dX9_add_64 rfl fl_X9_18 (hp_c26 _) rfl ?_
  refine sx_aload_n (p1 := 68) dX9_add_67 rfl rfl ?_
  refine sx_get (v := vI (S.1 15)) (p1 := 71) dX9_add_68 rfl fl_X9_25 (hp_c26 _) rfl ?_
  refine sx_iload_n (p1 := 72) dX9_add_71 rfl rfl ?_
  refine sx_iast (p1 := 73) dX9_add_72 rfl (hp_c29 _) (by omega) (by decide) (hp_a29 _ _ _) ?_
  refine sx_aload_n (p1 := 74) dX9_add_73 rfl rfl ?_
  refine sx_dup (p1 := 75) dX9_add_74 rfl rfl ?_
  refine sx_get (v := vI (S.1 15)) (p1 := 78) dX9_add_75 rfl fl_X9_25 (hp_c26 _) rfl ?_
  refine sx_iconst (p1 := 79) dX9_add_78 rfl ?_
  refine sx_iadd (p1 := 80) dX9_add_79 rfl ?_
  refine sx_put (p1 := 83) dX9_add_80 rfl fl_X9_25 (hp_c26 _) (Nat.le_of_ble_eq_true rfl) (fun _ => rfl) (fun _ => rfl) (hp_s15 _ _) ?_
  exact sx_vret dX9_add_83 rfl (sx_rv (by rfl))
def prodN : Nat → (Nat → Int) → Int
  | 0, _ => 1
  | n + 1, f => prodN n f * f n
def mLikT (V : Vw) (a b c : Nat → Int) (fig q : Int) (i : Nat) : Int := if b i = q ∧ 0 ≤ a i ∧ a i < V.1 1 then (if c i = 1 then mOdds fig (mMore V (a i)) else 16 - mOdds fig (mMore V (a i))) else 1
def mLik (V : Vw) (a b c : Nat → Int) (n : Nat) (fig q : Int) : Int := prodN n (mLikT V a b c fig q)
theorem mLikT_b (V : Vw) (a b c : Nat → Int) (fig q : Int) (i : Nat) : 0 ≤ mLikT V a b c fig q i ∧ mLikT V a b c fig q i ≤ 16 := by
  have := mOdds_b fig (mMore V (a i))
  unfold mLikT
  (repeat' split) <;> omega
theorem mLik_b (V : Vw) (a b c : Nat → Int) (fig q : Int) : ∀ n : Nat, n ≤ 8 → 0 ≤ mLik V a b c n fig q ∧ mLik V a b c n fig q ≤ 16 ^ n
  | 0, _ => by simp [mLik, prodN]
  | n + 1, h => by
    have h1 := mLik_b V a b c fig q n (by omega)
    have h2 := mLikT_b V a b c fig q n
    have h3 := mul_b h1 h2
    rw [Int.pow_succ]
    exact h3
theorem mLik_8 (V : Vw) (a b c : Nat → Int) (fig q : Int) {n : Nat} (h : n ≤ 8) : 0 ≤ mLik V a b c n fig q ∧ mLik V a b c n fig q ≤ 4294967296 := by
  have h1 := mLik_b V a b c fig q n h
  have h2 : ∀ k : Nat, k < 9 → (16 : Int) ^ k ≤ 4294967296 := by decide
  have h3 := h2 n (by omega)
  omega
def mLb (V : Vw) (a b c : Nat → Int) (n : Nat) (q : Int) : Nat → Int × Int
  | 0 => (-1, 0)
  | f + 1 => if (mLb V a b c n q f).2 < mLik V a b c n ((f : Int) + 1) q then ((f : Int) + 1, mLik V a b c n ((f : Int) + 1) q) else mLb V a b c n q f
theorem mLb_b (V : Vw) (a b c : Nat → Int) {n : Nat} (h : n ≤ 8) (q : Int) : ∀ f : Nat, 0 ≤ (mLb V a b c n q f).2 ∧ (mLb V a b c n q f).2 ≤ 4294967296
  | 0 => by simp [mLb]
  | f + 1 => by
    have h1 := mLb_b V a b c h q f
    have h2 := mLik_8 V a b c ((f : Int) + 1) q h
    rw [mLb]
    split
    · exact h2
    · exact h1
theorem mLb_f (V : Vw) (a b c : Nat → Int) (n : Nat) (q : Int) : ∀ f : Nat, -1 ≤ (mLb V a b c n q f).1 ∧ (mLb V a b c n q f).1 ≤ f
  | 0 => by simp [mLb]
  | f + 1 => by
    have h1 := mLb_f V a b c n q f
    rw [mLb]
    split
    · show -1 ≤ (f : Int) + 1 ∧ _
      omega
    · omega
set_option maxRecDepth 20000 in
theorem c_X9_likelihood {X : sx_X} {S : St} {fig q : Int} (hV : okV (cV S)) (bT : 0 ≤ S.1 15 ∧ S.1 15 ≤ 8) (bA : ∀ i, 0 ≤ S.2 27 i ∧ S.2 27 i ≤ 5) (bB : ∀ i, 0 ≤ S.2 28 i ∧ S.2 28 i ≤ 15) (bC : ∀ i, 0 ≤ S.2 29 i ∧ S.2 29 i ≤ 1) (hfig : 1 ≤ fig ∧ fig ≤ 9) (hq : -2147483648 ≤ q ∧ q ≤ 2147483647) : Ct X yX9_likelihood cX9_likelihood 8 (some .long) 2 0 0 [.ref 26, vI fig, vI q, .ref 10] (hp S) (sx_is (some (vJ (mLik (cV S) (S.2 27) (S.2 28) (S.2 29) (S.1 15).toNat fig q))) (hp S)) := by
  have b0 : 0 ≤ S.1 2 ∧ S.1 2 ≤ 16 := hV.1
  have b1 : 0 ≤ S.1 4 ∧ S.1 4 ≤ 6 := hV.2.1
  have b2 : 0 ≤ S.1 6 ∧ S.1 6 ≤ 99 := hV.2.2.1
  have b3 : 0 ≤ S.1 7 ∧ S.1 7 ≤ 1 := hV.2.2.2.1
  have b4 : 0 ≤ S.1 8 ∧ S.1 8 ≤ 16 := hV.2.2.2.2.1
  have b5 : 0 ≤ S.1 9 ∧ S.1 9 ≤ 999 := hV.2.2.2.2.2.1
  have b6 : 0 ≤ S.1 10 ∧ S.1 10 ≤ 1999 := hV.2.2.2.2.2.2.1
  have b7 : 0 ≤ S.1 11 ∧ S.1 11 ≤ 16 := hV.2.2.2.2.2.2.2.1
  have bK : ∀ q, 0 ≤ gK S q ∧ gK S q ≤ 3 := hV.2.2.2.2.2.2.2.2.1
  have bL : ∀ q, 0 ≤ gL S q ∧ gL S q ≤ 9 := hV.2.2.2.2.2.2.2.2.2.1
  have bW : ∀ q, 0 ≤ pW S q ∧ pW S q ≤ 9 := hV.2.2.2.2.2.2.2.2.2.2.1
  have bS : ∀ q, 0 ≤ pS S q ∧ pS S q ≤ 9 := hV.2.2.2.2.2.2.2.2.2.2.2.1
  have bH : ∀ q, 0 ≤ pH S q ∧ pH S q ≤ 1 := hV.2.2.2.2.2.2.2.2.2.2.2.2
  have c0 : 0 ≤ (cV S).1 0 ∧ (cV S).1 0 ≤ 16 := b0
  have c1 : 0 ≤ (cV S).1 1 ∧ (cV S).1 1 ≤ 6 := b1
  have c2 : 0 ≤ (cV S).1 2 ∧ (cV S).1 2 ≤ 99 := b2
  have c3 : 0 ≤ (cV S).1 3 ∧ (cV S).1 3 ≤ 1 := b3
  have c4 : 0 ≤ (cV S).1 4 ∧ (cV S).1 4 ≤ 16 := b4
  have c5 : 0 ≤ (cV S).1 5 ∧ (cV S).1 5 ≤ 999 := b5
  have c6 : 0 ≤ (cV S).1 6 ∧ (cV S).1 6 ≤ 1999 := b6
  have c7 : 0 ≤ (cV S).1 7 ∧ (cV S).1 7 ≤ 16 := b7
  have key : ∀ (n i : Nat), i + n = (S.1 15).toNat → Rn X RX9 false cX9_likelihood 8 2 0 0 (some .long) 6 [some (.ref 26), some (vI fig), some (vI q), some (.ref 10), some (vJ (prodN i (mLikT (cV S) (S.2 27) (S.2 28) (S.2 29) fig q))), none, some (vI (i : Int)), none] [] (hp S) 0 0 (sx_is (some (vJ (mLik (cV S) (S.2 27) (S.2 28) (S.2 29) (S.1 15).toNat fig q))) (hp S)) := by
    intro n
    induction n with
    | zero =>
      intro i hi 
      rw [Nat.add_zero] at hi
      subst hi
      refine sx_iload (p1 := 8) dX9_likelihood_6 rfl rfl ?_
      refine sx_aload_n (p1 := 9) dX9_likelihood_8 rfl rfl ?_
      refine sx_get (v := vI (S.1 15)) (p1 := 12) dX9_likelihood_9 rfl fl_X9_25 (hp_c26 _) rfl ?_
      refine sx_icmp_ge (p1 := 15) (tg := 121) dX9_likelihood_12 rfl rfl (by omega) (by omega) (fun q12 => ?_) (fun q12 => absurd q12 (by omega))
      refine sx_lload (p1 := 123) dX9_likelihood_121 rfl rfl ?_
      exact sx_lret dX9_likelihood_123 rfl (sx_rj (by first | rfl | omega) (by rfl))
    | succ n ih =>
      intro i hi 
      have m1 := bA i
      have m2 := bB i
      have m3 := bC i
      have m4 := mMore_b hV (S.2 27 i)
      have m5 := mOdds_b fig (mMore (cV S) (S.2 27 i))
      refine sx_iload (p1 := 8) dX9_likelihood_6 rfl rfl ?_
      refine sx_aload_n (p1 := 9) dX9_likelihood_8 rfl rfl ?_
      refine sx_get (v := vI (S.1 15)) (p1 := 12) dX9_likelihood_9 rfl fl_X9_25 (hp_c26 _) rfl ?_
      refine sx_icmp_ge (p1 := 15) (tg := 121) dX9_likelihood_12 rfl rfl (by omega) (by omega) (fun q12 => absurd q12 (by omega)) (fun q12 => ?_)
      refine sx_iload (p1 := 17) dX9_likelihood_15 rfl rfl ?_
      refine sx_aload_n (p1 := 18) dX9_likelihood_17 rfl rfl ?_
      refine sx_get (p1 := 21) dX9_likelihood_18 rfl fl_X9_9 (hp_c26 _) rfl ?_
      refine sx_alen (p1 := 22) dX9_likelihood_21 rfl (hp_c27 _) (fun _ => rfl) ?_
      refine sx_icmp_ge (p1 := 25) (tg := 121) dX9_likelihood_22 rfl rfl (by omega) (by omega) (fun q22 => absurd q22 (by omega)) (fun q22 => ?_)
      refine sx_iload (p1 := 27) dX9_likelihood_25 rfl rfl ?_
      refine sx_aload_n (p1 := 28) dX9_likelihood_27 rfl rfl ?_
      refine sx_get (p1 := 31) dX9_likelihood_28 rfl fl_X9_15 (hp_c26 _) rfl ?_
      refine sx_alen (p1 := 32) dX9_likelihood_31 rfl (hp_c28 _) (fun _ => rfl) ?_
      refine sx_icmp_ge (p1 := 35) (tg := 121) dX9_likelihood_32 rfl rfl (by omega) (by omega) (fun q32 => absurd q32 (by omega)) (fun q32 => ?_)
      refine sx_iload (p1 := 37) dX9_likelihood_35 rfl rfl ?_
      refine sx_aload_n (p1 := 38) dX9_likelihood_37 rfl rfl ?_
      refine sx_get (p1 := 41) dX9_likelihood_38 rfl fl_X9_18 (hp_c26 _) rfl ?_
      refine sx_alen (p1 := 42) dX9_likelihood_41 rfl (hp_c29 _) (fun _ => rfl) ?_
      refine sx_icmp_ge (p1 := 45) (tg := 121) dX9_likelihood_42 rfl rfl (by omega) (by omega) (fun q42 => absurd q42 (by omega)) (fun q42 => ?_)
      refine sx_aload_n (p1 := 46) dX9_likelihood_45 rfl rfl ?_
      refine sx_get (p1 := 49) dX9_likelihood_46 rfl fl_X9_15 (hp_c26 _) rfl ?_
      refine sx_iload (p1 := 51) dX9_likelihood_49 rfl rfl ?_
      refine sx_iald (g := S.2 28) (p1 := 52) dX9_likelihood_51 rfl (hp_c28 _) (by omega) (by decide) ?_
      rw [Int.toNat_natCast]
      refine sx_iload_n (p1 := 53) dX9_likelihood_52 rfl rfl ?_
      refine sx_icmp_ne (p1 := 56) (tg := 115) dX9_likelihood_53 rfl rfl (by (show -2147483648 ≤ S.2 28 i ∧ S.2 28 i ≤ 2147483647); omega) (by omega) (fun q53 => ?_) (fun q53 => ?_)
      · rw [← (show prodN (i + 1) (mLikT (cV S) (S.2 27) (S.2 28) (S.2 29) fig q) = prodN i (mLikT (cV S) (S.2 27) (S.2 28) (S.2 29) fig q) from by rw [prodN, show (mLikT (cV S) (S.2 27) (S.2 28) (S.2 29) fig q) i = 1 from if_neg (fun z => q53 z.1), Int.mul_one])]
        refine sx_iinc (lo1 := [some _, some _, some _, some _, some _, none, some _, none]) (p1 := 118) dX9_likelihood_115 rfl (by decide) rfl rfl ?_
        refine sx_goto (p1 := 6) (tg := 6) dX9_likelihood_118 rfl rfl ?_
        first | exact ih (i + 1) (by omega) | (have h9 := ih (i + 1) (by omega); rw [prodN, zq8] at h9; exact h9)
      · refine sx_aload_n (p1 := 57) dX9_likelihood_56 rfl rfl ?_
        refine sx_aload_n (p1 := 58) dX9_likelihood_57 rfl rfl ?_
        refine sx_get (p1 := 61) dX9_likelihood_58 rfl fl_X9_9 (hp_c26 _) rfl ?_
        refine sx_iload (p1 := 63) dX9_likelihood_61 rfl rfl ?_
        refine sx_iald (g := S.2 27) (p1 := 64) dX9_likelihood_63 rfl (hp_c27 _) (by omega) (by decide) ?_
        rw [Int.toNat_natCast]
        refine sx_callVr (p1 := 67) (As := [_]) (k1 := 0) (n1 := 0) dX9_likelihood_64 rfl rfl (v_X5_has (V := cV S) rfl hV (show -2147483648 ≤ S.2 27 i ∧ S.2 27 i ≤ 2147483647 by omega)) mt_X5_has ml_X9_33 (hp_c10 _) rfl rfl (Nat.le_of_ble_eq_true rfl) rfl (Nat.le_of_ble_eq_true rfl) rfl rfl (Nat.le_of_ble_eq_true rfl) (Nat.le_of_ble_eq_true rfl) ?_
        refine sx_if_eq (p1 := 70) (tg := 115) dX9_likelihood_67 rfl rfl (by split <;> omega) (fun q67 => ?_) (fun q67 => ?_)
        · rw [← (show prodN (i + 1) (mLikT (cV S) (S.2 27) (S.2 28) (S.2 29) fig q) = prodN i (mLikT (cV S) (S.2 27) (S.2 28) (S.2 29) fig q) from by rw [prodN, show (mLikT (cV S) (S.2 27) (S.2 28) (S.2 29) fig q) i = 1 from if_neg (fun z => by rw [if_pos z.2] at q67; omega), Int.mul_one])]
          refine sx_iinc (lo1 := [some _, some _, some _, some _, some _, none, some _, none]) (p1 := 118) dX9_likelihood_115 rfl (by decide) rfl rfl ?_
          refine sx_goto (p1 := 6) (tg := 6) dX9_likelihood_118 rfl rfl ?_
          first | exact ih (i + 1) (by omega) | (have h9 := ih (i + 1) (by omega); rw [prodN, zq8] at h9; exact h9)
        · have zq7 : 0 ≤ S.2 27 i ∧ S.2 27 i < (cV S).1 1 := Decidable.byContradiction (fun z => by rw [if_neg z] at q67; omega)
          refine sx_iload_n (p1 := 71) dX9_likelihood_70 rfl rfl ?_
          refine sx_aload_n (p1 := 72) dX9_likelihood_71 rfl rfl ?_
          refine sx_aload_n (p1 := 73) dX9_likelihood_72 rfl rfl ?_
          refine sx_get (p1 := 76) dX9_likelihood_73 rfl fl_X9_9 (hp_c26 _) rfl ?_
          refine sx_iload (p1 := 78) dX9_likelihood_76 rfl rfl ?_
          refine sx_iald (g := S.2 27) (p1 := 79) dX9_likelihood_78 rfl (hp_c27 _) (by omega) (by decide) ?_
          rw [Int.toNat_natCast]
          refine sx_callVr (p1 := 82) (As := [_]) (k1 := 0) (n1 := 0) dX9_likelihood_79 rfl rfl (v_X5_oddsMore (V := cV S) rfl hV (show -2147483648 ≤ S.2 27 i ∧ S.2 27 i ≤ 2147483647 by omega)) mt_X5_oddsMore ml_X9_39 (hp_c10 _) rfl rfl (Nat.le_of_ble_eq_true rfl) rfl (Nat.le_of_ble_eq_true rfl) rfl rfl (Nat.le_of_ble_eq_true rfl) (Nat.le_of_ble_eq_true rfl) ?_
          refine sx_callSr (p1 := 85) (As := [_, _]) (k1 := 0) (n1 := 0) dX9_likelihood_82 rfl rfl (c_X8_odds (by omega) (by omega)) mt_X8_odds ml_X9_43 (Nat.le_of_ble_eq_true rfl) rfl (Nat.le_of_ble_eq_true rfl) rfl rfl (Nat.le_of_ble_eq_true rfl) (Nat.le_of_ble_eq_true rfl) ?_
          refine sx_istore (lo1 := [some _, some _, some _, some _, some _, none, some _, some _]) (p1 := 87) dX9_likelihood_85 rfl (by decide) rfl ?_
          refine sx_lload (p1 := 89) dX9_likelihood_87 rfl rfl ?_
          refine sx_aload_n (p1 := 90) dX9_likelihood_89 rfl rfl ?_
          refine sx_get (p1 := 93) dX9_likelihood_90 rfl fl_X9_18 (hp_c26 _) rfl ?_
          refine sx_iload (p1 := 95) dX9_likelihood_93 rfl rfl ?_
          refine sx_iald (g := S.2 29) (p1 := 96) dX9_likelihood_95 rfl (hp_c29 _) (by omega) (by decide) ?_
          rw [Int.toNat_natCast]
          refine sx_iconst (p1 := 97) dX9_likelihood_96 rfl ?_
          refine sx_icmp_ne (p1 := 100) (tg := 106) dX9_likelihood_97 rfl rfl (by (show -2147483648 ≤ S.2 29 i ∧ S.2 29 i ≤ 2147483647); omega) (by omega) (fun q97 => ?_) (fun q97 => ?_)
          · have zq8 : (mLikT (cV S) (S.2 27) (S.2 28) (S.2 29) fig q) i = 16 - mOdds fig (mMore (cV S) (S.2 27 i)) := (if_pos ⟨q53, zq7⟩).trans (if_neg q97)
            refine sx_bipush (p1 := 108) dX9_likelihood_106 rfl (by decide) ?_
            refine sx_iload (p1 := 110) dX9_likelihood_108 rfl rfl ?_
            refine sx_isub (p1 := 111) dX9_likelihood_110 rfl ?_
            refine sx_i2l (p1 := 112) dX9_likelihood_111 rfl (by omega) ?_
            refine sx_lmul (p1 := 113) dX9_likelihood_112 rfl ?_
            refine sx_lstore (lo1 := [some _, some _, some _, some _, some _, none, some _, some _]) (p1 := 115) dX9_likelihood_113 rfl (by decide) rfl ?_
            refine sx_iinc (lo1 := [some _, some _, some _, some _, some _, none, some _, some _]) (p1 := 118) dX9_likelihood_115 rfl (by decide) rfl rfl ?_
            refine sx_goto (p1 := 6) (tg := 6) dX9_likelihood_118 rfl rfl ?_
            refine sx_drop [true, true, true, true, true, false, true, false] (lo1 := [some _, some _, some _, some _, some _, none, some _, none]) rfl ?_
            first | exact ih (i + 1) (by omega) | (have h9 := ih (i + 1) (by omega); rw [prodN, zq8] at h9; exact h9)
          · have zq8 : (mLikT (cV S) (S.2 27) (S.2 28) (S.2 29) fig q) i = mOdds fig (mMore (cV S) (S.2 27 i)) := (if_pos ⟨q53, zq7⟩).trans (if_pos q97)
            refine sx_iload (p1 := 102) dX9_likelihood_100 rfl rfl ?_
            refine sx_i2l (p1 := 103) dX9_likelihood_102 rfl (by omega) ?_
            refine sx_goto (p1 := 112) (tg := 112) dX9_likelihood_103 rfl rfl ?_
            refine sx_lmul (p1 := 113) dX9_likelihood_112 rfl ?_
            refine sx_lstore (lo1 := [some _, some _, some _, some _, some _, none, some _, some _]) (p1 := 115) dX9_likelihood_113 rfl (by decide) rfl ?_
            refine sx_iinc (lo1 := [some _, some _, some _, some _, some _, none, some _, some _]) (p1 := 118) dX9_likelihood_115 rfl (by decide) rfl rfl ?_
            refine sx_goto (p1 := 6) (tg := 6) dX9_likelihood_118 rfl rfl ?_
            refine sx_drop [true, true, true, true, true, false, true, false] (lo1 := [some _, some _, some _, some _, some _, none, some _, none]) rfl ?_
            first | exact ih (i + 1) (by omega) | (have h9 := ih (i + 1) (by omega); rw [prodN, zq8] at h9; exact h9)
  refine Ct.of false [some (.ref 26), some (vI fig), some (vI q), some (.ref 10), none, none, none, none] (plainFor_of_name (by decide)) (fun h => by cases h) (Nat.le_of_ble_eq_true rfl) (fun _ => rfl) sx_isl ?_
  refine sx_lconst (y := 1) (p1 := 1) dX9_likelihood_0 rfl (by decide) ?_
  refine sx_lstore (lo1 := [some _, some _, some _, some _, some _, none, none, none]) (p1 := 3) dX9_likelihood_1 rfl (by decide) rfl ?_
  refine sx_iconst (p1 := 4) dX9_likelihood_3 rfl ?_
  refine sx_istore (lo1 := [some _, some _, some _, some _, some _, none, some _, none]) (p1 := 6) dX9_likelihood_4 rfl (by decide) rfl ?_
  exact key _ 0 (Nat.zero_add _)
set_option maxRecDepth 20000 in
theorem c_X9_likeliest {X : sx_X} {S : St} {q : Int} (hV : okV (cV S)) (bT : 0 ≤ S.1 15 ∧ S.1 15 ≤ 8) (bA : ∀ i, 0 ≤ S.2 27 i ∧ S.2 27 i ≤ 5) (bB : ∀ i, 0 ≤ S.2 28 i ∧ S.2 28 i ≤ 15) (bC : ∀ i, 0 ≤ S.2 29 i ∧ S.2 29 i ≤ 1) (hq : -2147483648 ≤ q ∧ q ≤ 2147483647) : Ct X yX9_likeliest cX9_likeliest 9 (some .int) 3 0 0 [.ref 26, vI q, .ref 10] (hp S) (sx_is (some (vI (mLb (cV S) (S.2 27) (S.2 28) (S.2 29) (S.1 15).toNat q 9).1)) (hp S)) := by
  have key : ∀ (n i : Nat), i + n = 9 → Rn X RX9 false cX9_likeliest 9 3 0 0 (some .int) 8 [some (.ref 26), some (vI q), some (.ref 10), some (vI (mLb (cV S) (S.2 27) (S.2 28) (S.2 29) (S.1 15).toNat q i).1), some (vJ (mLb (cV S) (S.2 27) (S.2 28) (S.2 29) (S.1 15).toNat q i).2), none, some (vI ((i : Int) + 1)), none, none] [] (hp S) 0 0 (sx_is (some (vI (mLb (cV S) (S.2 27) (S.2 28) (S.2 29) (S.1 15).toNat q 9).1)) (hp S)) := by
    intro n
    induction n with
    | zero =>
      intro i hi 
      rw [Nat.add_zero] at hi
      subst hi
      refine sx_iload (p1 := 10) dX9_likeliest_8 rfl rfl ?_
      refine sx_bipush (p1 := 12) dX9_likeliest_10 rfl (by decide) ?_
      refine sx_icmp_gt (p1 := 15) (tg := 46) dX9_likeliest_12 rfl rfl (by omega) (by omega) (fun q12 => ?_) (fun q12 => absurd q12 (by omega))
      refine sx_iload_n (p1 := 47) dX9_likeliest_46 rfl rfl ?_
      exact sx_iret dX9_likeliest_47 rfl (sx_ri (by first | rfl | omega) (by rfl))
    | succ n ih =>
      intro i hi 
      have m1 := mLb_b (cV S) (S.2 27) (S.2 28) (S.2 29) (n := (S.1 15).toNat) (by omega) q i
      have m2 := mLik_8 (cV S) (S.2 27) (S.2 28) (S.2 29) ((i : Int) + 1) q (n := (S.1 15).toNat) (by omega)
      refine sx_iload (p1 := 10) dX9_likeliest_8 rfl rfl ?_
      refine sx_bipush (p1 := 12) dX9_likeliest_10 rfl (by decide) ?_
      refine sx_icmp_gt (p1 := 15) (tg := 46) dX9_likeliest_12 rfl rfl (by omega) (by omega) (fun q12 => absurd q12 (by omega)) (fun q12 => ?_)
      refine sx_aload_n (p1 := 16) dX9_likeliest_15 rfl rfl ?_
      refine sx_iload (p1 := 18) dX9_likeliest_16 rfl rfl ?_
      refine sx_iload_n (p1 := 19) dX9_likeliest_18 rfl rfl ?_
      refine sx_aload_n (p1 := 20) dX9_likeliest_19 rfl rfl ?_
      refine sx_callVr (p1 := 23) (As := [_, _, _]) (k1 := 0) (n1 := 0) dX9_likeliest_20 rfl rfl (c_X9_likelihood hV bT bA bB bC (by omega) hq) mt_X9_likelihood ml_X9_29 (hp_c26 _) rfl rfl (Nat.le_of_ble_eq_true rfl) rfl (Nat.le_of_ble_eq_true rfl) rfl rfl (Nat.le_of_ble_eq_true rfl) (Nat.le_of_ble_eq_true rfl) ?_
      refine sx_lstore (lo1 := [some _, some _, some _, some _, some _, none, some _, some _, none]) (p1 := 25) dX9_likeliest_23 rfl (by decide) rfl ?_
      refine sx_lload (p1 := 27) dX9_likeliest_25 rfl rfl ?_
      refine sx_lload (p1 := 29) dX9_likeliest_27 rfl rfl ?_
      refine sx_lcmp_le (p2 := 0) (p1 := 33) (tg := 40) dX9_likeliest_29 dX9_likeliest_30 rfl rfl (by omega) (by omega) (fun q29 => ?_) (fun q29 => ?_)
      · have zq4 : (mLb (cV S) (S.2 27) (S.2 28) (S.2 29) (S.1 15).toNat q (i + 1)) = (mLb (cV S) (S.2 27) (S.2 28) (S.2 29) (S.1 15).toNat q i) := if_neg (by omega)
        refine sx_iinc (lo1 := [some _, some _, some _, some _, some _, none, some _, some _, none]) (p1 := 43) dX9_likeliest_40 rfl (by decide) rfl rfl ?_
        refine sx_goto (p1 := 8) (tg := 8) dX9_likeliest_43 rfl rfl ?_
        refine sx_drop [true, true, true, true, true, false, true, false, false] (lo1 := [some _, some _, some _, some _, some _, none, some _, none, none]) rfl ?_
        have h9 := ih (i + 1) (by omega)
        rw [zq4] at h9
        exact h9
      · have zq4 : (mLb (cV S) (S.2 27) (S.2 28) (S.2 29) (S.1 15).toNat q (i + 1)) = ((i : Int) + 1, mLik (cV S) (S.2 27) (S.2 28) (S.2 29) (S.1 15).toNat ((i : Int) + 1) q) := if_pos (by omega)
        refine sx_lload (p1 := 35) dX9_likeliest_33 rfl rfl ?_
        refine sx_lstore (lo1 := [some _, some _, some _, some _, some _, none, some _, some _, none]) (p1 := 37) dX9_likeliest_35 rfl (by decide) rfl ?_
        refine sx_iload (p1 := 39) dX9_likeliest_37 rfl rfl ?_
        refine sx_istore_n (lo1 := [some _, some _, some _, some _, some _, none, some _, some _, none]) (p1 := 40) dX9_likeliest_39 rfl (by decide) rfl ?_
        refine sx_iinc (lo1 := [some _, some _, some _, some _, some _, none, some _, some _, none]) (p1 := 43) dX9_likeliest_40 rfl (by decide) rfl rfl ?_
        refine sx_goto (p1 := 8) (tg := 8) dX9_likeliest_43 rfl rfl ?_
        refine sx_drop [true, true, true, true, true, false, true, false, false] (lo1 := [some _, some _, some _, some _, some _, none, some _, none, none]) rfl ?_
        have h9 := ih (i + 1) (by omega)
        rw [zq4] at h9
        exact h9
  refine Ct.of false [some (.ref 26), some (vI q), some (.ref 10), none, none, none, none, none, none] (plainFor_of_name (by decide)) (fun h => by cases h) (Nat.le_of_ble_eq_true rfl) (fun _ => rfl) sx_isl ?_
  refine sx_iconst (p1 := 1) dX9_likeliest_0 rfl ?_
  refine sx_istore_n (lo1 := [some _, some _, some _, some _, none, none, none, none, none]) (p1 := 2) dX9_likeliest_1 rfl (by decide) rfl ?_
  refine sx_lconst (y := 0) (p1 := 3) dX9_likeliest_2 rfl (by decide) ?_
  refine sx_lstore (lo1 := [some _, some _, some _, some _, some _, none, none, none, none]) (p1 := 5) dX9_likeliest_3 rfl (by decide) rfl ?_
  refine sx_iconst (p1 := 6) dX9_likeliest_5 rfl ?_
  refine sx_istore (lo1 := [some _, some _, some _, some _, some _, none, some _, none, none]) (p1 := 8) dX9_likeliest_6 rfl (by decide) rfl ?_
  exact key 9 0 rfl
theorem v_X9_likeliest {X : sx_X} {S : St} {V : Vw} {q : Int} (hS : cV S = V) (hV : okV V) (bT : 0 ≤ S.1 15 ∧ S.1 15 ≤ 8) (bA : ∀ i, 0 ≤ S.2 27 i ∧ S.2 27 i ≤ 5) (bB : ∀ i, 0 ≤ S.2 28 i ∧ S.2 28 i ≤ 15) (bC : ∀ i, 0 ≤ S.2 29 i ∧ S.2 29 i ≤ 1) (hq : -2147483648 ≤ q ∧ q ≤ 2147483647) : Ct X yX9_likeliest cX9_likeliest 9 (some .int) 3 0 0 [.ref 26, vI q, .ref 10] (hp S) (sx_is (some (vI (mLb V (S.2 27) (S.2 28) (S.2 29) (S.1 15).toNat q 9).1)) (hp S)) := by
  subst hS
  exact c_X9_likeliest hV bT bA bB bC hq
set_option maxRecDepth 20000 in
theorem c_X6_takes {X : sx_X} {S : St} {i j : Int} (hi : -2147483648 ≤ i ∧ i ≤ 2147483647) (hj : -2147483648 ≤ j ∧ j ≤ 2147483647) : Ct X yX6_takes cX6_takes 3 (some .boolean) 0 0 0 [.ref 14, vI i, vI j] (hp S) (sx_is (some (vI (if (0 ≤ i ∧ i < 6) ∧ 0 ≤ j ∧ j ≤ sx_most i.toNat then 1 else 0))) (hp (S))) := by
  have hm : ∀ k, 1 ≤ sx_most k ∧ sx_most k ≤ 1999 := by
    intro k
    unfold sx_most
    split <;> omega
  have hm2 := hm i.toNat
  refine Ct.of false [some (.ref 14), some (vI i), some (vI j)] (plainFor_of_name (by decide)) (fun h => by cases h) (Nat.le_of_ble_eq_true rfl) (fun _ => rfl) sx_isl ?_
  refine sx_iload_n (p1 := 1) dX6_takes_0 rfl rfl ?_
  refine sx_if_lt (p1 := 4) (tg := 29) dX6_takes_1 rfl rfl (by omega) (fun q1 => ?_) (fun q1 => ?_)
  · refine sx_iconst (p1 := 30) dX6_takes_29 rfl ?_
    exact sx_zret dX6_takes_30 rfl (by omega) (sx_ri (by simp; omega) (by rfl))
  · refine sx_iload_n (p1 := 5) dX6_takes_4 rfl rfl ?_
    refine sx_gets (p1 := 8) dX6_takes_5 rfl fl_X6_30 ?_
    refine sx_alen1 (p1 := 9) dX6_takes_8 rfl ?_
    refine sx_icmp_ge (p1 := 12) (tg := 29) dX6_takes_9 rfl rfl (by omega) (by omega) (fun q9 => ?_) (fun q9 => ?_)
    · refine sx_iconst (p1 := 30) dX6_takes_29 rfl ?_
      exact sx_zret dX6_takes_30 rfl (by omega) (sx_ri (by simp; omega) (by rfl))
    · refine sx_iload_n (p1 := 13) dX6_takes_12 rfl rfl ?_
      refine sx_if_lt (p1 := 16) (tg := 29) dX6_takes_13 rfl rfl (by omega) (fun q13 => ?_) (fun q13 => ?_)
      · refine sx_iconst (p1 := 30) dX6_takes_29 rfl ?_
        exact sx_zret dX6_takes_30 rfl (by omega) (sx_ri (by simp; omega) (by rfl))
      · refine sx_iload_n (p1 := 17) dX6_takes_16 rfl rfl ?_
        refine sx_gets (p1 := 20) dX6_takes_17 rfl fl_X6_30 ?_
        refine sx_iload_n (p1 := 21) dX6_takes_20 rfl rfl ?_
        refine sx_iald1 (p1 := 22) dX6_takes_21 rfl (by omega) (by decide) ?_
        refine sx_icmp_gt (p1 := 25) (tg := 29) dX6_takes_22 rfl rfl (by omega) (by omega) (fun q22 => ?_) (fun q22 => ?_)
        · refine sx_iconst (p1 := 30) dX6_takes_29 rfl ?_
          exact sx_zret dX6_takes_30 rfl (by omega) (sx_ri (by simp; omega) (by rfl))
        · refine sx_iconst (p1 := 26) dX6_takes_25 rfl ?_
          refine sx_goto (p1 := 30) (tg := 30) dX6_takes_26 rfl rfl ?_
          exact sx_zret dX6_takes_30 rfl (by omega) (sx_ri (by simp; omega) (by rfl))
set_option maxRecDepth 20000 in
theorem c_X6_change {X : sx_X} {S : St} {k : Nat} {j : Int} (hk : k < 6) : Ct X yX6_change cX6_change 4 (some .int) 0 0 0 [.ref 14, vI (k : Int), vI j] (hp S) (sx_is (some (vI (S.1 (6 + k)))) (hp (si S (6 + k) j))) := by
  rcases (show k = 0 ∨ k = 1 ∨ k = 2 ∨ k = 3 ∨ k = 4 ∨ k = 5 by omega) with rfl | rfl | rfl | rfl | rfl | rfl
  · refine Ct.of false [some (.ref 14), some (vI ((0 : Nat) : Int)), some (vI j), none] (plainFor_of_name (by decide)) (fun h => by cases h) (Nat.le_of_ble_eq_true rfl) (fun _ => rfl) sx_isl ?_
    refine sx_iconst (p1 := 1) dX6_change_0 rfl ?_
    refine sx_istore_n (lo1 := [some _, some _, some _, some _]) (p1 := 2) dX6_change_1 rfl (by decide) rfl ?_
    refine sx_iload_n (p1 := 3) dX6_change_2 rfl rfl ?_
    · refine sx_tsIn (p1 := 40) (tg := 40) dX6_change_3 (by decide) (by decide) rfl rfl rfl ?_
      refine sx_aload_n (p1 := 41) dX6_change_40 rfl rfl ?_
      refine sx_get (p1 := 44) dX6_change_41 rfl fl_X6_9 (hp_c14 _) rfl ?_
      refine sx_istore_n (lo1 := [some _, some _, some _, some _]) (p1 := 45) dX6_change_44 rfl (by decide) rfl ?_
      refine sx_aload_n (p1 := 46) dX6_change_45 rfl rfl ?_
      refine sx_iload_n (p1 := 47) dX6_change_46 rfl rfl ?_
      refine sx_put (p1 := 50) dX6_change_47 rfl fl_X6_9 (hp_c14 _) (Nat.le_of_ble_eq_true rfl) (fun _ => rfl) (fun _ => rfl) (hp_s6 _ _) ?_
      refine sx_goto (p1 := 118) (tg := 118) dX6_change_50 rfl rfl ?_
      refine sx_iload_n (p1 := 119) dX6_change_118 rfl rfl ?_
      exact sx_iret dX6_change_119 rfl (sx_ri (by first | rfl | omega) (by rfl))
  · refine Ct.of false [some (.ref 14), some (vI ((1 : Nat) : Int)), some (vI j), none] (plainFor_of_name (by decide)) (fun h => by cases h) (Nat.le_of_ble_eq_true rfl) (fun _ => rfl) sx_isl ?_
    refine sx_iconst (p1 := 1) dX6_change_0 rfl ?_
    refine sx_istore_n (lo1 := [some _, some _, some _, some _]) (p1 := 2) dX6_change_1 rfl (by decide) rfl ?_
    refine sx_iload_n (p1 := 3) dX6_change_2 rfl rfl ?_
    · refine sx_tsIn (p1 := 53) (tg := 53) dX6_change_3 (by decide) (by decide) rfl rfl rfl ?_
      refine sx_aload_n (p1 := 54) dX6_change_53 rfl rfl ?_
      refine sx_get (p1 := 57) dX6_change_54 rfl fl_X6_15 (hp_c14 _) rfl ?_
      refine sx_istore_n (lo1 := [some _, some _, some _, some _]) (p1 := 58) dX6_change_57 rfl (by decide) rfl ?_
      refine sx_aload_n (p1 := 59) dX6_change_58 rfl rfl ?_
      refine sx_iload_n (p1 := 60) dX6_change_59 rfl rfl ?_
      refine sx_put (p1 := 63) dX6_change_60 rfl fl_X6_15 (hp_c14 _) (Nat.le_of_ble_eq_true rfl) (fun _ => rfl) (fun _ => rfl) (hp_s7 _ _) ?_
      refine sx_goto (p1 := 118) (tg := 118) dX6_change_63 rfl rfl ?_
      refine sx_iload_n (p1 := 119) dX6_change_118 rfl rfl ?_
      exact sx_iret dX6_change_119 rfl (sx_ri (by first | rfl | omega) (by rfl))
  · refine Ct.of false [some (.ref 14), some (vI ((2 : Nat) : Int)), some (vI j), none] (plainFor_of_name (by decide)) (fun h => by cases h) (Nat.le_of_ble_eq_true rfl) (fun _ => rfl) sx_isl ?_
    refine sx_iconst (p1 := 1) dX6_change_0 rfl ?_
    refine sx_istore_n (lo1 := [some _, some _, some _, some _]) (p1 := 2) dX6_change_1 rfl (by decide) rfl ?_
    refine sx_iload_n (p1 := 3) dX6_change_2 rfl rfl ?_
    · refine sx_tsIn (p1 := 66) (tg := 66) dX6_change_3 (by decide) (by decide) rfl rfl rfl ?_
      refine sx_aload_n (p1 := 67) dX6_change_66 rfl rfl ?_
      refine sx_get (p1 := 70) dX6_change_67 rfl fl_X6_18 (hp_c14 _) rfl ?_
      refine sx_istore_n (lo1 := [some _, some _, some _, some _]) (p1 := 71) dX6_change_70 rfl (by decide) rfl ?_
      refine sx_aload_n (p1 := 72) dX6_change_71 rfl rfl ?_
      refine sx_iload_n (p1 := 73) dX6_change_72 rfl rfl ?_
      refine sx_put (p1 := 76) dX6_change_73 rfl fl_X6_18 (hp_c14 _) (Nat.le_of_ble_eq_true rfl) (fun _ => rfl) (fun _ => rfl) (hp_s8 _ _) ?_
      refine sx_goto (p1 := 118) (tg := 118) dX6_change_76 rfl rfl ?_
      refine sx_iload_n (p1 := 119) dX6_change_118 rfl rfl ?_
      exact sx_iret dX6_change_119 rfl (sx_ri (by first | rfl | omega) (by rfl))
  · refine Ct.of false [some (.ref 14), some (vI ((3 : Nat) : Int)), some (vI j), none] (plainFor_of_name (by decide)) (fun h => by cases h) (Nat.le_of_ble_eq_true rfl) (fun _ => rfl) sx_isl ?_
    refine sx_iconst (p1 := 1) dX6_change_0 rfl ?_
    refine sx_istore_n (lo1 := [some _, some _, some _, some _]) (p1 := 2) dX6_change_1 rfl (by decide) rfl ?_
    refine sx_iload_n (p1 := 3) dX6_change_2 rfl rfl ?_
    · refine sx_tsIn (p1 := 79) (tg := 79) dX6_change_3 (by decide) (by decide) rfl rfl rfl ?_
      refine sx_aload_n (p1 := 80) dX6_change_79 rfl rfl ?_
      refine sx_get (p1 := 83) dX6_change_80 rfl fl_X6_21 (hp_c14 _) rfl ?_
      refine sx_istore_n (lo1 := [some _, some _, some _, some _]) (p1 := 84) dX6_change_83 rfl (by decide) rfl ?_
      refine sx_aload_n (p1 := 85) dX6_change_84 rfl rfl ?_
      refine sx_iload_n (p1 := 86) dX6_change_85 rfl rfl ?_
      refine sx_put (p1 := 89) dX6_change_86 rfl fl_X6_21 (hp_c14 _) (Nat.le_of_ble_eq_true rfl) (fun _ => rfl) (fun _ => rfl) (hp_s9 _ _) ?_
      refine sx_goto (p1 := 118) (tg := 118) dX6_change_89 rfl rfl ?_
      refine sx_iload_n (p1 := 119) dX6_change_118 rfl rfl ?_
      exact sx_iret dX6_change_119 rfl (sx_ri (by first | rfl | omega) (by rfl))
  · refine Ct.of false [some (.ref 14), some (vI ((4 : Nat) : Int)), some (vI j), none] (plainFor_of_name (by decide)) (fun h => by cases h) (Nat.le_of_ble_eq_true rfl) (fun _ => rfl) sx_isl ?_
    refine sx_iconst (p1 := 1) dX6_change_0 rfl ?_
    refine sx_istore_n (lo1 := [some _, some _, some _, some _]) (p1 := 2) dX6_change_1 rfl (by decide) rfl ?_
    refine sx_iload_n (p1 := 3) dX6_change_2 rfl rfl ?_
    · refine sx_tsIn (p1 := 92) (tg := 92) dX6_change_3 (by decide) (by decide) rfl rfl rfl ?_
      refine sx_aload_n (p1 := 93) dX6_change_92 rfl rfl ?_
      refine sx_get (p1 := 96) dX6_change_93 rfl fl_X6_24 (hp_c14 _) rfl ?_
      refine sx_istore_n (lo1 := [some _, some _, some _, some _]) (p1 := 97) dX6_change_96 rfl (by decide) rfl ?_
      refine sx_aload_n (p1 := 98) dX6_change_97 rfl rfl ?_
      refine sx_iload_n (p1 := 99) dX6_change_98 rfl rfl ?_
      refine sx_put (p1 := 102) dX6_change_99 rfl fl_X6_24 (hp_c14 _) (Nat.le_of_ble_eq_true rfl) (fun _ => rfl) (fun _ => rfl) (hp_s10 _ _) ?_
      refine sx_goto (p1 := 118) (tg := 118) dX6_change_102 rfl rfl ?_
      refine sx_iload_n (p1 := 119) dX6_change_118 rfl rfl ?_
      exact sx_iret dX6_change_119 rfl (sx_ri (by first | rfl | omega) (by rfl))
  · refine Ct.of false [some (.ref 14), some (vI ((5 : Nat) : Int)), some (vI j), none] (plainFor_of_name (by decide)) (fun h => by cases h) (Nat.le_of_ble_eq_true rfl) (fun _ => rfl) sx_isl ?_
    refine sx_iconst (p1 := 1) dX6_change_0 rfl ?_
    refine sx_istore_n (lo1 := [some _, some _, some _, some _]) (p1 := 2) dX6_change_1 rfl (by decide) rfl ?_
    refine sx_iload_n (p1 := 3) dX6_change_2 rfl rfl ?_
    · refine sx_tsIn (p1 := 105) (tg := 105) dX6_change_3 (by decide) (by decide) rfl rfl rfl ?_
      refine sx_aload_n (p1 := 106) dX6_change_105 rfl rfl ?_
      refine sx_get (p1 := 109) dX6_change_106 rfl fl_X6_27 (hp_c14 _) rfl ?_
      refine sx_istore_n (lo1 := [some _, some _, some _, some _]) (p1 := 110) dX6_change_109 rfl (by decide) rfl ?_
      refine sx_aload_n (p1 := 111) dX6_change_110 rfl rfl ?_
      refine sx_iload_n (p1 := 112) dX6_change_111 rfl rfl ?_
      refine sx_put (p1 := 115) dX6_change_112 rfl fl_X6_27 (hp_c14 _) (Nat.le_of_ble_eq_true rfl) (fun _ => rfl) (fun _ => rfl) (hp_s11 _ _) ?_
      refine sx_goto (p1 := 118) (tg := 118) dX6_change_115 rfl rfl ?_
      refine sx_iload_n (p1 := 119) dX6_change_118 rfl rfl ?_
      exact sx_iret dX6_change_119 rfl (sx_ri (by first | rfl | omega) (by rfl))
