theorem gL_out (S : St) {q : Int} (h : S.1 2 ≤ q) : gL S q = 0 := by
  unfold gL
  rw [if_neg (by omega)]
theorem sa_sA (S : St) (a : Nat) (F : Nat → Int) (i : Nat) (x : Int) : sa (sA S a F) a i x = sA S a (sx_u F i x) := by
  refine Prod.ext rfl ?_
  funext b
  by_cases h : b = a
  · subst h
    simp [sa, sA, sx_u]
  · simp [sa, sA, sx_u, h]
theorem sA_self (S : St) (a : Nat) : sA S a (S.2 a) = S := by
  unfold sA
  obtain ⟨x, y⟩ := S
  congr 1
  funext b
  unfold sx_u
  split
  · rename_i h
    rw [h]
  · rfl
def paF (V : Vw) (f : Nat → Int) (i j : Nat) : Int := if j < i then mAbove V ((j / 2 : Nat) : Int) ((j % 2 : Nat) : Int) else f j
theorem paF_0 (V : Vw) (f : Nat → Int) : paF V f 0 = f := by
  funext j
  unfold paF
  rw [if_neg (by omega)]
theorem paF_s (V : Vw) (f : Nat → Int) (i : Nat) {x : Int} (hx : x = mAbove V ((i / 2 : Nat) : Int) ((i % 2 : Nat) : Int)) : sx_u (paF V f i) i x = paF V f (i + 1) := by
  funext j
  unfold sx_u paF
  by_cases h : j = i
  · subst h
    rw [if_pos rfl, if_pos (by omega), hx]
  · rw [if_neg h]
    by_cases h2 : j < i
    · rw [if_pos h2, if_pos (by omega)]
    · rw [if_neg h2, if_neg (by omega)]
theorem okF_of (S : St) : okF (sA S 16 (paF (cV S) (S.2 16) 32)) := by
  intro q h hq hh
  show paF (cV S) (S.2 16) 32 (2 * q + h) = mAbove (cV S) q h
  unfold paF
  rw [if_pos (by omega), show (2 * q + h) / 2 = q by omega, show (2 * q + h) % 2 = h by omega]
theorem sumN_ext {f : Nat → Int} {a : Nat} : ∀ b : Nat, a ≤ b → (∀ i, a ≤ i → i < b → f i = 0) → sumN b f = sumN a f
  | 0, h, _ => by rw [show a = 0 by omega]
  | b + 1, h, hz => by
    by_cases e : a = b + 1
    · rw [e]
    · rw [sumN, sumN_ext b (by omega) (fun i h1 h2 => hz i h1 (by omega)), hz b (by omega) (by omega), Int.add_zero]
theorem mAbove_ext (S : St) (q h : Int) {N : Nat} (hN : S.1 2 ≤ N) : sumN N (mAboveT (cV S) q h) = mAbove (cV S) q h := by
  unfold mAbove
  refine sumN_ext N (by show (S.1 2).toNat ≤ N; omega) (fun i h1 h2 => ?_)
  unfold mAboveT
  have h3 : (S.1 2).toNat ≤ i := h1
  rw [show (cV S).2 1 i = 0 from gL_out S (by omega)]
  rfl
theorem v_X5_size {X : sx_X} {S : St} {V : Vw} (hS : cV S = V) (hV : okV V)  : Ct X yX5_size cX5_size 1 (some .int) 0 0 0 [.ref 10] (hp S) (sx_is (some (vI (V.1 1))) (hp S)) := by
  subst hS
  exact c_X5_size 
theorem v_X5_has {X : sx_X} {S : St} {V : Vw} {i : Int} (hS : cV S = V) (hV : okV V) (hi : -2147483648 ≤ i ∧ i ≤ 2147483647) : Ct X yX5_has cX5_has 2 (some .boolean) 0 0 0 [.ref 10, vI i] (hp S) (sx_is (some (vI (if 0 ≤ i ∧ i < V.1 1 then 1 else 0))) (hp S)) := by
  subst hS
  exact c_X5_has hi hV.2.1
theorem v_X5_helmetOf {X : sx_X} {S : St} {V : Vw} {i : Int} (hS : cV S = V) (hV : okV V) (hi : -2147483648 ≤ i ∧ i ≤ 2147483647) : Ct X yX5_helmetOf cX5_helmetOf 2 (some .int) 0 0 0 [.ref 10, vI i] (hp S) (sx_is (some (vI (V.2 4 i))) (hp S)) := by
  subst hS
  exact c_X5_helmetOf hi hV.2.1
theorem v_X5_oddsMore {X : sx_X} {S : St} {V : Vw} {i : Int} (hS : cV S = V) (hV : okV V) (hi : -2147483648 ≤ i ∧ i ≤ 2147483647) : Ct X yX5_oddsMore cX5_oddsMore 2 (some .int) 1 0 0 [.ref 10, vI i] (hp S) (sx_is (some (vI (mMore V i))) (hp S)) := by
  subst hS
  exact c_X5_oddsMore hi hV.2.1 hV.2.2.2.2.2.2.2.2.2.2.1 hV.2.2.2.2.2.2.2.2.2.2.2.1
theorem v_X6_pace {X : sx_X} {S : St} {V : Vw} (hS : cV S = V) (hV : okV V)  : Ct X yX6_pace cX6_pace 1 (some .int) 0 0 0 [.ref 14] (hp S) (sx_is (some (vI (1 + V.1 3))) (hp S)) := by
  subst hS
  exact c_X6_pace hV.2.2.2.1
theorem v_X0_has {X : sx_X} {S : St} {V : Vw} {i : Int} (hS : cV S = V) (hV : okV V) (hi : -2147483648 ≤ i ∧ i ≤ 2147483647) : Ct X yX0_has cX0_has 2 (some .boolean) 0 0 0 [.ref 7, vI i] (hp S) (sx_is (some (vI (if 0 ≤ i ∧ i < V.1 0 then 1 else 0))) (hp S)) := by
  subst hS
  exact c_X0_has hi hV.1
theorem v_X0_loosenessAt {X : sx_X} {S : St} {V : Vw} {i : Int} (hS : cV S = V) (hV : okV V) (hi : -2147483648 ≤ i ∧ i ≤ 2147483647) : Ct X yX0_loosenessAt cX0_loosenessAt 2 (some .int) 0 0 0 [.ref 7, vI i] (hp S) (sx_is (some (vI (V.2 1 i))) (hp S)) := by
  subst hS
  exact c_X0_loosenessAt hi hV.1
theorem v_X0_kindAt {X : sx_X} {S : St} {V : Vw} {i : Int} (hS : cV S = V) (hV : okV V) (hi : -2147483648 ≤ i ∧ i ≤ 2147483647) : Ct X yX0_kindAt cX0_kindAt 2 (some .int) 0 0 0 [.ref 7, vI i] (hp S) (sx_is (some (vI (V.2 0 i))) (hp S)) := by
  subst hS
  exact c_X0_kindAt hi hV.1
theorem v_X0_isLoose {X : sx_X} {S : St} {V : Vw} {i : Int} (hS : cV S = V) (hV : okV V) (hi : -2147483648 ≤ i ∧ i ≤ 2147483647) : Ct X yX0_isLoose cX0_isLoose 2 (some .boolean) 1 0 0 [.ref 7, vI i] (hp S) (sx_is (some (vI (if 0 < V.2 1 i then 1 else 0))) (hp S)) := by
  subst hS
  exact c_X0_isLoose hi hV.1 hV.2.2.2.2.2.2.2.2.2.1
theorem v_X8_minutesInAll {X : sx_X} {S : St} {V : Vw} (hS : cV S = V) (hV : okV V)  : Ct X yX8_minutesInAll cX8_minutesInAll 1 (some .int) 1 0 0 [.ref 15] (hp S) (sx_is (some (vI (mTakes V))) (hp S)) := by
  subst hS
  exact c_X8_minutesInAll hV
theorem v_X8_partAfter {X : sx_X} {S : St} {V : Vw} {i : Int} (hS : cV S = V) (hV : okV V) (hi : -2147483648 ≤ i ∧ i ≤ 2147483647) : Ct X yX8_partAfter cX8_partAfter 3 (some .int) 0 0 0 [.ref 15, vI i] (hp S) (sx_is (some (vI (mPl V i))) (hp S)) := by
  subst hS
  exact c_X8_partAfter hV hi
theorem v_X8_partOf {X : sx_X} {S : St} {V : Vw} {i j : Int} (hS : cV S = V) (hV : okV V) (hi : 0 ≤ i ∧ i ≤ 6) (hj : -10 ≤ j ∧ j ≤ 5000) : Ct X yX8_partOf cX8_partOf 3 (some .int) 1 0 0 [.ref 15, vI i, vI j] (hp S) (sx_is (some (vI (mPl V (j - V.1 5 - i * V.1 2)))) (hp S)) := by
  subst hS
  exact c_X8_partOf hV hi hj
theorem v_X8_partEntered {X : sx_X} {S : St} {V : Vw} {i j : Int} (hS : cV S = V) (hV : okV V) (hi : 0 ≤ i ∧ i ≤ 6) (hj : 0 ≤ j ∧ j ≤ 4000) : Ct X yX8_partEntered cX8_partEntered 4 (some .int) 2 0 0 [.ref 15, vI i, vI j] (hp S) (sx_is (some (vI (mEnt V i j))) (hp S)) := by
  subst hS
  exact c_X8_partEntered hV hi hj
theorem v_X8_oddsOf {X : sx_X} {S : St} {V : Vw} {i j : Int} (hS : cV S = V) (hV : okV V) (hi : -2147483648 ≤ i ∧ i ≤ 2147483647) (hj : -2147483648 ≤ j ∧ j ≤ 2147483647) : Ct X yX8_oddsOf cX8_oddsOf 3 (some .int) 2 0 0 [.ref 15, vI i, vI j] (hp S) (sx_is (some (vI (mOdds (V.2 1 j) (mMore V i)))) (hp S)) := by
  subst hS
  exact c_X8_oddsOf hV hi hj
theorem v_X8_oddsOfSun {X : sx_X} {S : St} {V : Vw} {i j : Int} (hS : cV S = V) (hV : okV V) (hi : -2147483648 ≤ i ∧ i ≤ 2147483647) (hj : -2147483648 ≤ j ∧ j ≤ 2147483647) : Ct X yX8_oddsOfSun cX8_oddsOfSun 3 (some .int) 2 0 0 [.ref 15, vI i, vI j] (hp S) (sx_is (some (vI (if 0 < V.2 1 i ∧ V.1 6 ≤ j then V.1 7 else 0))) (hp S)) := by
  subst hS
  exact c_X8_oddsOfSun hV hi hj
theorem v_X8_oddsOfFeet {X : sx_X} {S : St} {V : Vw} {i j : Int} (hS : cV S = V) (hV : okV V) (hi : -2147483648 ≤ i ∧ i ≤ 2147483647) (hj : 0 ≤ j ∧ j ≤ 4000) : Ct X yX8_oddsOfFeet cX8_oddsOfFeet 5 (some .int) 3 0 0 [.ref 15, vI i, vI j] (hp S) (sx_is (some (vI (mFoot V i j))) (hp S)) := by
  subst hS
  exact c_X8_oddsOfFeet hV hi hj
theorem v_X8_struck {X : sx_X} {S : St} {V : Vw} {i j k : Int} (hS : cV S = V) (hV : okV V) (hi : -1 ≤ i ∧ i ≤ 16) (hj : -1 ≤ j ∧ j ≤ 16) (hk : -2147483648 ≤ k ∧ k ≤ 2147483647) : Ct X yX8_struck cX8_struck 7 (some .int) 1 0 0 [.ref 15, vI i, vI j, vI k] (hp S) (sx_is (some (vI (mHit V i j k))) (hp S)) := by
  subst hS
  exact c_X8_struck hV hi hj hk
theorem v_X8_areApart {X : sx_X} {S : St} {V : Vw} {i j : Int} (hS : cV S = V) (hV : okV V) (hi : 0 ≤ i ∧ i < 8) (hj : 0 ≤ j ∧ j < 8) : Ct X yX8_areApart cX8_areApart 3 (some .boolean) 0 0 0 [.ref 15, vI i, vI j] (hp S) (sx_is (some (vI (mApart V i j))) (hp S)) := by
  subst hS
  exact c_X8_areApart hV hi hj
theorem v_X8_byFeet {X : sx_X} {S : St} {V : Vw} {mo ah pa he : Int} (hS : cV S = V) (hV : okV V) (hmo : -100 ≤ mo ∧ mo ≤ 100) (hah : -1000 ≤ ah ∧ ah ≤ 1000) (hpa : 1 ≤ pa ∧ pa ≤ 2) (hhe : -2147483648 ≤ he ∧ he ≤ 2147483647) : Ct X yX8_byFeet cX8_byFeet 9 (some .long) 2 0 0 [.ref 15, vI mo, vI ah, vI pa, vI he] (hp S) (sx_is (some (vJ (mFeet V mo ah pa he))) (hp S)) := by
  subst hS
  exact c_X8_byFeet hV hmo hah hpa hhe
theorem v_X8_byWalker {X : sx_X} {S : St} {V : Vw} {i j k : Int} (hS : cV S = V) (hV : okV V) (hi : 0 ≤ i ∧ i ≤ 5) (hj : 0 ≤ j ∧ j ≤ 5) (hk : -2147483648 ≤ k ∧ k ≤ 2147483647) : Ct X yX8_byWalker cX8_byWalker 4 (some .long) 3 0 0 [.ref 15, vI i, vI j, vI k] (hp S) (sx_is (some (vJ (mBy V i j (V.1 2) k))) (hp S)) := by
  subst hS
  exact c_X8_byWalker hV hi hj hk
set_option maxRecDepth 20000 in
theorem c_X8_prepareSun {X : sx_X} {S : St} (hV : okV (cV S)) : Ct X yX8_prepareSun cX8_prepareSun 4 none 2 0 0 [.ref 15] (hp S) (sx_is none (hp (sA S 16 (paF (cV S) (S.2 16) 32)))) := by
  have b0 : 0 ≤ S.1 2 ∧ S.1 2 ≤ 16 := hV.1
  have b1 : 0 ≤ S.1 4 ∧ S.1 4 ≤ 6 := hV.2.1
  have b2 : 0 ≤ S.1 6 ∧ S.1 6 ≤ 99 := hV.2.2.1
  have b3 : 0 ≤ S.1 7 ∧ S.1 7 ≤ 1 := hV.2.2.2.1
  have b4 : 0 ≤ S.1 8 ∧ S.1 8 ≤ 16 := hV.2.2.2.2.1
  have b5 : 0 ≤ S.1 9 ∧ S.1 9 ≤ 999 := hV.2.2.2.2.2.1
  have b6 : 0 ≤ S.1 10 ∧ S.1 10 ≤ 1999 := hV.2.2.2.2.2.2.1
  have b7 : 0 ≤ S.1 11 ∧ S.1 11 ≤ 16 := hV.2.2.2.2.2.2.2.1
  have bK : ∀ q, 0 ≤ gK S q ∧ gK S q ≤ 3 := hV.2.2.2.2.2.2.2.2.1
  have bL : ∀ q, 0 ≤ gL S q ∧ gL S q ≤ 9 := hV.2.2.2.2.2.2.2.2.2.1
  have bW : ∀ q, 0 ≤ pW S q ∧ pW S q ≤ 9 := hV.2.2.2.2.2.2.2.2.2.2.1
  have bS : ∀ q, 0 ≤ pS S q ∧ pS S q ≤ 9 := hV.2.2.2.2.2.2.2.2.2.2.2.1
  have bH : ∀ q, 0 ≤ pH S q ∧ pH S q ≤ 1 := hV.2.2.2.2.2.2.2.2.2.2.2.2
  have key : ∀ (n i : Nat), i + n = 32 → Rn X RX8 false cX8_prepareSun 4 2 0 0 none 2 [some (.ref 15), some (vI (i : Int)), none, none] [] (hp (sA S 16 (paF (cV S) (S.2 16) i))) 0 0 (sx_is none (hp (sA S 16 (paF (cV S) (S.2 16) 32)))) := by
    intro n
    induction n with
    | zero =>
      intro i hi
      rw [Nat.add_zero] at hi
      subst hi
      refine sx_iload_n (p1 := 3) dX8_prepareSun_2 rfl rfl ?_
      refine sx_aload_n (p1 := 4) dX8_prepareSun_3 rfl rfl ?_
      refine sx_get (p1 := 7) dX8_prepareSun_4 rfl fl_X8_9 (hp_c15 _) rfl ?_
      refine sx_alen (p1 := 8) dX8_prepareSun_7 rfl (hp_c16 _) (fun _ => rfl) ?_
      refine sx_icmp_ge (p1 := 11) (tg := 74) dX8_prepareSun_8 rfl rfl (by omega) (by omega) (fun q8 => ?_) (fun q8 => absurd q8 (by decide))
      exact sx_vret dX8_prepareSun_74 rfl (sx_rv (by rfl))
    | succ n ih =>
      intro i hi
      have inner : ∀ (n f : Nat), f + n = max (S.1 2).toNat (i / 2 + 1) → i / 2 + 1 ≤ f → Rn X RX8 false cX8_prepareSun 4 2 0 0 none 19 [some (.ref 15), some (vI (i : Int)), some (vI (sumN f (mAboveT (cV S) ((i / 2 : Nat) : Int) ((i % 2 : Nat) : Int)))), some (vI (f : Int))] [] (hp (sA S 16 (paF (cV S) (S.2 16) i))) 0 0 (sx_is none (hp (sA S 16 (paF (cV S) (S.2 16) 32)))) := by
        intro n
        induction n with
        | zero =>
          intro f hf hf2
          rw [Nat.add_zero] at hf
          refine sx_iload_n (p1 := 20) dX8_prepareSun_19 rfl rfl ?_
          refine sx_aload_n (p1 := 21) dX8_prepareSun_20 rfl rfl ?_
          refine sx_get (p1 := 24) dX8_prepareSun_21 rfl fl_X8_15 (hp_c15 _) rfl ?_
          refine sx_get (v := vI (S.1 2)) (p1 := 27) dX8_prepareSun_24 rfl fl_X8_33 (hp_c7 _) rfl ?_
          refine sx_icmp_ge (p1 := 30) (tg := 61) dX8_prepareSun_27 rfl rfl (by omega) (by omega) (fun q27 => ?_) (fun q27 => absurd q27 (by omega))
          refine sx_aload_n (p1 := 62) dX8_prepareSun_61 rfl rfl ?_
          refine sx_get (p1 := 65) dX8_prepareSun_62 rfl fl_X8_9 (hp_c15 _) rfl ?_
          refine sx_iload_n (p1 := 66) dX8_prepareSun_65 rfl rfl ?_
          refine sx_iload_n (p1 := 67) dX8_prepareSun_66 rfl rfl ?_
          refine sx_iast (p1 := 68) dX8_prepareSun_67 rfl (hp_c16 _) (by omega) (by decide) (hp_a16 _ (i) _) ?_
          rw [sa_sA, paF_s _ _ _ (mAbove_ext S _ _ (N := f) (by omega))]
          refine sx_iinc (lo1 := [some _, some _, some _, some _]) (p1 := 71) dX8_prepareSun_68 rfl (by decide) rfl rfl ?_
          refine sx_goto (p1 := 2) (tg := 2) dX8_prepareSun_71 rfl rfl ?_
          refine sx_drop [true, true, false, false] (lo1 := [some _, some _, none, none]) rfl ?_
          exact ih (i + 1) (by omega)
        | succ n ih2 =>
          intro f hf hf2
          have hh := mHit_b hV (fr := (f : Int)) (to := ((i / 2 : Nat) : Int)) (hel := ((i % 2 : Nat) : Int))
          refine sx_iload_n (p1 := 20) dX8_prepareSun_19 rfl rfl ?_
          refine sx_aload_n (p1 := 21) dX8_prepareSun_20 rfl rfl ?_
          refine sx_get (p1 := 24) dX8_prepareSun_21 rfl fl_X8_15 (hp_c15 _) rfl ?_
          refine sx_get (v := vI (S.1 2)) (p1 := 27) dX8_prepareSun_24 rfl fl_X8_33 (hp_c7 _) rfl ?_
          refine sx_icmp_ge (p1 := 30) (tg := 61) dX8_prepareSun_27 rfl rfl (by omega) (by omega) (fun q27 => ?_) (fun q27 => ?_)
          · exact absurd q27 (by show ¬ S.1 2 ≤ (f : Int); omega)
          · have q28 : (f : Int) < S.1 2 := q27
            refine sx_aload_n (p1 := 31) dX8_prepareSun_30 rfl rfl ?_
            refine sx_get (p1 := 34) dX8_prepareSun_31 rfl fl_X8_15 (hp_c15 _) rfl ?_
            refine sx_iload_n (p1 := 35) dX8_prepareSun_34 rfl rfl ?_
            refine sx_callVr (p1 := 38) (As := [_]) (k1 := 0) (n1 := 0) dX8_prepareSun_35 rfl rfl (v_X0_isLoose (V := cV S) rfl hV (by omega)) mt_X0_isLoose ml_X8_84 (hp_c7 _) rfl rfl (Nat.le_of_ble_eq_true rfl) rfl (Nat.le_of_ble_eq_true rfl) rfl rfl (Nat.le_of_ble_eq_true rfl) (Nat.le_of_ble_eq_true rfl) ?_
            refine sx_if_eq (p1 := 41) (tg := 55) dX8_prepareSun_38 rfl rfl (by split <;> omega) (fun q38 => ?_) (fun q38 => ?_)
            · rw [← (show sumN (f + 1) (mAboveT (cV S) ((i / 2 : Nat) : Int) ((i % 2 : Nat) : Int)) = sumN f (mAboveT (cV S) ((i / 2 : Nat) : Int) ((i % 2 : Nat) : Int)) from sumN_0 (if_neg (by intro h9; rw [if_pos h9] at q38; omega)))]
              refine sx_iinc (lo1 := [some _, some _, some _, some _]) (p1 := 58) dX8_prepareSun_55 rfl (by decide) rfl rfl ?_
              refine sx_goto (p1 := 19) (tg := 19) dX8_prepareSun_58 rfl rfl ?_
              first | exact ih2 (f + 1) (by omega) (by omega) | (have h9 := ih2 (f + 1) (by omega) (by omega); rw [sumN, e2] at h9; exact h9)
            · have e2 : (mAboveT (cV S) ((i / 2 : Nat) : Int) ((i % 2 : Nat) : Int)) f = mHit (cV S) f ((i / 2 : Nat) : Int) ((i % 2 : Nat) : Int) := if_pos (Decidable.byContradiction (fun h9 => q38 (if_neg h9)))
              refine sx_iload_n (p1 := 42) dX8_prepareSun_41 rfl rfl ?_
              refine sx_aload_n (p1 := 43) dX8_prepareSun_42 rfl rfl ?_
              refine sx_iload_n (p1 := 44) dX8_prepareSun_43 rfl rfl ?_
              refine sx_iload_n (p1 := 45) dX8_prepareSun_44 rfl rfl ?_
              refine sx_iconst (p1 := 46) dX8_prepareSun_45 rfl ?_
              refine sx_idiv (p1 := 47) dX8_prepareSun_46 rfl (by omega) (by omega) ?_
              refine sx_iload_n (p1 := 48) dX8_prepareSun_47 rfl rfl ?_
              refine sx_iconst (p1 := 49) dX8_prepareSun_48 rfl ?_
              refine sx_irem (p1 := 50) dX8_prepareSun_49 rfl (by omega) (by omega) ?_
              refine sx_callVr (p1 := 53) (As := [_, _, _]) (k1 := 0) (n1 := 0) dX8_prepareSun_50 rfl rfl (v_X8_struck (V := cV S) rfl hV (by omega) (by omega) (by omega)) mt_X8_struck ml_X8_100 (hp_c15 _) rfl rfl (Nat.le_of_ble_eq_true rfl) rfl (Nat.le_of_ble_eq_true rfl) rfl rfl (Nat.le_of_ble_eq_true rfl) (Nat.le_of_ble_eq_true rfl) ?_
              refine sx_iadd (p1 := 54) dX8_prepareSun_53 rfl ?_
              refine sx_istore_n (lo1 := [some _, some _, some _, some _]) (p1 := 55) dX8_prepareSun_54 rfl (by decide) rfl ?_
              refine sx_iinc (lo1 := [some _, some _, some _, some _]) (p1 := 58) dX8_prepareSun_55 rfl (by decide) rfl rfl ?_
              refine sx_goto (p1 := 19) (tg := 19) dX8_prepareSun_58 rfl rfl ?_
              first | exact ih2 (f + 1) (by omega) (by omega) | (have h9 := ih2 (f + 1) (by omega) (by omega); rw [sumN, e2] at h9; exact h9)
      refine sx_iload_n (p1 := 3) dX8_prepareSun_2 rfl rfl ?_
      refine sx_aload_n (p1 := 4) dX8_prepareSun_3 rfl rfl ?_
      refine sx_get (p1 := 7) dX8_prepareSun_4 rfl fl_X8_9 (hp_c15 _) rfl ?_
      refine sx_alen (p1 := 8) dX8_prepareSun_7 rfl (hp_c16 _) (fun _ => rfl) ?_
      refine sx_icmp_ge (p1 := 11) (tg := 74) dX8_prepareSun_8 rfl rfl (by omega) (by omega) (fun q8 => absurd q8 (by (show ¬ (32 : Int) ≤ (i : Int); omega))) (fun q8 => ?_)
      refine sx_iconst (p1 := 12) dX8_prepareSun_11 rfl ?_
      refine sx_istore_n (lo1 := [some _, some _, some _, none]) (p1 := 13) dX8_prepareSun_12 rfl (by decide) rfl ?_
      refine sx_iload_n (p1 := 14) dX8_prepareSun_13 rfl rfl ?_
      refine sx_iconst (p1 := 15) dX8_prepareSun_14 rfl ?_
      refine sx_idiv (p1 := 16) dX8_prepareSun_15 rfl (by omega) (by omega) ?_
      refine sx_iconst (p1 := 17) dX8_prepareSun_16 rfl ?_
      refine sx_iadd (p1 := 18) dX8_prepareSun_17 rfl ?_
      refine sx_istore_n (lo1 := [some _, some _, some _, some _]) (p1 := 19) dX8_prepareSun_18 rfl (by decide) rfl ?_
      have h9 := inner (max (S.1 2).toNat (i / 2 + 1) - (i / 2 + 1)) (i / 2 + 1) (by omega) (Nat.le_refl _)
      rw [sumN_z (i / 2 + 1) (fun a ha => by
        unfold mAboveT
        split
        · exact mHit_0 (Or.inl (by omega))
        · rfl)] at h9
      exact h9
  refine Ct.of false [some (.ref 15), none, none, none] (plainFor_of_name (by decide)) (fun h => by cases h) (Nat.le_of_ble_eq_true rfl) (fun _ => rfl) sx_isl ?_
  refine sx_iconst (p1 := 1) dX8_prepareSun_0 rfl ?_
  refine sx_istore_n (lo1 := [some _, some _, none, none]) (p1 := 2) dX8_prepareSun_1 rfl (by decide) rfl ?_
  have h9 := key 32 0 rfl
  rw [paF_0, sA_self] at h9
  exact h9
