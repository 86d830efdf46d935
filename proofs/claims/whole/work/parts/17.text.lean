theorem and255_b (x : Int) : 0 ≤ sx_and x 255 ∧ sx_and x 255 ≤ 255 := by
  have h := pk_and (Int32.ofInt x) (m := Int32.ofInt 255) 8 (by decide)
  have h2 : sx_and x 255 = (nI ((Int32.ofInt x).toBitVec.toNat % 2 ^ 8)).toInt := congrArg Int32.toInt h
  rw [h2, nI_toInt (by omega)]
  omega
theorem b8_and : ∀ b : Nat, b < 256 → sx_and (sx_b8 (sx_b8 b)) 255 = (b : Int) := by decide +kernel
theorem b8_r (x : Int) : -128 ≤ sx_b8 x ∧ sx_b8 x ≤ 127 := by
  have h : sx_b8 x = (Int32.ofInt x).toInt8.toInt := Int8.toInt_toInt32 _
  have h1 := (Int32.ofInt x).toInt8.toInt_lt
  have h2 := (Int32.ofInt x).toInt8.le_toInt
  omega
theorem b16_r (x : Int) : -32768 ≤ sx_b16 x ∧ sx_b16 x ≤ 32767 := by
  have h : sx_b16 x = (Int32.ofInt x).toInt16.toInt := Int16.toInt_toInt32 _
  have h1 := (Int32.ofInt x).toInt16.toInt_lt
  have h2 := (Int32.ofInt x).toInt16.le_toInt
  omega
theorem txM_o (t : Nat) : txM t = 32 ∨ txM t = 23 := by
  unfold txM
  split <;> simp
def txB (S : St) (t : Nat) (i : Int) : Int := if 0 ≤ i ∧ i < S.1 t then sx_and (S.2 (4 + 2 * t) i.toNat) 255 else -1
def txF (S : St) (t : Nat) (i : Int) : Int := if 48 ≤ txB S t i ∧ txB S t i ≤ 57 then txB S t i - 48 else -1
theorem txB_b (S : St) (t : Nat) (i : Int) : -1 ≤ txB S t i ∧ txB S t i ≤ 255 := by
  have := and255_b (S.2 (4 + 2 * t) i.toNat)
  unfold txB
  split <;> omega
theorem txF_b (S : St) (t : Nat) (i : Int) : -1 ≤ txF S t i ∧ txF S t i ≤ 9 := by
  unfold txF
  split <;> omega
def flF (f : Nat → Int) (i j : Nat) : Int := if j < i then 0 else f j
theorem flF_0 (f : Nat → Int) : flF f 0 = f := by
  funext j
  unfold flF
  rw [if_neg (by omega)]
theorem flF_s (f : Nat → Int) (i : Nat) : sx_u (flF f i) i 0 = flF f (i + 1) := by
  funext j
  unfold sx_u flF
  by_cases h : j = i
  · subst h
    rw [if_pos rfl, if_pos (by omega)]
  · rw [if_neg h]
    by_cases h2 : j < i
    · rw [if_pos h2, if_pos (by omega)]
    · rw [if_neg h2, if_neg (by omega)]
set_option maxRecDepth 20000 in
theorem c_X10_length {X : sx_X} {S : St} {t : Nat} (ht : t < 2) (hl : 0 ≤ S.1 t ∧ S.1 t ≤ txM t)  : Ct X yX10_length cX10_length 1 (some .int) 0 0 0 [.ref (3 + 2 * t)] (hp S) (sx_is (some (vI (S.1 t))) (hp (S))) := by
  have tm := txM_o t
  refine Ct.of false [some (.ref (3 + 2 * t))] (plainFor_of_name (by decide)) (fun h => by cases h) (Nat.le_of_ble_eq_true rfl) (fun _ => rfl) sx_isl ?_
  refine sx_aload_n (p1 := 1) dX10_length_0 rfl rfl ?_
  refine sx_get (p1 := 4) dX10_length_1 rfl fl_X10_25 (hp_tx ht _) rfl ?_
  exact sx_iret dX10_length_4 rfl (sx_ri (by first | rfl | omega) (by rfl))
set_option maxRecDepth 20000 in
theorem c_X10_isFull {X : sx_X} {S : St} {t : Nat} (ht : t < 2) (hl : 0 ≤ S.1 t ∧ S.1 t ≤ txM t)  : Ct X yX10_isFull cX10_isFull 1 (some .boolean) 0 0 0 [.ref (3 + 2 * t)] (hp S) (sx_is (some (vI (if txM t ≤ S.1 t then 1 else 0))) (hp (S))) := by
  have tm := txM_o t
  refine Ct.of false [some (.ref (3 + 2 * t))] (plainFor_of_name (by decide)) (fun h => by cases h) (Nat.le_of_ble_eq_true rfl) (fun _ => rfl) sx_isl ?_
  refine sx_aload_n (p1 := 1) dX10_isFull_0 rfl rfl ?_
  refine sx_get (p1 := 4) dX10_isFull_1 rfl fl_X10_25 (hp_tx ht _) rfl ?_
  refine sx_aload_n (p1 := 5) dX10_isFull_4 rfl rfl ?_
  refine sx_get (p1 := 8) dX10_isFull_5 rfl fl_X10_21 (hp_tx ht _) rfl ?_
  refine sx_icmp_lt (p1 := 11) (tg := 15) dX10_isFull_8 rfl rfl (by omega) (by omega) (fun q8 => ?_) (fun q8 => ?_)
  · refine sx_iconst (p1 := 16) dX10_isFull_15 rfl ?_
    exact sx_zret dX10_isFull_16 rfl (by omega) (sx_ri (by simp; omega) (by rfl))
  · refine sx_iconst (p1 := 12) dX10_isFull_11 rfl ?_
    refine sx_goto (p1 := 16) (tg := 16) dX10_isFull_12 rfl rfl ?_
    exact sx_zret dX10_isFull_16 rfl (by omega) (sx_ri (by simp; omega) (by rfl))
set_option maxRecDepth 20000 in
theorem c_X10_append {X : sx_X} {S : St} {b : Int} {t : Nat} (ht : t < 2) (hl : 0 ≤ S.1 t ∧ S.1 t ≤ txM t) (hf : S.1 t < txM t) : Ct X yX10_append cX10_append 2 none 0 0 0 [.ref (3 + 2 * t), vI b] (hp S) (sx_is none (hp (si (sa S (4 + 2 * t) (S.1 t).toNat (sx_b8 (sx_b8 b))) t (S.1 t + 1)))) := by
  have tm := txM_o t
  refine Ct.of false [some (.ref (3 + 2 * t)), some (vI b)] (plainFor_of_name (by decide)) (fun h => by cases h) (Nat.le_of_ble_eq_true rfl) (fun _ => rfl) sx_isl ?_
  refine sx_aload_n (p1 := 1) dX10_append_0 rfl rfl ?_
  refine sx_get (p1 := 4) dX10_append_1 rfl fl_X10_25 (hp_tx ht _) rfl ?_
  refine sx_if_lt (p1 := 7) (tg := 51) dX10_append_4 rfl rfl (by omega) (fun q4 => absurd q4 (by omega)) (fun q4 => ?_)
  refine sx_aload_n (p1 := 8) dX10_append_7 rfl rfl ?_
  refine sx_get (p1 := 11) dX10_append_8 rfl fl_X10_25 (hp_tx ht _) rfl ?_
  refine sx_aload_n (p1 := 12) dX10_append_11 rfl rfl ?_
  refine sx_get (p1 := 15) dX10_append_12 rfl fl_X10_21 (hp_tx ht _) rfl ?_
  refine sx_icmp_ge (p1 := 18) (tg := 51) dX10_append_15 rfl rfl (by omega) (by omega) (fun q15 => absurd q15 (by omega)) (fun q15 => ?_)
  refine sx_aload_n (p1 := 19) dX10_append_18 rfl rfl ?_
  refine sx_get (p1 := 22) dX10_append_19 rfl fl_X10_25 (hp_tx ht _) rfl ?_
  refine sx_aload_n (p1 := 23) dX10_append_22 rfl rfl ?_
  refine sx_get (p1 := 26) dX10_append_23 rfl fl_X10_9 (hp_tx ht _) rfl ?_
  refine sx_alen (p1 := 27) dX10_append_26 rfl (hp_tb ht _) (fun _ => rfl) ?_
  refine sx_icmp_ge (p1 := 30) (tg := 51) dX10_append_27 rfl rfl (by omega) (by omega) (fun q27 => absurd q27 (by omega)) (fun q27 => ?_)
  refine sx_aload_n (p1 := 31) dX10_append_30 rfl rfl ?_
  refine sx_get (p1 := 34) dX10_append_31 rfl fl_X10_9 (hp_tx ht _) rfl ?_
  refine sx_aload_n (p1 := 35) dX10_append_34 rfl rfl ?_
  refine sx_get (p1 := 38) dX10_append_35 rfl fl_X10_25 (hp_tx ht _) rfl ?_
  refine sx_iload_n (p1 := 39) dX10_append_38 rfl rfl ?_
  refine sx_i2b (p1 := 40) dX10_append_39 rfl ?_
  refine sx_bast (p1 := 41) dX10_append_40 rfl (hp_tb ht _) (by omega) (by decide) (hp_ta ht _ _ _) ?_
  refine sx_aload_n (p1 := 42) dX10_append_41 rfl rfl ?_
  refine sx_dup (p1 := 43) dX10_append_42 rfl rfl ?_
  refine sx_get (p1 := 46) dX10_append_43 rfl fl_X10_25 (hp_tx ht _) rfl ?_
  refine sx_iconst (p1 := 47) dX10_append_46 rfl ?_
  refine sx_iadd (p1 := 48) dX10_append_47 rfl ?_
  refine sx_put (p1 := 51) dX10_append_48 rfl fl_X10_25 (hp_tx ht _) (Nat.le_of_ble_eq_true rfl) (fun _ => rfl) (fun _ => rfl) (hp_tl ht _ _) ?_
  exact sx_vret dX10_append_51 rfl (sx_rv (by rfl))
set_option maxRecDepth 20000 in
theorem c_X10_shorten {X : sx_X} {S : St} {b : Int} {t : Nat} (ht : t < 2) (hl : 0 ≤ S.1 t ∧ S.1 t ≤ txM t) (hb : 0 ≤ b ∧ b ≤ 100) : Ct X yX10_shorten cX10_shorten 2 none 1 0 0 [.ref (3 + 2 * t), vI b] (hp S) (sx_is none (hp (si S t (max 0 (S.1 t - b))))) := by
  have tm := txM_o t
  refine Ct.of false [some (.ref (3 + 2 * t)), some (vI b)] (plainFor_of_name (by decide)) (fun h => by cases h) (Nat.le_of_ble_eq_true rfl) (fun _ => rfl) sx_isl ?_
  refine sx_aload_n (p1 := 1) dX10_shorten_0 rfl rfl ?_
  refine sx_iconst (p1 := 2) dX10_shorten_1 rfl ?_
  refine sx_aload_n (p1 := 3) dX10_shorten_2 rfl rfl ?_
  refine sx_get (p1 := 6) dX10_shorten_3 rfl fl_X10_25 (hp_tx ht _) rfl ?_
  refine sx_iload_n (p1 := 7) dX10_shorten_6 rfl rfl ?_
  refine sx_isub (p1 := 8) dX10_shorten_7 rfl ?_
  refine sx_callSr (p1 := 11) (As := [_, _]) (k1 := 0) (n1 := 0) dX10_shorten_8 rfl rfl (c_J9_max_7cf53 (by omega) (by omega)) mt_J9_max_7cf53 ml_X10_28 (Nat.le_of_ble_eq_true rfl) rfl (Nat.le_of_ble_eq_true rfl) rfl rfl (Nat.le_of_ble_eq_true rfl) (Nat.le_of_ble_eq_true rfl) ?_
  refine sx_put (p1 := 14) dX10_shorten_11 rfl fl_X10_25 (hp_tx ht _) (Nat.le_of_ble_eq_true rfl) (fun _ => rfl) (fun _ => rfl) (hp_tl ht _ _) ?_
  exact sx_vret dX10_shorten_14 rfl (sx_rv (by rfl))
set_option maxRecDepth 20000 in
theorem c_X10_byteAt {X : sx_X} {S : St} {i : Int} {t : Nat} (ht : t < 2) (hl : 0 ≤ S.1 t ∧ S.1 t ≤ txM t) (hi : -2147483648 ≤ i ∧ i ≤ 2147483647) : Ct X yX10_byteAt cX10_byteAt 2 (some .int) 0 0 0 [.ref (3 + 2 * t), vI i] (hp S) (sx_is (some (vI (txB S t i))) (hp (S))) := by
  have tm := txM_o t
  refine Ct.of false [some (.ref (3 + 2 * t)), some (vI i)] (plainFor_of_name (by decide)) (fun h => by cases h) (Nat.le_of_ble_eq_true rfl) (fun _ => rfl) sx_isl ?_
  refine sx_iload_n (p1 := 1) dX10_byteAt_0 rfl rfl ?_
  refine sx_if_lt (p1 := 4) (tg := 34) dX10_byteAt_1 rfl rfl (by omega) (fun q1 => ?_) (fun q1 => ?_)
  · refine sx_iconst (p1 := 35) dX10_byteAt_34 rfl ?_
    exact sx_iret dX10_byteAt_35 rfl (sx_ri (by unfold txB; split <;> omega) (by rfl))
  · refine sx_iload_n (p1 := 5) dX10_byteAt_4 rfl rfl ?_
    refine sx_aload_n (p1 := 6) dX10_byteAt_5 rfl rfl ?_
    refine sx_get (p1 := 9) dX10_byteAt_6 rfl fl_X10_25 (hp_tx ht _) rfl ?_
    refine sx_icmp_ge (p1 := 12) (tg := 34) dX10_byteAt_9 rfl rfl (by omega) (by omega) (fun q9 => ?_) (fun q9 => ?_)
    · refine sx_iconst (p1 := 35) dX10_byteAt_34 rfl ?_
      exact sx_iret dX10_byteAt_35 rfl (sx_ri (by unfold txB; split <;> omega) (by rfl))
    · refine sx_iload_n (p1 := 13) dX10_byteAt_12 rfl rfl ?_
      refine sx_aload_n (p1 := 14) dX10_byteAt_13 rfl rfl ?_
      refine sx_get (p1 := 17) dX10_byteAt_14 rfl fl_X10_9 (hp_tx ht _) rfl ?_
      refine sx_alen (p1 := 18) dX10_byteAt_17 rfl (hp_tb ht _) (fun _ => rfl) ?_
      refine sx_icmp_ge (p1 := 21) (tg := 34) dX10_byteAt_18 rfl rfl (by omega) (by omega) (fun q18 => ?_) (fun q18 => ?_)
      · refine sx_iconst (p1 := 35) dX10_byteAt_34 rfl ?_
        exact sx_iret dX10_byteAt_35 rfl (sx_ri (by unfold txB; split <;> omega) (by rfl))
      · refine sx_aload_n (p1 := 22) dX10_byteAt_21 rfl rfl ?_
        refine sx_get (p1 := 25) dX10_byteAt_22 rfl fl_X10_9 (hp_tx ht _) rfl ?_
        refine sx_iload_n (p1 := 26) dX10_byteAt_25 rfl rfl ?_
        refine sx_bald (p1 := 27) dX10_byteAt_26 rfl (hp_tb ht _) (by omega) (by decide) ?_
        refine sx_sipush (p1 := 30) dX10_byteAt_27 rfl (by decide) ?_
        refine sx_iand (p1 := 31) dX10_byteAt_30 rfl ?_
        refine sx_goto (p1 := 35) (tg := 35) dX10_byteAt_31 rfl rfl ?_
        exact sx_iret dX10_byteAt_35 rfl (sx_ri (by unfold txB; split <;> omega) (by rfl))
set_option maxRecDepth 20000 in
theorem c_X10_figureAt {X : sx_X} {S : St} {i : Int} {t : Nat} (ht : t < 2) (hl : 0 ≤ S.1 t ∧ S.1 t ≤ txM t) (hi : -2147483648 ≤ i ∧ i ≤ 2147483647) : Ct X yX10_figureAt cX10_figureAt 3 (some .int) 1 0 0 [.ref (3 + 2 * t), vI i] (hp S) (sx_is (some (vI (txF S t i))) (hp (S))) := by
  have tm := txM_o t
  have h1 := txB_b S t i
  refine Ct.of false [some (.ref (3 + 2 * t)), some (vI i), none] (plainFor_of_name (by decide)) (fun h => by cases h) (Nat.le_of_ble_eq_true rfl) (fun _ => rfl) sx_isl ?_
  refine sx_aload_n (p1 := 1) dX10_figureAt_0 rfl rfl ?_
  refine sx_iload_n (p1 := 2) dX10_figureAt_1 rfl rfl ?_
  refine sx_callVr (p1 := 5) (As := [_]) (k1 := 0) (n1 := 0) dX10_figureAt_2 rfl rfl (c_X10_byteAt ht hl hi) mt_X10_byteAt ml_X10_31 (hp_tx ht _) rfl rfl (Nat.le_of_ble_eq_true rfl) rfl (Nat.le_of_ble_eq_true rfl) rfl rfl (Nat.le_of_ble_eq_true rfl) (Nat.le_of_ble_eq_true rfl) ?_
  refine sx_istore_n (lo1 := [some _, some _, some _]) (p1 := 6) dX10_figureAt_5 rfl (by decide) rfl ?_
  refine sx_iload_n (p1 := 7) dX10_figureAt_6 rfl rfl ?_
  refine sx_bipush (p1 := 9) dX10_figureAt_7 rfl (by decide) ?_
  refine sx_icmp_lt (p1 := 12) (tg := 25) dX10_figureAt_9 rfl rfl (by omega) (by omega) (fun q9 => ?_) (fun q9 => ?_)
  · refine sx_iconst (p1 := 26) dX10_figureAt_25 rfl ?_
    exact sx_iret dX10_figureAt_26 rfl (sx_ri (by unfold txF; split <;> omega) (by rfl))
  · refine sx_iload_n (p1 := 13) dX10_figureAt_12 rfl rfl ?_
    refine sx_bipush (p1 := 15) dX10_figureAt_13 rfl (by decide) ?_
    refine sx_icmp_gt (p1 := 18) (tg := 25) dX10_figureAt_15 rfl rfl (by omega) (by omega) (fun q15 => ?_) (fun q15 => ?_)
    · refine sx_iconst (p1 := 26) dX10_figureAt_25 rfl ?_
      exact sx_iret dX10_figureAt_26 rfl (sx_ri (by unfold txF; split <;> omega) (by rfl))
    · refine sx_iload_n (p1 := 19) dX10_figureAt_18 rfl rfl ?_
      refine sx_bipush (p1 := 21) dX10_figureAt_19 rfl (by decide) ?_
      refine sx_isub (p1 := 22) dX10_figureAt_21 rfl ?_
      refine sx_goto (p1 := 26) (tg := 26) dX10_figureAt_22 rfl rfl ?_
      exact sx_iret dX10_figureAt_26 rfl (sx_ri (by unfold txF; split <;> omega) (by rfl))
set_option maxRecDepth 20000 in
theorem c_J7_fill_53178 {X : sx_X} {S : St} {s : Nat} (hs : s < 4) : Ct X yJ7_fill_53178 cJ7_fill_53178 4 none 0 0 0 [.ref (32 + 2 * s), vI 0] (hp S) (sx_is none (hp (sA S (32 + 2 * s) (flF (S.2 (32 + 2 * s)) 60)))) := by
  have key : ∀ (n i : Nat), i + n = 60 → Rn X RJ7 false cJ7_fill_53178 4 0 0 0 none 5 [some (.ref (32 + 2 * s)), some (vI 0), some (vI (i : Int)), some (vI 60)] [] (hp (sA S (32 + 2 * s) (flF (S.2 (32 + 2 * s)) i))) 0 0 (sx_is none (hp (sA S (32 + 2 * s) (flF (S.2 (32 + 2 * s)) 60)))) := by
    intro n
    induction n with
    | zero =>
      intro i hi 
      rw [Nat.add_zero] at hi
      subst hi
      refine sx_iload_n (p1 := 6) dJ7_fill_53178_5 rfl rfl ?_
      refine sx_iload_n (p1 := 7) dJ7_fill_53178_6 rfl rfl ?_
      refine sx_icmp_ge (p1 := 10) (tg := 20) dJ7_fill_53178_7 rfl rfl (by omega) (by omega) (fun q7 => ?_) (fun q7 => absurd q7 (by omega))
      exact sx_vret dJ7_fill_53178_20 rfl (sx_rv (by rfl))
    | succ n ih =>
      intro i hi 
      refine sx_iload_n (p1 := 6) dJ7_fill_53178_5 rfl rfl ?_
      refine sx_iload_n (p1 := 7) dJ7_fill_53178_6 rfl rfl ?_
      refine sx_icmp_ge (p1 := 10) (tg := 20) dJ7_fill_53178_7 rfl rfl (by omega) (by omega) (fun q7 => absurd q7 (by omega)) (fun q7 => ?_)
      refine sx_aload_n (p1 := 11) dJ7_fill_53178_10 rfl rfl ?_
      refine sx_iload_n (p1 := 12) dJ7_fill_53178_11 rfl rfl ?_
      refine sx_iload_n (p1 := 13) dJ7_fill_53178_12 rfl rfl ?_
      refine sx_iast (p1 := 14) dJ7_fill_53178_13 rfl (hp_sb hs _) (by omega) (by decide) (hp_sa hs _ (i) _) ?_
      refine sx_iinc (lo1 := [some _, some _, some _, some _]) (p1 := 17) dJ7_fill_53178_14 rfl (by decide) rfl rfl ?_
      refine sx_goto (p1 := 5) (tg := 5) dJ7_fill_53178_17 rfl rfl ?_
      have h9 := ih (i + 1) (by omega)
      rw [← flF_s, ← sa_sA] at h9
      exact h9
  refine Ct.of false [some (.ref (32 + 2 * s)), some (vI 0), none, none] (by decide +kernel) (fun h => by cases h) (Nat.le_of_ble_eq_true rfl) (fun _ => rfl) sx_isl ?_
  refine sx_iconst (p1 := 1) dJ7_fill_53178_0 rfl ?_
  refine sx_istore_n (lo1 := [some _, some _, some _, none]) (p1 := 2) dJ7_fill_53178_1 rfl (by decide) rfl ?_
  refine sx_aload_n (p1 := 3) dJ7_fill_53178_2 rfl rfl ?_
  refine sx_alen (p1 := 4) dJ7_fill_53178_3 rfl (hp_sb hs _) (fun _ => rfl) ?_
  refine sx_istore_n (lo1 := [some _, some _, some _, some _]) (p1 := 5) dJ7_fill_53178_4 rfl (by decide) rfl ?_
  have h9 := key 60 0 rfl
  rw [flF_0, sA_self] at h9
  exact h9
set_option maxRecDepth 20000 in
theorem c_X7_isForm {X : sx_X} {S : St} {i : Int} (hi : -2147483648 ≤ i ∧ i ≤ 2147483647) : Ct X yX7_isForm cX7_isForm 1 (some .boolean) 0 0 0 [vI i] (hp S) (sx_is (some (vI (if 0 ≤ i ∧ i ≤ 2 then 1 else 0))) (hp (S))) := by
  refine Ct.of false [some (vI i)] (plainFor_of_name (by decide)) (fun h => by cases h) (Nat.le_of_ble_eq_true rfl) (fun _ => rfl) sx_isl ?_
  refine sx_iload_n (p1 := 1) dX7_isForm_0 rfl rfl ?_
  refine sx_if_lt (p1 := 4) (tg := 13) dX7_isForm_1 rfl rfl (by omega) (fun q1 => ?_) (fun q1 => ?_)
  · refine sx_iconst (p1 := 14) dX7_isForm_13 rfl ?_
    exact sx_zret dX7_isForm_14 rfl (by omega) (sx_ri (by simp; omega) (by rfl))
  · refine sx_iload_n (p1 := 5) dX7_isForm_4 rfl rfl ?_
    refine sx_iconst (p1 := 6) dX7_isForm_5 rfl ?_
    refine sx_icmp_gt (p1 := 9) (tg := 13) dX7_isForm_6 rfl rfl (by omega) (by omega) (fun q6 => ?_) (fun q6 => ?_)
    · refine sx_iconst (p1 := 14) dX7_isForm_13 rfl ?_
      exact sx_zret dX7_isForm_14 rfl (by omega) (sx_ri (by simp; omega) (by rfl))
    · refine sx_iconst (p1 := 10) dX7_isForm_9 rfl ?_
      refine sx_goto (p1 := 14) (tg := 14) dX7_isForm_10 rfl rfl ?_
      exact sx_zret dX7_isForm_14 rfl (by omega) (sx_ri (by simp; omega) (by rfl))
set_option maxRecDepth 20000 in
theorem c_X7_isLost {X : sx_X} {S : St} {s : Nat} (hs : s < 4) (hz : 0 ≤ S.1 (17 + 2 * s) ∧ S.1 (17 + 2 * s) ≤ 60) (hfo : -1 ≤ S.1 (16 + 2 * s) ∧ S.1 (16 + 2 * s) ≤ 2)  : Ct X yX7_isLost cX7_isLost 1 (some .boolean) 0 0 0 [.ref (31 + 2 * s)] (hp S) (sx_is (some (vI (if S.1 (16 + 2 * s) = -1 then 1 else 0))) (hp (S))) := by
  refine Ct.of false [some (.ref (31 + 2 * s))] (plainFor_of_name (by decide)) (fun h => by cases h) (Nat.le_of_ble_eq_true rfl) (fun _ => rfl) sx_isl ?_
  refine sx_aload_n (p1 := 1) dX7_isLost_0 rfl rfl ?_
  refine sx_get (p1 := 4) dX7_isLost_1 rfl fl_X7_15 (hp_sh hs _) rfl ?_
  refine sx_iconst (p1 := 5) dX7_isLost_4 rfl ?_
  refine sx_icmp_ne (p1 := 8) (tg := 12) dX7_isLost_5 rfl rfl (by omega) (by omega) (fun q5 => ?_) (fun q5 => ?_)
  · refine sx_iconst (p1 := 13) dX7_isLost_12 rfl ?_
    exact sx_zret dX7_isLost_13 rfl (by omega) (sx_ri (by simp; omega) (by rfl))
  · refine sx_iconst (p1 := 9) dX7_isLost_8 rfl ?_
    refine sx_goto (p1 := 13) (tg := 13) dX7_isLost_9 rfl rfl ?_
    exact sx_zret dX7_isLost_13 rfl (by omega) (sx_ri (by simp; omega) (by rfl))
set_option maxRecDepth 20000 in
theorem c_X7_size {X : sx_X} {S : St} {s : Nat} (hs : s < 4) (hz : 0 ≤ S.1 (17 + 2 * s) ∧ S.1 (17 + 2 * s) ≤ 60) (hfo : -1 ≤ S.1 (16 + 2 * s) ∧ S.1 (16 + 2 * s) ≤ 2)  : Ct X yX7_size cX7_size 1 (some .int) 0 0 0 [.ref (31 + 2 * s)] (hp S) (sx_is (some (vI (S.1 (17 + 2 * s)))) (hp (S))) := by
  refine Ct.of false [some (.ref (31 + 2 * s))] (plainFor_of_name (by decide)) (fun h => by cases h) (Nat.le_of_ble_eq_true rfl) (fun _ => rfl) sx_isl ?_
  refine sx_aload_n (p1 := 1) dX7_size_0 rfl rfl ?_
  refine sx_get (p1 := 4) dX7_size_1 rfl fl_X7_19 (hp_sh hs _) rfl ?_
  exact sx_iret dX7_size_4 rfl (sx_ri (by first | rfl | omega) (by rfl))
set_option maxRecDepth 20000 in
theorem c_X7_drop {X : sx_X} {S : St} {s : Nat} (hs : s < 4) (hz : 0 ≤ S.1 (17 + 2 * s) ∧ S.1 (17 + 2 * s) ≤ 60) (hfo : -1 ≤ S.1 (16 + 2 * s) ∧ S.1 (16 + 2 * s) ≤ 2)  : Ct X yX7_drop cX7_drop 1 none 0 0 0 [.ref (31 + 2 * s)] (hp S) (sx_is none (hp (si (si S (16 + 2 * s) (-1)) (17 + 2 * s) 0))) := by
  refine Ct.of false [some (.ref (31 + 2 * s))] (plainFor_of_name (by decide)) (fun h => by cases h) (Nat.le_of_ble_eq_true rfl) (fun _ => rfl) sx_isl ?_
  refine sx_aload_n (p1 := 1) dX7_drop_0 rfl rfl ?_
  refine sx_iconst (p1 := 2) dX7_drop_1 rfl ?_
  refine sx_put (p1 := 5) dX7_drop_2 rfl fl_X7_15 (hp_sh hs _) (Nat.le_of_ble_eq_true rfl) (fun _ => rfl) (fun _ => rfl) (hp_sf hs _ _) ?_
  refine sx_aload_n (p1 := 6) dX7_drop_5 rfl rfl ?_
  refine sx_iconst (p1 := 7) dX7_drop_6 rfl ?_
  refine sx_put (p1 := 10) dX7_drop_7 rfl fl_X7_19 (hp_sh hs _) (Nat.le_of_ble_eq_true rfl) (fun _ => rfl) (fun _ => rfl) (hp_sz hs _ _) ?_
  exact sx_vret dX7_drop_10 rfl (sx_rv (by rfl))
set_option maxRecDepth 20000 in
theorem c_X7_holds {X : sx_X} {S : St} {i j : Int} {s : Nat} (hs : s < 4) (hz : 0 ≤ S.1 (17 + 2 * s) ∧ S.1 (17 + 2 * s) ≤ 60) (hfo : -1 ≤ S.1 (16 + 2 * s) ∧ S.1 (16 + 2 * s) ≤ 2) (hi : -2147483648 ≤ i ∧ i ≤ 2147483647) (hj : -2147483648 ≤ j ∧ j ≤ 2147483647) : Ct X yX7_holds cX7_holds 3 (some .boolean) 0 0 0 [.ref (31 + 2 * s), vI i, vI j] (hp S) (sx_is (some (vI (if 0 ≤ i ∧ 0 ≤ j ∧ j ≤ S.1 (17 + 2 * s) ∧ i ≤ S.1 (17 + 2 * s) - j then 1 else 0))) (hp (S))) := by
  refine Ct.of false [some (.ref (31 + 2 * s)), some (vI i), some (vI j)] (plainFor_of_name (by decide)) (fun h => by cases h) (Nat.le_of_ble_eq_true rfl) (fun _ => rfl) sx_isl ?_
  refine sx_iload_n (p1 := 1) dX7_holds_0 rfl rfl ?_
  refine sx_if_lt (p1 := 4) (tg := 30) dX7_holds_1 rfl rfl (by omega) (fun q1 => ?_) (fun q1 => ?_)
  · refine sx_iconst (p1 := 31) dX7_holds_30 rfl ?_
    exact sx_zret dX7_holds_31 rfl (by omega) (sx_ri (by simp; omega) (by rfl))
  · refine sx_iload_n (p1 := 5) dX7_holds_4 rfl rfl ?_
    refine sx_if_lt (p1 := 8) (tg := 30) dX7_holds_5 rfl rfl (by omega) (fun q5 => ?_) (fun q5 => ?_)
    · refine sx_iconst (p1 := 31) dX7_holds_30 rfl ?_
      exact sx_zret dX7_holds_31 rfl (by omega) (sx_ri (by simp; omega) (by rfl))
    · refine sx_iload_n (p1 := 9) dX7_holds_8 rfl rfl ?_
      refine sx_aload_n (p1 := 10) dX7_holds_9 rfl rfl ?_
      refine sx_get (p1 := 13) dX7_holds_10 rfl fl_X7_19 (hp_sh hs _) rfl ?_
      refine sx_icmp_gt (p1 := 16) (tg := 30) dX7_holds_13 rfl rfl (by omega) (by omega) (fun q13 => ?_) (fun q13 => ?_)
      · refine sx_iconst (p1 := 31) dX7_holds_30 rfl ?_
        exact sx_zret dX7_holds_31 rfl (by omega) (sx_ri (by simp; omega) (by rfl))
      · refine sx_iload_n (p1 := 17) dX7_holds_16 rfl rfl ?_
        refine sx_aload_n (p1 := 18) dX7_holds_17 rfl rfl ?_
        refine sx_get (p1 := 21) dX7_holds_18 rfl fl_X7_19 (hp_sh hs _) rfl ?_
        refine sx_iload_n (p1 := 22) dX7_holds_21 rfl rfl ?_
        refine sx_isub (p1 := 23) dX7_holds_22 rfl ?_
        refine sx_icmp_gt (p1 := 26) (tg := 30) dX7_holds_23 rfl rfl (by omega) (by omega) (fun q23 => ?_) (fun q23 => ?_)
        · refine sx_iconst (p1 := 31) dX7_holds_30 rfl ?_
          exact sx_zret dX7_holds_31 rfl (by omega) (sx_ri (by simp; omega) (by rfl))
        · refine sx_iconst (p1 := 27) dX7_holds_26 rfl ?_
          refine sx_goto (p1 := 31) (tg := 31) dX7_holds_27 rfl rfl ?_
          exact sx_zret dX7_holds_31 rfl (by omega) (sx_ri (by simp; omega) (by rfl))
set_option maxRecDepth 20000 in
theorem c_X7_item {X : sx_X} {S : St} {i : Int} {s : Nat} (hs : s < 4) (hz : 0 ≤ S.1 (17 + 2 * s) ∧ S.1 (17 + 2 * s) ≤ 60) (hfo : -1 ≤ S.1 (16 + 2 * s) ∧ S.1 (16 + 2 * s) ≤ 2) (hi : -2147483648 ≤ i ∧ i ≤ 2147483647) : Ct X yX7_item cX7_item 2 (some .int) 0 0 0 [.ref (31 + 2 * s), vI i] (hp S) (sx_is (some (vI (if 0 ≤ i ∧ i < S.1 (17 + 2 * s) then S.2 (32 + 2 * s) i.toNat else 0))) (hp (S))) := by
  refine Ct.of false [some (.ref (31 + 2 * s)), some (vI i)] (plainFor_of_name (by decide)) (fun h => by cases h) (Nat.le_of_ble_eq_true rfl) (fun _ => rfl) sx_isl ?_
  refine sx_iload_n (p1 := 1) dX7_item_0 rfl rfl ?_
  refine sx_if_lt (p1 := 4) (tg := 30) dX7_item_1 rfl rfl (by omega) (fun q1 => ?_) (fun q1 => ?_)
  · refine sx_iconst (p1 := 31) dX7_item_30 rfl ?_
    exact sx_iret dX7_item_31 rfl (sx_ri (by split <;> omega) (by rfl))
  · refine sx_iload_n (p1 := 5) dX7_item_4 rfl rfl ?_
    refine sx_aload_n (p1 := 6) dX7_item_5 rfl rfl ?_
    refine sx_get (p1 := 9) dX7_item_6 rfl fl_X7_19 (hp_sh hs _) rfl ?_
    refine sx_icmp_ge (p1 := 12) (tg := 30) dX7_item_9 rfl rfl (by omega) (by omega) (fun q9 => ?_) (fun q9 => ?_)
    · refine sx_iconst (p1 := 31) dX7_item_30 rfl ?_
      exact sx_iret dX7_item_31 rfl (sx_ri (by split <;> omega) (by rfl))
    · refine sx_iload_n (p1 := 13) dX7_item_12 rfl rfl ?_
      refine sx_aload_n (p1 := 14) dX7_item_13 rfl rfl ?_
      refine sx_get (p1 := 17) dX7_item_14 rfl fl_X7_9 (hp_sh hs _) rfl ?_
      refine sx_alen (p1 := 18) dX7_item_17 rfl (hp_sb hs _) (fun _ => rfl) ?_
      refine sx_icmp_ge (p1 := 21) (tg := 30) dX7_item_18 rfl rfl (by omega) (by omega) (fun q18 => ?_) (fun q18 => ?_)
      · refine sx_iconst (p1 := 31) dX7_item_30 rfl ?_
        exact sx_iret dX7_item_31 rfl (sx_ri (by split <;> omega) (by rfl))
      · refine sx_aload_n (p1 := 22) dX7_item_21 rfl rfl ?_
        refine sx_get (p1 := 25) dX7_item_22 rfl fl_X7_9 (hp_sh hs _) rfl ?_
        refine sx_iload_n (p1 := 26) dX7_item_25 rfl rfl ?_
        refine sx_iald (p1 := 27) dX7_item_26 rfl (hp_sb hs _) (by omega) (by decide) ?_
        refine sx_goto (p1 := 31) (tg := 31) dX7_item_27 rfl rfl ?_
        exact sx_iret dX7_item_31 rfl (sx_ri (by split <;> omega) (by rfl))
set_option maxRecDepth 20000 in
theorem c_X7_cut {X : sx_X} {S : St} {i : Int} {s : Nat} (hs : s < 4) (hz : 0 ≤ S.1 (17 + 2 * s) ∧ S.1 (17 + 2 * s) ≤ 60) (hfo : -1 ≤ S.1 (16 + 2 * s) ∧ S.1 (16 + 2 * s) ≤ 2)  : Ct X yX7_cut cX7_cut 2 (some .int) 0 0 0 [.ref (31 + 2 * s), vI i] (hp S) (sx_is (some (vI (if S.1 (16 + 2 * s) = 0 then sx_b8 i else if S.1 (16 + 2 * s) = 1 then sx_b16 i else i))) (hp (S))) := by
  refine Ct.of false [some (.ref (31 + 2 * s)), some (vI i)] (plainFor_of_name (by decide)) (fun h => by cases h) (Nat.le_of_ble_eq_true rfl) (fun _ => rfl) sx_isl ?_
  refine sx_aload_n (p1 := 1) dX7_cut_0 rfl rfl ?_
  refine sx_get (p1 := 4) dX7_cut_1 rfl fl_X7_15 (hp_sh hs _) rfl ?_
  refine sx_if_ne (p1 := 7) (tg := 10) dX7_cut_4 rfl rfl (by omega) (fun q4 => ?_) (fun q4 => ?_)
  · refine sx_aload_n (p1 := 11) dX7_cut_10 rfl rfl ?_
    refine sx_get (p1 := 14) dX7_cut_11 rfl fl_X7_15 (hp_sh hs _) rfl ?_
    refine sx_iconst (p1 := 15) dX7_cut_14 rfl ?_
    refine sx_icmp_ne (p1 := 18) (tg := 23) dX7_cut_15 rfl rfl (by omega) (by omega) (fun q15 => ?_) (fun q15 => ?_)
    · refine sx_iload_n (p1 := 24) dX7_cut_23 rfl rfl ?_
      exact sx_iret dX7_cut_24 rfl (sx_ri (by (repeat' split) <;> omega) (by rfl))
    · refine sx_iload_n (p1 := 19) dX7_cut_18 rfl rfl ?_
      refine sx_i2s (p1 := 20) dX7_cut_19 rfl ?_
      refine sx_goto (p1 := 24) (tg := 24) dX7_cut_20 rfl rfl ?_
      exact sx_iret dX7_cut_24 rfl (sx_ri (by (repeat' split) <;> omega) (by rfl))
  · refine sx_iload_n (p1 := 8) dX7_cut_7 rfl rfl ?_
    refine sx_i2b (p1 := 9) dX7_cut_8 rfl ?_
    exact sx_iret dX7_cut_9 rfl (sx_ri (by (repeat' split) <;> omega) (by rfl))
set_option maxRecDepth 20000 in
theorem c_X7_put {X : sx_X} {S : St} {j i : Int} {s : Nat} (hs : s < 4) (hz : 0 ≤ S.1 (17 + 2 * s) ∧ S.1 (17 + 2 * s) ≤ 60) (hfo : -1 ≤ S.1 (16 + 2 * s) ∧ S.1 (16 + 2 * s) ≤ 2) (hj : 0 ≤ j ∧ j < S.1 (17 + 2 * s)) : Ct X yX7_put cX7_put 3 none 1 0 0 [.ref (31 + 2 * s), vI j, vI i] (hp S) (sx_is none (hp (sa S (32 + 2 * s) j.toNat (if S.1 (16 + 2 * s) = 0 then sx_b8 i else if S.1 (16 + 2 * s) = 1 then sx_b16 i else i)))) := by
  refine Ct.of false [some (.ref (31 + 2 * s)), some (vI j), some (vI i)] (plainFor_of_name (by decide)) (fun h => by cases h) (Nat.le_of_ble_eq_true rfl) (fun _ => rfl) sx_isl ?_
  refine sx_iload_n (p1 := 1) dX7_put_0 rfl rfl ?_
  refine sx_if_lt (p1 := 4) (tg := 32) dX7_put_1 rfl rfl (by omega) (fun q1 => absurd q1 (by omega)) (fun q1 => ?_)
  refine sx_iload_n (p1 := 5) dX7_put_4 rfl rfl ?_
  refine sx_aload_n (p1 := 6) dX7_put_5 rfl rfl ?_
  refine sx_get (p1 := 9) dX7_put_6 rfl fl_X7_19 (hp_sh hs _) rfl ?_
  refine sx_icmp_ge (p1 := 12) (tg := 32) dX7_put_9 rfl rfl (by omega) (by omega) (fun q9 => absurd q9 (by omega)) (fun q9 => ?_)
  refine sx_iload_n (p1 := 13) dX7_put_12 rfl rfl ?_
  refine sx_aload_n (p1 := 14) dX7_put_13 rfl rfl ?_
  refine sx_get (p1 := 17) dX7_put_14 rfl fl_X7_9 (hp_sh hs _) rfl ?_
  refine sx_alen (p1 := 18) dX7_put_17 rfl (hp_sb hs _) (fun _ => rfl) ?_
  refine sx_icmp_ge (p1 := 21) (tg := 32) dX7_put_18 rfl rfl (by omega) (by omega) (fun q18 => absurd q18 (by omega)) (fun q18 => ?_)
  refine sx_aload_n (p1 := 22) dX7_put_21 rfl rfl ?_
  refine sx_get (p1 := 25) dX7_put_22 rfl fl_X7_9 (hp_sh hs _) rfl ?_
  refine sx_iload_n (p1 := 26) dX7_put_25 rfl rfl ?_
  refine sx_aload_n (p1 := 27) dX7_put_26 rfl rfl ?_
  refine sx_iload_n (p1 := 28) dX7_put_27 rfl rfl ?_
  refine sx_callVr (p1 := 31) (As := [_]) (k1 := 0) (n1 := 0) dX7_put_28 rfl rfl (c_X7_cut hs hz hfo) mt_X7_cut ml_X7_45 (hp_sh hs _) rfl rfl (Nat.le_of_ble_eq_true rfl) rfl (Nat.le_of_ble_eq_true rfl) rfl rfl (Nat.le_of_ble_eq_true rfl) (Nat.le_of_ble_eq_true rfl) ?_
  refine sx_iast (p1 := 32) dX7_put_31 rfl (hp_sb hs _) (by omega) (by decide) (hp_sa hs _ _ _) ?_
  exact sx_vret dX7_put_32 rfl (sx_rv (by rfl))
set_option maxRecDepth 20000 in
theorem c_X7_wrongAt {X : sx_X} {S : St} {i j : Int} {s : Nat} (hs : s < 4) (hz : 0 ≤ S.1 (17 + 2 * s) ∧ S.1 (17 + 2 * s) ≤ 60) (hfo : -1 ≤ S.1 (16 + 2 * s) ∧ S.1 (16 + 2 * s) ≤ 2) (hi : -2147483648 ≤ i ∧ i ≤ 2147483647) (hj : -2147483648 ≤ j ∧ j ≤ 2147483647) : Ct X yX7_wrongAt cX7_wrongAt 3 (some .int) 1 0 0 [.ref (31 + 2 * s), vI i, vI j] (hp S) (sx_is (some (vI (if S.1 (16 + 2 * s) = -1 then 1 else if S.1 (16 + 2 * s) ≠ i then 3 else if 0 ≤ j ∧ j < S.1 (17 + 2 * s) then 0 else 2))) (hp (S))) := by
  refine Ct.of false [some (.ref (31 + 2 * s)), some (vI i), some (vI j)] (plainFor_of_name (by decide)) (fun h => by cases h) (Nat.le_of_ble_eq_true rfl) (fun _ => rfl) sx_isl ?_
  refine sx_aload_n (p1 := 1) dX7_wrongAt_0 rfl rfl ?_
  refine sx_callVr (p1 := 4) (As := []) (k1 := 0) (n1 := 0) dX7_wrongAt_1 rfl rfl (c_X7_isLost hs hz hfo) mt_X7_isLost ml_X7_37 (hp_sh hs _) rfl rfl (Nat.le_of_ble_eq_true rfl) rfl (Nat.le_of_ble_eq_true rfl) rfl rfl (Nat.le_of_ble_eq_true rfl) (Nat.le_of_ble_eq_true rfl) ?_
  refine sx_if_eq (p1 := 7) (tg := 9) dX7_wrongAt_4 rfl rfl (by omega) (fun q4 => ?_) (fun q4 => ?_)
  · refine sx_aload_n (p1 := 10) dX7_wrongAt_9 rfl rfl ?_
    refine sx_get (p1 := 13) dX7_wrongAt_10 rfl fl_X7_15 (hp_sh hs _) rfl ?_
    refine sx_iload_n (p1 := 14) dX7_wrongAt_13 rfl rfl ?_
    refine sx_icmp_eq (p1 := 17) (tg := 19) dX7_wrongAt_14 rfl rfl (by omega) (by omega) (fun q14 => ?_) (fun q14 => ?_)
    · refine sx_aload_n (p1 := 20) dX7_wrongAt_19 rfl rfl ?_
      refine sx_iload_n (p1 := 21) dX7_wrongAt_20 rfl rfl ?_
      refine sx_iconst (p1 := 22) dX7_wrongAt_21 rfl ?_
      refine sx_callVr (p1 := 25) (As := [_, _]) (k1 := 0) (n1 := 0) dX7_wrongAt_22 rfl rfl (c_X7_holds hs hz hfo hj (by omega)) mt_X7_holds ml_X7_41 (hp_sh hs _) rfl rfl (Nat.le_of_ble_eq_true rfl) rfl (Nat.le_of_ble_eq_true rfl) rfl rfl (Nat.le_of_ble_eq_true rfl) (Nat.le_of_ble_eq_true rfl) ?_
      refine sx_if_eq (p1 := 28) (tg := 32) dX7_wrongAt_25 rfl rfl (by omega) (fun q25 => ?_) (fun q25 => ?_)
      · refine sx_iconst (p1 := 33) dX7_wrongAt_32 rfl ?_
        exact sx_iret dX7_wrongAt_33 rfl (sx_ri (by omega) (by rfl))
      · refine sx_iconst (p1 := 29) dX7_wrongAt_28 rfl ?_
        refine sx_goto (p1 := 33) (tg := 33) dX7_wrongAt_29 rfl rfl ?_
        exact sx_iret dX7_wrongAt_33 rfl (sx_ri (by omega) (by rfl))
    · refine sx_iconst (p1 := 18) dX7_wrongAt_17 rfl ?_
      exact sx_iret dX7_wrongAt_18 rfl (sx_ri (by omega) (by rfl))
  · refine sx_iconst (p1 := 8) dX7_wrongAt_7 rfl ?_
    exact sx_iret dX7_wrongAt_8 rfl (sx_ri (by omega) (by rfl))
set_option maxRecDepth 20000 in
theorem c_X7_renew {X : sx_X} {S : St} {i j : Int} {s : Nat} (hs : s < 4) (hz : 0 ≤ S.1 (17 + 2 * s) ∧ S.1 (17 + 2 * s) ≤ 60) (hfo : -1 ≤ S.1 (16 + 2 * s) ∧ S.1 (16 + 2 * s) ≤ 2) (hj : 0 ≤ j ∧ j ≤ 60) : Ct X yX7_renew cX7_renew 3 none 1 0 0 [.ref (31 + 2 * s), vI i, vI j] (hp S) (sx_is none (hp (sA (si (si S (16 + 2 * s) i) (17 + 2 * s) j) (32 + 2 * s) (flF (S.2 (32 + 2 * s)) 60)))) := by
  refine Ct.of false [some (.ref (31 + 2 * s)), some (vI i), some (vI j)] (plainFor_of_name (by decide)) (fun h => by cases h) (Nat.le_of_ble_eq_true rfl) (fun _ => rfl) sx_isl ?_
  refine sx_aload_n (p1 := 1) dX7_renew_0 rfl rfl ?_
  refine sx_iload_n (p1 := 2) dX7_renew_1 rfl rfl ?_
  refine sx_put (p1 := 5) dX7_renew_2 rfl fl_X7_15 (hp_sh hs _) (Nat.le_of_ble_eq_true rfl) (fun _ => rfl) (fun _ => rfl) (hp_sf hs _ _) ?_
  refine sx_aload_n (p1 := 6) dX7_renew_5 rfl rfl ?_
  refine sx_iconst (p1 := 7) dX7_renew_6 rfl ?_
  refine sx_iload_n (p1 := 8) dX7_renew_7 rfl rfl ?_
  refine sx_bipush (p1 := 10) dX7_renew_8 rfl (by decide) ?_
  refine sx_callSr (p1 := 13) (As := [_, _]) (k1 := 0) (n1 := 0) dX7_renew_10 rfl rfl (c_J9_min_7cf53 (by omega) (by omega)) mt_J9_min_7cf53 ml_X7_22 (Nat.le_of_ble_eq_true rfl) rfl (Nat.le_of_ble_eq_true rfl) rfl rfl (Nat.le_of_ble_eq_true rfl) (Nat.le_of_ble_eq_true rfl) ?_
  refine sx_callSr (p1 := 16) (As := [_, _]) (k1 := 0) (n1 := 0) dX7_renew_13 rfl rfl (c_J9_max_7cf53 (by omega) (by omega)) mt_J9_max_7cf53 ml_X7_28 (Nat.le_of_ble_eq_true rfl) rfl (Nat.le_of_ble_eq_true rfl) rfl rfl (Nat.le_of_ble_eq_true rfl) (Nat.le_of_ble_eq_true rfl) ?_
  refine sx_put (p1 := 19) dX7_renew_16 rfl fl_X7_19 (hp_sh hs _) (Nat.le_of_ble_eq_true rfl) (fun _ => rfl) (fun _ => rfl) (hp_sz hs _ _) ?_
  refine sx_aload_n (p1 := 20) dX7_renew_19 rfl rfl ?_
  refine sx_get (p1 := 23) dX7_renew_20 rfl fl_X7_9 (hp_sh hs _) rfl ?_
  refine sx_iconst (p1 := 24) dX7_renew_23 rfl ?_
  refine sx_callSn (p1 := 27) (As := [_, _]) (k1 := 0) (n1 := 0) dX7_renew_24 rfl rfl (c_J7_fill_53178 hs) mt_J7_fill_53178 ml_X7_31 (Nat.le_of_ble_eq_true rfl) rfl (Nat.le_of_ble_eq_true rfl) rfl rfl (Nat.le_of_ble_eq_true rfl) (Nat.le_of_ble_eq_true rfl) ?_
  exact sx_vret dX7_renew_27 rfl (sx_rv (by rw [show max 0 (min j 60) = j by omega]; rfl))
set_option maxRecDepth 20000 in
theorem c_X7_isLike {X : sx_X} {S : St} {s s2 : Nat} (hs : s < 4) (hz : 0 ≤ S.1 (17 + 2 * s) ∧ S.1 (17 + 2 * s) ≤ 60) (hfo : -1 ≤ S.1 (16 + 2 * s) ∧ S.1 (16 + 2 * s) ≤ 2) (hs2 : s2 < 4) (hfo2 : -1 ≤ S.1 (16 + 2 * s2) ∧ S.1 (16 + 2 * s2) ≤ 2) : Ct X yX7_isLike cX7_isLike 2 (some .boolean) 0 0 0 [.ref (31 + 2 * s), .ref (31 + 2 * s2)] (hp S) (sx_is (some (vI (if S.1 (16 + 2 * s) = S.1 (16 + 2 * s2) then 1 else 0))) (hp (S))) := by
  refine Ct.of false [some (.ref (31 + 2 * s)), some (.ref (31 + 2 * s2))] (plainFor_of_name (by decide)) (fun h => by cases h) (Nat.le_of_ble_eq_true rfl) (fun _ => rfl) sx_isl ?_
  refine sx_aload_n (p1 := 1) dX7_isLike_0 rfl rfl ?_
  refine sx_get (p1 := 4) dX7_isLike_1 rfl fl_X7_15 (hp_sh hs _) rfl ?_
  refine sx_aload_n (p1 := 5) dX7_isLike_4 rfl rfl ?_
  refine sx_get (p1 := 8) dX7_isLike_5 rfl fl_X7_15 (hp_sh hs2 _) rfl ?_
  refine sx_icmp_ne (p1 := 11) (tg := 15) dX7_isLike_8 rfl rfl (by omega) (by omega) (fun q8 => ?_) (fun q8 => ?_)
  · refine sx_iconst (p1 := 16) dX7_isLike_15 rfl ?_
    exact sx_zret dX7_isLike_16 rfl (by omega) (sx_ri (by simp; omega) (by rfl))
  · refine sx_iconst (p1 := 12) dX7_isLike_11 rfl ?_
    refine sx_goto (p1 := 16) (tg := 16) dX7_isLike_12 rfl rfl ?_
    exact sx_zret dX7_isLike_16 rfl (by omega) (sx_ri (by simp; omega) (by rfl))
set_option maxRecDepth 20000 in
theorem c_X7_takeFrom {X : sx_X} {S : St} {i j k : Int} {s s2 : Nat} (hs : s < 4) (hz : 0 ≤ S.1 (17 + 2 * s) ∧ S.1 (17 + 2 * s) ≤ 60) (hfo : -1 ≤ S.1 (16 + 2 * s) ∧ S.1 (16 + 2 * s) ≤ 2) (hs2 : s2 < 4) (hz2 : 0 ≤ S.1 (17 + 2 * s2) ∧ S.1 (17 + 2 * s2) ≤ 60) (hfo2 : -1 ≤ S.1 (16 + 2 * s2) ∧ S.1 (16 + 2 * s2) ≤ 2) (hi : 0 ≤ i) (hj : 0 ≤ j) (hk : 0 ≤ k) (h1 : k ≤ S.1 (17 + 2 * s2) ∧ i ≤ S.1 (17 + 2 * s2) - k) (h2 : k ≤ S.1 (17 + 2 * s) ∧ j ≤ S.1 (17 + 2 * s) - k) : Ct X yX7_takeFrom cX7_takeFrom 5 none 1 0 0 [.ref (31 + 2 * s), .ref (31 + 2 * s2), vI i, vI j, vI k] (hp S) (sx_is none (hp (sA S (32 + 2 * s) (va_cpy (S.2 (32 + 2 * s2)) (S.2 (32 + 2 * s)) i.toNat j.toNat k.toNat)))) := by
  refine Ct.of false [some (.ref (31 + 2 * s)), some (.ref (31 + 2 * s2)), some (vI i), some (vI j), some (vI k)] (plainFor_of_name (by decide)) (fun h => by cases h) (Nat.le_of_ble_eq_true rfl) (fun _ => rfl) sx_isl ?_
  refine sx_aload_n (p1 := 1) dX7_takeFrom_0 rfl rfl ?_
  refine sx_iload_n (p1 := 2) dX7_takeFrom_1 rfl rfl ?_
  refine sx_iload (p1 := 4) dX7_takeFrom_2 rfl rfl ?_
  refine sx_callVr (p1 := 7) (As := [_, _]) (k1 := 0) (n1 := 0) dX7_takeFrom_4 rfl rfl (c_X7_holds hs2 hz2 hfo2 (by omega) (by omega)) mt_X7_holds ml_X7_41 (hp_sh hs2 _) rfl rfl (Nat.le_of_ble_eq_true rfl) rfl (Nat.le_of_ble_eq_true rfl) rfl rfl (Nat.le_of_ble_eq_true rfl) (Nat.le_of_ble_eq_true rfl) ?_
  refine sx_if_eq (p1 := 10) (tg := 35) dX7_takeFrom_7 rfl rfl (by split <;> omega) (fun q7 => absurd q7 (by rw [if_pos (by omega)]; omega)) (fun q7 => ?_)
  refine sx_aload_n (p1 := 11) dX7_takeFrom_10 rfl rfl ?_
  refine sx_iload_n (p1 := 12) dX7_takeFrom_11 rfl rfl ?_
  refine sx_iload (p1 := 14) dX7_takeFrom_12 rfl rfl ?_
  refine sx_callVr (p1 := 17) (As := [_, _]) (k1 := 0) (n1 := 0) dX7_takeFrom_14 rfl rfl (c_X7_holds hs hz hfo (by omega) (by omega)) mt_X7_holds ml_X7_41 (hp_sh hs _) rfl rfl (Nat.le_of_ble_eq_true rfl) rfl (Nat.le_of_ble_eq_true rfl) rfl rfl (Nat.le_of_ble_eq_true rfl) (Nat.le_of_ble_eq_true rfl) ?_
  refine sx_if_eq (p1 := 20) (tg := 35) dX7_takeFrom_17 rfl rfl (by split <;> omega) (fun q17 => absurd q17 (by rw [if_pos (by omega)]; omega)) (fun q17 => ?_)
  refine sx_aload_n (p1 := 21) dX7_takeFrom_20 rfl rfl ?_
  refine sx_get (p1 := 24) dX7_takeFrom_21 rfl fl_X7_9 (hp_sh hs2 _) rfl ?_
  refine sx_iload_n (p1 := 25) dX7_takeFrom_24 rfl rfl ?_
  refine sx_aload_n (p1 := 26) dX7_takeFrom_25 rfl rfl ?_
  refine sx_get (p1 := 29) dX7_takeFrom_26 rfl fl_X7_9 (hp_sh hs _) rfl ?_
  refine sx_iload_n (p1 := 30) dX7_takeFrom_29 rfl rfl ?_
  refine sx_iload (p1 := 32) dX7_takeFrom_30 rfl rfl ?_
  refine sx_copyi (p1 := 35) dX7_takeFrom_32 rfl ml_X7_49 nat_copy sta_copy in_RJ10 (hp_sb hs2 _) (hp_sb hs _) (by omega) (by omega) (by omega) (by omega) (by omega) (Nat.le_of_ble_eq_true rfl) (Nat.le_of_ble_eq_true rfl) (hp_sA hs _ _) ?_
  exact sx_vret dX7_takeFrom_35 rfl (sx_rv (by rfl))
