theorem rdS_y {S : St} (h : okY S) : okY (rdS S) := rwE_y (rgE_y h)
def okD (T : St) (b : Nat) : Prop := RD T ∧ okY T ∧ okQ T b ∧ (-2147483648 ≤ T.1 36 ∧ T.1 36 ≤ 2147483647) ∧ (0 ≤ T.1 39 ∧ T.1 39 ≤ 8) ∧ ∀ i, -2147483648 ≤ T.2 54 i ∧ T.2 54 i ≤ 2147483647
theorem okD_r {T : St} {b : Nat} (h : okD T b) : rdS T = T := RD_r h.1 h.2.2.1
/-- after helmets(1, j) -/
def hz (T : St) (j : Int) : St := if ((0 : Int) ≤ 1 ∧ (1 : Int) ≤ T.1 33) ∧ 0 ≤ j ∧ j ≤ 2 then si T 36 (fh (mV T) (T.1 34) 1 (T.1 36) (T.1 35) (2 ^ (T.1 33).toNat)).2.1 else T
theorem hz_ok {T : St} {b : Nat} (j : Int) (h : okD T b) : okD (hz T j) b ∧ mV (hz T j) = mV T := by
  unfold hz
  split
  · have hr := fh_r h.2.2.1.1 (T.1 34) 1 (T.1 36) (T.1 35) h.2.2.2.1 (2 ^ (T.1 33).toNat)
    exact ⟨⟨h.1, h.2.1, h.2.2.1, hr.2, h.2.2.2.2⟩, rfl⟩
  · exact ⟨h, rfl⟩
theorem d_X12_helmets {X : sx_X} {T : St} {V : Vw} {b : Nat} {j : Int} (hv : mV T = V) (h : okD T b) (hj : -2147483648 ≤ j ∧ j ≤ 2147483647) : Ct X yX12_helmets cX12_helmets 3 (some .long) 7 0 0 [.ref 39, vI 1, vI j] (hp T) (sx_is (some (vJ (aHelm V 1 j))) (hp (hz T j))) := by
  subst hv
  exact c_X12_helmets (i := 1) (okD_r h) h.2.1 h.2.2.1 h.2.2.2.1 (by decide) hj
theorem d_X12_treads {X : sx_X} {T : St} {V : Vw} {b : Nat} {i j : Int} (hv : mV T = V) (h : okD T b) (hi : -2147483648 ≤ i ∧ i ≤ 2147483647) (hj : -2147483648 ≤ j ∧ j ≤ 2147483647) : Ct X yX12_treads cX12_treads 3 (some .int) 4 0 0 [.ref 39, vI i, vI j] (hp T) (sx_is (some (vI (aTreads V i j))) (hp T)) := by
  subst hv
  exact c_X12_treads (okD_r h) h.2.1 h.2.2.1 hi hj
theorem d_X12_harm {X : sx_X} {T : St} {V : Vw} {b : Nat} {i j k : Int} (hv : mV T = V) (h : okD T b) (hi : -2147483648 ≤ i ∧ i ≤ 2147483647) (hj : -2147483648 ≤ j ∧ j ≤ 2147483647) (hk : -2147483648 ≤ k ∧ k ≤ 2147483647) : Ct X yX12_harm cX12_harm 5 (some .long) 4 0 0 [.ref 39, vI i, vI j, vI k] (hp T) (sx_is (some (vJ (aHarm V i j k))) (hp T)) := by
  subst hv
  exact c_X12_harm (okD_r h) h.2.1 h.2.2.1 hi hj hk
theorem d_X12_all {X : sx_X} {T : St} {V : Vw} {b : Nat} {i j : Int} (hv : mV T = V) (h : okD T b) (hi : -2147483648 ≤ i ∧ i ≤ 2147483647) (hj : -2147483648 ≤ j ∧ j ≤ 2147483647) : Ct X yX12_all cX12_all 3 (some .long) 6 0 0 [.ref 39, vI i, vI j] (hp T) (sx_is (some (vJ (aAll V i j))) (hp T)) := by
  subst hv
  exact c_X12_all (okD_r h) h.2.1 h.2.2.1 hi hj
theorem d_X12_curve {X : sx_X} {T : St} {V : Vw} {b : Nat} {i j : Int} (hv : mV T = V) (h : okD T b) (hi : -2147483648 ≤ i ∧ i ≤ 2147483647) (hj : -2147483648 ≤ j ∧ j ≤ 2147483647) : Ct X yX12_curve cX12_curve 3 (some .long) 7 0 0 [.ref 39, vI i, vI j] (hp T) (sx_is (some (vJ (aCurve V i j))) (hp T)) := by
  subst hv
  exact c_X12_curve (okD_r h) h.2.1 h.2.2.1 hi hj
theorem d_X12_foot {X : sx_X} {T : St} {V : Vw} {b : Nat} {i j k : Int} (hv : mV T = V) (h : okD T b) (hi : -2147483648 ≤ i ∧ i ≤ 2147483647) (hj : -2147483648 ≤ j ∧ j ≤ 2147483647) (hk : -2147483648 ≤ k ∧ k ≤ 2147483647) : Ct X yX12_foot cX12_foot 4 (some .long) 4 0 0 [.ref 39, vI i, vI j, vI k] (hp T) (sx_is (some (vJ (aFoot V i j k))) (hp T)) := by
  subst hv
  exact c_X12_foot (okD_r h) h.2.1 h.2.2.1 hi hj hk
set_option maxRecDepth 20000 in
theorem c_X12_tellsWalker {X : sx_X} {T : St} {b : Nat} {h0 : Int} {q : Nat} (hD : okD T b) (hq : (q : Int) < T.1 33) : Ct X yX12_tellsWalker cX12_tellsWalker 7 (some .long) 7 0 0 [.ref 39, vJ h0, vI (q : Int)] (hp T) (sx_is (some (vJ (dgW (mV T) h0 q))) (hp T)) := by
  have hQ := hD.2.2.1
  have hV := hQ.1
  have hW := okQ_W hQ
  have b0 : 0 ≤ T.1 32 ∧ T.1 32 ≤ 16 := hV.1
  have c0 : 0 ≤ (mV T).1 0 ∧ (mV T).1 0 ≤ 16 := hV.1
  have b1 : 0 ≤ T.1 33 ∧ T.1 33 ≤ 6 := hV.2.1
  have c1 : 0 ≤ (mV T).1 1 ∧ (mV T).1 1 ≤ 6 := hV.2.1
  have b2 : 0 ≤ T.1 34 ∧ T.1 34 ≤ 99 := hV.2.2.1
  have c2 : 0 ≤ (mV T).1 2 ∧ (mV T).1 2 ≤ 99 := hV.2.2.1
  have b3 : 0 ≤ T.2 51 1 ∧ T.2 51 1 ≤ 1 := hV.2.2.2.1
  have c3 : 0 ≤ (mV T).1 3 ∧ (mV T).1 3 ≤ 1 := hV.2.2.2.1
  have b4 : 0 ≤ T.2 51 2 ∧ T.2 51 2 ≤ 16 := hV.2.2.2.2.1
  have c4 : 0 ≤ (mV T).1 4 ∧ (mV T).1 4 ≤ 16 := hV.2.2.2.2.1
  have b5 : 0 ≤ T.2 51 3 ∧ T.2 51 3 ≤ 999 := hV.2.2.2.2.2.1
  have c5 : 0 ≤ (mV T).1 5 ∧ (mV T).1 5 ≤ 999 := hV.2.2.2.2.2.1
  have b6 : 0 ≤ T.2 51 4 ∧ T.2 51 4 ≤ 1999 := hV.2.2.2.2.2.2.1
  have c6 : 0 ≤ (mV T).1 6 ∧ (mV T).1 6 ≤ 1999 := hV.2.2.2.2.2.2.1
  have b7 : 0 ≤ T.2 51 5 ∧ T.2 51 5 ≤ 16 := hV.2.2.2.2.2.2.2.1
  have c7 : 0 ≤ (mV T).1 7 ∧ (mV T).1 7 ≤ 16 := hV.2.2.2.2.2.2.2.1
  have bK : ∀ q, 0 ≤ rK T q ∧ rK T q ≤ 3 := hV.2.2.2.2.2.2.2.2.1
  have bL : ∀ q, 0 ≤ rL T q ∧ rL T q ≤ 9 := hV.2.2.2.2.2.2.2.2.2.1
  have bW : ∀ q, 0 ≤ rW T q ∧ rW T q ≤ 9 := hV.2.2.2.2.2.2.2.2.2.2.1
  have bS : ∀ q, 0 ≤ rS T q ∧ rS T q ≤ 9 := hV.2.2.2.2.2.2.2.2.2.2.2.1
  have bH : ∀ q, 0 ≤ rH T q ∧ rH T q ≤ 1 := hV.2.2.2.2.2.2.2.2.2.2.2.2
  have n0 : (mV T).1 0 = T.1 32 := rfl
  have n1 : (mV T).1 1 = T.1 33 := rfl
  have n2 : (mV T).1 2 = T.1 34 := rfl
  have n3 : (mV T).1 3 = T.2 51 1 := rfl
  have n4 : (mV T).1 4 = T.2 51 2 := rfl
  have n5 : (mV T).1 5 = T.2 51 3 := rfl
  have n6 : (mV T).1 6 = T.2 51 4 := rfl
  have n7 : (mV T).1 7 = T.2 51 5 := rfl
  have q6 : 0 ≤ (q : Int) ∧ (q : Int) ≤ 6 := by omega
  have e5 : mPl (mV T) (5 - T.2 51 3 - (q : Int) * T.1 34) = aPlace (mV T) q 5 := (if_pos (by omega)).symm
  have ew : ∀ j : Int, 0 ≤ j ∧ j ≤ 2 → (if j = 0 then rW T q else if j = 1 then rS T q else rH T q) = aWalker (mV T) q j := fun j hj => (if_pos ⟨by omega, hj⟩).symm
  refine Ct.of false [some (.ref 39), some (vJ h0), none, some (vI (q : Int)), none, none, none] (plainFor_of_name (by decide)) (fun h => by cases h) (Nat.le_of_ble_eq_true rfl) (fun _ => rfl) sx_isl ?_
  refine sx_lload_n (p1 := 1) dX12_tellsWalker_0 rfl rfl ?_
  refine sx_lstore (lo1 := [some _, some _, none, some _, some _, none, none]) (p1 := 3) dX12_tellsWalker_1 rfl (by decide) rfl ?_
  refine sx_iconst (p1 := 4) dX12_tellsWalker_3 rfl ?_
  refine sx_istore (lo1 := [some _, some _, none, some _, some _, none, some _]) (p1 := 6) dX12_tellsWalker_4 rfl (by decide) rfl ?_
  refine sx_iload (p1 := 8) dX12_tellsWalker_6 rfl rfl ?_
  refine sx_iconst (p1 := 9) dX12_tellsWalker_8 rfl ?_
  refine sx_icmp_ge (p1 := 12) (tg := 35) dX12_tellsWalker_9 rfl rfl (by omega) (by omega) (fun q9 => absurd q9 (by omega)) (fun q9 => ?_)
  refine sx_ldc2 (z := 31) (p1 := 15) dX12_tellsWalker_12 rfl kc_X12_299 (by decide) ?_
  refine sx_lload (p1 := 17) dX12_tellsWalker_15 rfl rfl ?_
  refine sx_lmul (p1 := 18) dX12_tellsWalker_17 rfl ?_
  refine sx_aload_n (p1 := 19) dX12_tellsWalker_18 rfl rfl ?_
  refine sx_iload_n (p1 := 20) dX12_tellsWalker_19 rfl rfl ?_
  refine sx_iload (p1 := 22) dX12_tellsWalker_20 rfl rfl ?_
  refine sx_callVr (p1 := 25) (As := [_, _]) (k1 := 0) (n1 := 0) dX12_tellsWalker_22 rfl rfl (c_X12_walkerOf hV (by omega) (by omega)) mt_X12_walkerOf ml_X12_129 (hp_c39 _) rfl rfl (Nat.le_of_ble_eq_true rfl) rfl (Nat.le_of_ble_eq_true rfl) rfl rfl (Nat.le_of_ble_eq_true rfl) (Nat.le_of_ble_eq_true rfl) ?_
  rw [ew _ (by decide)]
  refine sx_i2lx (p1 := 26) dX12_tellsWalker_25 rfl ?_
  refine sx_ladd (p1 := 27) dX12_tellsWalker_26 rfl ?_
  refine sx_lstore (lo1 := [some _, some _, none, some _, some _, none, some _]) (p1 := 29) dX12_tellsWalker_27 rfl (by decide) rfl ?_
  refine sx_iinc (lo1 := [some _, some _, none, some _, some _, none, some _]) (p1 := 32) dX12_tellsWalker_29 rfl (by decide) rfl rfl ?_
  rw [show (0 : Int) + 1 = 1 from rfl]
  refine sx_goto (p1 := 6) (tg := 6) dX12_tellsWalker_32 rfl rfl ?_
  refine sx_iload (p1 := 8) dX12_tellsWalker_6 rfl rfl ?_
  refine sx_iconst (p1 := 9) dX12_tellsWalker_8 rfl ?_
  refine sx_icmp_ge (p1 := 12) (tg := 35) dX12_tellsWalker_9 rfl rfl (by omega) (by omega) (fun q9 => absurd q9 (by omega)) (fun q9 => ?_)
  refine sx_ldc2 (z := 31) (p1 := 15) dX12_tellsWalker_12 rfl kc_X12_299 (by decide) ?_
  refine sx_lload (p1 := 17) dX12_tellsWalker_15 rfl rfl ?_
  refine sx_lmul (p1 := 18) dX12_tellsWalker_17 rfl ?_
  refine sx_aload_n (p1 := 19) dX12_tellsWalker_18 rfl rfl ?_
  refine sx_iload_n (p1 := 20) dX12_tellsWalker_19 rfl rfl ?_
  refine sx_iload (p1 := 22) dX12_tellsWalker_20 rfl rfl ?_
  refine sx_callVr (p1 := 25) (As := [_, _]) (k1 := 0) (n1 := 0) dX12_tellsWalker_22 rfl rfl (c_X12_walkerOf hV (by omega) (by omega)) mt_X12_walkerOf ml_X12_129 (hp_c39 _) rfl rfl (Nat.le_of_ble_eq_true rfl) rfl (Nat.le_of_ble_eq_true rfl) rfl rfl (Nat.le_of_ble_eq_true rfl) (Nat.le_of_ble_eq_true rfl) ?_
  rw [ew _ (by decide)]
  refine sx_i2lx (p1 := 26) dX12_tellsWalker_25 rfl ?_
  refine sx_ladd (p1 := 27) dX12_tellsWalker_26 rfl ?_
  refine sx_lstore (lo1 := [some _, some _, none, some _, some _, none, some _]) (p1 := 29) dX12_tellsWalker_27 rfl (by decide) rfl ?_
  refine sx_iinc (lo1 := [some _, some _, none, some _, some _, none, some _]) (p1 := 32) dX12_tellsWalker_29 rfl (by decide) rfl rfl ?_
  rw [show (1 : Int) + 1 = 2 from rfl]
  refine sx_goto (p1 := 6) (tg := 6) dX12_tellsWalker_32 rfl rfl ?_
  refine sx_iload (p1 := 8) dX12_tellsWalker_6 rfl rfl ?_
  refine sx_iconst (p1 := 9) dX12_tellsWalker_8 rfl ?_
  refine sx_icmp_ge (p1 := 12) (tg := 35) dX12_tellsWalker_9 rfl rfl (by omega) (by omega) (fun q9 => absurd q9 (by omega)) (fun q9 => ?_)
  refine sx_ldc2 (z := 31) (p1 := 15) dX12_tellsWalker_12 rfl kc_X12_299 (by decide) ?_
  refine sx_lload (p1 := 17) dX12_tellsWalker_15 rfl rfl ?_
  refine sx_lmul (p1 := 18) dX12_tellsWalker_17 rfl ?_
  refine sx_aload_n (p1 := 19) dX12_tellsWalker_18 rfl rfl ?_
  refine sx_iload_n (p1 := 20) dX12_tellsWalker_19 rfl rfl ?_
  refine sx_iload (p1 := 22) dX12_tellsWalker_20 rfl rfl ?_
  refine sx_callVr (p1 := 25) (As := [_, _]) (k1 := 0) (n1 := 0) dX12_tellsWalker_22 rfl rfl (c_X12_walkerOf hV (by omega) (by omega)) mt_X12_walkerOf ml_X12_129 (hp_c39 _) rfl rfl (Nat.le_of_ble_eq_true rfl) rfl (Nat.le_of_ble_eq_true rfl) rfl rfl (Nat.le_of_ble_eq_true rfl) (Nat.le_of_ble_eq_true rfl) ?_
  rw [ew _ (by decide)]
  refine sx_i2lx (p1 := 26) dX12_tellsWalker_25 rfl ?_
  refine sx_ladd (p1 := 27) dX12_tellsWalker_26 rfl ?_
  refine sx_lstore (lo1 := [some _, some _, none, some _, some _, none, some _]) (p1 := 29) dX12_tellsWalker_27 rfl (by decide) rfl ?_
  refine sx_iinc (lo1 := [some _, some _, none, some _, some _, none, some _]) (p1 := 32) dX12_tellsWalker_29 rfl (by decide) rfl rfl ?_
  rw [show (2 : Int) + 1 = 3 from rfl]
  refine sx_goto (p1 := 6) (tg := 6) dX12_tellsWalker_32 rfl rfl ?_
  refine sx_iload (p1 := 8) dX12_tellsWalker_6 rfl rfl ?_
  refine sx_iconst (p1 := 9) dX12_tellsWalker_8 rfl ?_
  refine sx_icmp_ge (p1 := 12) (tg := 35) dX12_tellsWalker_9 rfl rfl (by omega) (by omega) (fun q9 => ?_) (fun q9 => absurd q9 (by omega))
  refine sx_ldc2 (z := 31) (p1 := 38) dX12_tellsWalker_35 rfl kc_X12_299 (by decide) ?_
  refine sx_lload (p1 := 40) dX12_tellsWalker_38 rfl rfl ?_
  refine sx_lmul (p1 := 41) dX12_tellsWalker_40 rfl ?_
  refine sx_aload_n (p1 := 42) dX12_tellsWalker_41 rfl rfl ?_
  refine sx_iload_n (p1 := 43) dX12_tellsWalker_42 rfl rfl ?_
  refine sx_iconst (p1 := 44) dX12_tellsWalker_43 rfl ?_
  refine sx_callVr (p1 := 47) (As := [_, _]) (k1 := 0) (n1 := 0) dX12_tellsWalker_44 rfl rfl (c_X12_placeOf hV (by omega) (by omega)) mt_X12_placeOf ml_X12_157 (hp_c39 _) rfl rfl (Nat.le_of_ble_eq_true rfl) rfl (Nat.le_of_ble_eq_true rfl) rfl rfl (Nat.le_of_ble_eq_true rfl) (Nat.le_of_ble_eq_true rfl) ?_
  rw [e5]
  refine sx_i2lx (p1 := 48) dX12_tellsWalker_47 rfl ?_
  refine sx_ladd (p1 := 49) dX12_tellsWalker_48 rfl ?_
  refine sx_lstore (lo1 := [some _, some _, none, some _, some _, none, some _]) (p1 := 51) dX12_tellsWalker_49 rfl (by decide) rfl ?_
  refine sx_ldc2 (z := 31) (p1 := 54) dX12_tellsWalker_51 rfl kc_X12_299 (by decide) ?_
  refine sx_lload (p1 := 56) dX12_tellsWalker_54 rfl rfl ?_
  refine sx_lmul (p1 := 57) dX12_tellsWalker_56 rfl ?_
  refine sx_aload_n (p1 := 58) dX12_tellsWalker_57 rfl rfl ?_
  refine sx_iload_n (p1 := 59) dX12_tellsWalker_58 rfl rfl ?_
  refine sx_iconst (p1 := 60) dX12_tellsWalker_59 rfl ?_
  refine sx_callVr (p1 := 63) (As := [_, _]) (k1 := 0) (n1 := 0) dX12_tellsWalker_60 rfl rfl (d_X12_treads (V := mV T) rfl hD (by omega) (by omega)) mt_X12_treads ml_X12_301 (hp_c39 _) rfl rfl (Nat.le_of_ble_eq_true rfl) rfl (Nat.le_of_ble_eq_true rfl) rfl rfl (Nat.le_of_ble_eq_true rfl) (Nat.le_of_ble_eq_true rfl) ?_
  refine sx_i2lx (p1 := 64) dX12_tellsWalker_63 rfl ?_
  refine sx_ladd (p1 := 65) dX12_tellsWalker_64 rfl ?_
  refine sx_lstore (lo1 := [some _, some _, none, some _, some _, none, some _]) (p1 := 67) dX12_tellsWalker_65 rfl (by decide) rfl ?_
  refine sx_iconst (p1 := 68) dX12_tellsWalker_67 rfl ?_
  refine sx_istore (lo1 := [some _, some _, none, some _, some _, none, some _]) (p1 := 70) dX12_tellsWalker_68 rfl (by decide) rfl ?_
  refine sx_iload (p1 := 72) dX12_tellsWalker_70 rfl rfl ?_
  refine sx_iconst (p1 := 73) dX12_tellsWalker_72 rfl ?_
  refine sx_icmp_ge (p1 := 76) (tg := 99) dX12_tellsWalker_73 rfl rfl (by omega) (by omega) (fun q73 => absurd q73 (by omega)) (fun q73 => ?_)
  refine sx_ldc2 (z := 31) (p1 := 79) dX12_tellsWalker_76 rfl kc_X12_299 (by decide) ?_
  refine sx_lload (p1 := 81) dX12_tellsWalker_79 rfl rfl ?_
  refine sx_lmul (p1 := 82) dX12_tellsWalker_81 rfl ?_
  refine sx_aload_n (p1 := 83) dX12_tellsWalker_82 rfl rfl ?_
  refine sx_iconst (p1 := 84) dX12_tellsWalker_83 rfl ?_
  refine sx_iload_n (p1 := 85) dX12_tellsWalker_84 rfl rfl ?_
  refine sx_iload (p1 := 87) dX12_tellsWalker_85 rfl rfl ?_
  refine sx_callVr (p1 := 90) (As := [_, _, _]) (k1 := 0) (n1 := 0) dX12_tellsWalker_87 rfl rfl (d_X12_harm (V := mV T) rfl hD (by omega) (by omega) (by omega)) mt_X12_harm ml_X12_304 (hp_c39 _) rfl rfl (Nat.le_of_ble_eq_true rfl) rfl (Nat.le_of_ble_eq_true rfl) rfl rfl (Nat.le_of_ble_eq_true rfl) (Nat.le_of_ble_eq_true rfl) ?_
  refine sx_ladd (p1 := 91) dX12_tellsWalker_90 rfl ?_
  refine sx_lstore (lo1 := [some _, some _, none, some _, some _, none, some _]) (p1 := 93) dX12_tellsWalker_91 rfl (by decide) rfl ?_
  refine sx_iinc (lo1 := [some _, some _, none, some _, some _, none, some _]) (p1 := 96) dX12_tellsWalker_93 rfl (by decide) rfl rfl ?_
  rw [show (0 : Int) + 1 = 1 from rfl]
  refine sx_goto (p1 := 70) (tg := 70) dX12_tellsWalker_96 rfl rfl ?_
  refine sx_iload (p1 := 72) dX12_tellsWalker_70 rfl rfl ?_
  refine sx_iconst (p1 := 73) dX12_tellsWalker_72 rfl ?_
  refine sx_icmp_ge (p1 := 76) (tg := 99) dX12_tellsWalker_73 rfl rfl (by omega) (by omega) (fun q73 => absurd q73 (by omega)) (fun q73 => ?_)
  refine sx_ldc2 (z := 31) (p1 := 79) dX12_tellsWalker_76 rfl kc_X12_299 (by decide) ?_
  refine sx_lload (p1 := 81) dX12_tellsWalker_79 rfl rfl ?_
  refine sx_lmul (p1 := 82) dX12_tellsWalker_81 rfl ?_
  refine sx_aload_n (p1 := 83) dX12_tellsWalker_82 rfl rfl ?_
  refine sx_iconst (p1 := 84) dX12_tellsWalker_83 rfl ?_
  refine sx_iload_n (p1 := 85) dX12_tellsWalker_84 rfl rfl ?_
  refine sx_iload (p1 := 87) dX12_tellsWalker_85 rfl rfl ?_
  refine sx_callVr (p1 := 90) (As := [_, _, _]) (k1 := 0) (n1 := 0) dX12_tellsWalker_87 rfl rfl (d_X12_harm (V := mV T) rfl hD (by omega) (by omega) (by omega)) mt_X12_harm ml_X12_304 (hp_c39 _) rfl rfl (Nat.le_of_ble_eq_true rfl) rfl (Nat.le_of_ble_eq_true rfl) rfl rfl (Nat.le_of_ble_eq_true rfl) (Nat.le_of_ble_eq_true rfl) ?_
  refine sx_ladd (p1 := 91) dX12_tellsWalker_90 rfl ?_
  refine sx_lstore (lo1 := [some _, some _, none, some _, some _, none, some _]) (p1 := 93) dX12_tellsWalker_91 rfl (by decide) rfl ?_
  refine sx_iinc (lo1 := [some _, some _, none, some _, some _, none, some _]) (p1 := 96) dX12_tellsWalker_93 rfl (by decide) rfl rfl ?_
  rw [show (1 : Int) + 1 = 2 from rfl]
  refine sx_goto (p1 := 70) (tg := 70) dX12_tellsWalker_96 rfl rfl ?_
  refine sx_iload (p1 := 72) dX12_tellsWalker_70 rfl rfl ?_
  refine sx_iconst (p1 := 73) dX12_tellsWalker_72 rfl ?_
  refine sx_icmp_ge (p1 := 76) (tg := 99) dX12_tellsWalker_73 rfl rfl (by omega) (by omega) (fun q73 => ?_) (fun q73 => absurd q73 (by omega))
  refine sx_iconst (p1 := 100) dX12_tellsWalker_99 rfl ?_
  refine sx_istore (lo1 := [some _, some _, none, some _, some _, none, some _]) (p1 := 102) dX12_tellsWalker_100 rfl (by decide) rfl ?_
  refine sx_iload (p1 := 104) dX12_tellsWalker_102 rfl rfl ?_
  refine sx_iconst (p1 := 105) dX12_tellsWalker_104 rfl ?_
  refine sx_icmp_ge (p1 := 108) (tg := 131) dX12_tellsWalker_105 rfl rfl (by omega) (by omega) (fun q105 => absurd q105 (by omega)) (fun q105 => ?_)
  refine sx_ldc2 (z := 31) (p1 := 111) dX12_tellsWalker_108 rfl kc_X12_299 (by decide) ?_
  refine sx_lload (p1 := 113) dX12_tellsWalker_111 rfl rfl ?_
  refine sx_lmul (p1 := 114) dX12_tellsWalker_113 rfl ?_
  refine sx_aload_n (p1 := 115) dX12_tellsWalker_114 rfl rfl ?_
  refine sx_iconst (p1 := 116) dX12_tellsWalker_115 rfl ?_
  refine sx_iload_n (p1 := 117) dX12_tellsWalker_116 rfl rfl ?_
  refine sx_iload (p1 := 119) dX12_tellsWalker_117 rfl rfl ?_
  refine sx_callVr (p1 := 122) (As := [_, _, _]) (k1 := 0) (n1 := 0) dX12_tellsWalker_119 rfl rfl (d_X12_harm (V := mV T) rfl hD (by omega) (by omega) (by omega)) mt_X12_harm ml_X12_304 (hp_c39 _) rfl rfl (Nat.le_of_ble_eq_true rfl) rfl (Nat.le_of_ble_eq_true rfl) rfl rfl (Nat.le_of_ble_eq_true rfl) (Nat.le_of_ble_eq_true rfl) ?_
  refine sx_ladd (p1 := 123) dX12_tellsWalker_122 rfl ?_
  refine sx_lstore (lo1 := [some _, some _, none, some _, some _, none, some _]) (p1 := 125) dX12_tellsWalker_123 rfl (by decide) rfl ?_
  refine sx_iinc (lo1 := [some _, some _, none, some _, some _, none, some _]) (p1 := 128) dX12_tellsWalker_125 rfl (by decide) rfl rfl ?_
  rw [show (0 : Int) + 1 = 1 from rfl]
  refine sx_goto (p1 := 102) (tg := 102) dX12_tellsWalker_128 rfl rfl ?_
  refine sx_iload (p1 := 104) dX12_tellsWalker_102 rfl rfl ?_
  refine sx_iconst (p1 := 105) dX12_tellsWalker_104 rfl ?_
  refine sx_icmp_ge (p1 := 108) (tg := 131) dX12_tellsWalker_105 rfl rfl (by omega) (by omega) (fun q105 => absurd q105 (by omega)) (fun q105 => ?_)
  refine sx_ldc2 (z := 31) (p1 := 111) dX12_tellsWalker_108 rfl kc_X12_299 (by decide) ?_
  refine sx_lload (p1 := 113) dX12_tellsWalker_111 rfl rfl ?_
  refine sx_lmul (p1 := 114) dX12_tellsWalker_113 rfl ?_
  refine sx_aload_n (p1 := 115) dX12_tellsWalker_114 rfl rfl ?_
  refine sx_iconst (p1 := 116) dX12_tellsWalker_115 rfl ?_
  refine sx_iload_n (p1 := 117) dX12_tellsWalker_116 rfl rfl ?_
  refine sx_iload (p1 := 119) dX12_tellsWalker_117 rfl rfl ?_
  refine sx_callVr (p1 := 122) (As := [_, _, _]) (k1 := 0) (n1 := 0) dX12_tellsWalker_119 rfl rfl (d_X12_harm (V := mV T) rfl hD (by omega) (by omega) (by omega)) mt_X12_harm ml_X12_304 (hp_c39 _) rfl rfl (Nat.le_of_ble_eq_true rfl) rfl (Nat.le_of_ble_eq_true rfl) rfl rfl (Nat.le_of_ble_eq_true rfl) (Nat.le_of_ble_eq_true rfl) ?_
  refine sx_ladd (p1 := 123) dX12_tellsWalker_122 rfl ?_
  refine sx_lstore (lo1 := [some _, some _, none, some _, some _, none, some _]) (p1 := 125) dX12_tellsWalker_123 rfl (by decide) rfl ?_
  refine sx_iinc (lo1 := [some _, some _, none, some _, some _, none, some _]) (p1 := 128) dX12_tellsWalker_125 rfl (by decide) rfl rfl ?_
  rw [show (1 : Int) + 1 = 2 from rfl]
  refine sx_goto (p1 := 102) (tg := 102) dX12_tellsWalker_128 rfl rfl ?_
  refine sx_iload (p1 := 104) dX12_tellsWalker_102 rfl rfl ?_
  refine sx_iconst (p1 := 105) dX12_tellsWalker_104 rfl ?_
  refine sx_icmp_ge (p1 := 108) (tg := 131) dX12_tellsWalker_105 rfl rfl (by omega) (by omega) (fun q105 => ?_) (fun q105 => absurd q105 (by omega))
  refine sx_iconst (p1 := 132) dX12_tellsWalker_131 rfl ?_
  refine sx_istore (lo1 := [some _, some _, none, some _, some _, none, some _]) (p1 := 134) dX12_tellsWalker_132 rfl (by decide) rfl ?_
  refine sx_iload (p1 := 136) dX12_tellsWalker_134 rfl rfl ?_
  refine sx_iconst (p1 := 137) dX12_tellsWalker_136 rfl ?_
  refine sx_icmp_ge (p1 := 140) (tg := 162) dX12_tellsWalker_137 rfl rfl (by omega) (by omega) (fun q137 => absurd q137 (by omega)) (fun q137 => ?_)
  refine sx_ldc2 (z := 31) (p1 := 143) dX12_tellsWalker_140 rfl kc_X12_299 (by decide) ?_
  refine sx_lload (p1 := 145) dX12_tellsWalker_143 rfl rfl ?_
  refine sx_lmul (p1 := 146) dX12_tellsWalker_145 rfl ?_
  refine sx_aload_n (p1 := 147) dX12_tellsWalker_146 rfl rfl ?_
  refine sx_iload_n (p1 := 148) dX12_tellsWalker_147 rfl rfl ?_
  refine sx_iload (p1 := 150) dX12_tellsWalker_148 rfl rfl ?_
  refine sx_callVr (p1 := 153) (As := [_, _]) (k1 := 0) (n1 := 0) dX12_tellsWalker_150 rfl rfl (d_X12_all (V := mV T) rfl hD (by omega) (by omega)) mt_X12_all ml_X12_307 (hp_c39 _) rfl rfl (Nat.le_of_ble_eq_true rfl) rfl (Nat.le_of_ble_eq_true rfl) rfl rfl (Nat.le_of_ble_eq_true rfl) (Nat.le_of_ble_eq_true rfl) ?_
  refine sx_ladd (p1 := 154) dX12_tellsWalker_153 rfl ?_
  refine sx_lstore (lo1 := [some _, some _, none, some _, some _, none, some _]) (p1 := 156) dX12_tellsWalker_154 rfl (by decide) rfl ?_
  refine sx_iinc (lo1 := [some _, some _, none, some _, some _, none, some _]) (p1 := 159) dX12_tellsWalker_156 rfl (by decide) rfl rfl ?_
  rw [show (0 : Int) + 1 = 1 from rfl]
  refine sx_goto (p1 := 134) (tg := 134) dX12_tellsWalker_159 rfl rfl ?_
  refine sx_iload (p1 := 136) dX12_tellsWalker_134 rfl rfl ?_
  refine sx_iconst (p1 := 137) dX12_tellsWalker_136 rfl ?_
  refine sx_icmp_ge (p1 := 140) (tg := 162) dX12_tellsWalker_137 rfl rfl (by omega) (by omega) (fun q137 => absurd q137 (by omega)) (fun q137 => ?_)
  refine sx_ldc2 (z := 31) (p1 := 143) dX12_tellsWalker_140 rfl kc_X12_299 (by decide) ?_
  refine sx_lload (p1 := 145) dX12_tellsWalker_143 rfl rfl ?_
  refine sx_lmul (p1 := 146) dX12_tellsWalker_145 rfl ?_
  refine sx_aload_n (p1 := 147) dX12_tellsWalker_146 rfl rfl ?_
  refine sx_iload_n (p1 := 148) dX12_tellsWalker_147 rfl rfl ?_
  refine sx_iload (p1 := 150) dX12_tellsWalker_148 rfl rfl ?_
  refine sx_callVr (p1 := 153) (As := [_, _]) (k1 := 0) (n1 := 0) dX12_tellsWalker_150 rfl rfl (d_X12_all (V := mV T) rfl hD (by omega) (by omega)) mt_X12_all ml_X12_307 (hp_c39 _) rfl rfl (Nat.le_of_ble_eq_true rfl) rfl (Nat.le_of_ble_eq_true rfl) rfl rfl (Nat.le_of_ble_eq_true rfl) (Nat.le_of_ble_eq_true rfl) ?_
  refine sx_ladd (p1 := 154) dX12_tellsWalker_153 rfl ?_
  refine sx_lstore (lo1 := [some _, some _, none, some _, some _, none, some _]) (p1 := 156) dX12_tellsWalker_154 rfl (by decide) rfl ?_
  refine sx_iinc (lo1 := [some _, some _, none, some _, some _, none, some _]) (p1 := 159) dX12_tellsWalker_156 rfl (by decide) rfl rfl ?_
  rw [show (1 : Int) + 1 = 2 from rfl]
  refine sx_goto (p1 := 134) (tg := 134) dX12_tellsWalker_159 rfl rfl ?_
  refine sx_iload (p1 := 136) dX12_tellsWalker_134 rfl rfl ?_
  refine sx_iconst (p1 := 137) dX12_tellsWalker_136 rfl ?_
  refine sx_icmp_ge (p1 := 140) (tg := 162) dX12_tellsWalker_137 rfl rfl (by omega) (by omega) (fun q137 => ?_) (fun q137 => absurd q137 (by omega))
  refine sx_lload (p1 := 164) dX12_tellsWalker_162 rfl rfl ?_
  exact sx_lret dX12_tellsWalker_164 rfl (sx_rj (by rfl) (by rfl))
def rT1 (T : St) : St := sA T 53 (rO T (T.1 33).toNat (fc ((T.1 33).toNat - 1))).2
def rT4 (T : St) : St := hz (hz (hz (rT1 T) 0) 1) 2
def rT5 (T : St) : St := fw (rT4 T) (mWb (mV T) 3 2 90 99)
def rT6 (T : St) : St := si (rT5 T) 40 (mPlay (mV T) (7, 0) (mTakes (mV T)).toNat).1
theorem rT4_ok {T : St} {b : Nat} (h : okD T b) : okD (rT4 T) b ∧ mV (rT4 T) = mV T := by
  have h1 := hz_ok 0 (show okD (rT1 T) b from h)
  have h2 := hz_ok 1 h1.1
  have h3 := hz_ok 2 h2.1
  exact ⟨h3.1, h3.2.trans (h2.2.trans h1.2)⟩
theorem d0_tellsWait {X : sx_X} {S : St} {x : Int × Int} {k : Int} (h7 : -2147483648 ≤ x.1 ∧ x.1 ≤ 2147483647) (h8 : 0 ≤ x.2 ∧ x.2 ≤ 2147483647) (hk : 0 ≤ k ∧ k ≤ 2) : Ct X yX12_tellsWait cX12_tellsWait 2 (some .long) 1 0 0 [.ref 39, vI k] (hp (fw S x)) (sx_is (some (vJ (if k = 0 then x.1 else mFrac x.2 256 (k - 1)))) (hp (fw S x))) := c_X12_tellsWait (S := fw S x) h7 h8 hk
theorem d_X12_tellsWait {X : sx_X} {S : St} {V : Vw} {n a c k : Int} (hV : okV V) (hn : 0 ≤ n ∧ n ≤ 6) (hc : 0 ≤ c ∧ c ≤ 999) (hk : 0 ≤ k ∧ k ≤ 2) (hr : aWaits V n a c k = if k = 0 then (mWb V n a c 99).1 else mFrac (mPaid V n a c (mWb V n a c 99).1) 256 (k - 1)) : Ct X yX12_tellsWait cX12_tellsWait 2 (some .long) 1 0 0 [.ref 39, vI k] (hp (fw S (mWb V n a c 99))) (sx_is (some (vJ (aWaits V n a c k))) (hp (fw S (mWb V n a c 99)))) := by
  have wb := mWb_b hV hn hc a 99 (by decide)
  have h := d0_tellsWait (X := X) (S := S) (x := mWb V n a c 99) (k := k) ⟨by omega, by omega⟩ ⟨by omega, by omega⟩ hk
  rw [mWb_p, ← hr] at h
  exact h
theorem z_fw {X : sx_X} {T S : St} {b : Nat} (hv : mV T = mV S) (hQ : okQ T b) : Ct X yX12_findWait cX12_findWait 7 none 4 0 0 [.ref 39, vI 3, vI 2, vI 90] (hp T) (sx_is none (hp (fw T (mWb (mV S) 3 2 90 99)))) := by
  rw [← hv]
  exact c_X12_findWait hQ (by decide) (by decide) (by decide)
theorem z_mo {X : sx_X} {T S : St} {b : Nat} (hv : mV T = mV S) (hQ : okQ T b) : Ct X yX12_morningOf cX12_morningOf 6 (some .int) 4 0 0 [.ref 39, vI 7] (hp (fw T (mWb (mV S) 3 2 90 99))) (sx_is (some (vI (aMorn (mV S) 7))) (hp (si (fw T (mWb (mV S) 3 2 90 99)) 40 (mPlay (mV S) (7, 0) (mTakes (mV S)).toNat).1))) := by
  have h := c_X12_morningOf (X := X) (S := fw T (mWb (mV S) 3 2 90 99)) (b := b) (sd := 7) hQ
  rw [show mV (fw T (mWb (mV S) 3 2 90 99)) = mV S from hv] at h
  exact h
theorem z_f0 {X : sx_X} {T : St} {b : Nat} (hD : okD T b) : Ct X yX12_fault cX12_fault 2 (some .int) 3 0 0 [.ref 39, vI 0] (hp T) (sx_is (some (vI (rgA T).2.2.1)) (hp (si T 31 (rgG (rgA T)).1))) := by
  have h := c_X12_fault (X := X) (i := 0) hD.2.1 (by decide)
  rw [if_pos rfl, if_pos rfl, RD_g hD.1] at h
  exact h
theorem z_f1 {X : sx_X} {T : St} {b : Nat} {x : Int} (hD : okD T b) : Ct X yX12_fault cX12_fault 2 (some .int) 3 0 0 [.ref 39, vI 1] (hp (si T 31 x)) (sx_is (some (vI (rwF T))) (hp T)) := by
  have h := c_X12_fault (X := X) (S := si T 31 x) (i := 1) (show okY (si T 31 x) from hD.2.1) (by decide)
  rw [if_neg (by decide), if_pos rfl, if_neg (by decide), if_pos rfl, RD_w hD.1] at h
  exact h
set_option maxRecDepth 20000 in
theorem c_X12_digest {X : sx_X} {S T : St} {b : Nat} (hT : rdS S = T) (hY : okY S) (hD : okD T b) : Ct X yX12_digest cX12_digest 5 (some .long) 8 0 0 [.ref 39] (hp S) (sx_is (some (vJ (dgF (mV T) (fun k => cnR T b k) (rgA T).2.2.1 (rwF T) (aLoose (mV T) (fun i => T.2 54 (3 * i)) (fun i => T.2 54 (3 * i + 1)) (fun i => T.2 54 (3 * i + 2)) (T.1 39).toNat) (rO T (T.1 33).toNat (fc ((T.1 33).toNat - 1))).1 (rO T (T.1 33).toNat (fc ((T.1 33).toNat - 1))).2))) (hp (rT6 T))) := by
  have hQ := hD.2.2.1
  have hV := hQ.1
  have hW := okQ_W hQ
  have b0 : 0 ≤ T.1 32 ∧ T.1 32 ≤ 16 := hV.1
  have c0 : 0 ≤ (mV T).1 0 ∧ (mV T).1 0 ≤ 16 := hV.1
  have b1 : 0 ≤ T.1 33 ∧ T.1 33 ≤ 6 := hV.2.1
  have c1 : 0 ≤ (mV T).1 1 ∧ (mV T).1 1 ≤ 6 := hV.2.1
  have b2 : 0 ≤ T.1 34 ∧ T.1 34 ≤ 99 := hV.2.2.1
  have c2 : 0 ≤ (mV T).1 2 ∧ (mV T).1 2 ≤ 99 := hV.2.2.1
  have b3 : 0 ≤ T.2 51 1 ∧ T.2 51 1 ≤ 1 := hV.2.2.2.1
  have c3 : 0 ≤ (mV T).1 3 ∧ (mV T).1 3 ≤ 1 := hV.2.2.2.1
  have b4 : 0 ≤ T.2 51 2 ∧ T.2 51 2 ≤ 16 := hV.2.2.2.2.1
  have c4 : 0 ≤ (mV T).1 4 ∧ (mV T).1 4 ≤ 16 := hV.2.2.2.2.1
  have b5 : 0 ≤ T.2 51 3 ∧ T.2 51 3 ≤ 999 := hV.2.2.2.2.2.1
  have c5 : 0 ≤ (mV T).1 5 ∧ (mV T).1 5 ≤ 999 := hV.2.2.2.2.2.1
  have b6 : 0 ≤ T.2 51 4 ∧ T.2 51 4 ≤ 1999 := hV.2.2.2.2.2.2.1
  have c6 : 0 ≤ (mV T).1 6 ∧ (mV T).1 6 ≤ 1999 := hV.2.2.2.2.2.2.1
  have b7 : 0 ≤ T.2 51 5 ∧ T.2 51 5 ≤ 16 := hV.2.2.2.2.2.2.2.1
  have c7 : 0 ≤ (mV T).1 7 ∧ (mV T).1 7 ≤ 16 := hV.2.2.2.2.2.2.2.1
  have bK : ∀ q, 0 ≤ rK T q ∧ rK T q ≤ 3 := hV.2.2.2.2.2.2.2.2.1
  have bL : ∀ q, 0 ≤ rL T q ∧ rL T q ≤ 9 := hV.2.2.2.2.2.2.2.2.2.1
  have bW : ∀ q, 0 ≤ rW T q ∧ rW T q ≤ 9 := hV.2.2.2.2.2.2.2.2.2.2.1
  have bS : ∀ q, 0 ≤ rS T q ∧ rS T q ≤ 9 := hV.2.2.2.2.2.2.2.2.2.2.2.1
  have bH : ∀ q, 0 ≤ rH T q ∧ rH T q ≤ 1 := hV.2.2.2.2.2.2.2.2.2.2.2.2
  have n0 : (mV T).1 0 = T.1 32 := rfl
  have n1 : (mV T).1 1 = T.1 33 := rfl
  have n2 : (mV T).1 2 = T.1 34 := rfl
  have n3 : (mV T).1 3 = T.2 51 1 := rfl
  have n4 : (mV T).1 4 = T.2 51 2 := rfl
  have n5 : (mV T).1 5 = T.2 51 3 := rfl
  have n6 : (mV T).1 6 = T.2 51 4 := rfl
  have n7 : (mV T).1 7 = T.2 51 5 := rfl
  have hWT : T.1 33 = ((T.1 33).toNat : Int) := by omega
  have rb := rO_b hV (W := (T.1 33).toNat) (by omega) (fc ((T.1 33).toNat - 1))
  have rc := (rO_end hV hWT (fun _ => 0)).1
  have hT2 : rdS T = T := okD_r hD
  have hY2 : okY T := hD.2.1
  have h39 := hD.2.2.2.2.1
  have hA := hD.2.2.2.2.2
  have t3 : ∀ (hh x : Int), Rn X RX12 false cX12_digest 5 8 0 0 (some .long) 341 [some (.ref 39), some (vJ hh), none, some (vI x), none] [] (hp (rT1 T)) 0 0 (sx_is (some (vJ (dg3 (mV T) hh))) (hp (rT6 T))) := by
    intro hh x
    have o1 := hz_ok 0 (show okD (rT1 T) b from hD)
    have o2 := hz_ok 1 o1.1
    have o4 := rT4_ok hD
    have q4 : okQ (rT4 T) b := o4.1.2.2.1
    refine sx_iconst (p1 := 342) dX12_digest_341 rfl ?_
    refine sx_istore (lo1 := [some _, some _, none, some _, some _]) (p1 := 344) dX12_digest_342 rfl (by decide) rfl ?_
    refine sx_iload (p1 := 346) dX12_digest_344 rfl rfl ?_
    refine sx_iconst (p1 := 347) dX12_digest_346 rfl ?_
    refine sx_icmp_ge (p1 := 350) (tg := 370) dX12_digest_347 rfl rfl (by omega) (by omega) (fun q347 => absurd q347 (by omega)) (fun q347 => ?_)
    refine sx_ldc2 (z := 31) (p1 := 353) dX12_digest_350 rfl kc_X12_299 (by decide) ?_
    refine sx_lload_n (p1 := 354) dX12_digest_353 rfl rfl ?_
    refine sx_lmul (p1 := 355) dX12_digest_354 rfl ?_
    refine sx_aload_n (p1 := 356) dX12_digest_355 rfl rfl ?_
    refine sx_iconst (p1 := 357) dX12_digest_356 rfl ?_
    refine sx_iload (p1 := 359) dX12_digest_357 rfl rfl ?_
    refine sx_callVr (p1 := 362) (As := [_, _]) (k1 := 0) (n1 := 0) dX12_digest_359 rfl rfl (d_X12_helmets (T := rT1 T) (V := mV T) rfl (show okD (rT1 T) b from hD) (by decide)) mt_X12_helmets ml_X12_325 (hp_c39 _) rfl rfl (Nat.le_of_ble_eq_true rfl) rfl (Nat.le_of_ble_eq_true rfl) rfl rfl (Nat.le_of_ble_eq_true rfl) (Nat.le_of_ble_eq_true rfl) ?_
    refine sx_ladd (p1 := 363) dX12_digest_362 rfl ?_
    refine sx_lstore_n (lo1 := [some _, some _, none, some _, some _]) (p1 := 364) dX12_digest_363 rfl (by decide) rfl ?_
    refine sx_iinc (lo1 := [some _, some _, none, some _, some _]) (p1 := 367) dX12_digest_364 rfl (by decide) rfl rfl ?_
    rw [show (0 : Int) + 1 = 1 from rfl]
    refine sx_goto (p1 := 344) (tg := 344) dX12_digest_367 rfl rfl ?_
    refine sx_iload (p1 := 346) dX12_digest_344 rfl rfl ?_
    refine sx_iconst (p1 := 347) dX12_digest_346 rfl ?_
    refine sx_icmp_ge (p1 := 350) (tg := 370) dX12_digest_347 rfl rfl (by omega) (by omega) (fun q347 => absurd q347 (by omega)) (fun q347 => ?_)
    refine sx_ldc2 (z := 31) (p1 := 353) dX12_digest_350 rfl kc_X12_299 (by decide) ?_
    refine sx_lload_n (p1 := 354) dX12_digest_353 rfl rfl ?_
    refine sx_lmul (p1 := 355) dX12_digest_354 rfl ?_
    refine sx_aload_n (p1 := 356) dX12_digest_355 rfl rfl ?_
    refine sx_iconst (p1 := 357) dX12_digest_356 rfl ?_
    refine sx_iload (p1 := 359) dX12_digest_357 rfl rfl ?_
    refine sx_callVr (p1 := 362) (As := [_, _]) (k1 := 0) (n1 := 0) dX12_digest_359 rfl rfl (d_X12_helmets (T := hz (rT1 T) 0) (V := mV T) o1.2 o1.1 (by decide)) mt_X12_helmets ml_X12_325 (hp_c39 _) rfl rfl (Nat.le_of_ble_eq_true rfl) rfl (Nat.le_of_ble_eq_true rfl) rfl rfl (Nat.le_of_ble_eq_true rfl) (Nat.le_of_ble_eq_true rfl) ?_
    refine sx_ladd (p1 := 363) dX12_digest_362 rfl ?_
    refine sx_lstore_n (lo1 := [some _, some _, none, some _, some _]) (p1 := 364) dX12_digest_363 rfl (by decide) rfl ?_
    refine sx_iinc (lo1 := [some _, some _, none, some _, some _]) (p1 := 367) dX12_digest_364 rfl (by decide) rfl rfl ?_
    rw [show (1 : Int) + 1 = 2 from rfl]
    refine sx_goto (p1 := 344) (tg := 344) dX12_digest_367 rfl rfl ?_
    refine sx_iload (p1 := 346) dX12_digest_344 rfl rfl ?_
    refine sx_iconst (p1 := 347) dX12_digest_346 rfl ?_
    refine sx_icmp_ge (p1 := 350) (tg := 370) dX12_digest_347 rfl rfl (by omega) (by omega) (fun q347 => absurd q347 (by omega)) (fun q347 => ?_)
    refine sx_ldc2 (z := 31) (p1 := 353) dX12_digest_350 rfl kc_X12_299 (by decide) ?_
    refine sx_lload_n (p1 := 354) dX12_digest_353 rfl rfl ?_
    refine sx_lmul (p1 := 355) dX12_digest_354 rfl ?_
    refine sx_aload_n (p1 := 356) dX12_digest_355 rfl rfl ?_
    refine sx_iconst (p1 := 357) dX12_digest_356 rfl ?_
    refine sx_iload (p1 := 359) dX12_digest_357 rfl rfl ?_
    refine sx_callVr (p1 := 362) (As := [_, _]) (k1 := 0) (n1 := 0) dX12_digest_359 rfl rfl (d_X12_helmets (T := hz (hz (rT1 T) 0) 1) (V := mV T) (o2.2.trans o1.2) o2.1 (by decide)) mt_X12_helmets ml_X12_325 (hp_c39 _) rfl rfl (Nat.le_of_ble_eq_true rfl) rfl (Nat.le_of_ble_eq_true rfl) rfl rfl (Nat.le_of_ble_eq_true rfl) (Nat.le_of_ble_eq_true rfl) ?_
    refine sx_ladd (p1 := 363) dX12_digest_362 rfl ?_
    refine sx_lstore_n (lo1 := [some _, some _, none, some _, some _]) (p1 := 364) dX12_digest_363 rfl (by decide) rfl ?_
    refine sx_iinc (lo1 := [some _, some _, none, some _, some _]) (p1 := 367) dX12_digest_364 rfl (by decide) rfl rfl ?_
    rw [show (2 : Int) + 1 = 3 from rfl]
    refine sx_goto (p1 := 344) (tg := 344) dX12_digest_367 rfl rfl ?_
    refine sx_iload (p1 := 346) dX12_digest_344 rfl rfl ?_
    refine sx_iconst (p1 := 347) dX12_digest_346 rfl ?_
    refine sx_icmp_ge (p1 := 350) (tg := 370) dX12_digest_347 rfl rfl (by omega) (by omega) (fun q347 => ?_) (fun q347 => absurd q347 (by omega))
    refine sx_aload_n (p1 := 371) dX12_digest_370 rfl rfl ?_
    refine sx_iconst (p1 := 372) dX12_digest_371 rfl ?_
    refine sx_iconst (p1 := 373) dX12_digest_372 rfl ?_
    refine sx_bipush (p1 := 375) dX12_digest_373 rfl (by decide) ?_
    refine sx_callVn (p1 := 378) (As := [_, _, _]) (k1 := 0) (n1 := 0) dX12_digest_375 rfl rfl (z_fw o4.2 q4) mt_X12_findWait ml_X12_258 (hp_c39 _) rfl rfl (Nat.le_of_ble_eq_true rfl) rfl (Nat.le_of_ble_eq_true rfl) rfl rfl (Nat.le_of_ble_eq_true rfl) (Nat.le_of_ble_eq_true rfl) ?_
    refine sx_iconst (p1 := 379) dX12_digest_378 rfl ?_
    refine sx_istore (lo1 := [some _, some _, none, some _, some _]) (p1 := 381) dX12_digest_379 rfl (by decide) rfl ?_
    refine sx_iload (p1 := 383) dX12_digest_381 rfl rfl ?_
    refine sx_iconst (p1 := 384) dX12_digest_383 rfl ?_
    refine sx_icmp_ge (p1 := 387) (tg := 406) dX12_digest_384 rfl rfl (by omega) (by omega) (fun q384 => absurd q384 (by omega)) (fun q384 => ?_)
    refine sx_ldc2 (z := 31) (p1 := 390) dX12_digest_387 rfl kc_X12_299 (by decide) ?_
    refine sx_lload_n (p1 := 391) dX12_digest_390 rfl rfl ?_
    refine sx_lmul (p1 := 392) dX12_digest_391 rfl ?_
    refine sx_aload_n (p1 := 393) dX12_digest_392 rfl rfl ?_
    refine sx_iload (p1 := 395) dX12_digest_393 rfl rfl ?_
    refine sx_callVr (p1 := 398) (As := [_]) (k1 := 0) (n1 := 0) dX12_digest_395 rfl rfl (d_X12_tellsWait (S := rT4 T) hV (by decide) (by decide) (by decide) rfl) mt_X12_tellsWait ml_X12_262 (hp_c39 _) rfl rfl (Nat.le_of_ble_eq_true rfl) rfl (Nat.le_of_ble_eq_true rfl) rfl rfl (Nat.le_of_ble_eq_true rfl) (Nat.le_of_ble_eq_true rfl) ?_
    refine sx_ladd (p1 := 399) dX12_digest_398 rfl ?_
    refine sx_lstore_n (lo1 := [some _, some _, none, some _, some _]) (p1 := 400) dX12_digest_399 rfl (by decide) rfl ?_
    refine sx_iinc (lo1 := [some _, some _, none, some _, some _]) (p1 := 403) dX12_digest_400 rfl (by decide) rfl rfl ?_
    rw [show (0 : Int) + 1 = 1 from rfl]
    refine sx_goto (p1 := 381) (tg := 381) dX12_digest_403 rfl rfl ?_
    refine sx_iload (p1 := 383) dX12_digest_381 rfl rfl ?_
    refine sx_iconst (p1 := 384) dX12_digest_383 rfl ?_
    refine sx_icmp_ge (p1 := 387) (tg := 406) dX12_digest_384 rfl rfl (by omega) (by omega) (fun q384 => absurd q384 (by omega)) (fun q384 => ?_)
    refine sx_ldc2 (z := 31) (p1 := 390) dX12_digest_387 rfl kc_X12_299 (by decide) ?_
    refine sx_lload_n (p1 := 391) dX12_digest_390 rfl rfl ?_
    refine sx_lmul (p1 := 392) dX12_digest_391 rfl ?_
    refine sx_aload_n (p1 := 393) dX12_digest_392 rfl rfl ?_
    refine sx_iload (p1 := 395) dX12_digest_393 rfl rfl ?_
    refine sx_callVr (p1 := 398) (As := [_]) (k1 := 0) (n1 := 0) dX12_digest_395 rfl rfl (d_X12_tellsWait (S := rT4 T) hV (by decide) (by decide) (by decide) rfl) mt_X12_tellsWait ml_X12_262 (hp_c39 _) rfl rfl (Nat.le_of_ble_eq_true rfl) rfl (Nat.le_of_ble_eq_true rfl) rfl rfl (Nat.le_of_ble_eq_true rfl) (Nat.le_of_ble_eq_true rfl) ?_
    refine sx_ladd (p1 := 399) dX12_digest_398 rfl ?_
    refine sx_lstore_n (lo1 := [some _, some _, none, some _, some _]) (p1 := 400) dX12_digest_399 rfl (by decide) rfl ?_
    refine sx_iinc (lo1 := [some _, some _, none, some _, some _]) (p1 := 403) dX12_digest_400 rfl (by decide) rfl rfl ?_
    rw [show (1 : Int) + 1 = 2 from rfl]
    refine sx_goto (p1 := 381) (tg := 381) dX12_digest_403 rfl rfl ?_
    refine sx_iload (p1 := 383) dX12_digest_381 rfl rfl ?_
    refine sx_iconst (p1 := 384) dX12_digest_383 rfl ?_
    refine sx_icmp_ge (p1 := 387) (tg := 406) dX12_digest_384 rfl rfl (by omega) (by omega) (fun q384 => absurd q384 (by omega)) (fun q384 => ?_)
    refine sx_ldc2 (z := 31) (p1 := 390) dX12_digest_387 rfl kc_X12_299 (by decide) ?_
    refine sx_lload_n (p1 := 391) dX12_digest_390 rfl rfl ?_
    refine sx_lmul (p1 := 392) dX12_digest_391 rfl ?_
    refine sx_aload_n (p1 := 393) dX12_digest_392 rfl rfl ?_
    refine sx_iload (p1 := 395) dX12_digest_393 rfl rfl ?_
    refine sx_callVr (p1 := 398) (As := [_]) (k1 := 0) (n1 := 0) dX12_digest_395 rfl rfl (d_X12_tellsWait (S := rT4 T) hV (by decide) (by decide) (by decide) rfl) mt_X12_tellsWait ml_X12_262 (hp_c39 _) rfl rfl (Nat.le_of_ble_eq_true rfl) rfl (Nat.le_of_ble_eq_true rfl) rfl rfl (Nat.le_of_ble_eq_true rfl) (Nat.le_of_ble_eq_true rfl) ?_
    refine sx_ladd (p1 := 399) dX12_digest_398 rfl ?_
    refine sx_lstore_n (lo1 := [some _, some _, none, some _, some _]) (p1 := 400) dX12_digest_399 rfl (by decide) rfl ?_
    refine sx_iinc (lo1 := [some _, some _, none, some _, some _]) (p1 := 403) dX12_digest_400 rfl (by decide) rfl rfl ?_
    rw [show (2 : Int) + 1 = 3 from rfl]
    refine sx_goto (p1 := 381) (tg := 381) dX12_digest_403 rfl rfl ?_
    refine sx_iload (p1 := 383) dX12_digest_381 rfl rfl ?_
    refine sx_iconst (p1 := 384) dX12_digest_383 rfl ?_
    refine sx_icmp_ge (p1 := 387) (tg := 406) dX12_digest_384 rfl rfl (by omega) (by omega) (fun q384 => ?_) (fun q384 => absurd q384 (by omega))
    refine sx_iconst (p1 := 407) dX12_digest_406 rfl ?_
    refine sx_istore (lo1 := [some _, some _, none, some _, some _]) (p1 := 409) dX12_digest_407 rfl (by decide) rfl ?_
    refine sx_iload (p1 := 411) dX12_digest_409 rfl rfl ?_
    refine sx_iconst (p1 := 412) dX12_digest_411 rfl ?_
    refine sx_icmp_ge (p1 := 415) (tg := 436) dX12_digest_412 rfl rfl (by omega) (by omega) (fun q412 => absurd q412 (by omega)) (fun q412 => ?_)
    refine sx_ldc2 (z := 31) (p1 := 418) dX12_digest_415 rfl kc_X12_299 (by decide) ?_
    refine sx_lload_n (p1 := 419) dX12_digest_418 rfl rfl ?_
    refine sx_lmul (p1 := 420) dX12_digest_419 rfl ?_
    refine sx_aload_n (p1 := 421) dX12_digest_420 rfl rfl ?_
    refine sx_iconst (p1 := 422) dX12_digest_421 rfl ?_
    refine sx_iconst (p1 := 423) dX12_digest_422 rfl ?_
    refine sx_iload (p1 := 425) dX12_digest_423 rfl rfl ?_
    refine sx_callVr (p1 := 428) (As := [_, _, _]) (k1 := 0) (n1 := 0) dX12_digest_425 rfl rfl (d_X12_foot (T := rT5 T) (V := mV T) o4.2 (show okD (rT5 T) b from o4.1) (by decide) (by decide) (by decide)) mt_X12_foot ml_X12_327 (hp_c39 _) rfl rfl (Nat.le_of_ble_eq_true rfl) rfl (Nat.le_of_ble_eq_true rfl) rfl rfl (Nat.le_of_ble_eq_true rfl) (Nat.le_of_ble_eq_true rfl) ?_
    refine sx_ladd (p1 := 429) dX12_digest_428 rfl ?_
    refine sx_lstore_n (lo1 := [some _, some _, none, some _, some _]) (p1 := 430) dX12_digest_429 rfl (by decide) rfl ?_
    refine sx_iinc (lo1 := [some _, some _, none, some _, some _]) (p1 := 433) dX12_digest_430 rfl (by decide) rfl rfl ?_
    rw [show (0 : Int) + 1 = 1 from rfl]
    refine sx_goto (p1 := 409) (tg := 409) dX12_digest_433 rfl rfl ?_
    refine sx_iload (p1 := 411) dX12_digest_409 rfl rfl ?_
    refine sx_iconst (p1 := 412) dX12_digest_411 rfl ?_
    refine sx_icmp_ge (p1 := 415) (tg := 436) dX12_digest_412 rfl rfl (by omega) (by omega) (fun q412 => absurd q412 (by omega)) (fun q412 => ?_)
    refine sx_ldc2 (z := 31) (p1 := 418) dX12_digest_415 rfl kc_X12_299 (by decide) ?_
    refine sx_lload_n (p1 := 419) dX12_digest_418 rfl rfl ?_
    refine sx_lmul (p1 := 420) dX12_digest_419 rfl ?_
    refine sx_aload_n (p1 := 421) dX12_digest_420 rfl rfl ?_
    refine sx_iconst (p1 := 422) dX12_digest_421 rfl ?_
    refine sx_iconst (p1 := 423) dX12_digest_422 rfl ?_
    refine sx_iload (p1 := 425) dX12_digest_423 rfl rfl ?_
    refine sx_callVr (p1 := 428) (As := [_, _, _]) (k1 := 0) (n1 := 0) dX12_digest_425 rfl rfl (d_X12_foot (T := rT5 T) (V := mV T) o4.2 (show okD (rT5 T) b from o4.1) (by decide) (by decide) (by decide)) mt_X12_foot ml_X12_327 (hp_c39 _) rfl rfl (Nat.le_of_ble_eq_true rfl) rfl (Nat.le_of_ble_eq_true rfl) rfl rfl (Nat.le_of_ble_eq_true rfl) (Nat.le_of_ble_eq_true rfl) ?_
    refine sx_ladd (p1 := 429) dX12_digest_428 rfl ?_
    refine sx_lstore_n (lo1 := [some _, some _, none, some _, some _]) (p1 := 430) dX12_digest_429 rfl (by decide) rfl ?_
    refine sx_iinc (lo1 := [some _, some _, none, some _, some _]) (p1 := 433) dX12_digest_430 rfl (by decide) rfl rfl ?_
    rw [show (1 : Int) + 1 = 2 from rfl]
    refine sx_goto (p1 := 409) (tg := 409) dX12_digest_433 rfl rfl ?_
    refine sx_iload (p1 := 411) dX12_digest_409 rfl rfl ?_
    refine sx_iconst (p1 := 412) dX12_digest_411 rfl ?_
    refine sx_icmp_ge (p1 := 415) (tg := 436) dX12_digest_412 rfl rfl (by omega) (by omega) (fun q412 => ?_) (fun q412 => absurd q412 (by omega))
    refine sx_ldc2 (z := 31) (p1 := 439) dX12_digest_436 rfl kc_X12_299 (by decide) ?_
    refine sx_lload_n (p1 := 440) dX12_digest_439 rfl rfl ?_
    refine sx_lmul (p1 := 441) dX12_digest_440 rfl ?_
    refine sx_aload_n (p1 := 442) dX12_digest_441 rfl rfl ?_
    refine sx_bipush (p1 := 444) dX12_digest_442 rfl (by decide) ?_
    refine sx_callVr (p1 := 447) (As := [_]) (k1 := 0) (n1 := 0) dX12_digest_444 rfl rfl (z_mo o4.2 q4) mt_X12_morningOf ml_X12_296 (hp_c39 _) rfl rfl (Nat.le_of_ble_eq_true rfl) rfl (Nat.le_of_ble_eq_true rfl) rfl rfl (Nat.le_of_ble_eq_true rfl) (Nat.le_of_ble_eq_true rfl) ?_
    refine sx_i2lx (p1 := 448) dX12_digest_447 rfl ?_
    refine sx_ladd (p1 := 449) dX12_digest_448 rfl ?_
    exact sx_lret dX12_digest_449 rfl (sx_rj (by rfl) (by rfl))
  have tB : ∀ (hh : Int), Rn X RX12 false cX12_digest 5 8 0 0 (some .long) 309 [some (.ref 39), some (vJ hh), none, some (vI (rO T (T.1 33).toNat (fc ((T.1 33).toNat - 1))).1), none] [] (hp (rT1 T)) 0 0 (sx_is (some (vJ (dg3 (mV T) (mx (mx hh (mFrac (rO T (T.1 33).toNat (fc ((T.1 33).toNat - 1))).1 256 0)) (mFrac (rO T (T.1 33).toNat (fc ((T.1 33).toNat - 1))).1 256 1))))) (hp (rT6 T))) := by
    intro hh
    refine sx_iconst (p1 := 310) dX12_digest_309 rfl ?_
    refine sx_istore (lo1 := [some _, some _, none, some _, some _]) (p1 := 312) dX12_digest_310 rfl (by decide) rfl ?_
    refine sx_iload (p1 := 314) dX12_digest_312 rfl rfl ?_
    refine sx_iconst (p1 := 315) dX12_digest_314 rfl ?_
    refine sx_icmp_ge (p1 := 318) (tg := 341) dX12_digest_315 rfl rfl (by omega) (by omega) (fun q315 => absurd q315 (by omega)) (fun q315 => ?_)
    refine sx_ldc2 (z := 31) (p1 := 321) dX12_digest_318 rfl kc_X12_299 (by decide) ?_
    refine sx_lload_n (p1 := 322) dX12_digest_321 rfl rfl ?_
    refine sx_lmul (p1 := 323) dX12_digest_322 rfl ?_
    refine sx_iload_n (p1 := 324) dX12_digest_323 rfl rfl ?_
    refine sx_i2l (p1 := 325) dX12_digest_324 rfl (by omega) ?_
    refine sx_ldc2 (z := 256) (p1 := 328) dX12_digest_325 rfl kc_X12_195 (by decide) ?_
    refine sx_iload (p1 := 330) dX12_digest_328 rfl rfl ?_
    refine sx_callSr (p1 := 333) (As := [_, _, _]) (k1 := 0) (n1 := 0) dX12_digest_330 rfl rfl (c_X12_part (by omega) (by omega) (by omega)) mt_X12_part ml_X12_197 (Nat.le_of_ble_eq_true rfl) rfl (Nat.le_of_ble_eq_true rfl) rfl rfl (Nat.le_of_ble_eq_true rfl) (Nat.le_of_ble_eq_true rfl) ?_
    refine sx_ladd (p1 := 334) dX12_digest_333 rfl ?_
    refine sx_lstore_n (lo1 := [some _, some _, none, some _, some _]) (p1 := 335) dX12_digest_334 rfl (by decide) rfl ?_
    refine sx_iinc (lo1 := [some _, some _, none, some _, some _]) (p1 := 338) dX12_digest_335 rfl (by decide) rfl rfl ?_
    rw [show (0 : Int) + 1 = 1 from rfl]
    refine sx_goto (p1 := 312) (tg := 312) dX12_digest_338 rfl rfl ?_
    refine sx_iload (p1 := 314) dX12_digest_312 rfl rfl ?_
    refine sx_iconst (p1 := 315) dX12_digest_314 rfl ?_
    refine sx_icmp_ge (p1 := 318) (tg := 341) dX12_digest_315 rfl rfl (by omega) (by omega) (fun q315 => absurd q315 (by omega)) (fun q315 => ?_)
    refine sx_ldc2 (z := 31) (p1 := 321) dX12_digest_318 rfl kc_X12_299 (by decide) ?_
    refine sx_lload_n (p1 := 322) dX12_digest_321 rfl rfl ?_
    refine sx_lmul (p1 := 323) dX12_digest_322 rfl ?_
    refine sx_iload_n (p1 := 324) dX12_digest_323 rfl rfl ?_
    refine sx_i2l (p1 := 325) dX12_digest_324 rfl (by omega) ?_
    refine sx_ldc2 (z := 256) (p1 := 328) dX12_digest_325 rfl kc_X12_195 (by decide) ?_
    refine sx_iload (p1 := 330) dX12_digest_328 rfl rfl ?_
    refine sx_callSr (p1 := 333) (As := [_, _, _]) (k1 := 0) (n1 := 0) dX12_digest_330 rfl rfl (c_X12_part (by omega) (by omega) (by omega)) mt_X12_part ml_X12_197 (Nat.le_of_ble_eq_true rfl) rfl (Nat.le_of_ble_eq_true rfl) rfl rfl (Nat.le_of_ble_eq_true rfl) (Nat.le_of_ble_eq_true rfl) ?_
    refine sx_ladd (p1 := 334) dX12_digest_333 rfl ?_
    refine sx_lstore_n (lo1 := [some _, some _, none, some _, some _]) (p1 := 335) dX12_digest_334 rfl (by decide) rfl ?_
    refine sx_iinc (lo1 := [some _, some _, none, some _, some _]) (p1 := 338) dX12_digest_335 rfl (by decide) rfl rfl ?_
    rw [show (1 : Int) + 1 = 2 from rfl]
    refine sx_goto (p1 := 312) (tg := 312) dX12_digest_338 rfl rfl ?_
    refine sx_iload (p1 := 314) dX12_digest_312 rfl rfl ?_
    refine sx_iconst (p1 := 315) dX12_digest_314 rfl ?_
    refine sx_icmp_ge (p1 := 318) (tg := 341) dX12_digest_315 rfl rfl (by omega) (by omega) (fun q315 => ?_) (fun q315 => absurd q315 (by omega))
    refine sx_drop [true, true, false, true, false] (lo1 := [some _, some _, none, some _, none]) rfl ?_
    exact t3 _ _
  have tA1 : ∀ (hh : Int), Rn X RX12 false cX12_digest 5 8 0 0 (some .long) 269 [some (.ref 39), some (vJ hh), none, some (vI (rO T (T.1 33).toNat (fc ((T.1 33).toNat - 1))).1), some (vI 1)] [] (hp (rT1 T)) 0 0 (sx_is (some (vJ (dg3 (mV T) (mx (mx (mx (hh) (i3 (aOrd (mV T) (rO T (T.1 33).toNat (fc ((T.1 33).toNat - 1))).2 1))) (mFrac (rO T (T.1 33).toNat (fc ((T.1 33).toNat - 1))).1 256 0)) (mFrac (rO T (T.1 33).toNat (fc ((T.1 33).toNat - 1))).1 256 1))))) (hp (rT6 T))) := by
    intro hh
    refine sx_iload (p1 := 271) dX12_digest_269 rfl rfl ?_
    refine sx_iconst (p1 := 272) dX12_digest_271 rfl ?_
    refine sx_icmp_ge (p1 := 275) (tg := 309) dX12_digest_272 rfl rfl (by omega) (by omega) (fun q272 => absurd q272 (by omega)) (fun q272 => ?_)
    refine sx_ldc2 (z := 31) (p1 := 278) dX12_digest_275 rfl kc_X12_299 (by decide) ?_
    refine sx_lload_n (p1 := 279) dX12_digest_278 rfl rfl ?_
    refine sx_lmul (p1 := 280) dX12_digest_279 rfl ?_
    refine sx_iload (p1 := 282) dX12_digest_280 rfl rfl ?_
    refine sx_aload_n (p1 := 283) dX12_digest_282 rfl rfl ?_
    refine sx_get (v := vI (T.1 33)) (p1 := 286) dX12_digest_283 rfl fl_X12_106 (hp_c39 _) rfl ?_
    refine sx_icmp_ge (p1 := 289) (tg := 299) dX12_digest_286 rfl rfl (by omega) (by omega) (fun q286 => ?_) (fun q286 => ?_)
    · have eo : (-1 : Int) = aOrd (mV T) (rO T (T.1 33).toNat (fc ((T.1 33).toNat - 1))).2 1 := (if_neg (show ¬ (1 : Int) < T.1 33 by omega)).symm
      refine sx_iconst (p1 := 300) dX12_digest_299 rfl ?_
      rw [eo]
      refine sx_i2lx (p1 := 301) dX12_digest_300 rfl ?_
      refine sx_ladd (p1 := 302) dX12_digest_301 rfl ?_
      refine sx_lstore_n (lo1 := [some _, some _, none, some _, some _]) (p1 := 303) dX12_digest_302 rfl (by decide) rfl ?_
      refine sx_iinc (lo1 := [some _, some _, none, some _, some _]) (p1 := 306) dX12_digest_303 rfl (by decide) rfl rfl ?_
      rw [show (1 : Int) + 1 = 2 from rfl]
      refine sx_goto (p1 := 269) (tg := 269) dX12_digest_306 rfl rfl ?_
      refine sx_iload (p1 := 271) dX12_digest_269 rfl rfl ?_
      refine sx_iconst (p1 := 272) dX12_digest_271 rfl ?_
      refine sx_icmp_ge (p1 := 275) (tg := 309) dX12_digest_272 rfl rfl (by omega) (by omega) (fun q272 => ?_) (fun q272 => absurd q272 (by omega))
      refine sx_drop [true, true, false, true, false] (lo1 := [some _, some _, none, some _, none]) rfl ?_
      exact tB _
    · have eo : (rO T (T.1 33).toNat (fc ((T.1 33).toNat - 1))).2 1 = aOrd (mV T) (rO T (T.1 33).toNat (fc ((T.1 33).toNat - 1))).2 1 := (if_pos (show (1 : Int) < T.1 33 by omega)).symm
      refine sx_aload_n (p1 := 290) dX12_digest_289 rfl rfl ?_
      refine sx_get (p1 := 293) dX12_digest_290 rfl fl_X12_50 (hp_c39 _) rfl ?_
      refine sx_iload (p1 := 295) dX12_digest_293 rfl rfl ?_
      refine sx_iald (g := (rO T (T.1 33).toNat (fc ((T.1 33).toNat - 1))).2) (p1 := 296) dX12_digest_295 rfl (hp_c53 _) (by omega) (by decide) ?_
      rw [show Int.toNat 1 = 1 from rfl]
      refine sx_goto (p1 := 300) (tg := 300) dX12_digest_296 rfl rfl ?_
      rw [eo]
      refine sx_i2lx (p1 := 301) dX12_digest_300 rfl ?_
      refine sx_ladd (p1 := 302) dX12_digest_301 rfl ?_
      refine sx_lstore_n (lo1 := [some _, some _, none, some _, some _]) (p1 := 303) dX12_digest_302 rfl (by decide) rfl ?_
      refine sx_iinc (lo1 := [some _, some _, none, some _, some _]) (p1 := 306) dX12_digest_303 rfl (by decide) rfl rfl ?_
      rw [show (1 : Int) + 1 = 2 from rfl]
      refine sx_goto (p1 := 269) (tg := 269) dX12_digest_306 rfl rfl ?_
      refine sx_iload (p1 := 271) dX12_digest_269 rfl rfl ?_
      refine sx_iconst (p1 := 272) dX12_digest_271 rfl ?_
      refine sx_icmp_ge (p1 := 275) (tg := 309) dX12_digest_272 rfl rfl (by omega) (by omega) (fun q272 => ?_) (fun q272 => absurd q272 (by omega))
      refine sx_drop [true, true, false, true, false] (lo1 := [some _, some _, none, some _, none]) rfl ?_
      exact tB _
  have tA0 : ∀ (hh : Int), Rn X RX12 false cX12_digest 5 8 0 0 (some .long) 269 [some (.ref 39), some (vJ hh), none, some (vI (rO T (T.1 33).toNat (fc ((T.1 33).toNat - 1))).1), some (vI 0)] [] (hp (rT1 T)) 0 0 (sx_is (some (vJ (dg3 (mV T) (mx (mx (mx (mx (hh) (i3 (aOrd (mV T) (rO T (T.1 33).toNat (fc ((T.1 33).toNat - 1))).2 0))) (i3 (aOrd (mV T) (rO T (T.1 33).toNat (fc ((T.1 33).toNat - 1))).2 1))) (mFrac (rO T (T.1 33).toNat (fc ((T.1 33).toNat - 1))).1 256 0)) (mFrac (rO T (T.1 33).toNat (fc ((T.1 33).toNat - 1))).1 256 1))))) (hp (rT6 T))) := by
    intro hh
    refine sx_iload (p1 := 271) dX12_digest_269 rfl rfl ?_
    refine sx_iconst (p1 := 272) dX12_digest_271 rfl ?_
    refine sx_icmp_ge (p1 := 275) (tg := 309) dX12_digest_272 rfl rfl (by omega) (by omega) (fun q272 => absurd q272 (by omega)) (fun q272 => ?_)
    refine sx_ldc2 (z := 31) (p1 := 278) dX12_digest_275 rfl kc_X12_299 (by decide) ?_
    refine sx_lload_n (p1 := 279) dX12_digest_278 rfl rfl ?_
    refine sx_lmul (p1 := 280) dX12_digest_279 rfl ?_
    refine sx_iload (p1 := 282) dX12_digest_280 rfl rfl ?_
    refine sx_aload_n (p1 := 283) dX12_digest_282 rfl rfl ?_
    refine sx_get (v := vI (T.1 33)) (p1 := 286) dX12_digest_283 rfl fl_X12_106 (hp_c39 _) rfl ?_
    refine sx_icmp_ge (p1 := 289) (tg := 299) dX12_digest_286 rfl rfl (by omega) (by omega) (fun q286 => ?_) (fun q286 => ?_)
    · have eo : (-1 : Int) = aOrd (mV T) (rO T (T.1 33).toNat (fc ((T.1 33).toNat - 1))).2 0 := (if_neg (show ¬ (0 : Int) < T.1 33 by omega)).symm
      refine sx_iconst (p1 := 300) dX12_digest_299 rfl ?_
      rw [eo]
      refine sx_i2lx (p1 := 301) dX12_digest_300 rfl ?_
      refine sx_ladd (p1 := 302) dX12_digest_301 rfl ?_
      refine sx_lstore_n (lo1 := [some _, some _, none, some _, some _]) (p1 := 303) dX12_digest_302 rfl (by decide) rfl ?_
      refine sx_iinc (lo1 := [some _, some _, none, some _, some _]) (p1 := 306) dX12_digest_303 rfl (by decide) rfl rfl ?_
      rw [show (0 : Int) + 1 = 1 from rfl]
      refine sx_goto (p1 := 269) (tg := 269) dX12_digest_306 rfl rfl ?_
      exact tA1 _
    · have eo : (rO T (T.1 33).toNat (fc ((T.1 33).toNat - 1))).2 0 = aOrd (mV T) (rO T (T.1 33).toNat (fc ((T.1 33).toNat - 1))).2 0 := (if_pos (show (0 : Int) < T.1 33 by omega)).symm
      refine sx_aload_n (p1 := 290) dX12_digest_289 rfl rfl ?_
      refine sx_get (p1 := 293) dX12_digest_290 rfl fl_X12_50 (hp_c39 _) rfl ?_
      refine sx_iload (p1 := 295) dX12_digest_293 rfl rfl ?_
      refine sx_iald (g := (rO T (T.1 33).toNat (fc ((T.1 33).toNat - 1))).2) (p1 := 296) dX12_digest_295 rfl (hp_c53 _) (by omega) (by decide) ?_
      rw [show Int.toNat 0 = 0 from rfl]
      refine sx_goto (p1 := 300) (tg := 300) dX12_digest_296 rfl rfl ?_
      rw [eo]
      refine sx_i2lx (p1 := 301) dX12_digest_300 rfl ?_
      refine sx_ladd (p1 := 302) dX12_digest_301 rfl ?_
      refine sx_lstore_n (lo1 := [some _, some _, none, some _, some _]) (p1 := 303) dX12_digest_302 rfl (by decide) rfl ?_
      refine sx_iinc (lo1 := [some _, some _, none, some _, some _]) (p1 := 306) dX12_digest_303 rfl (by decide) rfl rfl ?_
      rw [show (0 : Int) + 1 = 1 from rfl]
      refine sx_goto (p1 := 269) (tg := 269) dX12_digest_306 rfl rfl ?_
      exact tA1 _
  have tO : ∀ (hh : Int), Rn X RX12 false cX12_digest 5 8 0 0 (some .long) 266 [some (.ref 39), some (vJ hh), none, some (vI (rO T (T.1 33).toNat (fc ((T.1 33).toNat - 1))).1), none] [] (hp (rT1 T)) 0 0 (sx_is (some (vJ (dg3 (mV T) (dgO (mV T) (rO T (T.1 33).toNat (fc ((T.1 33).toNat - 1))).1 (rO T (T.1 33).toNat (fc ((T.1 33).toNat - 1))).2 hh)))) (hp (rT6 T))) := by
    intro hh
    refine sx_iconst (p1 := 267) dX12_digest_266 rfl ?_
    refine sx_istore (lo1 := [some _, some _, none, some _, some _]) (p1 := 269) dX12_digest_267 rfl (by decide) rfl ?_
    exact tA0 _
  have tG : ∀ (hh : Int), Rn X RX12 false cX12_digest 5 8 0 0 (some .long) 171 [some (.ref 39), some (vJ hh), none, none, none] [] (hp T) 0 0 (sx_is (some (vJ (dg3 (mV T) (dgO (mV T) (rO T (T.1 33).toNat (fc ((T.1 33).toNat - 1))).1 (rO T (T.1 33).toNat (fc ((T.1 33).toNat - 1))).2 (dg2 (mV T) hh))))) (hp (rT6 T))) := by
    intro hh
    refine sx_iconst (p1 := 172) dX12_digest_171 rfl ?_
    refine sx_istore_n (lo1 := [some _, some _, none, some _, none]) (p1 := 173) dX12_digest_172 rfl (by decide) rfl ?_
    refine sx_iload_n (p1 := 174) dX12_digest_173 rfl rfl ?_
    refine sx_iconst (p1 := 175) dX12_digest_174 rfl ?_
    refine sx_icmp_ge (p1 := 178) (tg := 197) dX12_digest_175 rfl rfl (by omega) (by omega) (fun q175 => absurd q175 (by omega)) (fun q175 => ?_)
    refine sx_ldc2 (z := 31) (p1 := 181) dX12_digest_178 rfl kc_X12_299 (by decide) ?_
    refine sx_lload_n (p1 := 182) dX12_digest_181 rfl rfl ?_
    refine sx_lmul (p1 := 183) dX12_digest_182 rfl ?_
    refine sx_aload_n (p1 := 184) dX12_digest_183 rfl rfl ?_
    refine sx_iconst (p1 := 185) dX12_digest_184 rfl ?_
    refine sx_iload_n (p1 := 186) dX12_digest_185 rfl rfl ?_
    refine sx_callVr (p1 := 189) (As := [_, _]) (k1 := 0) (n1 := 0) dX12_digest_186 rfl rfl (d_X12_all (V := mV T) rfl hD (by omega) (by omega)) mt_X12_all ml_X12_307 (hp_c39 _) rfl rfl (Nat.le_of_ble_eq_true rfl) rfl (Nat.le_of_ble_eq_true rfl) rfl rfl (Nat.le_of_ble_eq_true rfl) (Nat.le_of_ble_eq_true rfl) ?_
    refine sx_ladd (p1 := 190) dX12_digest_189 rfl ?_
    refine sx_lstore_n (lo1 := [some _, some _, none, some _, none]) (p1 := 191) dX12_digest_190 rfl (by decide) rfl ?_
    refine sx_iinc (lo1 := [some _, some _, none, some _, none]) (p1 := 194) dX12_digest_191 rfl (by decide) rfl rfl ?_
    rw [show (0 : Int) + 1 = 1 from rfl]
    refine sx_goto (p1 := 173) (tg := 173) dX12_digest_194 rfl rfl ?_
    refine sx_iload_n (p1 := 174) dX12_digest_173 rfl rfl ?_
    refine sx_iconst (p1 := 175) dX12_digest_174 rfl ?_
    refine sx_icmp_ge (p1 := 178) (tg := 197) dX12_digest_175 rfl rfl (by omega) (by omega) (fun q175 => absurd q175 (by omega)) (fun q175 => ?_)
    refine sx_ldc2 (z := 31) (p1 := 181) dX12_digest_178 rfl kc_X12_299 (by decide) ?_
    refine sx_lload_n (p1 := 182) dX12_digest_181 rfl rfl ?_
    refine sx_lmul (p1 := 183) dX12_digest_182 rfl ?_
    refine sx_aload_n (p1 := 184) dX12_digest_183 rfl rfl ?_
    refine sx_iconst (p1 := 185) dX12_digest_184 rfl ?_
    refine sx_iload_n (p1 := 186) dX12_digest_185 rfl rfl ?_
    refine sx_callVr (p1 := 189) (As := [_, _]) (k1 := 0) (n1 := 0) dX12_digest_186 rfl rfl (d_X12_all (V := mV T) rfl hD (by omega) (by omega)) mt_X12_all ml_X12_307 (hp_c39 _) rfl rfl (Nat.le_of_ble_eq_true rfl) rfl (Nat.le_of_ble_eq_true rfl) rfl rfl (Nat.le_of_ble_eq_true rfl) (Nat.le_of_ble_eq_true rfl) ?_
    refine sx_ladd (p1 := 190) dX12_digest_189 rfl ?_
    refine sx_lstore_n (lo1 := [some _, some _, none, some _, none]) (p1 := 191) dX12_digest_190 rfl (by decide) rfl ?_
    refine sx_iinc (lo1 := [some _, some _, none, some _, none]) (p1 := 194) dX12_digest_191 rfl (by decide) rfl rfl ?_
    rw [show (1 : Int) + 1 = 2 from rfl]
    refine sx_goto (p1 := 173) (tg := 173) dX12_digest_194 rfl rfl ?_
    refine sx_iload_n (p1 := 174) dX12_digest_173 rfl rfl ?_
    refine sx_iconst (p1 := 175) dX12_digest_174 rfl ?_
    refine sx_icmp_ge (p1 := 178) (tg := 197) dX12_digest_175 rfl rfl (by omega) (by omega) (fun q175 => ?_) (fun q175 => absurd q175 (by omega))
    refine sx_ldc2 (z := 31) (p1 := 200) dX12_digest_197 rfl kc_X12_299 (by decide) ?_
    refine sx_lload_n (p1 := 201) dX12_digest_200 rfl rfl ?_
    refine sx_lmul (p1 := 202) dX12_digest_201 rfl ?_
    refine sx_aload_n (p1 := 203) dX12_digest_202 rfl rfl ?_
    refine sx_callVr (p1 := 206) (As := []) (k1 := 0) (n1 := 0) dX12_digest_203 rfl rfl (c_X12_endsNow hV) mt_X12_endsNow ml_X12_211 (hp_c39 _) rfl rfl (Nat.le_of_ble_eq_true rfl) rfl (Nat.le_of_ble_eq_true rfl) rfl rfl (Nat.le_of_ble_eq_true rfl) (Nat.le_of_ble_eq_true rfl) ?_
    refine sx_i2lx (p1 := 207) dX12_digest_206 rfl ?_
    refine sx_ladd (p1 := 208) dX12_digest_207 rfl ?_
    refine sx_lstore_n (lo1 := [some _, some _, none, some _, none]) (p1 := 209) dX12_digest_208 rfl (by decide) rfl ?_
    refine sx_ldc2 (z := 31) (p1 := 212) dX12_digest_209 rfl kc_X12_299 (by decide) ?_
    refine sx_lload_n (p1 := 213) dX12_digest_212 rfl rfl ?_
    refine sx_lmul (p1 := 214) dX12_digest_213 rfl ?_
    refine sx_aload_n (p1 := 215) dX12_digest_214 rfl rfl ?_
    refine sx_callVr (p1 := 218) (As := []) (k1 := 0) (n1 := 0) dX12_digest_215 rfl rfl (c_X12_latestNow hV) mt_X12_latestNow ml_X12_214 (hp_c39 _) rfl rfl (Nat.le_of_ble_eq_true rfl) rfl (Nat.le_of_ble_eq_true rfl) rfl rfl (Nat.le_of_ble_eq_true rfl) (Nat.le_of_ble_eq_true rfl) ?_
    refine sx_i2lx (p1 := 219) dX12_digest_218 rfl ?_
    refine sx_ladd (p1 := 220) dX12_digest_219 rfl ?_
    refine sx_lstore_n (lo1 := [some _, some _, none, some _, none]) (p1 := 221) dX12_digest_220 rfl (by decide) rfl ?_
    refine sx_iconst (p1 := 222) dX12_digest_221 rfl ?_
    refine sx_istore_n (lo1 := [some _, some _, none, some _, none]) (p1 := 223) dX12_digest_222 rfl (by decide) rfl ?_
    refine sx_iload_n (p1 := 224) dX12_digest_223 rfl rfl ?_
    refine sx_iconst (p1 := 225) dX12_digest_224 rfl ?_
    refine sx_icmp_ge (p1 := 228) (tg := 247) dX12_digest_225 rfl rfl (by omega) (by omega) (fun q225 => absurd q225 (by omega)) (fun q225 => ?_)
    refine sx_ldc2 (z := 31) (p1 := 231) dX12_digest_228 rfl kc_X12_299 (by decide) ?_
    refine sx_lload_n (p1 := 232) dX12_digest_231 rfl rfl ?_
    refine sx_lmul (p1 := 233) dX12_digest_232 rfl ?_
    refine sx_aload_n (p1 := 234) dX12_digest_233 rfl rfl ?_
    refine sx_iconst (p1 := 235) dX12_digest_234 rfl ?_
    refine sx_iload_n (p1 := 236) dX12_digest_235 rfl rfl ?_
    refine sx_callVr (p1 := 239) (As := [_, _]) (k1 := 0) (n1 := 0) dX12_digest_236 rfl rfl (d_X12_curve (V := mV T) rfl hD (by omega) (by omega)) mt_X12_curve ml_X12_322 (hp_c39 _) rfl rfl (Nat.le_of_ble_eq_true rfl) rfl (Nat.le_of_ble_eq_true rfl) rfl rfl (Nat.le_of_ble_eq_true rfl) (Nat.le_of_ble_eq_true rfl) ?_
    refine sx_ladd (p1 := 240) dX12_digest_239 rfl ?_
    refine sx_lstore_n (lo1 := [some _, some _, none, some _, none]) (p1 := 241) dX12_digest_240 rfl (by decide) rfl ?_
    refine sx_iinc (lo1 := [some _, some _, none, some _, none]) (p1 := 244) dX12_digest_241 rfl (by decide) rfl rfl ?_
    rw [show (0 : Int) + 1 = 1 from rfl]
    refine sx_goto (p1 := 223) (tg := 223) dX12_digest_244 rfl rfl ?_
    refine sx_iload_n (p1 := 224) dX12_digest_223 rfl rfl ?_
    refine sx_iconst (p1 := 225) dX12_digest_224 rfl ?_
    refine sx_icmp_ge (p1 := 228) (tg := 247) dX12_digest_225 rfl rfl (by omega) (by omega) (fun q225 => absurd q225 (by omega)) (fun q225 => ?_)
    refine sx_ldc2 (z := 31) (p1 := 231) dX12_digest_228 rfl kc_X12_299 (by decide) ?_
    refine sx_lload_n (p1 := 232) dX12_digest_231 rfl rfl ?_
    refine sx_lmul (p1 := 233) dX12_digest_232 rfl ?_
    refine sx_aload_n (p1 := 234) dX12_digest_233 rfl rfl ?_
    refine sx_iconst (p1 := 235) dX12_digest_234 rfl ?_
    refine sx_iload_n (p1 := 236) dX12_digest_235 rfl rfl ?_
    refine sx_callVr (p1 := 239) (As := [_, _]) (k1 := 0) (n1 := 0) dX12_digest_236 rfl rfl (d_X12_curve (V := mV T) rfl hD (by omega) (by omega)) mt_X12_curve ml_X12_322 (hp_c39 _) rfl rfl (Nat.le_of_ble_eq_true rfl) rfl (Nat.le_of_ble_eq_true rfl) rfl rfl (Nat.le_of_ble_eq_true rfl) (Nat.le_of_ble_eq_true rfl) ?_
    refine sx_ladd (p1 := 240) dX12_digest_239 rfl ?_
    refine sx_lstore_n (lo1 := [some _, some _, none, some _, none]) (p1 := 241) dX12_digest_240 rfl (by decide) rfl ?_
    refine sx_iinc (lo1 := [some _, some _, none, some _, none]) (p1 := 244) dX12_digest_241 rfl (by decide) rfl rfl ?_
    rw [show (1 : Int) + 1 = 2 from rfl]
    refine sx_goto (p1 := 223) (tg := 223) dX12_digest_244 rfl rfl ?_
    refine sx_iload_n (p1 := 224) dX12_digest_223 rfl rfl ?_
    refine sx_iconst (p1 := 225) dX12_digest_224 rfl ?_
    refine sx_icmp_ge (p1 := 228) (tg := 247) dX12_digest_225 rfl rfl (by omega) (by omega) (fun q225 => ?_) (fun q225 => absurd q225 (by omega))
    refine sx_ldc2 (z := 31) (p1 := 250) dX12_digest_247 rfl kc_X12_299 (by decide) ?_
    refine sx_lload_n (p1 := 251) dX12_digest_250 rfl rfl ?_
    refine sx_lmul (p1 := 252) dX12_digest_251 rfl ?_
    refine sx_aload_n (p1 := 253) dX12_digest_252 rfl rfl ?_
    refine sx_bipush (p1 := 255) dX12_digest_253 rfl (by decide) ?_
    refine sx_callVr (p1 := 258) (As := [_]) (k1 := 0) (n1 := 0) dX12_digest_255 rfl rfl (c_X12_gapOf hQ (by omega)) mt_X12_gapOf ml_X12_222 (hp_c39 _) rfl rfl (Nat.le_of_ble_eq_true rfl) rfl (Nat.le_of_ble_eq_true rfl) rfl rfl (Nat.le_of_ble_eq_true rfl) (Nat.le_of_ble_eq_true rfl) ?_
    rw [show (mGb (mV T) (Int.toNat 20)).1 = aGap (mV T) 20 from (if_pos (by decide)).symm]
    refine sx_i2lx (p1 := 259) dX12_digest_258 rfl ?_
    refine sx_ladd (p1 := 260) dX12_digest_259 rfl ?_
    refine sx_lstore_n (lo1 := [some _, some _, none, some _, none]) (p1 := 261) dX12_digest_260 rfl (by decide) rfl ?_
    refine sx_aload_n (p1 := 262) dX12_digest_261 rfl rfl ?_
    refine sx_callVr (p1 := 265) (As := []) (k1 := 0) (n1 := 0) dX12_digest_262 rfl rfl (c_X12_findOrder hQ hWT) mt_X12_findOrder ml_X12_229 (hp_c39 _) rfl rfl (Nat.le_of_ble_eq_true rfl) rfl (Nat.le_of_ble_eq_true rfl) rfl rfl (Nat.le_of_ble_eq_true rfl) (Nat.le_of_ble_eq_true rfl) ?_
    refine sx_istore_n (lo1 := [some _, some _, none, some _, none]) (p1 := 266) dX12_digest_265 rfl (by decide) rfl ?_
    exact tO _
  have tW : ∀ (hh : Int), Rn X RX12 false cX12_digest 5 8 0 0 (some .long) 150 [some (.ref 39), some (vJ hh), none, some (vI 0), none] [] (hp T) 0 0 (sx_is (some (vJ (dg3 (mV T) (dgO (mV T) (rO T (T.1 33).toNat (fc ((T.1 33).toNat - 1))).1 (rO T (T.1 33).toNat (fc ((T.1 33).toNat - 1))).2 (dg2 (mV T) (dgN (T.1 33).toNat (dgW (mV T)) hh)))))) (hp (rT6 T))) := by
    intro hh
    have walk : ∀ (n i : Nat), i + n = (T.1 33).toNat → Rn X RX12 false cX12_digest 5 8 0 0 (some .long) 150 [some (.ref 39), some (vJ (dgN i (dgW (mV T)) hh)), none, some (vI (i : Int)), none] [] (hp T) 0 0 (sx_is (some (vJ (dg3 (mV T) (dgO (mV T) (rO T (T.1 33).toNat (fc ((T.1 33).toNat - 1))).1 (rO T (T.1 33).toNat (fc ((T.1 33).toNat - 1))).2 (dg2 (mV T) (dgN (T.1 33).toNat (dgW (mV T)) hh)))))) (hp (rT6 T))) := by
      intro n
      induction n with
      | zero =>
        intro i hi 
        rw [Nat.add_zero] at hi
        subst hi
        refine sx_iload_n (p1 := 151) dX12_digest_150 rfl rfl ?_
        refine sx_aload_n (p1 := 152) dX12_digest_151 rfl rfl ?_
        refine sx_get (v := vI (T.1 33)) (p1 := 155) dX12_digest_152 rfl fl_X12_106 (hp_c39 _) rfl ?_
        refine sx_icmp_ge (p1 := 158) (tg := 171) dX12_digest_155 rfl rfl (by omega) (by omega) (fun q155 => ?_) (fun q155 => absurd q155 (by omega))
        refine sx_drop [true, true, false, false, false] (lo1 := [some _, some _, none, none, none]) rfl ?_
        exact tG _
      | succ n ih =>
        intro i hi 
        refine sx_iload_n (p1 := 151) dX12_digest_150 rfl rfl ?_
        refine sx_aload_n (p1 := 152) dX12_digest_151 rfl rfl ?_
        refine sx_get (v := vI (T.1 33)) (p1 := 155) dX12_digest_152 rfl fl_X12_106 (hp_c39 _) rfl ?_
        refine sx_icmp_ge (p1 := 158) (tg := 171) dX12_digest_155 rfl rfl (by omega) (by omega) (fun q155 => absurd q155 (by omega)) (fun q155 => ?_)
        refine sx_aload_n (p1 := 159) dX12_digest_158 rfl rfl ?_
        refine sx_lload_n (p1 := 160) dX12_digest_159 rfl rfl ?_
        refine sx_iload_n (p1 := 161) dX12_digest_160 rfl rfl ?_
        refine sx_callVr (p1 := 164) (As := [_, _]) (k1 := 0) (n1 := 0) dX12_digest_161 rfl rfl (c_X12_tellsWalker hD (by omega)) mt_X12_tellsWalker ml_X12_318 (hp_c39 _) rfl rfl (Nat.le_of_ble_eq_true rfl) rfl (Nat.le_of_ble_eq_true rfl) rfl rfl (Nat.le_of_ble_eq_true rfl) (Nat.le_of_ble_eq_true rfl) ?_
        refine sx_lstore_n (lo1 := [some _, some _, none, some _, none]) (p1 := 165) dX12_digest_164 rfl (by decide) rfl ?_
        refine sx_iinc (lo1 := [some _, some _, none, some _, none]) (p1 := 168) dX12_digest_165 rfl (by decide) rfl rfl ?_
        refine sx_goto (p1 := 150) (tg := 150) dX12_digest_168 rfl rfl ?_
        exact ih (i + 1) (by omega)
    exact walk _ 0 (Nat.zero_add _)
  have tP : ∀ (hh : Int), Rn X RX12 false cX12_digest 5 8 0 0 (some .long) 63 [some (.ref 39), some (vJ hh), none, some (vI 0), none] [] (hp T) 0 0 (sx_is (some (vJ (dg3 (mV T) (dgO (mV T) (rO T (T.1 33).toNat (fc ((T.1 33).toNat - 1))).1 (rO T (T.1 33).toNat (fc ((T.1 33).toNat - 1))).2 (dg2 (mV T) (dgN (T.1 33).toNat (dgW (mV T)) (dgN (T.1 32).toNat (dgP (mV T) (aLoose (mV T) (fun i => T.2 54 (3 * i)) (fun i => T.2 54 (3 * i + 1)) (fun i => T.2 54 (3 * i + 2)) (T.1 39).toNat)) hh))))))) (hp (rT6 T))) := by
    intro hh
    have part : ∀ (n i : Nat), i + n = (T.1 32).toNat → Rn X RX12 false cX12_digest 5 8 0 0 (some .long) 63 [some (.ref 39), some (vJ (dgN i (dgP (mV T) (aLoose (mV T) (fun i => T.2 54 (3 * i)) (fun i => T.2 54 (3 * i + 1)) (fun i => T.2 54 (3 * i + 2)) (T.1 39).toNat)) hh)), none, some (vI (i : Int)), none] [] (hp T) 0 0 (sx_is (some (vJ (dg3 (mV T) (dgO (mV T) (rO T (T.1 33).toNat (fc ((T.1 33).toNat - 1))).1 (rO T (T.1 33).toNat (fc ((T.1 33).toNat - 1))).2 (dg2 (mV T) (dgN (T.1 33).toNat (dgW (mV T)) (dgN (T.1 32).toNat (dgP (mV T) (aLoose (mV T) (fun i => T.2 54 (3 * i)) (fun i => T.2 54 (3 * i + 1)) (fun i => T.2 54 (3 * i + 2)) (T.1 39).toNat)) hh))))))) (hp (rT6 T))) := by
      intro n
      induction n with
      | zero =>
        intro i hi 
        rw [Nat.add_zero] at hi
        subst hi
        refine sx_iload_n (p1 := 64) dX12_digest_63 rfl rfl ?_
        refine sx_aload_n (p1 := 65) dX12_digest_64 rfl rfl ?_
        refine sx_get (v := vI (T.1 32)) (p1 := 68) dX12_digest_65 rfl fl_X12_95 (hp_c39 _) rfl ?_
        refine sx_icmp_ge (p1 := 71) (tg := 148) dX12_digest_68 rfl rfl (by omega) (by omega) (fun q68 => ?_) (fun q68 => absurd q68 (by omega))
        refine sx_iconst (p1 := 149) dX12_digest_148 rfl ?_
        refine sx_istore_n (lo1 := [some _, some _, none, some _, none]) (p1 := 150) dX12_digest_149 rfl (by decide) rfl ?_
        exact tW _
      | succ n ih =>
        intro i hi 
        have k0 : aPart (mV T) i 0 = T.2 46 (Int.toNat (i : Int)) := by
          unfold aPart
          rw [if_pos (by omega), if_pos rfl]
          exact if_pos (by omega)
        have k1 : aPart (mV T) i 1 = T.2 47 (Int.toNat (i : Int)) := by
          unfold aPart
          rw [if_pos (by omega), if_neg (by omega)]
          exact if_pos (by omega)
        have k2 : aHits (mV T) i 0 0 = mHit (mV T) i 0 0 := if_pos (by omega)
        have k3 : aHits (mV T) i 0 1 = mHit (mV T) i 0 1 := if_pos (by omega)
        have k4 : (aLoose (mV T) (fun i => T.2 54 (3 * i)) (fun i => T.2 54 (3 * i + 1)) (fun i => T.2 54 (3 * i + 2)) (T.1 39).toNat) i = (mLb (mV T) (fun i => T.2 54 (3 * i)) (fun i => T.2 54 (3 * i + 1)) (fun i => T.2 54 (3 * i + 2)) (T.1 39).toNat i 9).1 := if_pos (by omega)
        refine sx_iload_n (p1 := 64) dX12_digest_63 rfl rfl ?_
        refine sx_aload_n (p1 := 65) dX12_digest_64 rfl rfl ?_
        refine sx_get (v := vI (T.1 32)) (p1 := 68) dX12_digest_65 rfl fl_X12_95 (hp_c39 _) rfl ?_
        refine sx_icmp_ge (p1 := 71) (tg := 148) dX12_digest_68 rfl rfl (by omega) (by omega) (fun q68 => absurd q68 (by omega)) (fun q68 => ?_)
        refine sx_ldc2 (z := 31) (p1 := 74) dX12_digest_71 rfl kc_X12_299 (by decide) ?_
        refine sx_lload_n (p1 := 75) dX12_digest_74 rfl rfl ?_
        refine sx_lmul (p1 := 76) dX12_digest_75 rfl ?_
        refine sx_aload_n (p1 := 77) dX12_digest_76 rfl rfl ?_
        refine sx_get (p1 := 80) dX12_digest_77 rfl fl_X12_28 (hp_c39 _) rfl ?_
        refine sx_iload_n (p1 := 81) dX12_digest_80 rfl rfl ?_
        refine sx_iald (g := T.2 46) (p1 := 82) dX12_digest_81 rfl (hp_c46 _) (by omega) (by decide) ?_
        rw [← k0]
        refine sx_i2lx (p1 := 83) dX12_digest_82 rfl ?_
        refine sx_ladd (p1 := 84) dX12_digest_83 rfl ?_
        refine sx_lstore_n (lo1 := [some _, some _, none, some _, none]) (p1 := 85) dX12_digest_84 rfl (by decide) rfl ?_
        refine sx_ldc2 (z := 31) (p1 := 88) dX12_digest_85 rfl kc_X12_299 (by decide) ?_
        refine sx_lload_n (p1 := 89) dX12_digest_88 rfl rfl ?_
        refine sx_lmul (p1 := 90) dX12_digest_89 rfl ?_
        refine sx_aload_n (p1 := 91) dX12_digest_90 rfl rfl ?_
        refine sx_get (p1 := 94) dX12_digest_91 rfl fl_X12_31 (hp_c39 _) rfl ?_
        refine sx_iload_n (p1 := 95) dX12_digest_94 rfl rfl ?_
        refine sx_iald (g := T.2 47) (p1 := 96) dX12_digest_95 rfl (hp_c47 _) (by omega) (by decide) ?_
        rw [← k1]
        refine sx_i2lx (p1 := 97) dX12_digest_96 rfl ?_
        refine sx_ladd (p1 := 98) dX12_digest_97 rfl ?_
        refine sx_lstore_n (lo1 := [some _, some _, none, some _, none]) (p1 := 99) dX12_digest_98 rfl (by decide) rfl ?_
        refine sx_ldc2 (z := 31) (p1 := 102) dX12_digest_99 rfl kc_X12_299 (by decide) ?_
        refine sx_lload_n (p1 := 103) dX12_digest_102 rfl rfl ?_
        refine sx_lmul (p1 := 104) dX12_digest_103 rfl ?_
        refine sx_aload_n (p1 := 105) dX12_digest_104 rfl rfl ?_
        refine sx_iload_n (p1 := 106) dX12_digest_105 rfl rfl ?_
        refine sx_iconst (p1 := 107) dX12_digest_106 rfl ?_
        refine sx_iconst (p1 := 108) dX12_digest_107 rfl ?_
        refine sx_callVr (p1 := 111) (As := [_, _, _]) (k1 := 0) (n1 := 0) dX12_digest_108 rfl rfl (c_X12_hitsOf hV (by omega) (by omega) (by omega)) mt_X12_hitsOf ml_X12_172 (hp_c39 _) rfl rfl (Nat.le_of_ble_eq_true rfl) rfl (Nat.le_of_ble_eq_true rfl) rfl rfl (Nat.le_of_ble_eq_true rfl) (Nat.le_of_ble_eq_true rfl) ?_
        rw [← k2]
        refine sx_i2lx (p1 := 112) dX12_digest_111 rfl ?_
        refine sx_ladd (p1 := 113) dX12_digest_112 rfl ?_
        refine sx_lstore_n (lo1 := [some _, some _, none, some _, none]) (p1 := 114) dX12_digest_113 rfl (by decide) rfl ?_
        refine sx_ldc2 (z := 31) (p1 := 117) dX12_digest_114 rfl kc_X12_299 (by decide) ?_
        refine sx_lload_n (p1 := 118) dX12_digest_117 rfl rfl ?_
        refine sx_lmul (p1 := 119) dX12_digest_118 rfl ?_
        refine sx_aload_n (p1 := 120) dX12_digest_119 rfl rfl ?_
        refine sx_iload_n (p1 := 121) dX12_digest_120 rfl rfl ?_
        refine sx_iconst (p1 := 122) dX12_digest_121 rfl ?_
        refine sx_iconst (p1 := 123) dX12_digest_122 rfl ?_
        refine sx_callVr (p1 := 126) (As := [_, _, _]) (k1 := 0) (n1 := 0) dX12_digest_123 rfl rfl (c_X12_hitsOf hV (by omega) (by omega) (by omega)) mt_X12_hitsOf ml_X12_172 (hp_c39 _) rfl rfl (Nat.le_of_ble_eq_true rfl) rfl (Nat.le_of_ble_eq_true rfl) rfl rfl (Nat.le_of_ble_eq_true rfl) (Nat.le_of_ble_eq_true rfl) ?_
        rw [← k3]
        refine sx_i2lx (p1 := 127) dX12_digest_126 rfl ?_
        refine sx_ladd (p1 := 128) dX12_digest_127 rfl ?_
        refine sx_lstore_n (lo1 := [some _, some _, none, some _, none]) (p1 := 129) dX12_digest_128 rfl (by decide) rfl ?_
        refine sx_ldc2 (z := 31) (p1 := 132) dX12_digest_129 rfl kc_X12_299 (by decide) ?_
        refine sx_lload_n (p1 := 133) dX12_digest_132 rfl rfl ?_
        refine sx_lmul (p1 := 134) dX12_digest_133 rfl ?_
        refine sx_aload_n (p1 := 135) dX12_digest_134 rfl rfl ?_
        refine sx_iload_n (p1 := 136) dX12_digest_135 rfl rfl ?_
        refine sx_callVr (p1 := 139) (As := [_]) (k1 := 0) (n1 := 0) dX12_digest_136 rfl rfl (c_X12_looseOf hV h39 hA (by omega)) mt_X12_looseOf ml_X12_283 (hp_c39 _) rfl rfl (Nat.le_of_ble_eq_true rfl) rfl (Nat.le_of_ble_eq_true rfl) rfl rfl (Nat.le_of_ble_eq_true rfl) (Nat.le_of_ble_eq_true rfl) ?_
        rw [← k4]
        refine sx_i2lx (p1 := 140) dX12_digest_139 rfl ?_
        refine sx_ladd (p1 := 141) dX12_digest_140 rfl ?_
        refine sx_lstore_n (lo1 := [some _, some _, none, some _, none]) (p1 := 142) dX12_digest_141 rfl (by decide) rfl ?_
        refine sx_iinc (lo1 := [some _, some _, none, some _, none]) (p1 := 145) dX12_digest_142 rfl (by decide) rfl rfl ?_
        refine sx_goto (p1 := 63) (tg := 63) dX12_digest_145 rfl rfl ?_
        exact ih (i + 1) (by omega)
    exact part _ 0 (Nat.zero_add _)
  refine Ct.of false [some (.ref 39), none, none, none, none] (plainFor_of_name (by decide)) (fun h => by cases h) (Nat.le_of_ble_eq_true rfl) (fun _ => rfl) sx_isl ?_
  refine sx_ldc2 (z := 17) (p1 := 3) dX12_digest_0 rfl kc_X12_310 (by decide) ?_
  refine sx_lstore_n (lo1 := [some _, some _, none, none, none]) (p1 := 4) dX12_digest_3 rfl (by decide) rfl ?_
  refine sx_iconst (p1 := 5) dX12_digest_4 rfl ?_
  refine sx_istore_n (lo1 := [some _, some _, none, some _, none]) (p1 := 6) dX12_digest_5 rfl (by decide) rfl ?_
  refine sx_iload_n (p1 := 7) dX12_digest_6 rfl rfl ?_
  refine sx_bipush (p1 := 9) dX12_digest_7 rfl (by decide) ?_
  refine sx_icmp_ge (p1 := 12) (tg := 31) dX12_digest_9 rfl rfl (by omega) (by omega) (fun q9 => absurd q9 (by omega)) (fun q9 => ?_)
  refine sx_ldc2 (z := 31) (p1 := 15) dX12_digest_12 rfl kc_X12_299 (by decide) ?_
  refine sx_lload_n (p1 := 16) dX12_digest_15 rfl rfl ?_
  refine sx_lmul (p1 := 17) dX12_digest_16 rfl ?_
  refine sx_aload_n (p1 := 18) dX12_digest_17 rfl rfl ?_
  refine sx_iload_n (p1 := 19) dX12_digest_18 rfl rfl ?_
  refine sx_callVr (p1 := 22) (As := [_]) (k1 := 0) (n1 := 0) dX12_digest_19 rfl rfl (c_X12_count (i := 0) hT hY hQ (by decide)) mt_X12_count ml_X12_312 (hp_c39 _) rfl rfl (Nat.le_of_ble_eq_true rfl) rfl (Nat.le_of_ble_eq_true rfl) rfl rfl (Nat.le_of_ble_eq_true rfl) (Nat.le_of_ble_eq_true rfl) ?_
  refine sx_i2lx (p1 := 23) dX12_digest_22 rfl ?_
  refine sx_ladd (p1 := 24) dX12_digest_23 rfl ?_
  refine sx_lstore_n (lo1 := [some _, some _, none, some _, none]) (p1 := 25) dX12_digest_24 rfl (by decide) rfl ?_
  refine sx_iinc (lo1 := [some _, some _, none, some _, none]) (p1 := 28) dX12_digest_25 rfl (by decide) rfl rfl ?_
  rw [show (0 : Int) + 1 = 1 from rfl]
  refine sx_goto (p1 := 6) (tg := 6) dX12_digest_28 rfl rfl ?_
  refine sx_iload_n (p1 := 7) dX12_digest_6 rfl rfl ?_
  refine sx_bipush (p1 := 9) dX12_digest_7 rfl (by decide) ?_
  refine sx_icmp_ge (p1 := 12) (tg := 31) dX12_digest_9 rfl rfl (by omega) (by omega) (fun q9 => absurd q9 (by omega)) (fun q9 => ?_)
  refine sx_ldc2 (z := 31) (p1 := 15) dX12_digest_12 rfl kc_X12_299 (by decide) ?_
  refine sx_lload_n (p1 := 16) dX12_digest_15 rfl rfl ?_
  refine sx_lmul (p1 := 17) dX12_digest_16 rfl ?_
  refine sx_aload_n (p1 := 18) dX12_digest_17 rfl rfl ?_
  refine sx_iload_n (p1 := 19) dX12_digest_18 rfl rfl ?_
  refine sx_callVr (p1 := 22) (As := [_]) (k1 := 0) (n1 := 0) dX12_digest_19 rfl rfl (c_X12_count (i := 1) hT2 hY2 hQ (by decide)) mt_X12_count ml_X12_312 (hp_c39 _) rfl rfl (Nat.le_of_ble_eq_true rfl) rfl (Nat.le_of_ble_eq_true rfl) rfl rfl (Nat.le_of_ble_eq_true rfl) (Nat.le_of_ble_eq_true rfl) ?_
  refine sx_i2lx (p1 := 23) dX12_digest_22 rfl ?_
  refine sx_ladd (p1 := 24) dX12_digest_23 rfl ?_
  refine sx_lstore_n (lo1 := [some _, some _, none, some _, none]) (p1 := 25) dX12_digest_24 rfl (by decide) rfl ?_
  refine sx_iinc (lo1 := [some _, some _, none, some _, none]) (p1 := 28) dX12_digest_25 rfl (by decide) rfl rfl ?_
  rw [show (1 : Int) + 1 = 2 from rfl]
  refine sx_goto (p1 := 6) (tg := 6) dX12_digest_28 rfl rfl ?_
  refine sx_iload_n (p1 := 7) dX12_digest_6 rfl rfl ?_
  refine sx_bipush (p1 := 9) dX12_digest_7 rfl (by decide) ?_
  refine sx_icmp_ge (p1 := 12) (tg := 31) dX12_digest_9 rfl rfl (by omega) (by omega) (fun q9 => absurd q9 (by omega)) (fun q9 => ?_)
  refine sx_ldc2 (z := 31) (p1 := 15) dX12_digest_12 rfl kc_X12_299 (by decide) ?_
  refine sx_lload_n (p1 := 16) dX12_digest_15 rfl rfl ?_
  refine sx_lmul (p1 := 17) dX12_digest_16 rfl ?_
  refine sx_aload_n (p1 := 18) dX12_digest_17 rfl rfl ?_
  refine sx_iload_n (p1 := 19) dX12_digest_18 rfl rfl ?_
  refine sx_callVr (p1 := 22) (As := [_]) (k1 := 0) (n1 := 0) dX12_digest_19 rfl rfl (c_X12_count (i := 2) hT2 hY2 hQ (by decide)) mt_X12_count ml_X12_312 (hp_c39 _) rfl rfl (Nat.le_of_ble_eq_true rfl) rfl (Nat.le_of_ble_eq_true rfl) rfl rfl (Nat.le_of_ble_eq_true rfl) (Nat.le_of_ble_eq_true rfl) ?_
  refine sx_i2lx (p1 := 23) dX12_digest_22 rfl ?_
  refine sx_ladd (p1 := 24) dX12_digest_23 rfl ?_
  refine sx_lstore_n (lo1 := [some _, some _, none, some _, none]) (p1 := 25) dX12_digest_24 rfl (by decide) rfl ?_
  refine sx_iinc (lo1 := [some _, some _, none, some _, none]) (p1 := 28) dX12_digest_25 rfl (by decide) rfl rfl ?_
  rw [show (2 : Int) + 1 = 3 from rfl]
  refine sx_goto (p1 := 6) (tg := 6) dX12_digest_28 rfl rfl ?_
  refine sx_iload_n (p1 := 7) dX12_digest_6 rfl rfl ?_
  refine sx_bipush (p1 := 9) dX12_digest_7 rfl (by decide) ?_
  refine sx_icmp_ge (p1 := 12) (tg := 31) dX12_digest_9 rfl rfl (by omega) (by omega) (fun q9 => absurd q9 (by omega)) (fun q9 => ?_)
  refine sx_ldc2 (z := 31) (p1 := 15) dX12_digest_12 rfl kc_X12_299 (by decide) ?_
  refine sx_lload_n (p1 := 16) dX12_digest_15 rfl rfl ?_
  refine sx_lmul (p1 := 17) dX12_digest_16 rfl ?_
  refine sx_aload_n (p1 := 18) dX12_digest_17 rfl rfl ?_
  refine sx_iload_n (p1 := 19) dX12_digest_18 rfl rfl ?_
  refine sx_callVr (p1 := 22) (As := [_]) (k1 := 0) (n1 := 0) dX12_digest_19 rfl rfl (c_X12_count (i := 3) hT2 hY2 hQ (by decide)) mt_X12_count ml_X12_312 (hp_c39 _) rfl rfl (Nat.le_of_ble_eq_true rfl) rfl (Nat.le_of_ble_eq_true rfl) rfl rfl (Nat.le_of_ble_eq_true rfl) (Nat.le_of_ble_eq_true rfl) ?_
  refine sx_i2lx (p1 := 23) dX12_digest_22 rfl ?_
  refine sx_ladd (p1 := 24) dX12_digest_23 rfl ?_
  refine sx_lstore_n (lo1 := [some _, some _, none, some _, none]) (p1 := 25) dX12_digest_24 rfl (by decide) rfl ?_
  refine sx_iinc (lo1 := [some _, some _, none, some _, none]) (p1 := 28) dX12_digest_25 rfl (by decide) rfl rfl ?_
  rw [show (3 : Int) + 1 = 4 from rfl]
  refine sx_goto (p1 := 6) (tg := 6) dX12_digest_28 rfl rfl ?_
  refine sx_iload_n (p1 := 7) dX12_digest_6 rfl rfl ?_
  refine sx_bipush (p1 := 9) dX12_digest_7 rfl (by decide) ?_
  refine sx_icmp_ge (p1 := 12) (tg := 31) dX12_digest_9 rfl rfl (by omega) (by omega) (fun q9 => absurd q9 (by omega)) (fun q9 => ?_)
  refine sx_ldc2 (z := 31) (p1 := 15) dX12_digest_12 rfl kc_X12_299 (by decide) ?_
  refine sx_lload_n (p1 := 16) dX12_digest_15 rfl rfl ?_
  refine sx_lmul (p1 := 17) dX12_digest_16 rfl ?_
  refine sx_aload_n (p1 := 18) dX12_digest_17 rfl rfl ?_
  refine sx_iload_n (p1 := 19) dX12_digest_18 rfl rfl ?_
  refine sx_callVr (p1 := 22) (As := [_]) (k1 := 0) (n1 := 0) dX12_digest_19 rfl rfl (c_X12_count (i := 4) hT2 hY2 hQ (by decide)) mt_X12_count ml_X12_312 (hp_c39 _) rfl rfl (Nat.le_of_ble_eq_true rfl) rfl (Nat.le_of_ble_eq_true rfl) rfl rfl (Nat.le_of_ble_eq_true rfl) (Nat.le_of_ble_eq_true rfl) ?_
  refine sx_i2lx (p1 := 23) dX12_digest_22 rfl ?_
  refine sx_ladd (p1 := 24) dX12_digest_23 rfl ?_
  refine sx_lstore_n (lo1 := [some _, some _, none, some _, none]) (p1 := 25) dX12_digest_24 rfl (by decide) rfl ?_
  refine sx_iinc (lo1 := [some _, some _, none, some _, none]) (p1 := 28) dX12_digest_25 rfl (by decide) rfl rfl ?_
  rw [show (4 : Int) + 1 = 5 from rfl]
  refine sx_goto (p1 := 6) (tg := 6) dX12_digest_28 rfl rfl ?_
  refine sx_iload_n (p1 := 7) dX12_digest_6 rfl rfl ?_
  refine sx_bipush (p1 := 9) dX12_digest_7 rfl (by decide) ?_
  refine sx_icmp_ge (p1 := 12) (tg := 31) dX12_digest_9 rfl rfl (by omega) (by omega) (fun q9 => absurd q9 (by omega)) (fun q9 => ?_)
  refine sx_ldc2 (z := 31) (p1 := 15) dX12_digest_12 rfl kc_X12_299 (by decide) ?_
  refine sx_lload_n (p1 := 16) dX12_digest_15 rfl rfl ?_
  refine sx_lmul (p1 := 17) dX12_digest_16 rfl ?_
  refine sx_aload_n (p1 := 18) dX12_digest_17 rfl rfl ?_
  refine sx_iload_n (p1 := 19) dX12_digest_18 rfl rfl ?_
  refine sx_callVr (p1 := 22) (As := [_]) (k1 := 0) (n1 := 0) dX12_digest_19 rfl rfl (c_X12_count (i := 5) hT2 hY2 hQ (by decide)) mt_X12_count ml_X12_312 (hp_c39 _) rfl rfl (Nat.le_of_ble_eq_true rfl) rfl (Nat.le_of_ble_eq_true rfl) rfl rfl (Nat.le_of_ble_eq_true rfl) (Nat.le_of_ble_eq_true rfl) ?_
  refine sx_i2lx (p1 := 23) dX12_digest_22 rfl ?_
  refine sx_ladd (p1 := 24) dX12_digest_23 rfl ?_
  refine sx_lstore_n (lo1 := [some _, some _, none, some _, none]) (p1 := 25) dX12_digest_24 rfl (by decide) rfl ?_
  refine sx_iinc (lo1 := [some _, some _, none, some _, none]) (p1 := 28) dX12_digest_25 rfl (by decide) rfl rfl ?_
  rw [show (5 : Int) + 1 = 6 from rfl]
  refine sx_goto (p1 := 6) (tg := 6) dX12_digest_28 rfl rfl ?_
  refine sx_iload_n (p1 := 7) dX12_digest_6 rfl rfl ?_
  refine sx_bipush (p1 := 9) dX12_digest_7 rfl (by decide) ?_
  refine sx_icmp_ge (p1 := 12) (tg := 31) dX12_digest_9 rfl rfl (by omega) (by omega) (fun q9 => absurd q9 (by omega)) (fun q9 => ?_)
  refine sx_ldc2 (z := 31) (p1 := 15) dX12_digest_12 rfl kc_X12_299 (by decide) ?_
  refine sx_lload_n (p1 := 16) dX12_digest_15 rfl rfl ?_
  refine sx_lmul (p1 := 17) dX12_digest_16 rfl ?_
  refine sx_aload_n (p1 := 18) dX12_digest_17 rfl rfl ?_
  refine sx_iload_n (p1 := 19) dX12_digest_18 rfl rfl ?_
  refine sx_callVr (p1 := 22) (As := [_]) (k1 := 0) (n1 := 0) dX12_digest_19 rfl rfl (c_X12_count (i := 6) hT2 hY2 hQ (by decide)) mt_X12_count ml_X12_312 (hp_c39 _) rfl rfl (Nat.le_of_ble_eq_true rfl) rfl (Nat.le_of_ble_eq_true rfl) rfl rfl (Nat.le_of_ble_eq_true rfl) (Nat.le_of_ble_eq_true rfl) ?_
  refine sx_i2lx (p1 := 23) dX12_digest_22 rfl ?_
  refine sx_ladd (p1 := 24) dX12_digest_23 rfl ?_
  refine sx_lstore_n (lo1 := [some _, some _, none, some _, none]) (p1 := 25) dX12_digest_24 rfl (by decide) rfl ?_
  refine sx_iinc (lo1 := [some _, some _, none, some _, none]) (p1 := 28) dX12_digest_25 rfl (by decide) rfl rfl ?_
  rw [show (6 : Int) + 1 = 7 from rfl]
  refine sx_goto (p1 := 6) (tg := 6) dX12_digest_28 rfl rfl ?_
  refine sx_iload_n (p1 := 7) dX12_digest_6 rfl rfl ?_
  refine sx_bipush (p1 := 9) dX12_digest_7 rfl (by decide) ?_
  refine sx_icmp_ge (p1 := 12) (tg := 31) dX12_digest_9 rfl rfl (by omega) (by omega) (fun q9 => absurd q9 (by omega)) (fun q9 => ?_)
  refine sx_ldc2 (z := 31) (p1 := 15) dX12_digest_12 rfl kc_X12_299 (by decide) ?_
  refine sx_lload_n (p1 := 16) dX12_digest_15 rfl rfl ?_
  refine sx_lmul (p1 := 17) dX12_digest_16 rfl ?_
  refine sx_aload_n (p1 := 18) dX12_digest_17 rfl rfl ?_
  refine sx_iload_n (p1 := 19) dX12_digest_18 rfl rfl ?_
  refine sx_callVr (p1 := 22) (As := [_]) (k1 := 0) (n1 := 0) dX12_digest_19 rfl rfl (c_X12_count (i := 7) hT2 hY2 hQ (by decide)) mt_X12_count ml_X12_312 (hp_c39 _) rfl rfl (Nat.le_of_ble_eq_true rfl) rfl (Nat.le_of_ble_eq_true rfl) rfl rfl (Nat.le_of_ble_eq_true rfl) (Nat.le_of_ble_eq_true rfl) ?_
  refine sx_i2lx (p1 := 23) dX12_digest_22 rfl ?_
  refine sx_ladd (p1 := 24) dX12_digest_23 rfl ?_
  refine sx_lstore_n (lo1 := [some _, some _, none, some _, none]) (p1 := 25) dX12_digest_24 rfl (by decide) rfl ?_
  refine sx_iinc (lo1 := [some _, some _, none, some _, none]) (p1 := 28) dX12_digest_25 rfl (by decide) rfl rfl ?_
  rw [show (7 : Int) + 1 = 8 from rfl]
  refine sx_goto (p1 := 6) (tg := 6) dX12_digest_28 rfl rfl ?_
  refine sx_iload_n (p1 := 7) dX12_digest_6 rfl rfl ?_
  refine sx_bipush (p1 := 9) dX12_digest_7 rfl (by decide) ?_
  refine sx_icmp_ge (p1 := 12) (tg := 31) dX12_digest_9 rfl rfl (by omega) (by omega) (fun q9 => ?_) (fun q9 => absurd q9 (by omega))
  refine sx_iconst (p1 := 32) dX12_digest_31 rfl ?_
  refine sx_istore_n (lo1 := [some _, some _, none, some _, none]) (p1 := 33) dX12_digest_32 rfl (by decide) rfl ?_
  refine sx_iload_n (p1 := 34) dX12_digest_33 rfl rfl ?_
  refine sx_iconst (p1 := 35) dX12_digest_34 rfl ?_
  refine sx_icmp_ge (p1 := 38) (tg := 57) dX12_digest_35 rfl rfl (by omega) (by omega) (fun q35 => absurd q35 (by omega)) (fun q35 => ?_)
  refine sx_ldc2 (z := 31) (p1 := 41) dX12_digest_38 rfl kc_X12_299 (by decide) ?_
  refine sx_lload_n (p1 := 42) dX12_digest_41 rfl rfl ?_
  refine sx_lmul (p1 := 43) dX12_digest_42 rfl ?_
  refine sx_aload_n (p1 := 44) dX12_digest_43 rfl rfl ?_
  refine sx_iload_n (p1 := 45) dX12_digest_44 rfl rfl ?_
  refine sx_callVr (p1 := 48) (As := [_]) (k1 := 0) (n1 := 0) dX12_digest_45 rfl rfl (z_f0 hD) mt_X12_fault ml_X12_315 (hp_c39 _) rfl rfl (Nat.le_of_ble_eq_true rfl) rfl (Nat.le_of_ble_eq_true rfl) rfl rfl (Nat.le_of_ble_eq_true rfl) (Nat.le_of_ble_eq_true rfl) ?_
  refine sx_i2lx (p1 := 49) dX12_digest_48 rfl ?_
  refine sx_ladd (p1 := 50) dX12_digest_49 rfl ?_
  refine sx_lstore_n (lo1 := [some _, some _, none, some _, none]) (p1 := 51) dX12_digest_50 rfl (by decide) rfl ?_
  refine sx_iinc (lo1 := [some _, some _, none, some _, none]) (p1 := 54) dX12_digest_51 rfl (by decide) rfl rfl ?_
  rw [show (0 : Int) + 1 = 1 from rfl]
  refine sx_goto (p1 := 33) (tg := 33) dX12_digest_54 rfl rfl ?_
  refine sx_iload_n (p1 := 34) dX12_digest_33 rfl rfl ?_
  refine sx_iconst (p1 := 35) dX12_digest_34 rfl ?_
  refine sx_icmp_ge (p1 := 38) (tg := 57) dX12_digest_35 rfl rfl (by omega) (by omega) (fun q35 => absurd q35 (by omega)) (fun q35 => ?_)
  refine sx_ldc2 (z := 31) (p1 := 41) dX12_digest_38 rfl kc_X12_299 (by decide) ?_
  refine sx_lload_n (p1 := 42) dX12_digest_41 rfl rfl ?_
  refine sx_lmul (p1 := 43) dX12_digest_42 rfl ?_
  refine sx_aload_n (p1 := 44) dX12_digest_43 rfl rfl ?_
  refine sx_iload_n (p1 := 45) dX12_digest_44 rfl rfl ?_
  refine sx_callVr (p1 := 48) (As := [_]) (k1 := 0) (n1 := 0) dX12_digest_45 rfl rfl (z_f1 hD) mt_X12_fault ml_X12_315 (hp_c39 _) rfl rfl (Nat.le_of_ble_eq_true rfl) rfl (Nat.le_of_ble_eq_true rfl) rfl rfl (Nat.le_of_ble_eq_true rfl) (Nat.le_of_ble_eq_true rfl) ?_
  refine sx_i2lx (p1 := 49) dX12_digest_48 rfl ?_
  refine sx_ladd (p1 := 50) dX12_digest_49 rfl ?_
  refine sx_lstore_n (lo1 := [some _, some _, none, some _, none]) (p1 := 51) dX12_digest_50 rfl (by decide) rfl ?_
  refine sx_iinc (lo1 := [some _, some _, none, some _, none]) (p1 := 54) dX12_digest_51 rfl (by decide) rfl rfl ?_
  rw [show (1 : Int) + 1 = 2 from rfl]
  refine sx_goto (p1 := 33) (tg := 33) dX12_digest_54 rfl rfl ?_
  refine sx_iload_n (p1 := 34) dX12_digest_33 rfl rfl ?_
  refine sx_iconst (p1 := 35) dX12_digest_34 rfl ?_
  refine sx_icmp_ge (p1 := 38) (tg := 57) dX12_digest_35 rfl rfl (by omega) (by omega) (fun q35 => ?_) (fun q35 => absurd q35 (by omega))
  refine sx_aload_n (p1 := 58) dX12_digest_57 rfl rfl ?_
  refine sx_callVn (p1 := 61) (As := []) (k1 := 0) (n1 := 0) dX12_digest_58 rfl rfl (r_X12_reads hT2 hY2) mt_X12_reads ml_X12_120 (hp_c39 _) rfl rfl (Nat.le_of_ble_eq_true rfl) rfl (Nat.le_of_ble_eq_true rfl) rfl rfl (Nat.le_of_ble_eq_true rfl) (Nat.le_of_ble_eq_true rfl) ?_
  refine sx_iconst (p1 := 62) dX12_digest_61 rfl ?_
  refine sx_istore_n (lo1 := [some _, some _, none, some _, none]) (p1 := 63) dX12_digest_62 rfl (by decide) rfl ?_
  exact tP _
