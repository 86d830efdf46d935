/-- the reference's sheets are in order -/
def okSh (S : St) : Prop := (∀ s : Nat, s < 4 → (-1 ≤ S.2 40 s ∧ S.2 40 s ≤ 2) ∧ 0 ≤ S.2 41 s ∧ S.2 41 s ≤ 60) ∧ ∀ i, -2147483648 ≤ S.2 42 i ∧ S.2 42 i ≤ 2147483647
def lkZ (S : St) (s : Nat) (f i : Int) : Int := if S.2 40 s < 0 then 1 else if S.2 40 s ≠ f then 3 else if 0 ≤ i ∧ i ≤ S.2 41 s - 1 then 0 else 2
theorem lkZ_b (S : St) (s : Nat) (f i : Int) : 0 ≤ lkZ S s f i ∧ lkZ S s f i ≤ 3 := by
  unfold lkZ
  (repeat' split) <;> omega
theorem lkZ_0 {S : St} {s : Nat} {f i : Int} (h : lkZ S s f i = 0) : 0 ≤ i ∧ i ≤ S.2 41 s - 1 := by
  unfold lkZ at h
  (repeat' split at h) <;> omega
/-- n laid from o on -/
def rowW (f : Nat → Int) (o n : Nat) (g : Nat → Int) (j : Nat) : Int := if o ≤ j ∧ j < o + n then g (j - o) else f j
theorem rowW_0 (f : Nat → Int) (o : Nat) (g : Nat → Int) : rowW f o 0 g = f := by
  funext j
  unfold rowW
  rw [if_neg (by omega)]
theorem rowW_s (f : Nat → Int) (o n : Nat) (g : Nat → Int) {x : Int} (hx : x = g n) : sx_u (rowW f o n g) (o + n) x = rowW f o (n + 1) g := by
  funext j
  unfold sx_u rowW
  by_cases h : j = o + n
  · rw [if_pos h, if_pos (by omega), hx, h, show o + n - o = n by omega]
  · rw [if_neg h]
    by_cases c : o ≤ j ∧ j < o + n
    · rw [if_pos c, if_pos (by omega)]
    · rw [if_neg c, if_neg (by omega)]
def rdG (f : Nat → Int) (z : Int) : Nat → Nat → St → St × Int
  | 0, k, T => (T, k)
  | n + 1, k, T => if 3 * (k : Int) + 3 ≤ z ∧ T.1 39 < 8 ∧ (0 ≤ f (3 * k) ∧ f (3 * k) ≤ 5) ∧ (0 ≤ f (3 * k + 1) ∧ f (3 * k + 1) ≤ 15) ∧ 0 ≤ f (3 * k + 2) ∧ f (3 * k + 2) ≤ 1 then rdG f z n (k + 1) (rdB T (f (3 * k)) (f (3 * k + 1)) (f (3 * k + 2))) else (T, k)
theorem rdB_a (T : St) (a b c : Int) (k : Nat) (h : k ≠ 54) : (rdB T a b c).2 k = T.2 k := by
  simp [rdB, si, sa, sx_u, h]
theorem rdB_t (T : St) (a b c : Int) : (rdB T a b c).1 39 = T.1 39 + 1 := rfl
set_option maxRecDepth 20000 in
theorem n_X12_read {X : sx_X} {S : St} {i : Int} (hn : i < 0 ∨ 4 ≤ i) (hi : -2147483648 ≤ i ∧ i ≤ 2147483647) : Ct X yX12_read cX12_read 5 (some .int) 3 0 0 [.ref 39, vI i] (hp S) (sx_is (some (vI (-2))) (hp (S))) := by
  refine Ct.of false [some (.ref 39), some (vI i), none, none, none] (plainFor_of_name (by decide)) (fun h => by cases h) (Nat.le_of_ble_eq_true rfl) (fun _ => rfl) sx_isl ?_
  refine sx_iload_n (p1 := 1) dX12_read_0 rfl rfl ?_
  refine sx_callSr (p1 := 4) (As := [_]) (k1 := 0) (n1 := 0) dX12_read_1 rfl rfl (c_X12_isSheet (by omega)) mt_X12_isSheet ml_X12_68 (Nat.le_of_ble_eq_true rfl) rfl (Nat.le_of_ble_eq_true rfl) rfl rfl (Nat.le_of_ble_eq_true rfl) (Nat.le_of_ble_eq_true rfl) ?_
  refine sx_if_ne (p1 := 7) (tg := 10) dX12_read_4 rfl rfl (by split <;> omega) (fun q4 => absurd q4 (by rw [if_neg (by omega)]; omega)) (fun q4 => ?_)
  refine sx_bipush (p1 := 9) dX12_read_7 rfl (by decide) ?_
  exact sx_iret dX12_read_9 rfl (sx_ri (by first | rfl | omega) (by rfl))
set_option maxRecDepth 20000 in
theorem n_X12_sheet {X : sx_X} {S : St} {i j k : Int} (hn : i < 0 ∨ 4 ≤ i) (hi : -2147483648 ≤ i ∧ i ≤ 2147483647) (hj : -2147483648 ≤ j ∧ j ≤ 2147483647) (hk : -2147483648 ≤ k ∧ k ≤ 2147483647) : Ct X yX12_sheet cX12_sheet 5 (some .int) 2 0 0 [.ref 39, vI i, vI j, vI k] (hp S) (sx_is (some (vI (-2))) (hp (S))) := by
  refine Ct.of false [some (.ref 39), some (vI i), some (vI j), some (vI k), none] (plainFor_of_name (by decide)) (fun h => by cases h) (Nat.le_of_ble_eq_true rfl) (fun _ => rfl) sx_isl ?_
  refine sx_iload_n (p1 := 1) dX12_sheet_0 rfl rfl ?_
  refine sx_callSr (p1 := 4) (As := [_]) (k1 := 0) (n1 := 0) dX12_sheet_1 rfl rfl (c_X12_isSheet (by omega)) mt_X12_isSheet ml_X12_68 (Nat.le_of_ble_eq_true rfl) rfl (Nat.le_of_ble_eq_true rfl) rfl rfl (Nat.le_of_ble_eq_true rfl) (Nat.le_of_ble_eq_true rfl) ?_
  refine sx_if_eq (p1 := 7) (tg := 25) dX12_sheet_4 rfl rfl (by split <;> omega) (fun q4 => ?_) (fun q4 => absurd q4 (by rw [if_neg (by omega)]; omega))
  refine sx_bipush (p1 := 27) dX12_sheet_25 rfl (by decide) ?_
  exact sx_iret dX12_sheet_27 rfl (sx_ri (by first | rfl | omega) (by rfl))
set_option maxRecDepth 20000 in
theorem n_X12_lose {X : sx_X} {S : St} {i : Int} (hn : i < 0 ∨ 4 ≤ i) (hi : -2147483648 ≤ i ∧ i ≤ 2147483647) : Ct X yX12_lose cX12_lose 2 (some .int) 2 0 0 [.ref 39, vI i] (hp S) (sx_is (some (vI (-2))) (hp (S))) := by
  refine Ct.of false [some (.ref 39), some (vI i)] (plainFor_of_name (by decide)) (fun h => by cases h) (Nat.le_of_ble_eq_true rfl) (fun _ => rfl) sx_isl ?_
  refine sx_iload_n (p1 := 1) dX12_lose_0 rfl rfl ?_
  refine sx_callSr (p1 := 4) (As := [_]) (k1 := 0) (n1 := 0) dX12_lose_1 rfl rfl (c_X12_isSheet (by omega)) mt_X12_isSheet ml_X12_68 (Nat.le_of_ble_eq_true rfl) rfl (Nat.le_of_ble_eq_true rfl) rfl rfl (Nat.le_of_ble_eq_true rfl) (Nat.le_of_ble_eq_true rfl) ?_
  refine sx_if_ne (p1 := 7) (tg := 10) dX12_lose_4 rfl rfl (by split <;> omega) (fun q4 => absurd q4 (by rw [if_neg (by omega)]; omega)) (fun q4 => ?_)
  refine sx_bipush (p1 := 9) dX12_lose_7 rfl (by decide) ?_
  exact sx_iret dX12_lose_9 rfl (sx_ri (by first | rfl | omega) (by rfl))
set_option maxRecDepth 20000 in
theorem n_X12_lay {X : sx_X} {S : St} {i j k l : Int} (hn : i < 0 ∨ 4 ≤ i) (hi : -2147483648 ≤ i ∧ i ≤ 2147483647) (hj : -2147483648 ≤ j ∧ j ≤ 2147483647) (hk : -2147483648 ≤ k ∧ k ≤ 2147483647) (hl : -2147483648 ≤ l ∧ l ≤ 2147483647) : Ct X yX12_lay cX12_lay 6 (some .int) 2 0 0 [.ref 39, vI i, vI j, vI k, vI l] (hp S) (sx_is (some (vI (-2))) (hp (S))) := by
  refine Ct.of false [some (.ref 39), some (vI i), some (vI j), some (vI k), some (vI l), none] (plainFor_of_name (by decide)) (fun h => by cases h) (Nat.le_of_ble_eq_true rfl) (fun _ => rfl) sx_isl ?_
  refine sx_iload_n (p1 := 1) dX12_lay_0 rfl rfl ?_
  refine sx_callSr (p1 := 4) (As := [_]) (k1 := 0) (n1 := 0) dX12_lay_1 rfl rfl (c_X12_isSheet (by omega)) mt_X12_isSheet ml_X12_68 (Nat.le_of_ble_eq_true rfl) rfl (Nat.le_of_ble_eq_true rfl) rfl rfl (Nat.le_of_ble_eq_true rfl) (Nat.le_of_ble_eq_true rfl) ?_
  refine sx_if_eq (p1 := 7) (tg := 19) dX12_lay_4 rfl rfl (by split <;> omega) (fun q4 => ?_) (fun q4 => absurd q4 (by rw [if_neg (by omega)]; omega))
  refine sx_bipush (p1 := 21) dX12_lay_19 rfl (by decide) ?_
  exact sx_iret dX12_lay_21 rfl (sx_ri (by first | rfl | omega) (by rfl))
set_option maxRecDepth 20000 in
theorem n_X12_get {X : sx_X} {S : St} {i j k : Int} (hn : i < 0 ∨ 4 ≤ i) (hi : -2147483648 ≤ i ∧ i ≤ 2147483647) (hj : -2147483648 ≤ j ∧ j ≤ 2147483647) (hk : -2147483648 ≤ k ∧ k ≤ 2147483647) : Ct X yX12_get cX12_get 4 (some .int) 2 0 0 [.ref 39, vI i, vI j, vI k] (hp S) (sx_is (some (vI (-2147483648))) (hp (S))) := by
  refine Ct.of false [some (.ref 39), some (vI i), some (vI j), some (vI k)] (plainFor_of_name (by decide)) (fun h => by cases h) (Nat.le_of_ble_eq_true rfl) (fun _ => rfl) sx_isl ?_
  refine sx_iload_n (p1 := 1) dX12_get_0 rfl rfl ?_
  refine sx_callSr (p1 := 4) (As := [_]) (k1 := 0) (n1 := 0) dX12_get_1 rfl rfl (c_X12_isSheet (by omega)) mt_X12_isSheet ml_X12_68 (Nat.le_of_ble_eq_true rfl) rfl (Nat.le_of_ble_eq_true rfl) rfl rfl (Nat.le_of_ble_eq_true rfl) (Nat.le_of_ble_eq_true rfl) ?_
  refine sx_if_eq (p1 := 7) (tg := 29) dX12_get_4 rfl rfl (by split <;> omega) (fun q4 => ?_) (fun q4 => absurd q4 (by rw [if_neg (by omega)]; omega))
  refine sx_ldc (z := -2147483648) (p1 := 31) dX12_get_29 rfl kc_X12_86 (by decide) ?_
  exact sx_iret dX12_get_31 rfl (sx_ri (by first | rfl | omega) (by rfl))
set_option maxRecDepth 20000 in
theorem n_X12_write {X : sx_X} {S : St} {j i : Int} (hn : i < 0 ∨ 4 ≤ i) (hi : -2147483648 ≤ i ∧ i ≤ 2147483647) (hj : -2147483648 ≤ j ∧ j ≤ 2147483647) : Ct X yX12_write cX12_write 5 (some .int) 4 0 0 [.ref 39, vI j, vI i] (hp S) (sx_is (some (vI (-2))) (hp (S))) := by
  refine Ct.of false [some (.ref 39), some (vI j), some (vI i), none, none] (plainFor_of_name (by decide)) (fun h => by cases h) (Nat.le_of_ble_eq_true rfl) (fun _ => rfl) sx_isl ?_
  refine sx_iload_n (p1 := 1) dX12_write_0 rfl rfl ?_
  refine sx_i2l (p1 := 2) dX12_write_1 rfl (by omega) ?_
  refine sx_lconst (y := 0) (p1 := 3) dX12_write_2 rfl (by decide) ?_
  refine sx_ldc2 (z := 1999) (p1 := 6) dX12_write_3 rfl kc_X12_155 (by decide) ?_
  refine sx_callSr (p1 := 9) (As := [_, _, _]) (k1 := 0) (n1 := 0) dX12_write_6 rfl rfl (c_X12_in (by omega) (by omega) (by omega)) mt_X12_in ml_X12_58 (Nat.le_of_ble_eq_true rfl) rfl (Nat.le_of_ble_eq_true rfl) rfl rfl (Nat.le_of_ble_eq_true rfl) (Nat.le_of_ble_eq_true rfl) ?_
  refine sx_if_eq (p1 := 12) (tg := 19) dX12_write_9 rfl rfl (by split <;> omega) (fun q9 => ?_) (fun q9 => ?_)
  · refine sx_bipush (p1 := 21) dX12_write_19 rfl (by decide) ?_
    exact sx_iret dX12_write_21 rfl (sx_ri (by first | rfl | omega) (by rfl))
  · refine sx_iload_n (p1 := 13) dX12_write_12 rfl rfl ?_
    refine sx_callSr (p1 := 16) (As := [_]) (k1 := 0) (n1 := 0) dX12_write_13 rfl rfl (c_X12_isSheet (by omega)) mt_X12_isSheet ml_X12_68 (Nat.le_of_ble_eq_true rfl) rfl (Nat.le_of_ble_eq_true rfl) rfl rfl (Nat.le_of_ble_eq_true rfl) (Nat.le_of_ble_eq_true rfl) ?_
    refine sx_if_ne (p1 := 19) (tg := 22) dX12_write_16 rfl rfl (by split <;> omega) (fun q16 => absurd q16 (by rw [if_neg (by omega)]; omega)) (fun q16 => ?_)
    refine sx_bipush (p1 := 21) dX12_write_19 rfl (by decide) ?_
    exact sx_iret dX12_write_21 rfl (sx_ri (by first | rfl | omega) (by rfl))
set_option maxRecDepth 20000 in
theorem n_X12_copy {X : sx_X} {S : St} {x i y j k : Int} (hn : (x < 0 ∨ 4 ≤ x) ∨ y < 0 ∨ 4 ≤ y) (hx : -2147483648 ≤ x ∧ x ≤ 2147483647) (hy : -2147483648 ≤ y ∧ y ≤ 2147483647) : Ct X yX12_copy cX12_copy 7 (some .int) 2 0 0 [.ref 39, vI x, vI i, vI y, vI j, vI k] (hp S) (sx_is (some (vI (-2))) (hp (S))) := by
  refine Ct.of false [some (.ref 39), some (vI x), some (vI i), some (vI y), some (vI j), some (vI k), none] (plainFor_of_name (by decide)) (fun h => by cases h) (Nat.le_of_ble_eq_true rfl) (fun _ => rfl) sx_isl ?_
  refine sx_iload_n (p1 := 1) dX12_copy_0 rfl rfl ?_
  refine sx_callSr (p1 := 4) (As := [_]) (k1 := 0) (n1 := 0) dX12_copy_1 rfl rfl (c_X12_isSheet (by omega)) mt_X12_isSheet ml_X12_68 (Nat.le_of_ble_eq_true rfl) rfl (Nat.le_of_ble_eq_true rfl) rfl rfl (Nat.le_of_ble_eq_true rfl) (Nat.le_of_ble_eq_true rfl) ?_
  refine sx_if_eq (p1 := 7) (tg := 14) dX12_copy_4 rfl rfl (by split <;> omega) (fun q4 => ?_) (fun q4 => ?_)
  · refine sx_bipush (p1 := 16) dX12_copy_14 rfl (by decide) ?_
    exact sx_iret dX12_copy_16 rfl (sx_ri (by first | rfl | omega) (by rfl))
  · have zx : 0 ≤ x ∧ x ≤ 3 := Decidable.byContradiction (fun q => q4 (if_neg q))
    refine sx_iload_n (p1 := 8) dX12_copy_7 rfl rfl ?_
    refine sx_callSr (p1 := 11) (As := [_]) (k1 := 0) (n1 := 0) dX12_copy_8 rfl rfl (c_X12_isSheet (by omega)) mt_X12_isSheet ml_X12_68 (Nat.le_of_ble_eq_true rfl) rfl (Nat.le_of_ble_eq_true rfl) rfl rfl (Nat.le_of_ble_eq_true rfl) (Nat.le_of_ble_eq_true rfl) ?_
    refine sx_if_ne (p1 := 14) (tg := 17) dX12_copy_11 rfl rfl (by split <;> omega) (fun q11 => absurd q11 (by rw [if_neg (by omega)]; omega)) (fun q11 => ?_)
    refine sx_bipush (p1 := 16) dX12_copy_14 rfl (by decide) ?_
    exact sx_iret dX12_copy_16 rfl (sx_ri (by first | rfl | omega) (by rfl))
set_option maxRecDepth 20000 in
theorem c_X12_lacks {X : sx_X} {S : St} {s : Nat} {j k : Int} (hs : s < 4) (hsh : okSh S) (hj : -2147483648 ≤ j ∧ j ≤ 2147483647) (hk : -2147483648 ≤ k ∧ k ≤ 2147483647) : Ct X yX12_lacks cX12_lacks 4 (some .int) 1 0 0 [.ref 39, vI (s : Int), vI j, vI k] (hp S) (sx_is (some (vI (if lkZ S s j k = 0 then 0 else -10 - lkZ S s j k))) (hp (if lkZ S s j k = 0 then S else si S 30 (lkZ S s j k)))) := by
  obtain ⟨hfo, hz⟩ := hsh.1 s hs
  have si4 : (if 0 ≤ (s : Int) ∧ (s : Int) ≤ 3 then (1 : Int) else 0) = 1 := if_pos (by omega)
  refine Ct.of false [some (.ref 39), some (vI (s : Int)), some (vI j), some (vI k)] (plainFor_of_name (by decide)) (fun h => by cases h) (Nat.le_of_ble_eq_true rfl) (fun _ => rfl) sx_isl ?_
  refine sx_aload_n (p1 := 1) dX12_lacks_0 rfl rfl ?_
  refine sx_get (p1 := 4) dX12_lacks_1 rfl fl_X12_7 (hp_c39 _) rfl ?_
  refine sx_iload_n (p1 := 5) dX12_lacks_4 rfl rfl ?_
  refine sx_iald (g := S.2 40) (p1 := 6) dX12_lacks_5 rfl (hp_c40 _) (by omega) (by decide) ?_
  rw [Int.toNat_natCast]
  refine sx_if_ge (p1 := 9) (tg := 15) dX12_lacks_6 rfl rfl (by omega) (fun q6 => ?_) (fun q6 => ?_)
  · refine sx_aload_n (p1 := 16) dX12_lacks_15 rfl rfl ?_
    refine sx_get (p1 := 19) dX12_lacks_16 rfl fl_X12_7 (hp_c39 _) rfl ?_
    refine sx_iload_n (p1 := 20) dX12_lacks_19 rfl rfl ?_
    refine sx_iald (g := S.2 40) (p1 := 21) dX12_lacks_20 rfl (hp_c40 _) (by omega) (by decide) ?_
    rw [Int.toNat_natCast]
    refine sx_iload_n (p1 := 22) dX12_lacks_21 rfl rfl ?_
    refine sx_icmp_eq (p1 := 25) (tg := 31) dX12_lacks_22 rfl rfl (by omega) (by omega) (fun q22 => ?_) (fun q22 => ?_)
    · refine sx_iload_n (p1 := 32) dX12_lacks_31 rfl rfl ?_
      refine sx_i2l (p1 := 33) dX12_lacks_32 rfl (by omega) ?_
      refine sx_lconst (y := 0) (p1 := 34) dX12_lacks_33 rfl (by decide) ?_
      refine sx_aload_n (p1 := 35) dX12_lacks_34 rfl rfl ?_
      refine sx_get (p1 := 38) dX12_lacks_35 rfl fl_X12_13 (hp_c39 _) rfl ?_
      refine sx_iload_n (p1 := 39) dX12_lacks_38 rfl rfl ?_
      refine sx_iald (g := S.2 41) (p1 := 40) dX12_lacks_39 rfl (hp_c41 _) (by omega) (by decide) ?_
      rw [Int.toNat_natCast]
      refine sx_iconst (p1 := 41) dX12_lacks_40 rfl ?_
      refine sx_isub (p1 := 42) dX12_lacks_41 rfl ?_
      refine sx_i2l (p1 := 43) dX12_lacks_42 rfl (by omega) ?_
      refine sx_callSr (p1 := 46) (As := [_, _, _]) (k1 := 0) (n1 := 0) dX12_lacks_43 rfl rfl (c_X12_in (by omega) (by omega) (by omega)) mt_X12_in ml_X12_58 (Nat.le_of_ble_eq_true rfl) rfl (Nat.le_of_ble_eq_true rfl) rfl rfl (Nat.le_of_ble_eq_true rfl) (Nat.le_of_ble_eq_true rfl) ?_
      refine sx_if_eq (p1 := 49) (tg := 53) dX12_lacks_46 rfl rfl (by split <;> omega) (fun q46 => ?_) (fun q46 => ?_)
      · refine sx_aload_n (p1 := 54) dX12_lacks_53 rfl rfl ?_
        refine sx_iconst (p1 := 55) dX12_lacks_54 rfl ?_
        refine sx_callVr (p1 := 58) (As := [_]) (k1 := 0) (n1 := 0) dX12_lacks_55 rfl rfl (c_X12_met) mt_X12_met ml_X12_74 (hp_c39 _) rfl rfl (Nat.le_of_ble_eq_true rfl) rfl (Nat.le_of_ble_eq_true rfl) rfl rfl (Nat.le_of_ble_eq_true rfl) (Nat.le_of_ble_eq_true rfl) ?_
        exact sx_iret dX12_lacks_58 rfl (sx_ri (by first | rw [show lkZ S s j k = 0 from (if_neg (by omega)).trans ((if_neg (by omega)).trans (if_pos (by omega))), if_pos rfl] | (rw [show lkZ S s j k = 2 from (if_neg (by omega)).trans ((if_neg (by omega)).trans (if_neg (by omega)))]; rfl)) (by first | rw [show lkZ S s j k = 0 from (if_neg (by omega)).trans ((if_neg (by omega)).trans (if_pos (by omega))), if_pos rfl] | (rw [show lkZ S s j k = 2 from (if_neg (by omega)).trans ((if_neg (by omega)).trans (if_neg (by omega)))]; rfl)))
      · refine sx_iconst (p1 := 50) dX12_lacks_49 rfl ?_
        refine sx_goto (p1 := 58) (tg := 58) dX12_lacks_50 rfl rfl ?_
        exact sx_iret dX12_lacks_58 rfl (sx_ri (by first | rw [show lkZ S s j k = 0 from (if_neg (by omega)).trans ((if_neg (by omega)).trans (if_pos (by omega))), if_pos rfl] | (rw [show lkZ S s j k = 2 from (if_neg (by omega)).trans ((if_neg (by omega)).trans (if_neg (by omega)))]; rfl)) (by first | rw [show lkZ S s j k = 0 from (if_neg (by omega)).trans ((if_neg (by omega)).trans (if_pos (by omega))), if_pos rfl] | (rw [show lkZ S s j k = 2 from (if_neg (by omega)).trans ((if_neg (by omega)).trans (if_neg (by omega)))]; rfl)))
    · refine sx_aload_n (p1 := 26) dX12_lacks_25 rfl rfl ?_
      refine sx_iconst (p1 := 27) dX12_lacks_26 rfl ?_
      refine sx_callVr (p1 := 30) (As := [_]) (k1 := 0) (n1 := 0) dX12_lacks_27 rfl rfl (c_X12_met) mt_X12_met ml_X12_74 (hp_c39 _) rfl rfl (Nat.le_of_ble_eq_true rfl) rfl (Nat.le_of_ble_eq_true rfl) rfl rfl (Nat.le_of_ble_eq_true rfl) (Nat.le_of_ble_eq_true rfl) ?_
      exact sx_iret dX12_lacks_30 rfl (sx_ri (by rw [show lkZ S s j k = 3 from (if_neg (by omega)).trans (if_pos (by omega))]; rfl) (by rw [show lkZ S s j k = 3 from (if_neg (by omega)).trans (if_pos (by omega))]; rfl))
  · refine sx_aload_n (p1 := 10) dX12_lacks_9 rfl rfl ?_
    refine sx_iconst (p1 := 11) dX12_lacks_10 rfl ?_
    refine sx_callVr (p1 := 14) (As := [_]) (k1 := 0) (n1 := 0) dX12_lacks_11 rfl rfl (c_X12_met) mt_X12_met ml_X12_74 (hp_c39 _) rfl rfl (Nat.le_of_ble_eq_true rfl) rfl (Nat.le_of_ble_eq_true rfl) rfl rfl (Nat.le_of_ble_eq_true rfl) (Nat.le_of_ble_eq_true rfl) ?_
    exact sx_iret dX12_lacks_14 rfl (sx_ri (by rw [show lkZ S s j k = 1 from if_pos (by omega)]; rfl) (by rw [show lkZ S s j k = 1 from if_pos (by omega)]; rfl))
set_option maxRecDepth 20000 in
theorem c_X12_lose {X : sx_X} {S : St} {s : Nat} (hs : s < 4) (hsh : okSh S)  : Ct X yX12_lose cX12_lose 2 (some .int) 2 0 0 [.ref 39, vI (s : Int)] (hp S) (sx_is (some (vI (if S.2 40 s < 0 then -11 else S.2 41 s))) (hp (if S.2 40 s < 0 then si S 30 1 else sa S 40 s (-1)))) := by
  obtain ⟨hfo, hz⟩ := hsh.1 s hs
  have si4 : (if 0 ≤ (s : Int) ∧ (s : Int) ≤ 3 then (1 : Int) else 0) = 1 := if_pos (by omega)
  refine Ct.of false [some (.ref 39), some (vI (s : Int))] (plainFor_of_name (by decide)) (fun h => by cases h) (Nat.le_of_ble_eq_true rfl) (fun _ => rfl) sx_isl ?_
  refine sx_iload_n (p1 := 1) dX12_lose_0 rfl rfl ?_
  refine sx_callSr (p1 := 4) (As := [_]) (k1 := 0) (n1 := 0) dX12_lose_1 rfl rfl (c_X12_isSheet (by omega)) mt_X12_isSheet ml_X12_68 (Nat.le_of_ble_eq_true rfl) rfl (Nat.le_of_ble_eq_true rfl) rfl rfl (Nat.le_of_ble_eq_true rfl) (Nat.le_of_ble_eq_true rfl) ?_
  refine sx_if_ne (p1 := 7) (tg := 10) dX12_lose_4 rfl rfl (by rw [si4]; omega) (fun q4 => ?_) (fun q4 => absurd q4 (by rw [si4]; omega))
  refine sx_aload_n (p1 := 11) dX12_lose_10 rfl rfl ?_
  refine sx_get (p1 := 14) dX12_lose_11 rfl fl_X12_7 (hp_c39 _) rfl ?_
  refine sx_iload_n (p1 := 15) dX12_lose_14 rfl rfl ?_
  refine sx_iald (g := S.2 40) (p1 := 16) dX12_lose_15 rfl (hp_c40 _) (by omega) (by decide) ?_
  rw [Int.toNat_natCast]
  refine sx_if_ge (p1 := 19) (tg := 25) dX12_lose_16 rfl rfl (by omega) (fun q16 => ?_) (fun q16 => ?_)
  · refine sx_aload_n (p1 := 26) dX12_lose_25 rfl rfl ?_
    refine sx_get (p1 := 29) dX12_lose_26 rfl fl_X12_7 (hp_c39 _) rfl ?_
    refine sx_iload_n (p1 := 30) dX12_lose_29 rfl rfl ?_
    refine sx_iconst (p1 := 31) dX12_lose_30 rfl ?_
    refine sx_iast (p1 := 32) dX12_lose_31 rfl (hp_c40 _) (by omega) (by decide) (hp_a40 _ _ _) ?_
    rw [Int.toNat_natCast]
    refine sx_aload_n (p1 := 33) dX12_lose_32 rfl rfl ?_
    refine sx_get (p1 := 36) dX12_lose_33 rfl fl_X12_13 (hp_c39 _) rfl ?_
    refine sx_iload_n (p1 := 37) dX12_lose_36 rfl rfl ?_
    refine sx_iald (g := S.2 41) (p1 := 38) dX12_lose_37 rfl (hp_c41 _) (by omega) (by decide) ?_
    rw [Int.toNat_natCast]
    exact sx_iret dX12_lose_38 rfl (sx_ri (by first | omega | ((repeat' split) <;> first | omega | rfl)) (by (repeat' split) <;> first | rfl | omega))
  · refine sx_aload_n (p1 := 20) dX12_lose_19 rfl rfl ?_
    refine sx_iconst (p1 := 21) dX12_lose_20 rfl ?_
    refine sx_callVr (p1 := 24) (As := [_]) (k1 := 0) (n1 := 0) dX12_lose_21 rfl rfl (c_X12_met) mt_X12_met ml_X12_74 (hp_c39 _) rfl rfl (Nat.le_of_ble_eq_true rfl) rfl (Nat.le_of_ble_eq_true rfl) rfl rfl (Nat.le_of_ble_eq_true rfl) (Nat.le_of_ble_eq_true rfl) ?_
    exact sx_iret dX12_lose_24 rfl (sx_ri (by first | omega | ((repeat' split) <;> first | omega | rfl)) (by (repeat' split) <;> first | rfl | omega))
set_option maxRecDepth 20000 in
theorem c_X12_lay {X : sx_X} {S : St} {s : Nat} {j k l : Int} (hs : s < 4) (hsh : okSh S) (hj : -2147483648 ≤ j ∧ j ≤ 2147483647) (hk : -2147483648 ≤ k ∧ k ≤ 2147483647) (hl : -2147483648 ≤ l ∧ l ≤ 2147483647) : Ct X yX12_lay cX12_lay 6 (some .int) 2 0 0 [.ref 39, vI (s : Int), vI j, vI k, vI l] (hp S) (sx_is (some (vI (if 0 ≤ j ∧ j ≤ 2 then (if lkZ S s j k = 0 then 1 else -10 - lkZ S s j k) else -2))) (hp (if 0 ≤ j ∧ j ≤ 2 then (if lkZ S s j k = 0 then sa S 42 (60 * s + k.toNat) (ctZ j l) else si S 30 (lkZ S s j k)) else S))) := by
  obtain ⟨hfo, hz⟩ := hsh.1 s hs
  have si4 : (if 0 ≤ (s : Int) ∧ (s : Int) ≤ 3 then (1 : Int) else 0) = 1 := if_pos (by omega)
  have zb := lkZ_b S s j k
  have z0 := @lkZ_0 S s j k
  refine Ct.of false [some (.ref 39), some (vI (s : Int)), some (vI j), some (vI k), some (vI l), none] (plainFor_of_name (by decide)) (fun h => by cases h) (Nat.le_of_ble_eq_true rfl) (fun _ => rfl) sx_isl ?_
  refine sx_iload_n (p1 := 1) dX12_lay_0 rfl rfl ?_
  refine sx_callSr (p1 := 4) (As := [_]) (k1 := 0) (n1 := 0) dX12_lay_1 rfl rfl (c_X12_isSheet (by omega)) mt_X12_isSheet ml_X12_68 (Nat.le_of_ble_eq_true rfl) rfl (Nat.le_of_ble_eq_true rfl) rfl rfl (Nat.le_of_ble_eq_true rfl) (Nat.le_of_ble_eq_true rfl) ?_
  refine sx_if_eq (p1 := 7) (tg := 19) dX12_lay_4 rfl rfl (by rw [si4]; omega) (fun q4 => absurd q4 (by rw [si4]; omega)) (fun q4 => ?_)
  refine sx_iload_n (p1 := 8) dX12_lay_7 rfl rfl ?_
  refine sx_i2l (p1 := 9) dX12_lay_8 rfl (by omega) ?_
  refine sx_lconst (y := 0) (p1 := 10) dX12_lay_9 rfl (by decide) ?_
  refine sx_ldc2 (z := 2) (p1 := 13) dX12_lay_10 rfl kc_X12_72 (by decide) ?_
  refine sx_callSr (p1 := 16) (As := [_, _, _]) (k1 := 0) (n1 := 0) dX12_lay_13 rfl rfl (c_X12_in (by omega) (by omega) (by omega)) mt_X12_in ml_X12_58 (Nat.le_of_ble_eq_true rfl) rfl (Nat.le_of_ble_eq_true rfl) rfl rfl (Nat.le_of_ble_eq_true rfl) (Nat.le_of_ble_eq_true rfl) ?_
  refine sx_if_ne (p1 := 19) (tg := 22) dX12_lay_16 rfl rfl (by split <;> omega) (fun q16 => ?_) (fun q16 => ?_)
  · refine sx_aload_n (p1 := 23) dX12_lay_22 rfl rfl ?_
    refine sx_iload_n (p1 := 24) dX12_lay_23 rfl rfl ?_
    refine sx_iload_n (p1 := 25) dX12_lay_24 rfl rfl ?_
    refine sx_iload_n (p1 := 26) dX12_lay_25 rfl rfl ?_
    refine sx_callVr (p1 := 29) (As := [_, _, _]) (k1 := 0) (n1 := 0) dX12_lay_26 rfl rfl (c_X12_lacks hs hsh (by omega) (by omega)) mt_X12_lacks ml_X12_78 (hp_c39 _) rfl rfl (Nat.le_of_ble_eq_true rfl) rfl (Nat.le_of_ble_eq_true rfl) rfl rfl (Nat.le_of_ble_eq_true rfl) (Nat.le_of_ble_eq_true rfl) ?_
    refine sx_istore (lo1 := [some _, some _, some _, some _, some _, some _]) (p1 := 31) dX12_lay_29 rfl (by decide) rfl ?_
    refine sx_iload (p1 := 33) dX12_lay_31 rfl rfl ?_
    refine sx_if_eq (p1 := 36) (tg := 39) dX12_lay_33 rfl rfl (by split <;> omega) (fun q33 => ?_) (fun q33 => ?_)
    · have zl : lkZ S s j k = 0 := Decidable.byContradiction (fun q => by rw [if_neg q] at q33; omega)
      rw [if_pos zl]
      refine sx_aload_n (p1 := 40) dX12_lay_39 rfl rfl ?_
      refine sx_get (p1 := 43) dX12_lay_40 rfl fl_X12_16 (hp_c39 _) rfl ?_
      refine sx_bipush (p1 := 45) dX12_lay_43 rfl (by decide) ?_
      refine sx_iload_n (p1 := 46) dX12_lay_45 rfl rfl ?_
      refine sx_imul (p1 := 47) dX12_lay_46 rfl ?_
      refine sx_iload_n (p1 := 48) dX12_lay_47 rfl rfl ?_
      refine sx_iadd (p1 := 49) dX12_lay_48 rfl ?_
      refine sx_iload_n (p1 := 50) dX12_lay_49 rfl rfl ?_
      refine sx_iload (p1 := 52) dX12_lay_50 rfl rfl ?_
      refine sx_callSr (p1 := 55) (As := [_, _]) (k1 := 0) (n1 := 0) dX12_lay_52 rfl rfl (c_X12_cut (by omega)) mt_X12_cut ml_X12_82 (Nat.le_of_ble_eq_true rfl) rfl (Nat.le_of_ble_eq_true rfl) rfl rfl (Nat.le_of_ble_eq_true rfl) (Nat.le_of_ble_eq_true rfl) ?_
      refine sx_iast (p1 := 56) dX12_lay_55 rfl (hp_c42 _) (by omega) (by decide) (hp_a42 _ _ _) ?_
      rw [show (60 * (s : Int) + k).toNat = (60 * s + k.toNat) by omega]
      refine sx_iconst (p1 := 57) dX12_lay_56 rfl ?_
      exact sx_iret dX12_lay_57 rfl (sx_ri (by rw [if_pos (show 0 ≤ j ∧ j ≤ 2 by omega), if_pos zl]) (by rw [if_pos (show 0 ≤ j ∧ j ≤ 2 by omega), if_pos zl]))
    · have zl : lkZ S s j k ≠ 0 := fun q => q33 (if_pos q)
      refine sx_iload (p1 := 38) dX12_lay_36 rfl rfl ?_
      exact sx_iret dX12_lay_38 rfl (sx_ri (by rw [if_pos (show 0 ≤ j ∧ j ≤ 2 by omega)]) (by rw [if_neg zl, if_pos (show 0 ≤ j ∧ j ≤ 2 by omega), if_neg zl]))
  · refine sx_bipush (p1 := 21) dX12_lay_19 rfl (by decide) ?_
    exact sx_iret dX12_lay_21 rfl (sx_ri (by rw [if_neg (by omega)]) (by rw [if_neg (by omega)]))
set_option maxRecDepth 20000 in
theorem c_X12_get {X : sx_X} {S : St} {s : Nat} {j k : Int} (hs : s < 4) (hsh : okSh S) (hj : -2147483648 ≤ j ∧ j ≤ 2147483647) (hk : -2147483648 ≤ k ∧ k ≤ 2147483647) : Ct X yX12_get cX12_get 4 (some .int) 2 0 0 [.ref 39, vI (s : Int), vI j, vI k] (hp S) (sx_is (some (vI (if 0 ≤ j ∧ j ≤ 2 then (if lkZ S s j k = 0 then S.2 42 (60 * s + k.toNat) else -2147483648) else -2147483648))) (hp (if 0 ≤ j ∧ j ≤ 2 then (if lkZ S s j k = 0 then S else si S 30 (lkZ S s j k)) else S))) := by
  obtain ⟨hfo, hz⟩ := hsh.1 s hs
  have si4 : (if 0 ≤ (s : Int) ∧ (s : Int) ≤ 3 then (1 : Int) else 0) = 1 := if_pos (by omega)
  have zb := lkZ_b S s j k
  have z0 := @lkZ_0 S s j k
  refine Ct.of false [some (.ref 39), some (vI (s : Int)), some (vI j), some (vI k)] (plainFor_of_name (by decide)) (fun h => by cases h) (Nat.le_of_ble_eq_true rfl) (fun _ => rfl) sx_isl ?_
  refine sx_iload_n (p1 := 1) dX12_get_0 rfl rfl ?_
  refine sx_callSr (p1 := 4) (As := [_]) (k1 := 0) (n1 := 0) dX12_get_1 rfl rfl (c_X12_isSheet (by omega)) mt_X12_isSheet ml_X12_68 (Nat.le_of_ble_eq_true rfl) rfl (Nat.le_of_ble_eq_true rfl) rfl rfl (Nat.le_of_ble_eq_true rfl) (Nat.le_of_ble_eq_true rfl) ?_
  refine sx_if_eq (p1 := 7) (tg := 29) dX12_get_4 rfl rfl (by rw [si4]; omega) (fun q4 => absurd q4 (by rw [si4]; omega)) (fun q4 => ?_)
  refine sx_iload_n (p1 := 8) dX12_get_7 rfl rfl ?_
  refine sx_i2l (p1 := 9) dX12_get_8 rfl (by omega) ?_
  refine sx_lconst (y := 0) (p1 := 10) dX12_get_9 rfl (by decide) ?_
  refine sx_ldc2 (z := 2) (p1 := 13) dX12_get_10 rfl kc_X12_72 (by decide) ?_
  refine sx_callSr (p1 := 16) (As := [_, _, _]) (k1 := 0) (n1 := 0) dX12_get_13 rfl rfl (c_X12_in (by omega) (by omega) (by omega)) mt_X12_in ml_X12_58 (Nat.le_of_ble_eq_true rfl) rfl (Nat.le_of_ble_eq_true rfl) rfl rfl (Nat.le_of_ble_eq_true rfl) (Nat.le_of_ble_eq_true rfl) ?_
  refine sx_if_eq (p1 := 19) (tg := 29) dX12_get_16 rfl rfl (by split <;> omega) (fun q16 => ?_) (fun q16 => ?_)
  · refine sx_ldc (z := -2147483648) (p1 := 31) dX12_get_29 rfl kc_X12_86 (by decide) ?_
    exact sx_iret dX12_get_31 rfl (sx_ri (by first | (rw [if_pos (show 0 ≤ j ∧ j ≤ 2 by omega), if_neg zl]; done) | (rw [if_neg (by omega)]; done)) (by first | (rw [if_pos (show 0 ≤ j ∧ j ≤ 2 by omega), if_neg zl]; done) | (rw [if_neg (by omega)]; done)))
  · refine sx_aload_n (p1 := 20) dX12_get_19 rfl rfl ?_
    refine sx_iload_n (p1 := 21) dX12_get_20 rfl rfl ?_
    refine sx_iload_n (p1 := 22) dX12_get_21 rfl rfl ?_
    refine sx_iload_n (p1 := 23) dX12_get_22 rfl rfl ?_
    refine sx_callVr (p1 := 26) (As := [_, _, _]) (k1 := 0) (n1 := 0) dX12_get_23 rfl rfl (c_X12_lacks hs hsh (by omega) (by omega)) mt_X12_lacks ml_X12_78 (hp_c39 _) rfl rfl (Nat.le_of_ble_eq_true rfl) rfl (Nat.le_of_ble_eq_true rfl) rfl rfl (Nat.le_of_ble_eq_true rfl) (Nat.le_of_ble_eq_true rfl) ?_
    refine sx_if_eq (p1 := 29) (tg := 32) dX12_get_26 rfl rfl (by split <;> omega) (fun q26 => ?_) (fun q26 => ?_)
    · have zl : lkZ S s j k = 0 := Decidable.byContradiction (fun q => by rw [if_neg q] at q26; omega)
      rw [if_pos zl]
      refine sx_aload_n (p1 := 33) dX12_get_32 rfl rfl ?_
      refine sx_get (p1 := 36) dX12_get_33 rfl fl_X12_16 (hp_c39 _) rfl ?_
      refine sx_bipush (p1 := 38) dX12_get_36 rfl (by decide) ?_
      refine sx_iload_n (p1 := 39) dX12_get_38 rfl rfl ?_
      refine sx_imul (p1 := 40) dX12_get_39 rfl ?_
      refine sx_iload_n (p1 := 41) dX12_get_40 rfl rfl ?_
      refine sx_iadd (p1 := 42) dX12_get_41 rfl ?_
      refine sx_iald (g := S.2 42) (p1 := 43) dX12_get_42 rfl (hp_c42 _) (by omega) (by decide) ?_
      rw [show (60 * (s : Int) + k).toNat = (60 * s + k.toNat) by omega]
      exact sx_iret dX12_get_43 rfl (sx_ri (by rw [if_pos (show 0 ≤ j ∧ j ≤ 2 by omega), if_pos zl]) (by rw [if_pos (show 0 ≤ j ∧ j ≤ 2 by omega), if_pos zl]))
    · have zl : lkZ S s j k ≠ 0 := fun q => q26 (if_pos q)
      rw [if_neg zl]
      refine sx_ldc (z := -2147483648) (p1 := 31) dX12_get_29 rfl kc_X12_86 (by decide) ?_
      exact sx_iret dX12_get_31 rfl (sx_ri (by first | (rw [if_pos (show 0 ≤ j ∧ j ≤ 2 by omega), if_neg zl]; done) | (rw [if_neg (by omega)]; done)) (by first | (rw [if_pos (show 0 ≤ j ∧ j ≤ 2 by omega), if_neg zl]; done) | (rw [if_neg (by omega)]; done)))
