/-- the reference's sheets are in order -/
def okSh (S : St) : Prop := (∀ s : Nat, s < 4 → (-1 ≤ S.2 40 s ∧ S.2 40 s ≤ 2) ∧ 0 ≤ S.2 41 s ∧ S.2 41 s ≤ 60) ∧ ∀ i, -2147483648 ≤ S.2 42 i ∧ S.2 42 i ≤ 2147483647
def lkZ (S : St) (s : Nat) (f i : Int) : Int := if S.2 40 s < 0 then 1 else if S.2 40 s ≠ f then 3 else if 0 ≤ i ∧ i ≤ S.2 41 s - 1 then 0 else 2
theorem lkZ_b (S : St) (s : Nat) (f i : Int) : 0 ≤ lkZ S s f i ∧ lkZ S s f i ≤ 3 := by
  unfold lkZ
  (repeat' split) <;> omega
theorem lkZ_0 {S : St} {s : Nat} {f i : Int} (h : lkZ S s f i = 0) : 0 ≤ i ∧ i ≤ S.2 41 s - 1 := by
  unfold lkZ at h
  (repeat' split at h) <;> omega
/-- n laid from o on -/
def rowW (f : Nat → Int) (o n : Nat) (g : Nat → Int) (j : Nat) : Int := if o ≤ j ∧ j < o + n then g (j - o) else f j
theorem rowW_0 (f : Nat → Int) (o : Nat) (g : Nat → Int) : rowW f o 0 g = f := by
  funext j
  unfold rowW
  rw [if_neg (by omega)]
theorem rowW_s (f : Nat → Int) (o n : Nat) (g : Nat → Int) {x : Int} (hx : x = g n) : sx_u (rowW f o n g) (o + n) x = rowW f o (n + 1) g := by
  funext j
  unfold sx_u rowW
  by_cases h : j = o + n
  · rw [if_pos h, if_pos (by omega), hx, h, show o + n - o = n by omega]
  · rw [if_neg h]
    by_cases c : o ≤ j ∧ j < o + n
    · rw [if_pos c, if_pos (by omega)]
    · rw [if_neg c, if_neg (by omega)]
def rdG (f : Nat → Int) (z : Int) : Nat → Nat → St → St × Int
  | 0, k, T => (T, k)
  | n + 1, k, T => if 3 * (k : Int) + 3 ≤ z ∧ T.1 39 < 8 ∧ (0 ≤ f (3 * k) ∧ f (3 * k) ≤ 5) ∧ (0 ≤ f (3 * k + 1) ∧ f (3 * k + 1) ≤ 15) ∧ 0 ≤ f (3 * k + 2) ∧ f (3 * k + 2) ≤ 1 then rdG f z n (k + 1) (rdB T (f (3 * k)) (f (3 * k + 1)) (f (3 * k + 2))) else (T, k)
theorem rdB_a (T : St) (a b c : Int) (k : Nat) (h : k ≠ 54) : (rdB T a b c).2 k = T.2 k := by
  simp [rdB, si, sa, sx_u, h]
theorem rdB_t (T : St) (a b c : Int) : (rdB T a b c).1 39 = T.1 39 + 1 := rfl
set_option maxRecDepth 20000 in
theorem n_X12_read {X : sx_X} {S : St} {i : Int} (hn : i < 0 ∨ 4 ≤ i) (hi : -2147483648 ≤ i ∧ i ≤ 2147483647) : Ct X yX12_read cX12_read 5 (some .int) 3 0 0 [.ref 39, vI i] (hp S) (sx_is (some (vI (-2))) (hp (S))) := by
  refine Ct.of false [some (.ref 39), some (vI i), none, none, none] (plainFor_of_name (by decide)) (fun h => by cases h) (Nat.le_of_ble_eq_true rfl) (fun _ => rfl) sx_isl ?_
  refine sx_iload_n (p1 := 1) dX12_read_0 rfl rfl ?_
  refine sx_callSr (p1 := 4) (As := [_]) (k1 := 0) (n1 := 0) dX12_read_1 rfl rfl (c_X12_isSheet (by omega)) mt_X12_isSheet ml_X12_68 (Nat.le_of_ble_eq_true rfl) rfl (Nat.le_of_ble_eq_true rfl) rfl rfl (Nat.le_of_ble_eq_true rfl) (Nat.le_of_ble_eq_true rfl) ?_
  refine sx_if_ne (p1 := 7) (tg := 10) dX12_read_4 rfl rfl (by split <;> omega) (fun q4 => absurd q4 (by rw [if_neg (by omega)]; omega)) (fun q4 => ?_)
  refine sx_bipush (p1 := 9) dX12_read_7 rfl (by decide) ?_
  exact sx_iret dX12_read_9 rfl (sx_ri (by first | rfl | omega) (by rfl))
set_option maxRecDepth 20000 in
theorem n_X12_sheet {X : sx_X} {S : St} {i j k : Int} (hn : i < 0 ∨ 4 ≤ i) (hi : -2147483648 ≤ i ∧ i ≤ 2147483647) (hj : -2147483648 ≤ j ∧ j ≤ 2147483647) (hk : -2147483648 ≤ k ∧ k ≤ 2147483647) : Ct X yX12_sheet cX12_sheet 5 (some .int) 2 0 0 [.ref 39, vI i, vI j, vI k] (hp S) (sx_is (some (vI (-2))) (hp (S))) := by
  refine Ct.of false [some (.ref 39), some (vI i), some (vI j), some (vI k), none] (plainFor_of_name (by decide)) (fun h => by cases h) (Nat.le_of_ble_eq_true rfl) (fun _ => rfl) sx_isl ?_
  refine sx_iload_n (p1 := 1) dX12_sheet_0 rfl rfl ?_
  refine sx_callSr (p1 := 4) (As := [_]) (k1 := 0) (n1 := 0) dX12_sheet_1 rfl rfl (c_X12_isSheet (by omega)) mt_X12_isSheet ml_X12_68 (Nat.le_of_ble_eq_true rfl) rfl (Nat.le_of_ble_eq_true rfl) rfl rfl (Nat.le_of_ble_eq_true rfl) (Nat.le_of_ble_eq_true rfl) ?_
  refine sx_if_eq (p1 := 7) (tg := 25) dX12_sheet_4 rfl rfl (by split <;> omega) (fun q4 => ?_) (fun q4 => absurd q4 (by rw [if_neg (by omega)]; omega))
  refine sx_bipush (p1 := 27) dX12_sheet_25 rfl (by decide) ?_
  exact sx_iret dX12_sheet_27 rfl (sx_ri (by first | rfl | omega) (by rfl))
set_option maxRecDepth 20000 in
theorem n_X12_lose {X : sx_X} {S : St} {i : Int} (hn : i < 0 ∨ 4 ≤ i) (hi : -2147483648 ≤ i ∧ i ≤ 2147483647) : Ct X yX12_lose cX12_lose 2 (some .int) 2 0 0 [.ref 39, vI i] (hp S) (sx_is (some (vI (-2))) (hp (S))) := by
  refine Ct.of false [some (.ref 39), some (vI i)] (plainFor_of_name (by decide)) (fun h => by cases h) (Nat.le_of_ble_eq_true rfl) (fun _ => rfl) sx_isl ?_
  refine sx_iload_n (p1 := 1) dX12_lose_0 rfl rfl ?_
  refine sx_callSr (p1 := 4) (As := [_]) (k1 := 0) (n1 := 0) dX12_lose_1 rfl rfl (c_X12_isSheet (by omega)) mt_X12_isSheet ml_X12_68 (Nat.le_of_ble_eq_true rfl) rfl (Nat.le_of_ble_eq_true rfl) rfl rfl (Nat.le_of_ble_eq_true rfl) (Nat.le_of_ble_eq_true rfl) ?_
  refine sx_if_ne (p1 := 7) (tg := 10) dX12_lose_4 rfl rfl (by split <;> omega) (fun q4 => absurd q4 (by rw [if_neg (by omega)]; omega)) (fun q4 => ?_)
  refine sx_bipush (p1 := 9) dX12_lose_7 rfl (by decide) ?_
  exact sx_iret dX12_lose_9 rfl (sx_ri (by first | rfl | omega) (by rfl))
set_option maxRecDepth 20000 in
theorem n_X12_lay {X : sx_X} {S : St} {i j k l : Int} (hn : i < 0 ∨ 4 ≤ i) (hi : -2147483648 ≤ i ∧ i ≤ 2147483647) (hj : -2147483648 ≤ j ∧ j ≤ 2147483647) (hk : -2147483648 ≤ k ∧ k ≤ 2147483647) (hl : -2147483648 ≤ l ∧ l ≤ 2147483647) : Ct X yX12_lay cX12_lay 6 (some .int) 2 0 0 [.ref 39, vI i, vI j, vI k, vI l] (hp S) (sx_is (some (vI (-2))) (hp (S))) := by
  refine Ct.of false [some (.ref 39), some (vI i), some (vI j), some (vI k), some (vI l), none] (plainFor_of_name (by decide)) (fun h => by cases h) (Nat.le_of_ble_eq_true rfl) (fun _ => rfl) sx_isl ?_
  refine sx_iload_n (p1 := 1) dX12_lay_0 rfl rfl ?_
  refine sx_callSr (p1 := 4) (As := [_]) (k1 := 0) (n1 := 0) dX12_lay_1 rfl rfl (c_X12_isSheet (by omega)) mt_X12_isSheet ml_X12_68 (Nat.le_of_ble_eq_true rfl) rfl (Nat.le_of_ble_eq_true rfl) rfl rfl (Nat.le_of_ble_eq_true rfl) (Nat.le_of_ble_eq_true rfl) ?_
  refine sx_if_eq (p1 := 7) (tg := 19) dX12_lay_4 rfl rfl (by split <;> omega) (fun q4 => ?_) (fun q4 => absurd q4 (by rw [if_neg (by omega)]; omega))
  refine sx_bipush (p1 := 21) dX12_lay_19 rfl (by decide) ?_
  exact sx_iret dX12_lay_21 rfl (sx_ri (by first | rfl | omega) (by rfl))
set_option maxRecDepth 20000 in
theorem n_X12_get {X : sx_X} {S : St} {i j k : Int} (hn : i < 0 ∨ 4 ≤ i) (hi : -2147483648 ≤ i ∧ i ≤ 2147483647) (hj : -2147483648 ≤ j ∧ j ≤ 2147483647) (hk : -2147483648 ≤ k ∧ k ≤ 2147483647) : Ct X yX12_get cX12_get 4 (some .int) 2 0 0 [.ref 39, vI i, vI j, vI k] (hp S) (sx_is (some (vI (-2147483648))) (hp (S))) := by
  refine Ct.of false [some (.ref 39), some (vI i), some (vI j), some (vI k)] (plainFor_of_name (by decide)) (fun h => by cases h) (Nat.le_of_ble_eq_true rfl) (fun _ => rfl) sx_isl ?_
  refine sx_iload_n (p1 := 1) dX12_get_0 rfl rfl ?_
  refine sx_callSr (p1 := 4) (As := [_]) (k1 := 0) (n1 := 0) dX12_get_1 rfl rfl (c_X12_isSheet (by omega)) mt_X12_isSheet ml_X12_68 (Nat.le_of_ble_eq_true rfl) rfl (Nat.le_of_ble_eq_true rfl) rfl rfl (Nat.le_of_ble_eq_true rfl) (Nat.le_of_ble_eq_true rfl) ?_
  refine sx_if_eq (p1 := 7) (tg := 29) dX12_get_4 rfl rfl (by split <;> omega) (fun q4 => ?_) (fun q4 => absurd q4 (by rw [if_neg (by omega)]; omega))
  refine sx_ldc (z := -2147483648) (p1 := 31) dX12_get_29 rfl kc_X12_86 (by decide) ?_
  exact sx_iret dX12_get_31 rfl (sx_ri (by first | rfl | omega) (by rfl))
set_option maxRecDepth 20000 in
theorem n_X12_write {X : sx_X} {S : St} {j i : Int} (hn : i < 0 ∨ 4 ≤ i) (hi : -2147483648 ≤ i ∧ i ≤ 2147483647) (hj : -2147483648 ≤ j ∧ j ≤ 2147483647) : Ct X yX12_write cX12_write 5 (some .int) 4 0 0 [.ref 39, vI j, vI i] (hp S) (sx_is (some (vI (-2))) (hp (S))) := by
  refine Ct.of false [some (.ref 39), some (vI j), some (vI i), none, none] (plainFor_of_name (by decide)) (fun h => by cases h) (Nat.le_of_ble_eq_true rfl) (fun _ => rfl) sx_isl ?_
  refine sx_iload_n (p1 := 1) dX12_write_0 rfl rfl ?_
  refine sx_i2l (p1 := 2) dX12_write_1 rfl (by omega) ?_
  refine sx_lconst (y := 0) (p1 := 3) dX12_write_2 rfl (by decide) ?_
  refine sx_ldc2 (z := 1999) (p1 := 6) dX12_write_3 rfl kc_X12_155 (by decide) ?_
  refine sx_callSr (p1 := 9) (As := [_, _, _]) (k1 := 0) (n1 := 0) dX12_write_6 rfl rfl (c_X12_in (by omega) (by omega) (by omega)) mt_X12_in ml_X12_58 (Nat.le_of_ble_eq_true rfl) rfl (Nat.le_of_ble_eq_true rfl) rfl rfl (Nat.le_of_ble_eq_true rfl) (Nat.le_of_ble_eq_true rfl) ?_
  refine sx_if_eq (p1 := 12) (tg := 19) dX12_write_9 rfl rfl (by split <;> omega) (fun q9 => ?_) (fun q9 => ?_)
  · refine sx_bipush (p1 := 21) dX12_write_19 rfl (by decide) ?_
    exact sx_iret dX12_write_21 rfl (sx_ri (by first | rfl | omega) (by rfl))
  · refine sx_iload_n (p1 := 13) dX12_write_12 rfl rfl ?_
    refine sx_callSr (p1 := 16) (As := [_]) (k1 := 0) (n1 := 0) dX12_write_13 rfl rfl (c_X12_isSheet (by omega)) mt_X12_isSheet ml_X12_68 (Nat.le_of_ble_eq_true rfl) rfl (Nat.le_of_ble_eq_true rfl) rfl rfl (Nat.le_of_ble_eq_true rfl) (Nat.le_of_ble_eq_true rfl) ?_
    refine sx_if_ne (p1 := 19) (tg := 22) dX12_write_16 rfl rfl (by split <;> omega) (fun q16 => absurd q16 (by rw [if_neg (by omega)]; omega)) (fun q16 => ?_)
    refine sx_bipush (p1 := 21) dX12_write_19 rfl (by decide) ?_
    exact sx_iret dX12_write_21 rfl (sx_ri (by first | rfl | omega) (by rfl))
set_option maxRecDepth 20000 in
theorem n_X12_copy {X : sx_X} {S : St} {x i y j k : Int} (hn : (x < 0 ∨ 4 ≤ x) ∨ y < 0 ∨ 4 ≤ y) (hx : -2147483648 ≤ x ∧ x ≤ 2147483647) (hy : -2147483648 ≤ y ∧ y ≤ 2147483647) : Ct X yX12_copy cX12_copy 7 (some .int) 2 0 0 [.ref 39, vI x, vI i, vI y, vI j, vI k] (hp S) (sx_is (some (vI (-2))) (hp (S))) := by
  refine Ct.of false [some (.ref 39), some (vI x), some (vI i), some (vI y), some (vI j), some (vI k), none] (plainFor_of_name (by decide)) (fun h => by cases h) (Nat.le_of_ble_eq_true rfl) (fun _ => rfl) sx_isl ?_
  refine sx_iload_n (p1 := 1) dX12_copy_0 rfl rfl ?_
  refine sx_callSr (p1 := 4) (As := [_]) (k1 := 0) (n1 := 0) dX12_copy_1 rfl rfl (c_X12_isSheet (by omega)) mt_X12_isSheet ml_X12_68 (Nat.le_of_ble_eq_true rfl) rfl (Nat.le_of_ble_eq_true rfl) rfl rfl (Nat.le_of_ble_eq_true rfl) (Nat.le_of_ble_eq_true rfl) ?_
  refine sx_if_eq (p1 := 7) (tg := 14) dX12_copy_4 rfl rfl (by split <;> omega) (fun q4 => ?_) (fun q4 => ?_)
  · refine sx_bipush (p1 := 16) dX12_copy_14 rfl (by decide) ?_
    exact sx_iret dX12_copy_16 rfl (sx_ri (by first | rfl | omega) (by rfl))
  · have zx : 0 ≤ x ∧ x ≤ 3 := Decidable.byContradiction (fun q => q4 (if_neg q))
    refine sx_iload_n (p1 := 8) dX12_copy_7 rfl rfl ?_
    refine sx_callSr (p1 := 11) (As := [_]) (k1 := 0) (n1 := 0) dX12_copy_8 rfl rfl (c_X12_isSheet (by omega)) mt_X12_isSheet ml_X12_68 (Nat.le_of_ble_eq_true rfl) rfl (Nat.le_of_ble_eq_true rfl) rfl rfl (Nat.le_of_ble_eq_true rfl) (Nat.le_of_ble_eq_true rfl) ?_
    refine sx_if_ne (p1 := 14) (tg := 17) dX12_copy_11 rfl rfl (by split <;> omega) (fun q11 => absurd q11 (by rw [if_neg (by omega)]; omega)) (fun q11 => ?_)
    refine sx_bipush (p1 := 16) dX12_copy_14 rfl (by decide) ?_
    exact sx_iret dX12_copy_16 rfl (sx_ri (by first | rfl | omega) (by rfl))
set_option maxRecDepth 20000 in
theorem c_X12_lacks {X : sx_X} {S : St} {s : Nat} {j k : Int} (hs : s < 4) (hsh : okSh S) (hj : -2147483648 ≤ j ∧ j ≤ 2147483647) (hk : -2147483648 ≤ k ∧ k ≤ 2147483647) : Ct X yX12_lacks cX12_lacks 4 (some .int) 1 0 0 [.ref 39, vI (s : Int), vI j, vI k] (hp S) (sx_is (some (vI (if lkZ S s j k = 0 then 0 else -10 - lkZ S s j k))) (hp (if lkZ S s j k = 0 then S else si S 30 (lkZ S s j k)))) := by
  obtain ⟨hfo, hz⟩ := hsh.1 s hs
  have si4 : (if 0 ≤ (s : Int) ∧ (s : Int) ≤ 3 then (1 : Int) else 0) = 1 := if_pos (by omega)
  refine Ct.of false [some (.ref 39), some (vI (s : Int)), some (vI j), some (vI k)] (plainFor_of_name (by decide)) (fun h => by cases h) (Nat.le_of_ble_eq_true rfl) (fun _ => rfl) sx_isl ?_
  refine sx_aload_n (p1 := 1) dX12_lacks_0 rfl rfl ?_
  refine sx_get (p1 := 4) dX12_lacks_1 rfl fl_X12_7 (hp_c39 _) rfl ?_
  refine sx_iload_n (p1 := 5) dX12_lacks_4 rfl rfl ?_
  refine sx_iald (g := S.2 40) (p1 := 6) dX12_lacks_5 rfl (hp_c40 _) (by omega) (by decide) ?_
  rw [Int.toNat_natCast]
  refine sx_if_ge (p1 := 9) (tg := 15) dX12_lacks_6 rfl rfl (by omega) (fun q6 => ?_) (fun q6 => ?_)
  · refine sx_aload_n (p1 := 16) dX12_lacks_15 rfl rfl ?_
    refine sx_get (p1 := 19) dX12_lacks_16 rfl fl_X12_7 (hp_c39 _) rfl ?_
    refine sx_iload_n (p1 := 20) dX12_lacks_19 rfl rfl ?_
    refine sx_iald (g := S.2 40) (p1 := 21) dX12_lacks_20 rfl (hp_c40 _) (by omega) (by decide) ?_
    rw [Int.toNat_natCast]
    refine sx_iload_n (p1 := 22) dX12_lacks_21 rfl rfl ?_
    refine sx_icmp_eq (p1 := 25) (tg := 31) dX12_lacks_22 rfl rfl (by omega) (by omega) (fun q22 => ?_) (fun q22 => ?_)
    · refine sx_iload_n (p1 := 32) dX12_lacks_31 rfl rfl ?_
      refine sx_i2l (p1 := 33) dX12_lacks_32 rfl (by omega) ?_
      refine sx_lconst (y := 0) (p1 := 34) dX12_lacks_33 rfl (by decide) ?_
      refine sx_aload_n (p1 := 35) dX12_lacks_34 rfl rfl ?_
      refine sx_get (p1 := 38) dX12_lacks_35 rfl fl_X12_13 (hp_c39 _) rfl ?_
      refine sx_iload_n (p1 := 39) dX12_lacks_38 rfl rfl ?_
      refine sx_iald (g := S.2 41) (p1 := 40) dX12_lacks_39 rfl (hp_c41 _) (by omega) (by decide) ?_
      rw [Int.toNat_natCast]
      refine sx_iconst (p1 := 41) dX12_lacks_40 rfl ?_
      refine sx_isub (p1 := 42) dX12_lacks_41 rfl ?_
      refine sx_i2l (p1 := 43) dX12_lacks_42 rfl (by omega) ?_
      refine sx_callSr (p1 := 46) (As := [_, _, _]) (k1 := 0) (n1 := 0) dX12_lacks_43 rfl rfl (c_X12_in (by omega) (by omega) (by omega)) mt_X12_in ml_X12_58 (Nat.le_of_ble_eq_true rfl) rfl (Nat.le_of_ble_eq_true rfl) rfl rfl (Nat.le_of_ble_eq_true rfl) (Nat.le_of_ble_eq_true rfl) ?_
      refine sx_if_eq (p1 := 49) (tg := 53) dX12_lacks_46 rfl rfl (by split <;> omega) (fun q46 => ?_) (fun q46 => ?_)
      · refine sx_aload_n (p1 := 54) dX12_lacks_53 rfl rfl ?_
        refine sx_iconst (p1 := 55) dX12_lacks_54 rfl ?_
        refine sx_callVr (p1 := 58) (As := [_]) (k1 := 0) (n1 := 0) dX12_lacks_55 rfl rfl (c_X12_met) mt_X12_met ml_X12_74 (hp_c39 _) rfl rfl (Nat.le_of_ble_eq_true rfl) rfl (Nat.le_of_ble_eq_true rfl) rfl rfl (Nat.le_of_ble_eq_true rfl) (Nat.le_of_ble_eq_true rfl) ?_
        exact sx_iret dX12_lacks_58 rfl (sx_ri (by first | rw [show lkZ S s j k = 0 from (if_neg (by omega)).trans ((if_neg (by omega)).trans (if_pos (by omega))), if_pos rfl] | (rw [show lkZ S s j k = 2 from (if_neg (by omega)).trans ((if_neg (by omega)).trans (if_neg (by omega)))]; rfl)) (by first | rw [show lkZ S s j k = 0 from (if_neg (by omega)).trans ((if_neg (by omega)).trans (if_pos (by omega))), if_pos rfl] | (rw [show lkZ S s j k = 2 from (if_neg (by omega)).trans ((if_neg (by omega)).trans (if_neg (by omega)))]; rfl)))
      · refine sx_iconst (p1 := 50) dX12_lacks_49 rfl ?_
        refine sx_goto (p1 := 58) (tg := 58) dX12_lacks_50 rfl rfl ?_
        exact sx_iret dX12_lacks_58 rfl (sx_ri (by first | rw [show lkZ S s j k = 0 from (if_neg (by omega)).trans ((if_neg (by omega)).trans (if_pos (by omega))), if_pos rfl] | (rw [show lkZ S s j k = 2 from (if_neg (by omega)).trans ((if_neg (by omega)).trans (if_neg (by omega)))]; rfl)) (by first | rw [show lkZ S s j k = 0 from (if_neg (by omega)).trans ((if_neg (by omega)).trans (if_pos (by omega))), if_pos rfl] | (rw [show lkZ S s j k = 2 from (if_neg (by omega)).trans ((if_neg (by omega)).trans (if_neg (by omega)))]; rfl)))
    · refine sx_aload_n (p1 := 26) dX12_lacks_25 rfl rfl ?_
      refine sx_iconst (p1 := 27) dX12_lacks_26 rfl ?_
      refine sx_callVr (p1 := 30) (As := [_]) (k1 := 0) (n1 := 0) dX12_lacks_27 rfl rfl (c_X12_met) mt_X12_met ml_X12_74 (hp_c39 _) rfl rfl (Nat.le_of_ble_eq_true rfl) rfl (Nat.le_of_ble_eq_true rfl) rfl rfl (Nat.le_of_ble_eq_true rfl) (Nat.le_of_ble_eq_true rfl) ?_
      exact sx_iret dX12_lacks_30 rfl (sx_ri (by rw [show lkZ S s j k = 3 from (if_neg (by omega)).trans (if_pos (by omega))]; rfl) (by rw [show lkZ S s j k = 3 from (if_neg (by omega)).trans (if_pos (by omega))]; rfl))
  · refine sx_aload_n (p1 := 10) dX12_lacks_9 rfl rfl ?_
    refine sx_iconst (p1 := 11) dX12_lacks_10 rfl ?_
    refine sx_callVr (p1 := 14) (As := [_]) (k1 := 0) (n1 := 0) dX12_lacks_11 rfl rfl (c_X12_met) mt_X12_met ml_X12_74 (hp_c39 _) rfl rfl (Nat.le_of_ble_eq_true rfl) rfl (Nat.le_of_ble_eq_true rfl) rfl rfl (Nat.le_of_ble_eq_true rfl) (Nat.le_of_ble_eq_true rfl) ?_
    exact sx_iret dX12_lacks_14 rfl (sx_ri (by rw [show lkZ S s j k = 1 from if_pos (by omega)]; rfl) (by rw [show lkZ S s j k = 1 from if_pos (by omega)]; rfl))
set_option maxRecDepth 20000 in
theorem c_X12_lose {X : sx_X} {S : St} {s : Nat} (hs : s < 4) (hsh : okSh S)  : Ct X yX12_lose cX12_lose 2 (some .int) 2 0 0 [.ref 39, vI (s : Int)] (hp S) (sx_is (some (vI (if S.2 40 s < 0 then -11 else S.2 41 s))) (hp (if S.2 40 s < 0 then si S 30 1 else sa S 40 s (-1)))) := by
  obtain ⟨hfo, hz⟩ := hsh.1 s hs
  have si4 : (if 0 ≤ (s : Int) ∧ (s : Int) ≤ 3 then (1 : Int) else 0) = 1 := if_pos (by omega)
  refine Ct.of false [some (.ref 39), some (vI (s : Int))] (plainFor_of_name (by decide)) (fun h => by cases h) (Nat.le_of_ble_eq_true rfl) (fun _ => rfl) sx_isl ?_
  refine sx_iload_n (p1 := 1) dX12_lose_0 rfl rfl ?_
  refine sx_callSr (p1 := 4) (As := [_]) (k1 := 0) (n1 := 0) dX12_lose_1 rfl rfl (c_X12_isSheet (by omega)) mt_X12_isSheet ml_X12_68 (Nat.le_of_ble_eq_true rfl) rfl (Nat.le_of_ble_eq_true rfl) rfl rfl (Nat.le_of_ble_eq_true rfl) (Nat.le_of_ble_eq_true rfl) ?_
  refine sx_if_ne (p1 := 7) (tg := 10) dX12_lose_4 rfl rfl (by rw [si4]; omega) (fun q4 => ?_) (fun q4 => absurd q4 (by rw [si4]; omega))
  refine sx_aload_n (p1 := 11) dX12_lose_10 rfl rfl ?_
  refine sx_get (p1 := 14) dX12_lose_11 rfl fl_X12_7 (hp_c39 _) rfl ?_
  refine sx_iload_n (p1 := 15) dX12_lose_14 rfl rfl ?_
  refine sx_iald (g := S.2 40) (p1 := 16) dX12_lose_15 rfl (hp_c40 _) (by omega) (by decide) ?_
  rw [Int.toNat_natCast]
  refine sx_if_ge (p1 := 19) (tg := 25) dX12_lose_16 rfl rfl (by omega) (fun q16 => ?_) (fun q16 => ?_)
  · refine sx_aload_n (p1 := 26) dX12_lose_25 rfl rfl ?_
    refine sx_get (p1 := 29) dX12_lose_26 rfl fl_X12_7 (hp_c39 _) rfl ?_
    refine sx_iload_n (p1 := 30) dX12_lose_29 rfl rfl ?_
    refine sx_iconst (p1 := 31) dX12_lose_30 rfl ?_
    refine sx_iast (p1 := 32) dX12_lose_31 rfl (hp_c40 _) (by omega) (by decide) (hp_a40 _ _ _) ?_
    rw [Int.toNat_natCast]
    refine sx_aload_n (p1 := 33) dX12_lose_32 rfl rfl ?_
    refine sx_get (p1 := 36) dX12_lose_33 rfl fl_X12_13 (hp_c39 _) rfl ?_
    refine sx_iload_n (p1 := 37) dX12_lose_36 rfl rfl ?_
    refine sx_iald (g := S.2 41) (p1 := 38) dX12_lose_37 rfl (hp_c41 _) (by omega) (by decide) ?_
    rw [Int.toNat_natCast]
    exact sx_iret dX12_lose_38 rfl (sx_ri (by first | omega | ((repeat' split) <;> first | omega | rfl)) (by (repeat' split) <;> first | rfl | omega))
  · refine sx_aload_n (p1 := 20) dX12_lose_19 rfl rfl ?_
    refine sx_iconst (p1 := 21) dX12_lose_20 rfl ?_
    refine sx_callVr (p1 := 24) (As := [_]) (k1 := 0) (n1 := 0) dX12_lose_21 rfl rfl (c_X12_met) mt_X12_met ml_X12_74 (hp_c39 _) rfl rfl (Nat.le_of_ble_eq_true rfl) rfl (Nat.le_of_ble_eq_true rfl) rfl rfl (Nat.le_of_ble_eq_true rfl) (Nat.le_of_ble_eq_true rfl) ?_
    exact sx_iret dX12_lose_24 rfl (sx_ri (by first | omega | ((repeat' split) <;> first | omega | rfl)) (by (repeat' split) <;> first | rfl | omega))
set_option maxRecDepth 20000 in
theorem c_X12_lay {X : sx_X} {S : St} {s : Nat} {j k l : Int} (hs : s < 4) (hsh : okSh S) (hj : -2147483648 ≤ j ∧ j ≤ 2147483647) (hk : -2147483648 ≤ k ∧ k ≤ 2147483647) (hl : -2147483648 ≤ l ∧ l ≤ 2147483647) : Ct X yX12_lay cX12_lay 6 (some .int) 2 0 0 [.ref 39, vI (s : Int), vI j, vI k, vI l] (hp S) (sx_is (some (vI (if 0 ≤ j ∧ j ≤ 2 then (if lkZ S s j k = 0 then 1 else -10 - lkZ S s j k) else -2))) (hp (if 0 ≤ j ∧ j ≤ 2 then (if lkZ S s j k = 0 then sa S 42 (60 * s + k.toNat) (ctZ j l) else si S 30 (lkZ S s j k)) else S))) := by
  obtain ⟨hfo, hz⟩ := hsh.1 s hs
  have si4 : (if 0 ≤ (s : Int) ∧ (s : Int) ≤ 3 then (1 : Int) else 0) = 1 := if_pos (by omega)
  have zb := lkZ_b S s j k
  have z0 := @lkZ_0 S s j k
  refine Ct.of false [some (.ref 39), some (vI (s : Int)), some (vI j), some (vI k), some (vI l), none] (plainFor_of_name (by decide)) (fun h => by cases h) (Nat.le_of_ble_eq_true rfl) (fun _ => rfl) sx_isl ?_
  refine sx_iload_n (p1 := 1) dX12_lay_0 rfl rfl ?_
  refine sx_callSr (p1 := 4) (As := [_]) (k1 := 0) (n1 := 0) dX12_lay_1 rfl rfl (c_X12_isSheet (by omega)) mt_X12_isSheet ml_X12_68 (Nat.le_of_ble_eq_true rfl) rfl (Nat.le_of_ble_eq_true rfl) rfl rfl (Nat.le_of_ble_eq_true rfl) (Nat.le_of_ble_eq_true rfl) ?_
  refine sx_if_eq (p1 := 7) (tg := 19) dX12_lay_4 rfl rfl (by rw [si4]; omega) (fun q4 => absurd q4 (by rw [si4]; omega)) (fun q4 => ?_)
  refine sx_iload_n (p1 := 8) dX12_lay_7 rfl rfl ?_
  refine sx_i2l (p1 := 9) dX12_lay_8 rfl (by omega) ?_
  refine sx_lconst (y := 0) (p1 := 10) dX12_lay_9 rfl (by decide) ?_
  refine sx_ldc2 (z := 2) (p1 := 13) dX12_lay_10 rfl kc_X12_72 (by decide) ?_
  refine sx_callSr (p1 := 16) (As := [_, _, _]) (k1 := 0) (n1 := 0) dX12_lay_13 rfl rfl (c_X12_in (by omega) (by omega) (by omega)) mt_X12_in ml_X12_58 (Nat.le_of_ble_eq_true rfl) rfl (Nat.le_of_ble_eq_true rfl) rfl rfl (Nat.le_of_ble_eq_true rfl) (Nat.le_of_ble_eq_true rfl) ?_
  refine sx_if_ne (p1 := 19) (tg := 22) dX12_lay_16 rfl rfl (by split <;> omega) (fun q16 => ?_) (fun q16 => ?_)
  · refine sx_aload_n (p1 := 23) dX12_lay_22 rfl rfl ?_
    refine sx_iload_n (p1 := 24) dX12_lay_23 rfl rfl ?_
    refine sx_iload_n (p1 := 25) dX12_lay_24 rfl rfl ?_
    refine sx_iload_n (p1 := 26) dX12_lay_25 rfl rfl ?_
    refine sx_callVr (p1 := 29) (As := [_, _, _]) (k1 := 0) (n1 := 0) dX12_lay_26 rfl rfl (c_X12_lacks hs hsh (by omega) (by omega)) mt_X12_lacks ml_X12_78 (hp_c39 _) rfl rfl (Nat.le_of_ble_eq_true rfl) rfl (Nat.le_of_ble_eq_true rfl) rfl rfl (Nat.le_of_ble_eq_true rfl) (Nat.le_of_ble_eq_true rfl) ?_
    refine sx_istore (lo1 := [some _, some _, some _, some _, some _, some _]) (p1 := 31) dX12_lay_29 rfl (by decide) rfl ?_
    refine sx_iload (p1 := 33) dX12_lay_31 rfl rfl ?_
    refine sx_if_eq (p1 := 36) (tg := 39) dX12_lay_33 rfl rfl (by split <;> omega) (fun q33 => ?_) (fun q33 => ?_)
    · have zl : lkZ S s j k = 0 := Decidable.byContradiction (fun q => by rw [if_neg q] at q33; omega)
      rw [if_pos zl]
      refine sx_aload_n (p1 := 40) dX12_lay_39 rfl rfl ?_
      refine sx_get (p1 := 43) dX12_lay_40 rfl fl_X12_16 (hp_c39 _) rfl ?_
      refine sx_bipush (p1 := 45) dX12_lay_43 rfl (by decide) ?_
      refine sx_iload_n (p1 := 46) dX12_lay_45 rfl rfl ?_
      refine sx_imul (p1 := 47) dX12_lay_46 rfl ?_
      refine sx_iload_n (p1 := 48) dX12_lay_47 rfl rfl ?_
      refine sx_iadd (p1 := 49) dX12_lay_48 rfl ?_
      refine sx_iload_n (p1 := 50) dX12_lay_49 rfl rfl ?_
      refine sx_iload (p1 := 52) dX12_lay_50 rfl rfl ?_
      refine sx_callSr (p1 := 55) (As := [_, _]) (k1 := 0) (n1 := 0) dX12_lay_52 rfl rfl (c_X12_cut (by omega)) mt_X12_cut ml_X12_82 (Nat.le_of_ble_eq_true rfl) rfl (Nat.le_of_ble_eq_true rfl) rfl rfl (Nat.le_of_ble_eq_true rfl) (Nat.le_of_ble_eq_true rfl) ?_
      refine sx_iast (p1 := 56) dX12_lay_55 rfl (hp_c42 _) (by omega) (by decide) (hp_a42 _ _ _) ?_
      rw [show (60 * (s : Int) + k).toNat = (60 * s + k.toNat) by omega]
      refine sx_iconst (p1 := 57) dX12_lay_56 rfl ?_
      exact sx_iret dX12_lay_57 rfl (sx_ri (by (repeat' split) <;> first | rfl | omega) (by (repeat' split) <;> first | rfl | omega))
    · have zl : lkZ S s j k ≠ 0 := fun q => q33 (if_pos q)
      refine sx_iload (p1 := 38) dX12_lay_36 rfl rfl ?_
      exact sx_iret dX12_lay_38 rfl (sx_ri (by (repeat' split) <;> first | rfl | omega) (by (repeat' split) <;> first | rfl | omega))
  · refine sx_bipush (p1 := 21) dX12_lay_19 rfl (by decide) ?_
    exact sx_iret dX12_lay_21 rfl (sx_ri (by (repeat' split) <;> first | rfl | omega) (by (repeat' split) <;> first | rfl | omega))
set_option maxRecDepth 20000 in
theorem c_X12_get {X : sx_X} {S : St} {s : Nat} {j k : Int} (hs : s < 4) (hsh : okSh S) (hj : -2147483648 ≤ j ∧ j ≤ 2147483647) (hk : -2147483648 ≤ k ∧ k ≤ 2147483647) : Ct X yX12_get cX12_get 4 (some .int) 2 0 0 [.ref 39, vI (s : Int), vI j, vI k] (hp S) (sx_is (some (vI (if 0 ≤ j ∧ j ≤ 2 then (if lkZ S s j k = 0 then S.2 42 (60 * s + k.toNat) else -2147483648) else -2147483648))) (hp (if 0 ≤ j ∧ j ≤ 2 then (if lkZ S s j k = 0 then S else si S 30 (lkZ S s j k)) else S))) := by
  obtain ⟨hfo, hz⟩ := hsh.1 s hs
  have si4 : (if 0 ≤ (s : Int) ∧ (s : Int) ≤ 3 then (1 : Int) else 0) = 1 := if_pos (by omega)
  have zb := lkZ_b S s j k
  have z0 := @lkZ_0 S s j k
  refine Ct.of false [some (.ref 39), some (vI (s : Int)), some (vI j), some (vI k)] (plainFor_of_name (by decide)) (fun h => by cases h) (Nat.le_of_ble_eq_true rfl) (fun _ => rfl) sx_isl ?_
  refine sx_iload_n (p1 := 1) dX12_get_0 rfl rfl ?_
  refine sx_callSr (p1 := 4) (As := [_]) (k1 := 0) (n1 := 0) dX12_get_1 rfl rfl (c_X12_isSheet (by omega)) mt_X12_isSheet ml_X12_68 (Nat.le_of_ble_eq_true rfl) rfl (Nat.le_of_ble_eq_true rfl) rfl rfl (Nat.le_of_ble_eq_true rfl) (Nat.le_of_ble_eq_true rfl) ?_
  refine sx_if_eq (p1 := 7) (tg := 29) dX12_get_4 rfl rfl (by rw [si4]; omega) (fun q4 => absurd q4 (by rw [si4]; omega)) (fun q4 => ?_)
  refine sx_iload_n (p1 := 8) dX12_get_7 rfl rfl ?_
  refine sx_i2l (p1 := 9) dX12_get_8 rfl (by omega) ?_
  refine sx_lconst (y := 0) (p1 := 10) dX12_get_9 rfl (by decide) ?_
  refine sx_ldc2 (z := 2) (p1 := 13) dX12_get_10 rfl kc_X12_72 (by decide) ?_
  refine sx_callSr (p1 := 16) (As := [_, _, _]) (k1 := 0) (n1 := 0) dX12_get_13 rfl rfl (c_X12_in (by omega) (by omega) (by omega)) mt_X12_in ml_X12_58 (Nat.le_of_ble_eq_true rfl) rfl (Nat.le_of_ble_eq_true rfl) rfl rfl (Nat.le_of_ble_eq_true rfl) (Nat.le_of_ble_eq_true rfl) ?_
  refine sx_if_eq (p1 := 19) (tg := 29) dX12_get_16 rfl rfl (by split <;> omega) (fun q16 => ?_) (fun q16 => ?_)
  · refine sx_ldc (z := -2147483648) (p1 := 31) dX12_get_29 rfl kc_X12_86 (by decide) ?_
    exact sx_iret dX12_get_31 rfl (sx_ri (by (repeat' split) <;> first | rfl | omega) (by (repeat' split) <;> first | rfl | omega))
  · refine sx_aload_n (p1 := 20) dX12_get_19 rfl rfl ?_
    refine sx_iload_n (p1 := 21) dX12_get_20 rfl rfl ?_
    refine sx_iload_n (p1 := 22) dX12_get_21 rfl rfl ?_
    refine sx_iload_n (p1 := 23) dX12_get_22 rfl rfl ?_
    refine sx_callVr (p1 := 26) (As := [_, _, _]) (k1 := 0) (n1 := 0) dX12_get_23 rfl rfl (c_X12_lacks hs hsh (by omega) (by omega)) mt_X12_lacks ml_X12_78 (hp_c39 _) rfl rfl (Nat.le_of_ble_eq_true rfl) rfl (Nat.le_of_ble_eq_true rfl) rfl rfl (Nat.le_of_ble_eq_true rfl) (Nat.le_of_ble_eq_true rfl) ?_
    refine sx_if_eq (p1 := 29) (tg := 32) dX12_get_26 rfl rfl (by split <;> omega) (fun q26 => ?_) (fun q26 => ?_)
    · have zl : lkZ S s j k = 0 := Decidable.byContradiction (fun q => by rw [if_neg q] at q26; omega)
      rw [if_pos zl]
      refine sx_aload_n (p1 := 33) dX12_get_32 rfl rfl ?_
      refine sx_get (p1 := 36) dX12_get_33 rfl fl_X12_16 (hp_c39 _) rfl ?_
      refine sx_bipush (p1 := 38) dX12_get_36 rfl (by decide) ?_
      refine sx_iload_n (p1 := 39) dX12_get_38 rfl rfl ?_
      refine sx_imul (p1 := 40) dX12_get_39 rfl ?_
      refine sx_iload_n (p1 := 41) dX12_get_40 rfl rfl ?_
      refine sx_iadd (p1 := 42) dX12_get_41 rfl ?_
      refine sx_iald (g := S.2 42) (p1 := 43) dX12_get_42 rfl (hp_c42 _) (by omega) (by decide) ?_
      rw [show (60 * (s : Int) + k).toNat = (60 * s + k.toNat) by omega]
      exact sx_iret dX12_get_43 rfl (sx_ri (by (repeat' split) <;> first | rfl | omega) (by (repeat' split) <;> first | rfl | omega))
    · have zl : lkZ S s j k ≠ 0 := fun q => q26 (if_pos q)
      rw [if_neg zl]
      refine sx_ldc (z := -2147483648) (p1 := 31) dX12_get_29 rfl kc_X12_86 (by decide) ?_
      exact sx_iret dX12_get_31 rfl (sx_ri (by (repeat' split) <;> first | rfl | omega) (by (repeat' split) <;> first | rfl | omega))
set_option maxRecDepth 20000 in
theorem c_X12_sheet {X : sx_X} {S : St} {s : Nat} {j k : Int} (hs : s < 4) (hsh : okSh S) (hj : -2147483648 ≤ j ∧ j ≤ 2147483647) (hk : -2147483648 ≤ k ∧ k ≤ 2147483647) : Ct X yX12_sheet cX12_sheet 5 (some .int) 2 0 0 [.ref 39, vI (s : Int), vI j, vI k] (hp S) (sx_is (some (vI (if (0 ≤ j ∧ j ≤ 2) ∧ k ≤ 60 then (if k < 0 then -15 else k) else -2))) (hp (if (0 ≤ j ∧ j ≤ 2) ∧ k ≤ 60 then (if k < 0 then si S 30 5 else sA (sa (sa S 40 s j) 41 s k) 42 (rowW (S.2 42) (60 * s) k.toNat (fun _ => 0))) else S))) := by
  obtain ⟨hfo, hz⟩ := hsh.1 s hs
  have si4 : (if 0 ≤ (s : Int) ∧ (s : Int) ≤ 3 then (1 : Int) else 0) = 1 := if_pos (by omega)
  have zk : (0 ≤ k ∧ k ≤ 60) → Rn X RX12 false cX12_sheet 5 2 0 0 (some .int) 55 [some (.ref 39), some (vI (s : Int)), some (vI j), some (vI k), some (vI 0)] [] (hp (sa (sa S 40 s j) 41 s k)) 0 0 (sx_is (some (vI k)) (hp (sA (sa (sa S 40 s j) 41 s k) 42 (rowW (S.2 42) (60 * s) k.toNat (fun _ => 0))))) := by
    intro hm
    have key : ∀ (n i : Nat), i + n = k.toNat → Rn X RX12 false cX12_sheet 5 2 0 0 (some .int) 55 [some (.ref 39), some (vI (s : Int)), some (vI j), some (vI k), some (vI (i : Int))] [] (hp (sA (sa (sa S 40 s j) 41 s k) 42 (rowW (S.2 42) (60 * s) i (fun _ => 0)))) 0 0 (sx_is (some (vI k)) (hp (sA (sa (sa S 40 s j) 41 s k) 42 (rowW (S.2 42) (60 * s) k.toNat (fun _ => 0))))) := by
      intro n
      induction n with
      | zero =>
        intro i hi 
        rw [Nat.add_zero] at hi
        subst hi
        refine sx_iload (p1 := 57) dX12_sheet_55 rfl rfl ?_
        refine sx_iload_n (p1 := 58) dX12_sheet_57 rfl rfl ?_
        refine sx_icmp_ge (p1 := 61) (tg := 80) dX12_sheet_58 rfl rfl (by omega) (by omega) (fun q58 => ?_) (fun q58 => absurd q58 (by omega))
        refine sx_iload_n (p1 := 81) dX12_sheet_80 rfl rfl ?_
        exact sx_iret dX12_sheet_81 rfl (sx_ri (by rfl) (by rfl))
      | succ n ih =>
        intro i hi 
        refine sx_iload (p1 := 57) dX12_sheet_55 rfl rfl ?_
        refine sx_iload_n (p1 := 58) dX12_sheet_57 rfl rfl ?_
        refine sx_icmp_ge (p1 := 61) (tg := 80) dX12_sheet_58 rfl rfl (by omega) (by omega) (fun q58 => absurd q58 (by omega)) (fun q58 => ?_)
        refine sx_aload_n (p1 := 62) dX12_sheet_61 rfl rfl ?_
        refine sx_get (p1 := 65) dX12_sheet_62 rfl fl_X12_16 (hp_c39 _) rfl ?_
        refine sx_bipush (p1 := 67) dX12_sheet_65 rfl (by decide) ?_
        refine sx_iload_n (p1 := 68) dX12_sheet_67 rfl rfl ?_
        refine sx_imul (p1 := 69) dX12_sheet_68 rfl ?_
        refine sx_iload (p1 := 71) dX12_sheet_69 rfl rfl ?_
        refine sx_iadd (p1 := 72) dX12_sheet_71 rfl ?_
        refine sx_iconst (p1 := 73) dX12_sheet_72 rfl ?_
        refine sx_iast (p1 := 74) dX12_sheet_73 rfl (hp_c42 _) (by omega) (by decide) (hp_a42 _ _ _) ?_
        rw [show (60 * (s : Int) + (i : Int)).toNat = 60 * s + i by omega]
        refine sx_iinc (lo1 := [some _, some _, some _, some _, some _]) (p1 := 77) dX12_sheet_74 rfl (by decide) rfl rfl ?_
        refine sx_goto (p1 := 55) (tg := 55) dX12_sheet_77 rfl rfl ?_
        have h9 := ih (i + 1) (by omega)
        rw [← rowW_s (S.2 42) (60 * s) i (fun _ => 0) rfl, ← sa_sA] at h9
        exact h9
    have h9 := key _ 0 (Nat.zero_add _)
    rw [rowW_0, show sA (sa (sa S 40 s j) 41 s k) 42 (S.2 42) = sa (sa S 40 s j) 41 s k from sA_self (sa (sa S 40 s j) 41 s k) 42] at h9
    exact h9
  refine Ct.of false [some (.ref 39), some (vI (s : Int)), some (vI j), some (vI k), none] (plainFor_of_name (by decide)) (fun h => by cases h) (Nat.le_of_ble_eq_true rfl) (fun _ => rfl) sx_isl ?_
  refine sx_iload_n (p1 := 1) dX12_sheet_0 rfl rfl ?_
  refine sx_callSr (p1 := 4) (As := [_]) (k1 := 0) (n1 := 0) dX12_sheet_1 rfl rfl (c_X12_isSheet (by omega)) mt_X12_isSheet ml_X12_68 (Nat.le_of_ble_eq_true rfl) rfl (Nat.le_of_ble_eq_true rfl) rfl rfl (Nat.le_of_ble_eq_true rfl) (Nat.le_of_ble_eq_true rfl) ?_
  refine sx_if_eq (p1 := 7) (tg := 25) dX12_sheet_4 rfl rfl (by rw [si4]; omega) (fun q4 => absurd q4 (by rw [si4]; omega)) (fun q4 => ?_)
  refine sx_iload_n (p1 := 8) dX12_sheet_7 rfl rfl ?_
  refine sx_i2l (p1 := 9) dX12_sheet_8 rfl (by omega) ?_
  refine sx_lconst (y := 0) (p1 := 10) dX12_sheet_9 rfl (by decide) ?_
  refine sx_ldc2 (z := 2) (p1 := 13) dX12_sheet_10 rfl kc_X12_72 (by decide) ?_
  refine sx_callSr (p1 := 16) (As := [_, _, _]) (k1 := 0) (n1 := 0) dX12_sheet_13 rfl rfl (c_X12_in (by omega) (by omega) (by omega)) mt_X12_in ml_X12_58 (Nat.le_of_ble_eq_true rfl) rfl (Nat.le_of_ble_eq_true rfl) rfl rfl (Nat.le_of_ble_eq_true rfl) (Nat.le_of_ble_eq_true rfl) ?_
  refine sx_if_eq (p1 := 19) (tg := 25) dX12_sheet_16 rfl rfl (by split <;> omega) (fun q16 => ?_) (fun q16 => ?_)
  · refine sx_bipush (p1 := 27) dX12_sheet_25 rfl (by decide) ?_
    exact sx_iret dX12_sheet_27 rfl (sx_ri (by (repeat' split) <;> first | rfl | omega) (by (repeat' split) <;> first | rfl | omega))
  · refine sx_iload_n (p1 := 20) dX12_sheet_19 rfl rfl ?_
    refine sx_bipush (p1 := 22) dX12_sheet_20 rfl (by decide) ?_
    refine sx_icmp_le (p1 := 25) (tg := 28) dX12_sheet_22 rfl rfl (by omega) (by omega) (fun q22 => ?_) (fun q22 => ?_)
    · refine sx_iload_n (p1 := 29) dX12_sheet_28 rfl rfl ?_
      refine sx_if_ge (p1 := 32) (tg := 38) dX12_sheet_29 rfl rfl (by omega) (fun q29 => ?_) (fun q29 => ?_)
      · rw [if_pos (show (0 ≤ j ∧ j ≤ 2) ∧ k ≤ 60 by omega), if_neg (show ¬ k < 0 by omega), if_pos (show (0 ≤ j ∧ j ≤ 2) ∧ k ≤ 60 by omega), if_neg (show ¬ k < 0 by omega)]
        refine sx_aload_n (p1 := 39) dX12_sheet_38 rfl rfl ?_
        refine sx_get (p1 := 42) dX12_sheet_39 rfl fl_X12_7 (hp_c39 _) rfl ?_
        refine sx_iload_n (p1 := 43) dX12_sheet_42 rfl rfl ?_
        refine sx_iload_n (p1 := 44) dX12_sheet_43 rfl rfl ?_
        refine sx_iast (p1 := 45) dX12_sheet_44 rfl (hp_c40 _) (by omega) (by decide) (hp_a40 _ _ _) ?_
        rw [Int.toNat_natCast]
        refine sx_aload_n (p1 := 46) dX12_sheet_45 rfl rfl ?_
        refine sx_get (p1 := 49) dX12_sheet_46 rfl fl_X12_13 (hp_c39 _) rfl ?_
        refine sx_iload_n (p1 := 50) dX12_sheet_49 rfl rfl ?_
        refine sx_iload_n (p1 := 51) dX12_sheet_50 rfl rfl ?_
        refine sx_iast (p1 := 52) dX12_sheet_51 rfl (hp_c41 _) (by omega) (by decide) (hp_a41 _ _ _) ?_
        rw [Int.toNat_natCast]
        refine sx_iconst (p1 := 53) dX12_sheet_52 rfl ?_
        refine sx_istore (lo1 := [some _, some _, some _, some _, some _]) (p1 := 55) dX12_sheet_53 rfl (by decide) rfl ?_
        exact zk (by omega)
      · refine sx_aload_n (p1 := 33) dX12_sheet_32 rfl rfl ?_
        refine sx_iconst (p1 := 34) dX12_sheet_33 rfl ?_
        refine sx_callVr (p1 := 37) (As := [_]) (k1 := 0) (n1 := 0) dX12_sheet_34 rfl rfl (c_X12_met) mt_X12_met ml_X12_74 (hp_c39 _) rfl rfl (Nat.le_of_ble_eq_true rfl) rfl (Nat.le_of_ble_eq_true rfl) rfl rfl (Nat.le_of_ble_eq_true rfl) (Nat.le_of_ble_eq_true rfl) ?_
        exact sx_iret dX12_sheet_37 rfl (sx_ri (by (repeat' split) <;> first | rfl | omega) (by (repeat' split) <;> first | rfl | omega))
    · refine sx_bipush (p1 := 27) dX12_sheet_25 rfl (by decide) ?_
      exact sx_iret dX12_sheet_27 rfl (sx_ri (by (repeat' split) <;> first | rfl | omega) (by (repeat' split) <;> first | rfl | omega))
set_option maxRecDepth 20000 in
theorem c_X12_copy {X : sx_X} {S : St} {s s2 : Nat} {i j k : Int} (hs : s < 4) (hs2 : s2 < 4) (hsh : okSh S) (hi : -2147483648 ≤ i ∧ i ≤ 2147483647) (hj : -2147483648 ≤ j ∧ j ≤ 2147483647) (hk : -2147483648 ≤ k ∧ k ≤ 2147483647) : Ct X yX12_copy cX12_copy 7 (some .int) 2 0 0 [.ref 39, vI (s : Int), vI i, vI (s2 : Int), vI j, vI k] (hp S) (sx_is (some (vI (if S.2 40 s < 0 ∨ S.2 40 s2 < 0 then -11 else if S.2 40 s ≠ S.2 40 s2 then -14 else if 0 ≤ i ∧ 0 ≤ j ∧ 0 ≤ k ∧ i + k ≤ S.2 41 s ∧ j + k ≤ S.2 41 s2 then 1 else -12))) (hp (if S.2 40 s < 0 ∨ S.2 40 s2 < 0 then si S 30 1 else if S.2 40 s ≠ S.2 40 s2 then si S 30 4 else if 0 ≤ i ∧ 0 ≤ j ∧ 0 ≤ k ∧ i + k ≤ S.2 41 s ∧ j + k ≤ S.2 41 s2 then sA (sA S 43 (wrF (S.2 43) (fun a => S.2 42 (60 * s + i.toNat + a)) k.toNat)) 42 (rowW (S.2 42) (60 * s2 + j.toNat) k.toNat (fun a => S.2 42 (60 * s + i.toNat + a))) else si S 30 2))) := by
  obtain ⟨hfo, hz⟩ := hsh.1 s hs
  have si4 : (if 0 ≤ (s : Int) ∧ (s : Int) ≤ 3 then (1 : Int) else 0) = 1 := if_pos (by omega)
  obtain ⟨hfo2, hz2⟩ := hsh.1 s2 hs2
  have si5 : (if 0 ≤ (s2 : Int) ∧ (s2 : Int) ≤ 3 then (1 : Int) else 0) = 1 := if_pos (by omega)
  have two_ : (0 ≤ i ∧ 0 ≤ j ∧ 0 ≤ k ∧ i + k ≤ S.2 41 s ∧ j + k ≤ S.2 41 s2) → Rn X RX12 false cX12_copy 7 2 0 0 (some .int) 157 [some (.ref 39), some (vI (s : Int)), some (vI i), some (vI (s2 : Int)), some (vI j), some (vI k), some (vI 0)] [] (hp (sA S 43 (wrF (S.2 43) (fun a => S.2 42 (60 * s + i.toNat + a)) k.toNat))) 0 0 (sx_is (some (vI 1)) (hp (sA (sA S 43 (wrF (S.2 43) (fun a => S.2 42 (60 * s + i.toNat + a)) k.toNat)) 42 (rowW (S.2 42) (60 * s2 + j.toNat) k.toNat (fun a => S.2 42 (60 * s + i.toNat + a)))))) := by
    intro hm
    have key : ∀ (n i0 : Nat), i0 + n = k.toNat → Rn X RX12 false cX12_copy 7 2 0 0 (some .int) 157 [some (.ref 39), some (vI (s : Int)), some (vI i), some (vI (s2 : Int)), some (vI j), some (vI k), some (vI (i0 : Int))] [] (hp (sA (sA S 43 (wrF (S.2 43) (fun a => S.2 42 (60 * s + i.toNat + a)) k.toNat)) 42 (rowW (S.2 42) (60 * s2 + j.toNat) i0 (fun a => S.2 42 (60 * s + i.toNat + a))))) 0 0 (sx_is (some (vI 1)) (hp (sA (sA S 43 (wrF (S.2 43) (fun a => S.2 42 (60 * s + i.toNat + a)) k.toNat)) 42 (rowW (S.2 42) (60 * s2 + j.toNat) k.toNat (fun a => S.2 42 (60 * s + i.toNat + a)))))) := by
      intro n
      induction n with
      | zero =>
        intro i0 hi 
        rw [Nat.add_zero] at hi
        subst hi
        refine sx_iload (p1 := 159) dX12_copy_157 rfl rfl ?_
        refine sx_iload (p1 := 161) dX12_copy_159 rfl rfl ?_
        refine sx_icmp_ge (p1 := 164) (tg := 192) dX12_copy_161 rfl rfl (by omega) (by omega) (fun q161 => ?_) (fun q161 => absurd q161 (by omega))
        refine sx_iconst (p1 := 193) dX12_copy_192 rfl ?_
        exact sx_iret dX12_copy_193 rfl (sx_ri (by rfl) (by rfl))
      | succ n ih =>
        intro i0 hi 
        refine sx_iload (p1 := 159) dX12_copy_157 rfl rfl ?_
        refine sx_iload (p1 := 161) dX12_copy_159 rfl rfl ?_
        refine sx_icmp_ge (p1 := 164) (tg := 192) dX12_copy_161 rfl rfl (by omega) (by omega) (fun q161 => absurd q161 (by omega)) (fun q161 => ?_)
        refine sx_aload_n (p1 := 165) dX12_copy_164 rfl rfl ?_
        refine sx_get (p1 := 168) dX12_copy_165 rfl fl_X12_16 (hp_c39 _) rfl ?_
        refine sx_bipush (p1 := 170) dX12_copy_168 rfl (by decide) ?_
        refine sx_iload_n (p1 := 171) dX12_copy_170 rfl rfl ?_
        refine sx_imul (p1 := 172) dX12_copy_171 rfl ?_
        refine sx_iload (p1 := 174) dX12_copy_172 rfl rfl ?_
        refine sx_iadd (p1 := 175) dX12_copy_174 rfl ?_
        refine sx_iload (p1 := 177) dX12_copy_175 rfl rfl ?_
        refine sx_iadd (p1 := 178) dX12_copy_177 rfl ?_
        refine sx_aload_n (p1 := 179) dX12_copy_178 rfl rfl ?_
        refine sx_get (p1 := 182) dX12_copy_179 rfl fl_X12_19 (hp_c39 _) rfl ?_
        refine sx_iload (p1 := 184) dX12_copy_182 rfl rfl ?_
        refine sx_iald (g := (wrF (S.2 43) (fun a => S.2 42 (60 * s + i.toNat + a)) k.toNat)) (p1 := 185) dX12_copy_184 rfl (hp_c43 _) (by omega) (by decide) ?_
        refine sx_iast (p1 := 186) dX12_copy_185 rfl (hp_c42 _) (by omega) (by decide) (hp_a42 _ _ _) ?_
        rw [show (60 * (s2 : Int) + j + (i0 : Int)).toNat = (60 * s2 + j.toNat) + i0 by omega, Int.toNat_natCast, show (wrF (S.2 43) (fun a => S.2 42 (60 * s + i.toNat + a)) k.toNat) i0 = (fun a => S.2 42 (60 * s + i.toNat + a)) i0 from if_pos (by omega)]
        refine sx_iinc (lo1 := [some _, some _, some _, some _, some _, some _, some _]) (p1 := 189) dX12_copy_186 rfl (by decide) rfl rfl ?_
        refine sx_goto (p1 := 157) (tg := 157) dX12_copy_189 rfl rfl ?_
        have h9 := ih (i0 + 1) (by omega)
        rw [← rowW_s (S.2 42) (60 * s2 + j.toNat) i0 (fun a => S.2 42 (60 * s + i.toNat + a)) rfl, ← sa_sA] at h9
        exact h9
    have h9 := key _ 0 (Nat.zero_add _)
    rw [rowW_0, show sA (sA S 43 (wrF (S.2 43) (fun a => S.2 42 (60 * s + i.toNat + a)) k.toNat)) 42 (S.2 42) = sA S 43 (wrF (S.2 43) (fun a => S.2 42 (60 * s + i.toNat + a)) k.toNat) from sA_self (sA S 43 (wrF (S.2 43) (fun a => S.2 42 (60 * s + i.toNat + a)) k.toNat)) 42] at h9
    exact h9
  have one_ : (0 ≤ i ∧ 0 ≤ j ∧ 0 ≤ k ∧ i + k ≤ S.2 41 s ∧ j + k ≤ S.2 41 s2) → Rn X RX12 false cX12_copy 7 2 0 0 (some .int) 120 [some (.ref 39), some (vI (s : Int)), some (vI i), some (vI (s2 : Int)), some (vI j), some (vI k), some (vI 0)] [] (hp S) 0 0 (sx_is (some (vI 1)) (hp (sA (sA S 43 (wrF (S.2 43) (fun a => S.2 42 (60 * s + i.toNat + a)) k.toNat)) 42 (rowW (S.2 42) (60 * s2 + j.toNat) k.toNat (fun a => S.2 42 (60 * s + i.toNat + a)))))) := by
    intro hm
    have key : ∀ (n i0 : Nat), i0 + n = k.toNat → Rn X RX12 false cX12_copy 7 2 0 0 (some .int) 120 [some (.ref 39), some (vI (s : Int)), some (vI i), some (vI (s2 : Int)), some (vI j), some (vI k), some (vI (i0 : Int))] [] (hp (sA S 43 (wrF (S.2 43) (fun a => S.2 42 (60 * s + i.toNat + a)) i0))) 0 0 (sx_is (some (vI 1)) (hp (sA (sA S 43 (wrF (S.2 43) (fun a => S.2 42 (60 * s + i.toNat + a)) k.toNat)) 42 (rowW (S.2 42) (60 * s2 + j.toNat) k.toNat (fun a => S.2 42 (60 * s + i.toNat + a)))))) := by
      intro n
      induction n with
      | zero =>
        intro i0 hi 
        rw [Nat.add_zero] at hi
        subst hi
        refine sx_iload (p1 := 122) dX12_copy_120 rfl rfl ?_
        refine sx_iload (p1 := 124) dX12_copy_122 rfl rfl ?_
        refine sx_icmp_ge (p1 := 127) (tg := 154) dX12_copy_124 rfl rfl (by omega) (by omega) (fun q124 => ?_) (fun q124 => absurd q124 (by omega))
        refine sx_iconst (p1 := 155) dX12_copy_154 rfl ?_
        refine sx_istore (lo1 := [some _, some _, some _, some _, some _, some _, some _]) (p1 := 157) dX12_copy_155 rfl (by decide) rfl ?_
        exact two_ hm
      | succ n ih =>
        intro i0 hi 
        refine sx_iload (p1 := 122) dX12_copy_120 rfl rfl ?_
        refine sx_iload (p1 := 124) dX12_copy_122 rfl rfl ?_
        refine sx_icmp_ge (p1 := 127) (tg := 154) dX12_copy_124 rfl rfl (by omega) (by omega) (fun q124 => absurd q124 (by omega)) (fun q124 => ?_)
        refine sx_aload_n (p1 := 128) dX12_copy_127 rfl rfl ?_
        refine sx_get (p1 := 131) dX12_copy_128 rfl fl_X12_19 (hp_c39 _) rfl ?_
        refine sx_iload (p1 := 133) dX12_copy_131 rfl rfl ?_
        refine sx_aload_n (p1 := 134) dX12_copy_133 rfl rfl ?_
        refine sx_get (p1 := 137) dX12_copy_134 rfl fl_X12_16 (hp_c39 _) rfl ?_
        refine sx_bipush (p1 := 139) dX12_copy_137 rfl (by decide) ?_
        refine sx_iload_n (p1 := 140) dX12_copy_139 rfl rfl ?_
        refine sx_imul (p1 := 141) dX12_copy_140 rfl ?_
        refine sx_iload_n (p1 := 142) dX12_copy_141 rfl rfl ?_
        refine sx_iadd (p1 := 143) dX12_copy_142 rfl ?_
        refine sx_iload (p1 := 145) dX12_copy_143 rfl rfl ?_
        refine sx_iadd (p1 := 146) dX12_copy_145 rfl ?_
        refine sx_iald (g := S.2 42) (p1 := 147) dX12_copy_146 rfl (hp_c42 _) (by omega) (by decide) ?_
        rw [show (60 * (s : Int) + i + (i0 : Int)).toNat = 60 * s + i.toNat + i0 by omega]
        refine sx_iast (p1 := 148) dX12_copy_147 rfl (hp_c43 _) (by omega) (by decide) (hp_a43 _ _ _) ?_
        rw [Int.toNat_natCast]
        refine sx_iinc (lo1 := [some _, some _, some _, some _, some _, some _, some _]) (p1 := 151) dX12_copy_148 rfl (by decide) rfl rfl ?_
        refine sx_goto (p1 := 120) (tg := 120) dX12_copy_151 rfl rfl ?_
        have h9 := ih (i0 + 1) (by omega)
        rw [← wrF_s (S.2 43) (fun a => S.2 42 (60 * s + i.toNat + a)) i0 rfl, ← sa_sA] at h9
        exact h9
    have h9 := key _ 0 (Nat.zero_add _)
    rw [wrF_0, sA_self] at h9
    exact h9
  refine Ct.of false [some (.ref 39), some (vI (s : Int)), some (vI i), some (vI (s2 : Int)), some (vI j), some (vI k), none] (plainFor_of_name (by decide)) (fun h => by cases h) (Nat.le_of_ble_eq_true rfl) (fun _ => rfl) sx_isl ?_
  refine sx_iload_n (p1 := 1) dX12_copy_0 rfl rfl ?_
  refine sx_callSr (p1 := 4) (As := [_]) (k1 := 0) (n1 := 0) dX12_copy_1 rfl rfl (c_X12_isSheet (by omega)) mt_X12_isSheet ml_X12_68 (Nat.le_of_ble_eq_true rfl) rfl (Nat.le_of_ble_eq_true rfl) rfl rfl (Nat.le_of_ble_eq_true rfl) (Nat.le_of_ble_eq_true rfl) ?_
  refine sx_if_eq (p1 := 7) (tg := 14) dX12_copy_4 rfl rfl (by rw [si4]; omega) (fun q4 => absurd q4 (by rw [si4]; omega)) (fun q4 => ?_)
  refine sx_iload_n (p1 := 8) dX12_copy_7 rfl rfl ?_
  refine sx_callSr (p1 := 11) (As := [_]) (k1 := 0) (n1 := 0) dX12_copy_8 rfl rfl (c_X12_isSheet (by omega)) mt_X12_isSheet ml_X12_68 (Nat.le_of_ble_eq_true rfl) rfl (Nat.le_of_ble_eq_true rfl) rfl rfl (Nat.le_of_ble_eq_true rfl) (Nat.le_of_ble_eq_true rfl) ?_
  refine sx_if_ne (p1 := 14) (tg := 17) dX12_copy_11 rfl rfl (by rw [si5]; omega) (fun q11 => ?_) (fun q11 => absurd q11 (by rw [si5]; omega))
  refine sx_aload_n (p1 := 18) dX12_copy_17 rfl rfl ?_
  refine sx_get (p1 := 21) dX12_copy_18 rfl fl_X12_7 (hp_c39 _) rfl ?_
  refine sx_iload_n (p1 := 22) dX12_copy_21 rfl rfl ?_
  refine sx_iald (g := S.2 40) (p1 := 23) dX12_copy_22 rfl (hp_c40 _) (by omega) (by decide) ?_
  rw [Int.toNat_natCast]
  refine sx_if_lt (p1 := 26) (tg := 35) dX12_copy_23 rfl rfl (by omega) (fun q23 => ?_) (fun q23 => ?_)
  · refine sx_aload_n (p1 := 36) dX12_copy_35 rfl rfl ?_
    refine sx_iconst (p1 := 37) dX12_copy_36 rfl ?_
    refine sx_callVr (p1 := 40) (As := [_]) (k1 := 0) (n1 := 0) dX12_copy_37 rfl rfl (c_X12_met) mt_X12_met ml_X12_74 (hp_c39 _) rfl rfl (Nat.le_of_ble_eq_true rfl) rfl (Nat.le_of_ble_eq_true rfl) rfl rfl (Nat.le_of_ble_eq_true rfl) (Nat.le_of_ble_eq_true rfl) ?_
    exact sx_iret dX12_copy_40 rfl (sx_ri (by (repeat' split) <;> first | rfl | omega) (by (repeat' split) <;> first | rfl | omega))
  · refine sx_aload_n (p1 := 27) dX12_copy_26 rfl rfl ?_
    refine sx_get (p1 := 30) dX12_copy_27 rfl fl_X12_7 (hp_c39 _) rfl ?_
    refine sx_iload_n (p1 := 31) dX12_copy_30 rfl rfl ?_
    refine sx_iald (g := S.2 40) (p1 := 32) dX12_copy_31 rfl (hp_c40 _) (by omega) (by decide) ?_
    rw [Int.toNat_natCast]
    refine sx_if_ge (p1 := 35) (tg := 41) dX12_copy_32 rfl rfl (by omega) (fun q32 => ?_) (fun q32 => ?_)
    · refine sx_aload_n (p1 := 42) dX12_copy_41 rfl rfl ?_
      refine sx_get (p1 := 45) dX12_copy_42 rfl fl_X12_7 (hp_c39 _) rfl ?_
      refine sx_iload_n (p1 := 46) dX12_copy_45 rfl rfl ?_
      refine sx_iald (g := S.2 40) (p1 := 47) dX12_copy_46 rfl (hp_c40 _) (by omega) (by decide) ?_
      rw [Int.toNat_natCast]
      refine sx_aload_n (p1 := 48) dX12_copy_47 rfl rfl ?_
      refine sx_get (p1 := 51) dX12_copy_48 rfl fl_X12_7 (hp_c39 _) rfl ?_
      refine sx_iload_n (p1 := 52) dX12_copy_51 rfl rfl ?_
      refine sx_iald (g := S.2 40) (p1 := 53) dX12_copy_52 rfl (hp_c40 _) (by omega) (by decide) ?_
      rw [Int.toNat_natCast]
      refine sx_icmp_eq (p1 := 56) (tg := 62) dX12_copy_53 rfl rfl (by omega) (by omega) (fun q53 => ?_) (fun q53 => ?_)
      · refine sx_iload_n (p1 := 63) dX12_copy_62 rfl rfl ?_
        refine sx_if_lt (p1 := 66) (tg := 111) dX12_copy_63 rfl rfl (by omega) (fun q63 => ?_) (fun q63 => ?_)
        · refine sx_aload_n (p1 := 112) dX12_copy_111 rfl rfl ?_
          refine sx_iconst (p1 := 113) dX12_copy_112 rfl ?_
          refine sx_callVr (p1 := 116) (As := [_]) (k1 := 0) (n1 := 0) dX12_copy_113 rfl rfl (c_X12_met) mt_X12_met ml_X12_74 (hp_c39 _) rfl rfl (Nat.le_of_ble_eq_true rfl) rfl (Nat.le_of_ble_eq_true rfl) rfl rfl (Nat.le_of_ble_eq_true rfl) (Nat.le_of_ble_eq_true rfl) ?_
          exact sx_iret dX12_copy_116 rfl (sx_ri (by (repeat' split) <;> first | rfl | omega) (by (repeat' split) <;> first | rfl | omega))
        · refine sx_iload (p1 := 68) dX12_copy_66 rfl rfl ?_
          refine sx_if_lt (p1 := 71) (tg := 111) dX12_copy_68 rfl rfl (by omega) (fun q68 => ?_) (fun q68 => ?_)
          · refine sx_aload_n (p1 := 112) dX12_copy_111 rfl rfl ?_
            refine sx_iconst (p1 := 113) dX12_copy_112 rfl ?_
            refine sx_callVr (p1 := 116) (As := [_]) (k1 := 0) (n1 := 0) dX12_copy_113 rfl rfl (c_X12_met) mt_X12_met ml_X12_74 (hp_c39 _) rfl rfl (Nat.le_of_ble_eq_true rfl) rfl (Nat.le_of_ble_eq_true rfl) rfl rfl (Nat.le_of_ble_eq_true rfl) (Nat.le_of_ble_eq_true rfl) ?_
            exact sx_iret dX12_copy_116 rfl (sx_ri (by (repeat' split) <;> first | rfl | omega) (by (repeat' split) <;> first | rfl | omega))
          · refine sx_iload (p1 := 73) dX12_copy_71 rfl rfl ?_
            refine sx_if_lt (p1 := 76) (tg := 111) dX12_copy_73 rfl rfl (by omega) (fun q73 => ?_) (fun q73 => ?_)
            · refine sx_aload_n (p1 := 112) dX12_copy_111 rfl rfl ?_
              refine sx_iconst (p1 := 113) dX12_copy_112 rfl ?_
              refine sx_callVr (p1 := 116) (As := [_]) (k1 := 0) (n1 := 0) dX12_copy_113 rfl rfl (c_X12_met) mt_X12_met ml_X12_74 (hp_c39 _) rfl rfl (Nat.le_of_ble_eq_true rfl) rfl (Nat.le_of_ble_eq_true rfl) rfl rfl (Nat.le_of_ble_eq_true rfl) (Nat.le_of_ble_eq_true rfl) ?_
              exact sx_iret dX12_copy_116 rfl (sx_ri (by (repeat' split) <;> first | rfl | omega) (by (repeat' split) <;> first | rfl | omega))
            · refine sx_iload_n (p1 := 77) dX12_copy_76 rfl rfl ?_
              refine sx_i2l (p1 := 78) dX12_copy_77 rfl (by omega) ?_
              refine sx_iload (p1 := 80) dX12_copy_78 rfl rfl ?_
              refine sx_i2l (p1 := 81) dX12_copy_80 rfl (by omega) ?_
              refine sx_ladd (p1 := 82) dX12_copy_81 rfl ?_
              refine sx_aload_n (p1 := 83) dX12_copy_82 rfl rfl ?_
              refine sx_get (p1 := 86) dX12_copy_83 rfl fl_X12_13 (hp_c39 _) rfl ?_
              refine sx_iload_n (p1 := 87) dX12_copy_86 rfl rfl ?_
              refine sx_iald (g := S.2 41) (p1 := 88) dX12_copy_87 rfl (hp_c41 _) (by omega) (by decide) ?_
              rw [Int.toNat_natCast]
              refine sx_i2l (p1 := 89) dX12_copy_88 rfl (by omega) ?_
              refine sx_lcmp_gt (p2 := 0) (p1 := 93) (tg := 111) dX12_copy_89 dX12_copy_90 rfl rfl (by omega) (by omega) (fun q89 => ?_) (fun q89 => ?_)
              · refine sx_aload_n (p1 := 112) dX12_copy_111 rfl rfl ?_
                refine sx_iconst (p1 := 113) dX12_copy_112 rfl ?_
                refine sx_callVr (p1 := 116) (As := [_]) (k1 := 0) (n1 := 0) dX12_copy_113 rfl rfl (c_X12_met) mt_X12_met ml_X12_74 (hp_c39 _) rfl rfl (Nat.le_of_ble_eq_true rfl) rfl (Nat.le_of_ble_eq_true rfl) rfl rfl (Nat.le_of_ble_eq_true rfl) (Nat.le_of_ble_eq_true rfl) ?_
                exact sx_iret dX12_copy_116 rfl (sx_ri (by (repeat' split) <;> first | rfl | omega) (by (repeat' split) <;> first | rfl | omega))
              · refine sx_iload (p1 := 95) dX12_copy_93 rfl rfl ?_
                refine sx_i2l (p1 := 96) dX12_copy_95 rfl (by omega) ?_
                refine sx_iload (p1 := 98) dX12_copy_96 rfl rfl ?_
                refine sx_i2l (p1 := 99) dX12_copy_98 rfl (by omega) ?_
                refine sx_ladd (p1 := 100) dX12_copy_99 rfl ?_
                refine sx_aload_n (p1 := 101) dX12_copy_100 rfl rfl ?_
                refine sx_get (p1 := 104) dX12_copy_101 rfl fl_X12_13 (hp_c39 _) rfl ?_
                refine sx_iload_n (p1 := 105) dX12_copy_104 rfl rfl ?_
                refine sx_iald (g := S.2 41) (p1 := 106) dX12_copy_105 rfl (hp_c41 _) (by omega) (by decide) ?_
                rw [Int.toNat_natCast]
                refine sx_i2l (p1 := 107) dX12_copy_106 rfl (by omega) ?_
                refine sx_lcmp_le (p2 := 0) (p1 := 111) (tg := 117) dX12_copy_107 dX12_copy_108 rfl rfl (by omega) (by omega) (fun q107 => ?_) (fun q107 => ?_)
                · rw [if_neg (show ¬ (S.2 40 s < 0 ∨ S.2 40 s2 < 0) by omega), if_neg (show ¬ S.2 40 s ≠ S.2 40 s2 by omega), if_pos (show 0 ≤ i ∧ 0 ≤ j ∧ 0 ≤ k ∧ i + k ≤ S.2 41 s ∧ j + k ≤ S.2 41 s2 by omega), if_neg (show ¬ (S.2 40 s < 0 ∨ S.2 40 s2 < 0) by omega), if_neg (show ¬ S.2 40 s ≠ S.2 40 s2 by omega), if_pos (show 0 ≤ i ∧ 0 ≤ j ∧ 0 ≤ k ∧ i + k ≤ S.2 41 s ∧ j + k ≤ S.2 41 s2 by omega)]
                  refine sx_iconst (p1 := 118) dX12_copy_117 rfl ?_
                  refine sx_istore (lo1 := [some _, some _, some _, some _, some _, some _, some _]) (p1 := 120) dX12_copy_118 rfl (by decide) rfl ?_
                  exact one_ (by omega)
                · refine sx_aload_n (p1 := 112) dX12_copy_111 rfl rfl ?_
                  refine sx_iconst (p1 := 113) dX12_copy_112 rfl ?_
                  refine sx_callVr (p1 := 116) (As := [_]) (k1 := 0) (n1 := 0) dX12_copy_113 rfl rfl (c_X12_met) mt_X12_met ml_X12_74 (hp_c39 _) rfl rfl (Nat.le_of_ble_eq_true rfl) rfl (Nat.le_of_ble_eq_true rfl) rfl rfl (Nat.le_of_ble_eq_true rfl) (Nat.le_of_ble_eq_true rfl) ?_
                  exact sx_iret dX12_copy_116 rfl (sx_ri (by (repeat' split) <;> first | rfl | omega) (by (repeat' split) <;> first | rfl | omega))
      · refine sx_aload_n (p1 := 57) dX12_copy_56 rfl rfl ?_
        refine sx_iconst (p1 := 58) dX12_copy_57 rfl ?_
        refine sx_callVr (p1 := 61) (As := [_]) (k1 := 0) (n1 := 0) dX12_copy_58 rfl rfl (c_X12_met) mt_X12_met ml_X12_74 (hp_c39 _) rfl rfl (Nat.le_of_ble_eq_true rfl) rfl (Nat.le_of_ble_eq_true rfl) rfl rfl (Nat.le_of_ble_eq_true rfl) (Nat.le_of_ble_eq_true rfl) ?_
        exact sx_iret dX12_copy_61 rfl (sx_ri (by (repeat' split) <;> first | rfl | omega) (by (repeat' split) <;> first | rfl | omega))
    · refine sx_aload_n (p1 := 36) dX12_copy_35 rfl rfl ?_
      refine sx_iconst (p1 := 37) dX12_copy_36 rfl ?_
      refine sx_callVr (p1 := 40) (As := [_]) (k1 := 0) (n1 := 0) dX12_copy_37 rfl rfl (c_X12_met) mt_X12_met ml_X12_74 (hp_c39 _) rfl rfl (Nat.le_of_ble_eq_true rfl) rfl (Nat.le_of_ble_eq_true rfl) rfl rfl (Nat.le_of_ble_eq_true rfl) (Nat.le_of_ble_eq_true rfl) ?_
      exact sx_iret dX12_copy_40 rfl (sx_ri (by (repeat' split) <;> first | rfl | omega) (by (repeat' split) <;> first | rfl | omega))
