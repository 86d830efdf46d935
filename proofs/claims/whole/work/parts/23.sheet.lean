def wrZ (S : St) (s : Nat) (i j : Int) : Int := if S.1 (16 + 2 * s) = -1 then 1 else if S.1 (16 + 2 * s) ≠ i then 3 else if 0 ≤ j ∧ j < S.1 (17 + 2 * s) then 0 else 2
theorem wrZ_b (S : St) (s : Nat) (i j : Int) : 0 ≤ wrZ S s i j ∧ wrZ S s i j ≤ 3 := by
  unfold wrZ
  (repeat' split) <;> omega
theorem wrZ_0 {S : St} {s : Nat} {i j : Int} (h : wrZ S s i j = 0) : S.1 (16 + 2 * s) = i ∧ 0 ≤ j ∧ j < S.1 (17 + 2 * s) := by
  unfold wrZ at h
  (repeat' split at h) <;> omega
def ctZ (f x : Int) : Int := if f = 0 then sx_b8 x else if f = 1 then sx_b16 x else x
def rdA (T : St) (a b c : Int) : St := si (sa (sa (sa T 27 (T.1 15).toNat a) 28 (T.1 15).toNat b) 29 (T.1 15).toNat c) 15 (T.1 15 + 1)
/-- tellings read from a sheet's items f, z of them -/
def rdF (f : Nat → Int) (z : Int) : Nat → Nat → St → St × Int
  | 0, k, T => (T, k)
  | n + 1, k, T => if 3 * (k : Int) + 2 < z ∧ T.1 15 < 8 ∧ (0 ≤ f (3 * k) ∧ f (3 * k) ≤ 5) ∧ (0 ≤ f (3 * k + 1) ∧ f (3 * k + 1) ≤ 15) ∧ 0 ≤ f (3 * k + 2) ∧ f (3 * k + 2) ≤ 1 then rdF f z n (k + 1) (rdA T (f (3 * k)) (f (3 * k + 1)) (f (3 * k + 2))) else (T, k)
theorem rdA_s (T : St) (a b c : Int) (k : Nat) (h : k ≠ 15) : (rdA T a b c).1 k = T.1 k := by
  simp [rdA, si, sa, sx_u, h]
theorem rdA_a (T : St) (a b c : Int) (k : Nat) (h : k ≠ 27 ∧ k ≠ 28 ∧ k ≠ 29) : (rdA T a b c).2 k = T.2 k := by
  simp [rdA, si, sa, sx_u, h.1, h.2.1, h.2.2]
theorem rdA_t (T : St) (a b c : Int) : (rdA T a b c).1 15 = T.1 15 + 1 := rfl
/-- a row of places -/
def wrF (f g : Nat → Int) (i j : Nat) : Int := if j < i then g j else f j
theorem wrF_0 (f g : Nat → Int) : wrF f g 0 = f := by
  funext j
  unfold wrF
  rw [if_neg (by omega)]
theorem wrF_s (f g : Nat → Int) (i : Nat) {x : Int} (hx : x = g i) : sx_u (wrF f g i) i x = wrF f g (i + 1) := by
  funext j
  unfold sx_u wrF
  by_cases h : j = i
  · subst h
    rw [if_pos rfl, if_pos (by omega), hx]
  · rw [if_neg h]
    by_cases h2 : j < i
    · rw [if_pos h2, if_pos (by omega)]
    · rw [if_neg h2, if_neg (by omega)]
theorem cV_sh {S : St} {s : Nat} (hs : s < 4) (f : Nat → Int) : cV (sA S (32 + 2 * s) f) = cV S := by
  rcases (show s = 0 ∨ s = 1 ∨ s = 2 ∨ s = 3 by omega) with rfl | rfl | rfl | rfl <;> rfl
set_option maxRecDepth 20000 in
theorem n_X11_read {X : sx_X} {S : St} {i : Int} (hC : CI S) (hi : -2147483648 ≤ i ∧ i ≤ 2147483647) (hn : i < 0 ∨ 4 ≤ i) : Ct X yX11_read cX11_read 5 (some .int) 2 0 0 [.ref 2, vI i] (hp S) (sx_is (some (vI (-2))) (hp (S))) := by
  obtain ⟨hV, hF, l0, l1, bT, bA, bB, bC, bSh, g3, g5⟩ := hC
  have b0 : 0 ≤ S.1 2 ∧ S.1 2 ≤ 16 := hV.1
  have b1 : 0 ≤ S.1 4 ∧ S.1 4 ≤ 6 := hV.2.1
  have b2 : 0 ≤ S.1 6 ∧ S.1 6 ≤ 99 := hV.2.2.1
  have b3 : 0 ≤ S.1 7 ∧ S.1 7 ≤ 1 := hV.2.2.2.1
  have b4 : 0 ≤ S.1 8 ∧ S.1 8 ≤ 16 := hV.2.2.2.2.1
  have b5 : 0 ≤ S.1 9 ∧ S.1 9 ≤ 999 := hV.2.2.2.2.2.1
  have b6 : 0 ≤ S.1 10 ∧ S.1 10 ≤ 1999 := hV.2.2.2.2.2.2.1
  have b7 : 0 ≤ S.1 11 ∧ S.1 11 ≤ 16 := hV.2.2.2.2.2.2.2.1
  have bK : ∀ q, 0 ≤ gK S q ∧ gK S q ≤ 3 := hV.2.2.2.2.2.2.2.2.1
  have bL : ∀ q, 0 ≤ gL S q ∧ gL S q ≤ 9 := hV.2.2.2.2.2.2.2.2.2.1
  have bW : ∀ q, 0 ≤ pW S q ∧ pW S q ≤ 9 := hV.2.2.2.2.2.2.2.2.2.2.1
  have bS : ∀ q, 0 ≤ pS S q ∧ pS S q ≤ 9 := hV.2.2.2.2.2.2.2.2.2.2.2.1
  have bH : ∀ q, 0 ≤ pH S q ∧ pH S q ≤ 1 := hV.2.2.2.2.2.2.2.2.2.2.2.2
  have c0 : 0 ≤ (cV S).1 0 ∧ (cV S).1 0 ≤ 16 := b0
  have c1 : 0 ≤ (cV S).1 1 ∧ (cV S).1 1 ≤ 6 := b1
  have c2 : 0 ≤ (cV S).1 2 ∧ (cV S).1 2 ≤ 99 := b2
  have c3 : 0 ≤ (cV S).1 3 ∧ (cV S).1 3 ≤ 1 := b3
  have c4 : 0 ≤ (cV S).1 4 ∧ (cV S).1 4 ≤ 16 := b4
  have c5 : 0 ≤ (cV S).1 5 ∧ (cV S).1 5 ≤ 999 := b5
  have c6 : 0 ≤ (cV S).1 6 ∧ (cV S).1 6 ≤ 1999 := b6
  have c7 : 0 ≤ (cV S).1 7 ∧ (cV S).1 7 ≤ 16 := b7
  refine Ct.of false [some (.ref 2), some (vI i), none, none, none] (plainFor_of_name (by decide)) (fun h => by cases h) (Nat.le_of_ble_eq_true rfl) (fun _ => rfl) sx_isl ?_
  refine sx_aload_n (p1 := 1) dX11_read_0 rfl rfl ?_
  refine sx_iload_n (p1 := 2) dX11_read_1 rfl rfl ?_
  refine sx_callVr (p1 := 5) (As := [_]) (k1 := 0) (n1 := 0) dX11_read_2 rfl rfl (c_X11_sheetAtN hi hn) mt_X11_sheetAt ml_X11_253 (hp_c2 _) rfl rfl (Nat.le_of_ble_eq_true rfl) rfl (Nat.le_of_ble_eq_true rfl) rfl rfl (Nat.le_of_ble_eq_true rfl) (Nat.le_of_ble_eq_true rfl) ?_
  refine sx_astore_nN (lo1 := [some _, some _, some _, none, none]) (p1 := 6) dX11_read_5 rfl (by decide) rfl ?_
  refine sx_aload_nN (p1 := 7) dX11_read_6 rfl rfl ?_
  refine sx_ifnonnullN (p1 := 10) dX11_read_7 rfl ?_
  refine sx_bipush (p1 := 12) dX11_read_10 rfl (by decide) ?_
  exact sx_iret dX11_read_12 rfl (sx_ri (by first | omega | ((repeat' split) <;> first | omega | rfl)) (by rfl))
set_option maxRecDepth 20000 in
theorem n_X11_sheet {X : sx_X} {S : St} {i j k : Int} (hC : CI S) (hi : -2147483648 ≤ i ∧ i ≤ 2147483647) (hj : -2147483648 ≤ j ∧ j ≤ 2147483647) (hk : -2147483648 ≤ k ∧ k ≤ 2147483647) (hn : i < 0 ∨ 4 ≤ i) : Ct X yX11_sheet cX11_sheet 5 (some .int) 2 0 0 [.ref 2, vI i, vI j, vI k] (hp S) (sx_is (some (vI (-2))) (hp (S))) := by
  obtain ⟨hV, hF, l0, l1, bT, bA, bB, bC, bSh, g3, g5⟩ := hC
  have b0 : 0 ≤ S.1 2 ∧ S.1 2 ≤ 16 := hV.1
  have b1 : 0 ≤ S.1 4 ∧ S.1 4 ≤ 6 := hV.2.1
  have b2 : 0 ≤ S.1 6 ∧ S.1 6 ≤ 99 := hV.2.2.1
  have b3 : 0 ≤ S.1 7 ∧ S.1 7 ≤ 1 := hV.2.2.2.1
  have b4 : 0 ≤ S.1 8 ∧ S.1 8 ≤ 16 := hV.2.2.2.2.1
  have b5 : 0 ≤ S.1 9 ∧ S.1 9 ≤ 999 := hV.2.2.2.2.2.1
  have b6 : 0 ≤ S.1 10 ∧ S.1 10 ≤ 1999 := hV.2.2.2.2.2.2.1
  have b7 : 0 ≤ S.1 11 ∧ S.1 11 ≤ 16 := hV.2.2.2.2.2.2.2.1
  have bK : ∀ q, 0 ≤ gK S q ∧ gK S q ≤ 3 := hV.2.2.2.2.2.2.2.2.1
  have bL : ∀ q, 0 ≤ gL S q ∧ gL S q ≤ 9 := hV.2.2.2.2.2.2.2.2.2.1
  have bW : ∀ q, 0 ≤ pW S q ∧ pW S q ≤ 9 := hV.2.2.2.2.2.2.2.2.2.2.1
  have bS : ∀ q, 0 ≤ pS S q ∧ pS S q ≤ 9 := hV.2.2.2.2.2.2.2.2.2.2.2.1
  have bH : ∀ q, 0 ≤ pH S q ∧ pH S q ≤ 1 := hV.2.2.2.2.2.2.2.2.2.2.2.2
  have c0 : 0 ≤ (cV S).1 0 ∧ (cV S).1 0 ≤ 16 := b0
  have c1 : 0 ≤ (cV S).1 1 ∧ (cV S).1 1 ≤ 6 := b1
  have c2 : 0 ≤ (cV S).1 2 ∧ (cV S).1 2 ≤ 99 := b2
  have c3 : 0 ≤ (cV S).1 3 ∧ (cV S).1 3 ≤ 1 := b3
  have c4 : 0 ≤ (cV S).1 4 ∧ (cV S).1 4 ≤ 16 := b4
  have c5 : 0 ≤ (cV S).1 5 ∧ (cV S).1 5 ≤ 999 := b5
  have c6 : 0 ≤ (cV S).1 6 ∧ (cV S).1 6 ≤ 1999 := b6
  have c7 : 0 ≤ (cV S).1 7 ∧ (cV S).1 7 ≤ 16 := b7
  refine Ct.of false [some (.ref 2), some (vI i), some (vI j), some (vI k), none] (plainFor_of_name (by decide)) (fun h => by cases h) (Nat.le_of_ble_eq_true rfl) (fun _ => rfl) sx_isl ?_
  refine sx_aload_n (p1 := 1) dX11_sheet_0 rfl rfl ?_
  refine sx_iload_n (p1 := 2) dX11_sheet_1 rfl rfl ?_
  refine sx_callVr (p1 := 5) (As := [_]) (k1 := 0) (n1 := 0) dX11_sheet_2 rfl rfl (c_X11_sheetAtN hi hn) mt_X11_sheetAt ml_X11_253 (hp_c2 _) rfl rfl (Nat.le_of_ble_eq_true rfl) rfl (Nat.le_of_ble_eq_true rfl) rfl rfl (Nat.le_of_ble_eq_true rfl) (Nat.le_of_ble_eq_true rfl) ?_
  refine sx_astoreN (lo1 := [some _, some _, some _, some _, some _]) (p1 := 7) dX11_sheet_5 rfl (by decide) rfl ?_
  refine sx_aloadN (p1 := 9) dX11_sheet_7 rfl rfl ?_
  refine sx_ifnullN (p1 := 25) (tg := 25) dX11_sheet_9 rfl rfl ?_
  refine sx_bipush (p1 := 27) dX11_sheet_25 rfl (by decide) ?_
  exact sx_iret dX11_sheet_27 rfl (sx_ri (by first | omega | ((repeat' split) <;> first | omega | rfl)) (by rfl))
set_option maxRecDepth 20000 in
theorem n_X11_lose {X : sx_X} {S : St} {i : Int} (hC : CI S) (hi : -2147483648 ≤ i ∧ i ≤ 2147483647) (hn : i < 0 ∨ 4 ≤ i) : Ct X yX11_lose cX11_lose 4 (some .int) 1 0 0 [.ref 2, vI i] (hp S) (sx_is (some (vI (-2))) (hp (S))) := by
  obtain ⟨hV, hF, l0, l1, bT, bA, bB, bC, bSh, g3, g5⟩ := hC
  have b0 : 0 ≤ S.1 2 ∧ S.1 2 ≤ 16 := hV.1
  have b1 : 0 ≤ S.1 4 ∧ S.1 4 ≤ 6 := hV.2.1
  have b2 : 0 ≤ S.1 6 ∧ S.1 6 ≤ 99 := hV.2.2.1
  have b3 : 0 ≤ S.1 7 ∧ S.1 7 ≤ 1 := hV.2.2.2.1
  have b4 : 0 ≤ S.1 8 ∧ S.1 8 ≤ 16 := hV.2.2.2.2.1
  have b5 : 0 ≤ S.1 9 ∧ S.1 9 ≤ 999 := hV.2.2.2.2.2.1
  have b6 : 0 ≤ S.1 10 ∧ S.1 10 ≤ 1999 := hV.2.2.2.2.2.2.1
  have b7 : 0 ≤ S.1 11 ∧ S.1 11 ≤ 16 := hV.2.2.2.2.2.2.2.1
  have bK : ∀ q, 0 ≤ gK S q ∧ gK S q ≤ 3 := hV.2.2.2.2.2.2.2.2.1
  have bL : ∀ q, 0 ≤ gL S q ∧ gL S q ≤ 9 := hV.2.2.2.2.2.2.2.2.2.1
  have bW : ∀ q, 0 ≤ pW S q ∧ pW S q ≤ 9 := hV.2.2.2.2.2.2.2.2.2.2.1
  have bS : ∀ q, 0 ≤ pS S q ∧ pS S q ≤ 9 := hV.2.2.2.2.2.2.2.2.2.2.2.1
  have bH : ∀ q, 0 ≤ pH S q ∧ pH S q ≤ 1 := hV.2.2.2.2.2.2.2.2.2.2.2.2
  have c0 : 0 ≤ (cV S).1 0 ∧ (cV S).1 0 ≤ 16 := b0
  have c1 : 0 ≤ (cV S).1 1 ∧ (cV S).1 1 ≤ 6 := b1
  have c2 : 0 ≤ (cV S).1 2 ∧ (cV S).1 2 ≤ 99 := b2
  have c3 : 0 ≤ (cV S).1 3 ∧ (cV S).1 3 ≤ 1 := b3
  have c4 : 0 ≤ (cV S).1 4 ∧ (cV S).1 4 ≤ 16 := b4
  have c5 : 0 ≤ (cV S).1 5 ∧ (cV S).1 5 ≤ 999 := b5
  have c6 : 0 ≤ (cV S).1 6 ∧ (cV S).1 6 ≤ 1999 := b6
  have c7 : 0 ≤ (cV S).1 7 ∧ (cV S).1 7 ≤ 16 := b7
  refine Ct.of false [some (.ref 2), some (vI i), none, none] (plainFor_of_name (by decide)) (fun h => by cases h) (Nat.le_of_ble_eq_true rfl) (fun _ => rfl) sx_isl ?_
  refine sx_aload_n (p1 := 1) dX11_lose_0 rfl rfl ?_
  refine sx_iload_n (p1 := 2) dX11_lose_1 rfl rfl ?_
  refine sx_callVr (p1 := 5) (As := [_]) (k1 := 0) (n1 := 0) dX11_lose_2 rfl rfl (c_X11_sheetAtN hi hn) mt_X11_sheetAt ml_X11_253 (hp_c2 _) rfl rfl (Nat.le_of_ble_eq_true rfl) rfl (Nat.le_of_ble_eq_true rfl) rfl rfl (Nat.le_of_ble_eq_true rfl) (Nat.le_of_ble_eq_true rfl) ?_
  refine sx_astore_nN (lo1 := [some _, some _, some _, none]) (p1 := 6) dX11_lose_5 rfl (by decide) rfl ?_
  refine sx_aload_nN (p1 := 7) dX11_lose_6 rfl rfl ?_
  refine sx_ifnonnullN (p1 := 10) dX11_lose_7 rfl ?_
  refine sx_bipush (p1 := 12) dX11_lose_10 rfl (by decide) ?_
  exact sx_iret dX11_lose_12 rfl (sx_ri (by first | omega | ((repeat' split) <;> first | omega | rfl)) (by rfl))
set_option maxRecDepth 20000 in
theorem n_X11_lay {X : sx_X} {S : St} {i j k l : Int} (hC : CI S) (hi : -2147483648 ≤ i ∧ i ≤ 2147483647) (hj : -2147483648 ≤ j ∧ j ≤ 2147483647) (hk : -2147483648 ≤ k ∧ k ≤ 2147483647) (hl : -2147483648 ≤ l ∧ l ≤ 2147483647) (hn : i < 0 ∨ 4 ≤ i) : Ct X yX11_lay cX11_lay 7 (some .int) 2 0 0 [.ref 2, vI i, vI j, vI k, vI l] (hp S) (sx_is (some (vI (-2))) (hp (S))) := by
  obtain ⟨hV, hF, l0, l1, bT, bA, bB, bC, bSh, g3, g5⟩ := hC
  have b0 : 0 ≤ S.1 2 ∧ S.1 2 ≤ 16 := hV.1
  have b1 : 0 ≤ S.1 4 ∧ S.1 4 ≤ 6 := hV.2.1
  have b2 : 0 ≤ S.1 6 ∧ S.1 6 ≤ 99 := hV.2.2.1
  have b3 : 0 ≤ S.1 7 ∧ S.1 7 ≤ 1 := hV.2.2.2.1
  have b4 : 0 ≤ S.1 8 ∧ S.1 8 ≤ 16 := hV.2.2.2.2.1
  have b5 : 0 ≤ S.1 9 ∧ S.1 9 ≤ 999 := hV.2.2.2.2.2.1
  have b6 : 0 ≤ S.1 10 ∧ S.1 10 ≤ 1999 := hV.2.2.2.2.2.2.1
  have b7 : 0 ≤ S.1 11 ∧ S.1 11 ≤ 16 := hV.2.2.2.2.2.2.2.1
  have bK : ∀ q, 0 ≤ gK S q ∧ gK S q ≤ 3 := hV.2.2.2.2.2.2.2.2.1
  have bL : ∀ q, 0 ≤ gL S q ∧ gL S q ≤ 9 := hV.2.2.2.2.2.2.2.2.2.1
  have bW : ∀ q, 0 ≤ pW S q ∧ pW S q ≤ 9 := hV.2.2.2.2.2.2.2.2.2.2.1
  have bS : ∀ q, 0 ≤ pS S q ∧ pS S q ≤ 9 := hV.2.2.2.2.2.2.2.2.2.2.2.1
  have bH : ∀ q, 0 ≤ pH S q ∧ pH S q ≤ 1 := hV.2.2.2.2.2.2.2.2.2.2.2.2
  have c0 : 0 ≤ (cV S).1 0 ∧ (cV S).1 0 ≤ 16 := b0
  have c1 : 0 ≤ (cV S).1 1 ∧ (cV S).1 1 ≤ 6 := b1
  have c2 : 0 ≤ (cV S).1 2 ∧ (cV S).1 2 ≤ 99 := b2
  have c3 : 0 ≤ (cV S).1 3 ∧ (cV S).1 3 ≤ 1 := b3
  have c4 : 0 ≤ (cV S).1 4 ∧ (cV S).1 4 ≤ 16 := b4
  have c5 : 0 ≤ (cV S).1 5 ∧ (cV S).1 5 ≤ 999 := b5
  have c6 : 0 ≤ (cV S).1 6 ∧ (cV S).1 6 ≤ 1999 := b6
  have c7 : 0 ≤ (cV S).1 7 ∧ (cV S).1 7 ≤ 16 := b7
  refine Ct.of false [some (.ref 2), some (vI i), some (vI j), some (vI k), some (vI l), none, none] (plainFor_of_name (by decide)) (fun h => by cases h) (Nat.le_of_ble_eq_true rfl) (fun _ => rfl) sx_isl ?_
  refine sx_aload_n (p1 := 1) dX11_lay_0 rfl rfl ?_
  refine sx_iload_n (p1 := 2) dX11_lay_1 rfl rfl ?_
  refine sx_callVr (p1 := 5) (As := [_]) (k1 := 0) (n1 := 0) dX11_lay_2 rfl rfl (c_X11_sheetAtN hi hn) mt_X11_sheetAt ml_X11_253 (hp_c2 _) rfl rfl (Nat.le_of_ble_eq_true rfl) rfl (Nat.le_of_ble_eq_true rfl) rfl rfl (Nat.le_of_ble_eq_true rfl) (Nat.le_of_ble_eq_true rfl) ?_
  refine sx_astoreN (lo1 := [some _, some _, some _, some _, some _, some _, none]) (p1 := 7) dX11_lay_5 rfl (by decide) rfl ?_
  refine sx_aloadN (p1 := 9) dX11_lay_7 rfl rfl ?_
  refine sx_ifnullN (p1 := 19) (tg := 19) dX11_lay_9 rfl rfl ?_
  refine sx_bipush (p1 := 21) dX11_lay_19 rfl (by decide) ?_
  exact sx_iret dX11_lay_21 rfl (sx_ri (by first | omega | ((repeat' split) <;> first | omega | rfl)) (by rfl))
set_option maxRecDepth 20000 in
theorem n_X11_get {X : sx_X} {S : St} {i j k : Int} (hC : CI S) (hi : -2147483648 ≤ i ∧ i ≤ 2147483647) (hj : -2147483648 ≤ j ∧ j ≤ 2147483647) (hk : -2147483648 ≤ k ∧ k ≤ 2147483647) (hn : i < 0 ∨ 4 ≤ i) : Ct X yX11_get cX11_get 6 (some .int) 2 0 0 [.ref 2, vI i, vI j, vI k] (hp S) (sx_is (some (vI (-2147483648))) (hp (S))) := by
  obtain ⟨hV, hF, l0, l1, bT, bA, bB, bC, bSh, g3, g5⟩ := hC
  have b0 : 0 ≤ S.1 2 ∧ S.1 2 ≤ 16 := hV.1
  have b1 : 0 ≤ S.1 4 ∧ S.1 4 ≤ 6 := hV.2.1
  have b2 : 0 ≤ S.1 6 ∧ S.1 6 ≤ 99 := hV.2.2.1
  have b3 : 0 ≤ S.1 7 ∧ S.1 7 ≤ 1 := hV.2.2.2.1
  have b4 : 0 ≤ S.1 8 ∧ S.1 8 ≤ 16 := hV.2.2.2.2.1
  have b5 : 0 ≤ S.1 9 ∧ S.1 9 ≤ 999 := hV.2.2.2.2.2.1
  have b6 : 0 ≤ S.1 10 ∧ S.1 10 ≤ 1999 := hV.2.2.2.2.2.2.1
  have b7 : 0 ≤ S.1 11 ∧ S.1 11 ≤ 16 := hV.2.2.2.2.2.2.2.1
  have bK : ∀ q, 0 ≤ gK S q ∧ gK S q ≤ 3 := hV.2.2.2.2.2.2.2.2.1
  have bL : ∀ q, 0 ≤ gL S q ∧ gL S q ≤ 9 := hV.2.2.2.2.2.2.2.2.2.1
  have bW : ∀ q, 0 ≤ pW S q ∧ pW S q ≤ 9 := hV.2.2.2.2.2.2.2.2.2.2.1
  have bS : ∀ q, 0 ≤ pS S q ∧ pS S q ≤ 9 := hV.2.2.2.2.2.2.2.2.2.2.2.1
  have bH : ∀ q, 0 ≤ pH S q ∧ pH S q ≤ 1 := hV.2.2.2.2.2.2.2.2.2.2.2.2
  have c0 : 0 ≤ (cV S).1 0 ∧ (cV S).1 0 ≤ 16 := b0
  have c1 : 0 ≤ (cV S).1 1 ∧ (cV S).1 1 ≤ 6 := b1
  have c2 : 0 ≤ (cV S).1 2 ∧ (cV S).1 2 ≤ 99 := b2
  have c3 : 0 ≤ (cV S).1 3 ∧ (cV S).1 3 ≤ 1 := b3
  have c4 : 0 ≤ (cV S).1 4 ∧ (cV S).1 4 ≤ 16 := b4
  have c5 : 0 ≤ (cV S).1 5 ∧ (cV S).1 5 ≤ 999 := b5
  have c6 : 0 ≤ (cV S).1 6 ∧ (cV S).1 6 ≤ 1999 := b6
  have c7 : 0 ≤ (cV S).1 7 ∧ (cV S).1 7 ≤ 16 := b7
  refine Ct.of false [some (.ref 2), some (vI i), some (vI j), some (vI k), none, none] (plainFor_of_name (by decide)) (fun h => by cases h) (Nat.le_of_ble_eq_true rfl) (fun _ => rfl) sx_isl ?_
  refine sx_aload_n (p1 := 1) dX11_get_0 rfl rfl ?_
  refine sx_iload_n (p1 := 2) dX11_get_1 rfl rfl ?_
  refine sx_callVr (p1 := 5) (As := [_]) (k1 := 0) (n1 := 0) dX11_get_2 rfl rfl (c_X11_sheetAtN hi hn) mt_X11_sheetAt ml_X11_253 (hp_c2 _) rfl rfl (Nat.le_of_ble_eq_true rfl) rfl (Nat.le_of_ble_eq_true rfl) rfl rfl (Nat.le_of_ble_eq_true rfl) (Nat.le_of_ble_eq_true rfl) ?_
  refine sx_astoreN (lo1 := [some _, some _, some _, some _, some _, none]) (p1 := 7) dX11_get_5 rfl (by decide) rfl ?_
  refine sx_aloadN (p1 := 9) dX11_get_7 rfl rfl ?_
  refine sx_ifnullN (p1 := 19) (tg := 19) dX11_get_9 rfl rfl ?_
  refine sx_ldcw (z := -2147483648) (p1 := 22) dX11_get_19 rfl kc_X11_286 (by decide) ?_
  exact sx_iret dX11_get_22 rfl (sx_ri (by first | omega | ((repeat' split) <;> first | omega | rfl)) (by rfl))
set_option maxRecDepth 20000 in
theorem n_X11_write {X : sx_X} {S : St} {j i : Int} (hC : CI S) (hj : -2147483648 ≤ j ∧ j ≤ 2147483647) (hi : -2147483648 ≤ i ∧ i ≤ 2147483647) (hn : i < 0 ∨ 4 ≤ i) : Ct X yX11_write cX11_write 6 (some .int) 2 0 0 [.ref 2, vI j, vI i] (hp S) (sx_is (some (vI (-2))) (hp (S))) := by
  obtain ⟨hV, hF, l0, l1, bT, bA, bB, bC, bSh, g3, g5⟩ := hC
  have b0 : 0 ≤ S.1 2 ∧ S.1 2 ≤ 16 := hV.1
  have b1 : 0 ≤ S.1 4 ∧ S.1 4 ≤ 6 := hV.2.1
  have b2 : 0 ≤ S.1 6 ∧ S.1 6 ≤ 99 := hV.2.2.1
  have b3 : 0 ≤ S.1 7 ∧ S.1 7 ≤ 1 := hV.2.2.2.1
  have b4 : 0 ≤ S.1 8 ∧ S.1 8 ≤ 16 := hV.2.2.2.2.1
  have b5 : 0 ≤ S.1 9 ∧ S.1 9 ≤ 999 := hV.2.2.2.2.2.1
  have b6 : 0 ≤ S.1 10 ∧ S.1 10 ≤ 1999 := hV.2.2.2.2.2.2.1
  have b7 : 0 ≤ S.1 11 ∧ S.1 11 ≤ 16 := hV.2.2.2.2.2.2.2.1
  have bK : ∀ q, 0 ≤ gK S q ∧ gK S q ≤ 3 := hV.2.2.2.2.2.2.2.2.1
  have bL : ∀ q, 0 ≤ gL S q ∧ gL S q ≤ 9 := hV.2.2.2.2.2.2.2.2.2.1
  have bW : ∀ q, 0 ≤ pW S q ∧ pW S q ≤ 9 := hV.2.2.2.2.2.2.2.2.2.2.1
  have bS : ∀ q, 0 ≤ pS S q ∧ pS S q ≤ 9 := hV.2.2.2.2.2.2.2.2.2.2.2.1
  have bH : ∀ q, 0 ≤ pH S q ∧ pH S q ≤ 1 := hV.2.2.2.2.2.2.2.2.2.2.2.2
  have c0 : 0 ≤ (cV S).1 0 ∧ (cV S).1 0 ≤ 16 := b0
  have c1 : 0 ≤ (cV S).1 1 ∧ (cV S).1 1 ≤ 6 := b1
  have c2 : 0 ≤ (cV S).1 2 ∧ (cV S).1 2 ≤ 99 := b2
  have c3 : 0 ≤ (cV S).1 3 ∧ (cV S).1 3 ≤ 1 := b3
  have c4 : 0 ≤ (cV S).1 4 ∧ (cV S).1 4 ≤ 16 := b4
  have c5 : 0 ≤ (cV S).1 5 ∧ (cV S).1 5 ≤ 999 := b5
  have c6 : 0 ≤ (cV S).1 6 ∧ (cV S).1 6 ≤ 1999 := b6
  have c7 : 0 ≤ (cV S).1 7 ∧ (cV S).1 7 ≤ 16 := b7
  refine Ct.of false [some (.ref 2), some (vI j), some (vI i), none, none, none] (plainFor_of_name (by decide)) (fun h => by cases h) (Nat.le_of_ble_eq_true rfl) (fun _ => rfl) sx_isl ?_
  refine sx_aload_n (p1 := 1) dX11_write_0 rfl rfl ?_
  refine sx_iload_n (p1 := 2) dX11_write_1 rfl rfl ?_
  refine sx_callVr (p1 := 5) (As := [_]) (k1 := 0) (n1 := 0) dX11_write_2 rfl rfl (c_X11_sheetAtN hi hn) mt_X11_sheetAt ml_X11_253 (hp_c2 _) rfl rfl (Nat.le_of_ble_eq_true rfl) rfl (Nat.le_of_ble_eq_true rfl) rfl rfl (Nat.le_of_ble_eq_true rfl) (Nat.le_of_ble_eq_true rfl) ?_
  refine sx_astore_nN (lo1 := [some _, some _, some _, some _, none, none]) (p1 := 6) dX11_write_5 rfl (by decide) rfl ?_
  refine sx_aload_nN (p1 := 7) dX11_write_6 rfl rfl ?_
  refine sx_ifnullN (p1 := 21) (tg := 21) dX11_write_7 rfl rfl ?_
  refine sx_bipush (p1 := 23) dX11_write_21 rfl (by decide) ?_
  exact sx_iret dX11_write_23 rfl (sx_ri (by first | omega | ((repeat' split) <;> first | omega | rfl)) (by rfl))
theorem z_X7_wrongAt {X : sx_X} {S : St} {s : Nat} {i j : Int} (hs : s < 4) (hz : 0 ≤ S.1 (17 + 2 * s) ∧ S.1 (17 + 2 * s) ≤ 60) (hfo : -1 ≤ S.1 (16 + 2 * s) ∧ S.1 (16 + 2 * s) ≤ 2) (hi : -2147483648 ≤ i ∧ i ≤ 2147483647) (hj : -2147483648 ≤ j ∧ j ≤ 2147483647) : Ct X yX7_wrongAt cX7_wrongAt 3 (some .int) 1 0 0 [.ref (31 + 2 * s), vI i, vI j] (hp S) (sx_is (some (vI (wrZ S s i j))) (hp S)) := c_X7_wrongAt hs hz hfo hi hj
set_option maxRecDepth 20000 in
theorem c_X11_sheet {X : sx_X} {S : St} {s : Nat} {j k : Int} (hs : s < 4) (hC : CI S) (hj : -2147483648 ≤ j ∧ j ≤ 2147483647) (hk : -2147483648 ≤ k ∧ k ≤ 2147483647) : Ct X yX11_sheet cX11_sheet 5 (some .int) 2 0 0 [.ref 2, vI (s : Int), vI j, vI k] (hp S) (sx_is (some (vI (if (0 ≤ j ∧ j ≤ 2) ∧ k ≤ 60 then (if k < 0 then -15 else k) else -2))) (hp (if (0 ≤ j ∧ j ≤ 2) ∧ k ≤ 60 then (if k < 0 then si S 24 5 else sA (si (si S (16 + 2 * s) j) (17 + 2 * s) k) (32 + 2 * s) (flF (S.2 (32 + 2 * s)) 60)) else S))) := by
  obtain ⟨hV, hF, l0, l1, bT, bA, bB, bC, bSh, g3, g5⟩ := hC
  have b0 : 0 ≤ S.1 2 ∧ S.1 2 ≤ 16 := hV.1
  have b1 : 0 ≤ S.1 4 ∧ S.1 4 ≤ 6 := hV.2.1
  have b2 : 0 ≤ S.1 6 ∧ S.1 6 ≤ 99 := hV.2.2.1
  have b3 : 0 ≤ S.1 7 ∧ S.1 7 ≤ 1 := hV.2.2.2.1
  have b4 : 0 ≤ S.1 8 ∧ S.1 8 ≤ 16 := hV.2.2.2.2.1
  have b5 : 0 ≤ S.1 9 ∧ S.1 9 ≤ 999 := hV.2.2.2.2.2.1
  have b6 : 0 ≤ S.1 10 ∧ S.1 10 ≤ 1999 := hV.2.2.2.2.2.2.1
  have b7 : 0 ≤ S.1 11 ∧ S.1 11 ≤ 16 := hV.2.2.2.2.2.2.2.1
  have bK : ∀ q, 0 ≤ gK S q ∧ gK S q ≤ 3 := hV.2.2.2.2.2.2.2.2.1
  have bL : ∀ q, 0 ≤ gL S q ∧ gL S q ≤ 9 := hV.2.2.2.2.2.2.2.2.2.1
  have bW : ∀ q, 0 ≤ pW S q ∧ pW S q ≤ 9 := hV.2.2.2.2.2.2.2.2.2.2.1
  have bS : ∀ q, 0 ≤ pS S q ∧ pS S q ≤ 9 := hV.2.2.2.2.2.2.2.2.2.2.2.1
  have bH : ∀ q, 0 ≤ pH S q ∧ pH S q ≤ 1 := hV.2.2.2.2.2.2.2.2.2.2.2.2
  have c0 : 0 ≤ (cV S).1 0 ∧ (cV S).1 0 ≤ 16 := b0
  have c1 : 0 ≤ (cV S).1 1 ∧ (cV S).1 1 ≤ 6 := b1
  have c2 : 0 ≤ (cV S).1 2 ∧ (cV S).1 2 ≤ 99 := b2
  have c3 : 0 ≤ (cV S).1 3 ∧ (cV S).1 3 ≤ 1 := b3
  have c4 : 0 ≤ (cV S).1 4 ∧ (cV S).1 4 ≤ 16 := b4
  have c5 : 0 ≤ (cV S).1 5 ∧ (cV S).1 5 ≤ 999 := b5
  have c6 : 0 ≤ (cV S).1 6 ∧ (cV S).1 6 ≤ 1999 := b6
  have c7 : 0 ≤ (cV S).1 7 ∧ (cV S).1 7 ≤ 16 := b7
  obtain ⟨hz, hfo, hit⟩ := bSh s hs
  refine Ct.of false [some (.ref 2), some (vI (s : Int)), some (vI j), some (vI k), none] (plainFor_of_name (by decide)) (fun h => by cases h) (Nat.le_of_ble_eq_true rfl) (fun _ => rfl) sx_isl ?_
  refine sx_aload_n (p1 := 1) dX11_sheet_0 rfl rfl ?_
  refine sx_iload_n (p1 := 2) dX11_sheet_1 rfl rfl ?_
  refine sx_callVr (p1 := 5) (As := [_]) (k1 := 0) (n1 := 0) dX11_sheet_2 rfl rfl (c_X11_sheetAt hs) mt_X11_sheetAt ml_X11_253 (hp_c2 _) rfl rfl (Nat.le_of_ble_eq_true rfl) rfl (Nat.le_of_ble_eq_true rfl) rfl rfl (Nat.le_of_ble_eq_true rfl) (Nat.le_of_ble_eq_true rfl) ?_
  refine sx_astore (lo1 := [some _, some _, some _, some _, some _]) (p1 := 7) dX11_sheet_5 rfl (by decide) rfl ?_
  refine sx_aload (p1 := 9) dX11_sheet_7 rfl rfl ?_
  refine sx_ifnull (p1 := 12) dX11_sheet_9 rfl ?_
  refine sx_iload_n (p1 := 13) dX11_sheet_12 rfl rfl ?_
  refine sx_callSr (p1 := 16) (As := [_]) (k1 := 0) (n1 := 0) dX11_sheet_13 rfl rfl (c_X7_isForm (by omega)) mt_X7_isForm ml_X11_270 (Nat.le_of_ble_eq_true rfl) rfl (Nat.le_of_ble_eq_true rfl) rfl rfl (Nat.le_of_ble_eq_true rfl) (Nat.le_of_ble_eq_true rfl) ?_
  refine sx_if_eq (p1 := 19) (tg := 25) dX11_sheet_16 rfl rfl (by omega) (fun q16 => ?_) (fun q16 => ?_)
  · refine sx_bipush (p1 := 27) dX11_sheet_25 rfl (by decide) ?_
    exact sx_iret dX11_sheet_27 rfl (sx_ri (by first | omega | ((repeat' split) <;> first | omega | rfl)) (by (repeat' split) <;> first | rfl | omega))
  · refine sx_iload_n (p1 := 20) dX11_sheet_19 rfl rfl ?_
    refine sx_bipush (p1 := 22) dX11_sheet_20 rfl (by decide) ?_
    refine sx_icmp_le (p1 := 25) (tg := 28) dX11_sheet_22 rfl rfl (by omega) (by omega) (fun q22 => ?_) (fun q22 => ?_)
    · refine sx_iload_n (p1 := 29) dX11_sheet_28 rfl rfl ?_
      refine sx_if_ge (p1 := 32) (tg := 38) dX11_sheet_29 rfl rfl (by omega) (fun q29 => ?_) (fun q29 => ?_)
      · refine sx_aload (p1 := 40) dX11_sheet_38 rfl rfl ?_
        refine sx_iload_n (p1 := 41) dX11_sheet_40 rfl rfl ?_
        refine sx_iload_n (p1 := 42) dX11_sheet_41 rfl rfl ?_
        refine sx_callVn (p1 := 45) (As := [_, _]) (k1 := 0) (n1 := 0) dX11_sheet_42 rfl rfl (c_X7_renew hs hz hfo (by omega)) mt_X7_renew ml_X11_273 (hp_sh hs _) rfl rfl (Nat.le_of_ble_eq_true rfl) rfl (Nat.le_of_ble_eq_true rfl) rfl rfl (Nat.le_of_ble_eq_true rfl) (Nat.le_of_ble_eq_true rfl) ?_
        refine sx_iload_n (p1 := 46) dX11_sheet_45 rfl rfl ?_
        exact sx_iret dX11_sheet_46 rfl (sx_ri (by first | omega | ((repeat' split) <;> first | omega | rfl)) (by (repeat' split) <;> first | rfl | omega))
      · refine sx_aload_n (p1 := 33) dX11_sheet_32 rfl rfl ?_
        refine sx_iconst (p1 := 34) dX11_sheet_33 rfl ?_
        refine sx_callVr (p1 := 37) (As := [_]) (k1 := 0) (n1 := 0) dX11_sheet_34 rfl rfl (c_X11_found) mt_X11_found ml_X11_260 (hp_c2 _) rfl rfl (Nat.le_of_ble_eq_true rfl) rfl (Nat.le_of_ble_eq_true rfl) rfl rfl (Nat.le_of_ble_eq_true rfl) (Nat.le_of_ble_eq_true rfl) ?_
        exact sx_iret dX11_sheet_37 rfl (sx_ri (by first | omega | ((repeat' split) <;> first | omega | rfl)) (by (repeat' split) <;> first | rfl | omega))
    · refine sx_bipush (p1 := 27) dX11_sheet_25 rfl (by decide) ?_
      exact sx_iret dX11_sheet_27 rfl (sx_ri (by first | omega | ((repeat' split) <;> first | omega | rfl)) (by (repeat' split) <;> first | rfl | omega))
set_option maxRecDepth 20000 in
theorem c_X11_lose {X : sx_X} {S : St} {s : Nat} (hs : s < 4) (hC : CI S)  : Ct X yX11_lose cX11_lose 4 (some .int) 1 0 0 [.ref 2, vI (s : Int)] (hp S) (sx_is (some (vI (if S.1 (16 + 2 * s) = -1 then -11 else S.1 (17 + 2 * s)))) (hp (if S.1 (16 + 2 * s) = -1 then si S 24 1 else si (si S (16 + 2 * s) (-1)) (17 + 2 * s) 0))) := by
  obtain ⟨hV, hF, l0, l1, bT, bA, bB, bC, bSh, g3, g5⟩ := hC
  have b0 : 0 ≤ S.1 2 ∧ S.1 2 ≤ 16 := hV.1
  have b1 : 0 ≤ S.1 4 ∧ S.1 4 ≤ 6 := hV.2.1
  have b2 : 0 ≤ S.1 6 ∧ S.1 6 ≤ 99 := hV.2.2.1
  have b3 : 0 ≤ S.1 7 ∧ S.1 7 ≤ 1 := hV.2.2.2.1
  have b4 : 0 ≤ S.1 8 ∧ S.1 8 ≤ 16 := hV.2.2.2.2.1
  have b5 : 0 ≤ S.1 9 ∧ S.1 9 ≤ 999 := hV.2.2.2.2.2.1
  have b6 : 0 ≤ S.1 10 ∧ S.1 10 ≤ 1999 := hV.2.2.2.2.2.2.1
  have b7 : 0 ≤ S.1 11 ∧ S.1 11 ≤ 16 := hV.2.2.2.2.2.2.2.1
  have bK : ∀ q, 0 ≤ gK S q ∧ gK S q ≤ 3 := hV.2.2.2.2.2.2.2.2.1
  have bL : ∀ q, 0 ≤ gL S q ∧ gL S q ≤ 9 := hV.2.2.2.2.2.2.2.2.2.1
  have bW : ∀ q, 0 ≤ pW S q ∧ pW S q ≤ 9 := hV.2.2.2.2.2.2.2.2.2.2.1
  have bS : ∀ q, 0 ≤ pS S q ∧ pS S q ≤ 9 := hV.2.2.2.2.2.2.2.2.2.2.2.1
  have bH : ∀ q, 0 ≤ pH S q ∧ pH S q ≤ 1 := hV.2.2.2.2.2.2.2.2.2.2.2.2
  have c0 : 0 ≤ (cV S).1 0 ∧ (cV S).1 0 ≤ 16 := b0
  have c1 : 0 ≤ (cV S).1 1 ∧ (cV S).1 1 ≤ 6 := b1
  have c2 : 0 ≤ (cV S).1 2 ∧ (cV S).1 2 ≤ 99 := b2
  have c3 : 0 ≤ (cV S).1 3 ∧ (cV S).1 3 ≤ 1 := b3
  have c4 : 0 ≤ (cV S).1 4 ∧ (cV S).1 4 ≤ 16 := b4
  have c5 : 0 ≤ (cV S).1 5 ∧ (cV S).1 5 ≤ 999 := b5
  have c6 : 0 ≤ (cV S).1 6 ∧ (cV S).1 6 ≤ 1999 := b6
  have c7 : 0 ≤ (cV S).1 7 ∧ (cV S).1 7 ≤ 16 := b7
  obtain ⟨hz, hfo, hit⟩ := bSh s hs
  refine Ct.of false [some (.ref 2), some (vI (s : Int)), none, none] (plainFor_of_name (by decide)) (fun h => by cases h) (Nat.le_of_ble_eq_true rfl) (fun _ => rfl) sx_isl ?_
  refine sx_aload_n (p1 := 1) dX11_lose_0 rfl rfl ?_
  refine sx_iload_n (p1 := 2) dX11_lose_1 rfl rfl ?_
  refine sx_callVr (p1 := 5) (As := [_]) (k1 := 0) (n1 := 0) dX11_lose_2 rfl rfl (c_X11_sheetAt hs) mt_X11_sheetAt ml_X11_253 (hp_c2 _) rfl rfl (Nat.le_of_ble_eq_true rfl) rfl (Nat.le_of_ble_eq_true rfl) rfl rfl (Nat.le_of_ble_eq_true rfl) (Nat.le_of_ble_eq_true rfl) ?_
  refine sx_astore_n (lo1 := [some _, some _, some _, none]) (p1 := 6) dX11_lose_5 rfl (by decide) rfl ?_
  refine sx_aload_n (p1 := 7) dX11_lose_6 rfl rfl ?_
  refine sx_ifnonnull (p1 := 13) (tg := 13) dX11_lose_7 rfl rfl ?_
  refine sx_aload_n (p1 := 14) dX11_lose_13 rfl rfl ?_
  refine sx_callVr (p1 := 17) (As := []) (k1 := 0) (n1 := 0) dX11_lose_14 rfl rfl (c_X7_isLost hs hz hfo) mt_X7_isLost ml_X11_257 (hp_sh hs _) rfl rfl (Nat.le_of_ble_eq_true rfl) rfl (Nat.le_of_ble_eq_true rfl) rfl rfl (Nat.le_of_ble_eq_true rfl) (Nat.le_of_ble_eq_true rfl) ?_
  refine sx_if_eq (p1 := 20) (tg := 26) dX11_lose_17 rfl rfl (by omega) (fun q17 => ?_) (fun q17 => ?_)
  · refine sx_aload_n (p1 := 27) dX11_lose_26 rfl rfl ?_
    refine sx_callVr (p1 := 30) (As := []) (k1 := 0) (n1 := 0) dX11_lose_27 rfl rfl (c_X7_size hs hz hfo) mt_X7_size ml_X11_263 (hp_sh hs _) rfl rfl (Nat.le_of_ble_eq_true rfl) rfl (Nat.le_of_ble_eq_true rfl) rfl rfl (Nat.le_of_ble_eq_true rfl) (Nat.le_of_ble_eq_true rfl) ?_
    refine sx_istore_n (lo1 := [some _, some _, some _, some _]) (p1 := 31) dX11_lose_30 rfl (by decide) rfl ?_
    refine sx_aload_n (p1 := 32) dX11_lose_31 rfl rfl ?_
    refine sx_callVn (p1 := 35) (As := []) (k1 := 0) (n1 := 0) dX11_lose_32 rfl rfl (c_X7_drop hs hz hfo) mt_X7_drop ml_X11_277 (hp_sh hs _) rfl rfl (Nat.le_of_ble_eq_true rfl) rfl (Nat.le_of_ble_eq_true rfl) rfl rfl (Nat.le_of_ble_eq_true rfl) (Nat.le_of_ble_eq_true rfl) ?_
    refine sx_iload_n (p1 := 36) dX11_lose_35 rfl rfl ?_
    exact sx_iret dX11_lose_36 rfl (sx_ri (by first | omega | ((repeat' split) <;> first | omega | rfl)) (by (repeat' split) <;> first | rfl | omega))
  · refine sx_aload_n (p1 := 21) dX11_lose_20 rfl rfl ?_
    refine sx_iconst (p1 := 22) dX11_lose_21 rfl ?_
    refine sx_callVr (p1 := 25) (As := [_]) (k1 := 0) (n1 := 0) dX11_lose_22 rfl rfl (c_X11_found) mt_X11_found ml_X11_260 (hp_c2 _) rfl rfl (Nat.le_of_ble_eq_true rfl) rfl (Nat.le_of_ble_eq_true rfl) rfl rfl (Nat.le_of_ble_eq_true rfl) (Nat.le_of_ble_eq_true rfl) ?_
    exact sx_iret dX11_lose_25 rfl (sx_ri (by first | omega | ((repeat' split) <;> first | omega | rfl)) (by (repeat' split) <;> first | rfl | omega))
set_option maxRecDepth 20000 in
theorem c_X11_lay {X : sx_X} {S : St} {s : Nat} {j k l : Int} (hs : s < 4) (hC : CI S) (hj : -2147483648 ≤ j ∧ j ≤ 2147483647) (hk : -2147483648 ≤ k ∧ k ≤ 2147483647) (hl : -2147483648 ≤ l ∧ l ≤ 2147483647) : Ct X yX11_lay cX11_lay 7 (some .int) 2 0 0 [.ref 2, vI (s : Int), vI j, vI k, vI l] (hp S) (sx_is (some (vI (if 0 ≤ j ∧ j ≤ 2 then (if wrZ S s j k = 0 then 1 else -10 - wrZ S s j k) else -2))) (hp (if 0 ≤ j ∧ j ≤ 2 then (if wrZ S s j k = 0 then sa S (32 + 2 * s) k.toNat (ctZ (S.1 (16 + 2 * s)) l) else si S 24 (wrZ S s j k)) else S))) := by
  obtain ⟨hV, hF, l0, l1, bT, bA, bB, bC, bSh, g3, g5⟩ := hC
  have b0 : 0 ≤ S.1 2 ∧ S.1 2 ≤ 16 := hV.1
  have b1 : 0 ≤ S.1 4 ∧ S.1 4 ≤ 6 := hV.2.1
  have b2 : 0 ≤ S.1 6 ∧ S.1 6 ≤ 99 := hV.2.2.1
  have b3 : 0 ≤ S.1 7 ∧ S.1 7 ≤ 1 := hV.2.2.2.1
  have b4 : 0 ≤ S.1 8 ∧ S.1 8 ≤ 16 := hV.2.2.2.2.1
  have b5 : 0 ≤ S.1 9 ∧ S.1 9 ≤ 999 := hV.2.2.2.2.2.1
  have b6 : 0 ≤ S.1 10 ∧ S.1 10 ≤ 1999 := hV.2.2.2.2.2.2.1
  have b7 : 0 ≤ S.1 11 ∧ S.1 11 ≤ 16 := hV.2.2.2.2.2.2.2.1
  have bK : ∀ q, 0 ≤ gK S q ∧ gK S q ≤ 3 := hV.2.2.2.2.2.2.2.2.1
  have bL : ∀ q, 0 ≤ gL S q ∧ gL S q ≤ 9 := hV.2.2.2.2.2.2.2.2.2.1
  have bW : ∀ q, 0 ≤ pW S q ∧ pW S q ≤ 9 := hV.2.2.2.2.2.2.2.2.2.2.1
  have bS : ∀ q, 0 ≤ pS S q ∧ pS S q ≤ 9 := hV.2.2.2.2.2.2.2.2.2.2.2.1
  have bH : ∀ q, 0 ≤ pH S q ∧ pH S q ≤ 1 := hV.2.2.2.2.2.2.2.2.2.2.2.2
  have c0 : 0 ≤ (cV S).1 0 ∧ (cV S).1 0 ≤ 16 := b0
  have c1 : 0 ≤ (cV S).1 1 ∧ (cV S).1 1 ≤ 6 := b1
  have c2 : 0 ≤ (cV S).1 2 ∧ (cV S).1 2 ≤ 99 := b2
  have c3 : 0 ≤ (cV S).1 3 ∧ (cV S).1 3 ≤ 1 := b3
  have c4 : 0 ≤ (cV S).1 4 ∧ (cV S).1 4 ≤ 16 := b4
  have c5 : 0 ≤ (cV S).1 5 ∧ (cV S).1 5 ≤ 999 := b5
  have c6 : 0 ≤ (cV S).1 6 ∧ (cV S).1 6 ≤ 1999 := b6
  have c7 : 0 ≤ (cV S).1 7 ∧ (cV S).1 7 ≤ 16 := b7
  obtain ⟨hz, hfo, hit⟩ := bSh s hs
  have zw := wrZ_b S s j k
  have z0 := @wrZ_0 S s j k
  refine Ct.of false [some (.ref 2), some (vI (s : Int)), some (vI j), some (vI k), some (vI l), none, none] (plainFor_of_name (by decide)) (fun h => by cases h) (Nat.le_of_ble_eq_true rfl) (fun _ => rfl) sx_isl ?_
  refine sx_aload_n (p1 := 1) dX11_lay_0 rfl rfl ?_
  refine sx_iload_n (p1 := 2) dX11_lay_1 rfl rfl ?_
  refine sx_callVr (p1 := 5) (As := [_]) (k1 := 0) (n1 := 0) dX11_lay_2 rfl rfl (c_X11_sheetAt hs) mt_X11_sheetAt ml_X11_253 (hp_c2 _) rfl rfl (Nat.le_of_ble_eq_true rfl) rfl (Nat.le_of_ble_eq_true rfl) rfl rfl (Nat.le_of_ble_eq_true rfl) (Nat.le_of_ble_eq_true rfl) ?_
  refine sx_astore (lo1 := [some _, some _, some _, some _, some _, some _, none]) (p1 := 7) dX11_lay_5 rfl (by decide) rfl ?_
  refine sx_aload (p1 := 9) dX11_lay_7 rfl rfl ?_
  refine sx_ifnull (p1 := 12) dX11_lay_9 rfl ?_
  refine sx_iload_n (p1 := 13) dX11_lay_12 rfl rfl ?_
  refine sx_callSr (p1 := 16) (As := [_]) (k1 := 0) (n1 := 0) dX11_lay_13 rfl rfl (c_X7_isForm (by omega)) mt_X7_isForm ml_X11_270 (Nat.le_of_ble_eq_true rfl) rfl (Nat.le_of_ble_eq_true rfl) rfl rfl (Nat.le_of_ble_eq_true rfl) (Nat.le_of_ble_eq_true rfl) ?_
  refine sx_if_ne (p1 := 19) (tg := 22) dX11_lay_16 rfl rfl (by omega) (fun q16 => ?_) (fun q16 => ?_)
  · refine sx_aload (p1 := 24) dX11_lay_22 rfl rfl ?_
    refine sx_iload_n (p1 := 25) dX11_lay_24 rfl rfl ?_
    refine sx_iload_n (p1 := 26) dX11_lay_25 rfl rfl ?_
    refine sx_callVr (p1 := 29) (As := [_, _]) (k1 := 0) (n1 := 0) dX11_lay_26 rfl rfl (z_X7_wrongAt hs hz hfo (by omega) (by omega)) mt_X7_wrongAt ml_X11_280 (hp_sh hs _) rfl rfl (Nat.le_of_ble_eq_true rfl) rfl (Nat.le_of_ble_eq_true rfl) rfl rfl (Nat.le_of_ble_eq_true rfl) (Nat.le_of_ble_eq_true rfl) ?_
    refine sx_istore (lo1 := [some _, some _, some _, some _, some _, some _, some _]) (p1 := 31) dX11_lay_29 rfl (by decide) rfl ?_
    refine sx_iload (p1 := 33) dX11_lay_31 rfl rfl ?_
    refine sx_if_eq (p1 := 36) (tg := 43) dX11_lay_33 rfl rfl (by omega) (fun q33 => ?_) (fun q33 => ?_)
    · refine sx_aload (p1 := 45) dX11_lay_43 rfl rfl ?_
      refine sx_iload_n (p1 := 46) dX11_lay_45 rfl rfl ?_
      refine sx_iload (p1 := 48) dX11_lay_46 rfl rfl ?_
      refine sx_callVn (p1 := 51) (As := [_, _]) (k1 := 0) (n1 := 0) dX11_lay_48 rfl rfl (c_X7_put hs hz hfo (by omega)) mt_X7_put ml_X11_283 (hp_sh hs _) rfl rfl (Nat.le_of_ble_eq_true rfl) rfl (Nat.le_of_ble_eq_true rfl) rfl rfl (Nat.le_of_ble_eq_true rfl) (Nat.le_of_ble_eq_true rfl) ?_
      refine sx_iconst (p1 := 52) dX11_lay_51 rfl ?_
      exact sx_iret dX11_lay_52 rfl (sx_ri (by first | omega | ((repeat' split) <;> first | omega | rfl)) (by rw [if_pos (show 0 ≤ j ∧ j ≤ 2 by omega), if_pos (show wrZ S s j k = 0 by omega)]; rfl))
    · refine sx_aload_n (p1 := 37) dX11_lay_36 rfl rfl ?_
      refine sx_iload (p1 := 39) dX11_lay_37 rfl rfl ?_
      refine sx_callVr (p1 := 42) (As := [_]) (k1 := 0) (n1 := 0) dX11_lay_39 rfl rfl (c_X11_found) mt_X11_found ml_X11_260 (hp_c2 _) rfl rfl (Nat.le_of_ble_eq_true rfl) rfl (Nat.le_of_ble_eq_true rfl) rfl rfl (Nat.le_of_ble_eq_true rfl) (Nat.le_of_ble_eq_true rfl) ?_
      exact sx_iret dX11_lay_42 rfl (sx_ri (by first | omega | ((repeat' split) <;> first | omega | rfl)) (by (repeat' split) <;> first | rfl | omega))
  · refine sx_bipush (p1 := 21) dX11_lay_19 rfl (by decide) ?_
    exact sx_iret dX11_lay_21 rfl (sx_ri (by first | omega | ((repeat' split) <;> first | omega | rfl)) (by (repeat' split) <;> first | rfl | omega))
set_option maxRecDepth 20000 in
theorem c_X11_get {X : sx_X} {S : St} {s : Nat} {j k : Int} (hs : s < 4) (hC : CI S) (hj : -2147483648 ≤ j ∧ j ≤ 2147483647) (hk : -2147483648 ≤ k ∧ k ≤ 2147483647) : Ct X yX11_get cX11_get 6 (some .int) 2 0 0 [.ref 2, vI (s : Int), vI j, vI k] (hp S) (sx_is (some (vI (if 0 ≤ j ∧ j ≤ 2 then (if wrZ S s j k = 0 then S.2 (32 + 2 * s) k.toNat else -2147483648) else -2147483648))) (hp (if 0 ≤ j ∧ j ≤ 2 then (if wrZ S s j k = 0 then S else si S 24 (wrZ S s j k)) else S))) := by
  obtain ⟨hV, hF, l0, l1, bT, bA, bB, bC, bSh, g3, g5⟩ := hC
  have b0 : 0 ≤ S.1 2 ∧ S.1 2 ≤ 16 := hV.1
  have b1 : 0 ≤ S.1 4 ∧ S.1 4 ≤ 6 := hV.2.1
  have b2 : 0 ≤ S.1 6 ∧ S.1 6 ≤ 99 := hV.2.2.1
  have b3 : 0 ≤ S.1 7 ∧ S.1 7 ≤ 1 := hV.2.2.2.1
  have b4 : 0 ≤ S.1 8 ∧ S.1 8 ≤ 16 := hV.2.2.2.2.1
  have b5 : 0 ≤ S.1 9 ∧ S.1 9 ≤ 999 := hV.2.2.2.2.2.1
  have b6 : 0 ≤ S.1 10 ∧ S.1 10 ≤ 1999 := hV.2.2.2.2.2.2.1
  have b7 : 0 ≤ S.1 11 ∧ S.1 11 ≤ 16 := hV.2.2.2.2.2.2.2.1
  have bK : ∀ q, 0 ≤ gK S q ∧ gK S q ≤ 3 := hV.2.2.2.2.2.2.2.2.1
  have bL : ∀ q, 0 ≤ gL S q ∧ gL S q ≤ 9 := hV.2.2.2.2.2.2.2.2.2.1
  have bW : ∀ q, 0 ≤ pW S q ∧ pW S q ≤ 9 := hV.2.2.2.2.2.2.2.2.2.2.1
  have bS : ∀ q, 0 ≤ pS S q ∧ pS S q ≤ 9 := hV.2.2.2.2.2.2.2.2.2.2.2.1
  have bH : ∀ q, 0 ≤ pH S q ∧ pH S q ≤ 1 := hV.2.2.2.2.2.2.2.2.2.2.2.2
  have c0 : 0 ≤ (cV S).1 0 ∧ (cV S).1 0 ≤ 16 := b0
  have c1 : 0 ≤ (cV S).1 1 ∧ (cV S).1 1 ≤ 6 := b1
  have c2 : 0 ≤ (cV S).1 2 ∧ (cV S).1 2 ≤ 99 := b2
  have c3 : 0 ≤ (cV S).1 3 ∧ (cV S).1 3 ≤ 1 := b3
  have c4 : 0 ≤ (cV S).1 4 ∧ (cV S).1 4 ≤ 16 := b4
  have c5 : 0 ≤ (cV S).1 5 ∧ (cV S).1 5 ≤ 999 := b5
  have c6 : 0 ≤ (cV S).1 6 ∧ (cV S).1 6 ≤ 1999 := b6
  have c7 : 0 ≤ (cV S).1 7 ∧ (cV S).1 7 ≤ 16 := b7
  obtain ⟨hz, hfo, hit⟩ := bSh s hs
  have zw := wrZ_b S s j k
  have z0 := @wrZ_0 S s j k
  refine Ct.of false [some (.ref 2), some (vI (s : Int)), some (vI j), some (vI k), none, none] (plainFor_of_name (by decide)) (fun h => by cases h) (Nat.le_of_ble_eq_true rfl) (fun _ => rfl) sx_isl ?_
  refine sx_aload_n (p1 := 1) dX11_get_0 rfl rfl ?_
  refine sx_iload_n (p1 := 2) dX11_get_1 rfl rfl ?_
  refine sx_callVr (p1 := 5) (As := [_]) (k1 := 0) (n1 := 0) dX11_get_2 rfl rfl (c_X11_sheetAt hs) mt_X11_sheetAt ml_X11_253 (hp_c2 _) rfl rfl (Nat.le_of_ble_eq_true rfl) rfl (Nat.le_of_ble_eq_true rfl) rfl rfl (Nat.le_of_ble_eq_true rfl) (Nat.le_of_ble_eq_true rfl) ?_
  refine sx_astore (lo1 := [some _, some _, some _, some _, some _, none]) (p1 := 7) dX11_get_5 rfl (by decide) rfl ?_
  refine sx_aload (p1 := 9) dX11_get_7 rfl rfl ?_
  refine sx_ifnull (p1 := 12) dX11_get_9 rfl ?_
  refine sx_iload_n (p1 := 13) dX11_get_12 rfl rfl ?_
  refine sx_callSr (p1 := 16) (As := [_]) (k1 := 0) (n1 := 0) dX11_get_13 rfl rfl (c_X7_isForm (by omega)) mt_X7_isForm ml_X11_270 (Nat.le_of_ble_eq_true rfl) rfl (Nat.le_of_ble_eq_true rfl) rfl rfl (Nat.le_of_ble_eq_true rfl) (Nat.le_of_ble_eq_true rfl) ?_
  refine sx_if_ne (p1 := 19) (tg := 23) dX11_get_16 rfl rfl (by omega) (fun q16 => ?_) (fun q16 => ?_)
  · refine sx_aload (p1 := 25) dX11_get_23 rfl rfl ?_
    refine sx_iload_n (p1 := 26) dX11_get_25 rfl rfl ?_
    refine sx_iload_n (p1 := 27) dX11_get_26 rfl rfl ?_
    refine sx_callVr (p1 := 30) (As := [_, _]) (k1 := 0) (n1 := 0) dX11_get_27 rfl rfl (z_X7_wrongAt hs hz hfo (by omega) (by omega)) mt_X7_wrongAt ml_X11_280 (hp_sh hs _) rfl rfl (Nat.le_of_ble_eq_true rfl) rfl (Nat.le_of_ble_eq_true rfl) rfl rfl (Nat.le_of_ble_eq_true rfl) (Nat.le_of_ble_eq_true rfl) ?_
    refine sx_istore (lo1 := [some _, some _, some _, some _, some _, some _]) (p1 := 32) dX11_get_30 rfl (by decide) rfl ?_
    refine sx_iload (p1 := 34) dX11_get_32 rfl rfl ?_
    refine sx_if_eq (p1 := 37) (tg := 48) dX11_get_34 rfl rfl (by omega) (fun q34 => ?_) (fun q34 => ?_)
    · refine sx_aload (p1 := 50) dX11_get_48 rfl rfl ?_
      refine sx_iload_n (p1 := 51) dX11_get_50 rfl rfl ?_
      refine sx_callVr (p1 := 54) (As := [_]) (k1 := 0) (n1 := 0) dX11_get_51 rfl rfl (c_X7_item hs hz hfo (by omega)) mt_X7_item ml_X11_264 (hp_sh hs _) rfl rfl (Nat.le_of_ble_eq_true rfl) rfl (Nat.le_of_ble_eq_true rfl) rfl rfl (Nat.le_of_ble_eq_true rfl) (Nat.le_of_ble_eq_true rfl) ?_
      exact sx_iret dX11_get_54 rfl (sx_ri (by first | omega | ((repeat' split) <;> first | omega | rfl)) (by (repeat' split) <;> first | rfl | omega))
    · refine sx_aload_n (p1 := 38) dX11_get_37 rfl rfl ?_
      refine sx_iload (p1 := 40) dX11_get_38 rfl rfl ?_
      refine sx_callVr (p1 := 43) (As := [_]) (k1 := 0) (n1 := 0) dX11_get_40 rfl rfl (c_X11_found) mt_X11_found ml_X11_260 (hp_c2 _) rfl rfl (Nat.le_of_ble_eq_true rfl) rfl (Nat.le_of_ble_eq_true rfl) rfl rfl (Nat.le_of_ble_eq_true rfl) (Nat.le_of_ble_eq_true rfl) ?_
      refine sx_pop (p1 := 44) dX11_get_43 rfl rfl ?_
      refine sx_ldcw (z := -2147483648) (p1 := 47) dX11_get_44 rfl kc_X11_286 (by decide) ?_
      exact sx_iret dX11_get_47 rfl (sx_ri (by first | omega | ((repeat' split) <;> first | omega | rfl)) (by (repeat' split) <;> first | rfl | omega))
  · refine sx_ldcw (z := -2147483648) (p1 := 22) dX11_get_19 rfl kc_X11_286 (by decide) ?_
    exact sx_iret dX11_get_22 rfl (sx_ri (by first | omega | ((repeat' split) <;> first | omega | rfl)) (by (repeat' split) <;> first | rfl | omega))
set_option maxRecDepth 20000 in
theorem n_X11_copy0 {X : sx_X} {S : St} {x y i j k : Int} (hx : -2147483648 ≤ x ∧ x ≤ 2147483647) (hnx : x < 0 ∨ 4 ≤ x) (hy : -2147483648 ≤ y ∧ y ≤ 2147483647) (hny : y < 0 ∨ 4 ≤ y)  : Ct X yX11_copy cX11_copy 8 (some .int) 2 0 0 [.ref 2, vI x, vI i, vI y, vI j, vI k] (hp S) (sx_is (some (vI (-2))) (hp S)) := by
  refine Ct.of false [some (.ref 2), some (vI x), some (vI i), some (vI y), some (vI j), some (vI k), none, none] (plainFor_of_name (by decide)) (fun h => by cases h) (Nat.le_of_ble_eq_true rfl) (fun _ => rfl) sx_isl ?_
  refine sx_aload_n (p1 := 1) dX11_copy_0 rfl rfl ?_
  refine sx_iload_n (p1 := 2) dX11_copy_1 rfl rfl ?_
  refine sx_callVr (p1 := 5) (As := [_]) (k1 := 0) (n1 := 0) dX11_copy_2 rfl rfl (c_X11_sheetAtN hx hnx) mt_X11_sheetAt ml_X11_253 (hp_c2 _) rfl rfl (Nat.le_of_ble_eq_true rfl) rfl (Nat.le_of_ble_eq_true rfl) rfl rfl (Nat.le_of_ble_eq_true rfl) (Nat.le_of_ble_eq_true rfl) ?_
  refine sx_astoreN (lo1 := [some _, some _, some _, some _, some _, some _, some _, none]) (p1 := 7) dX11_copy_5 rfl (by decide) rfl ?_
  refine sx_aload_n (p1 := 8) dX11_copy_7 rfl rfl ?_
  refine sx_iload_n (p1 := 9) dX11_copy_8 rfl rfl ?_
  refine sx_callVr (p1 := 12) (As := [_]) (k1 := 0) (n1 := 0) dX11_copy_9 rfl rfl (c_X11_sheetAtN hy hny) mt_X11_sheetAt ml_X11_253 (hp_c2 _) rfl rfl (Nat.le_of_ble_eq_true rfl) rfl (Nat.le_of_ble_eq_true rfl) rfl rfl (Nat.le_of_ble_eq_true rfl) (Nat.le_of_ble_eq_true rfl) ?_
  refine sx_astoreN (lo1 := [some _, some _, some _, some _, some _, some _, some _, some _]) (p1 := 14) dX11_copy_12 rfl (by decide) rfl ?_
  refine sx_aloadN (p1 := 16) dX11_copy_14 rfl rfl ?_
  refine sx_ifnullN (p1 := 24) (tg := 24) dX11_copy_16 rfl rfl ?_
  refine sx_bipush (p1 := 26) dX11_copy_24 rfl (by decide) ?_
  exact sx_iret dX11_copy_26 rfl (sx_ri (by rfl) (by rfl))
set_option maxRecDepth 20000 in
theorem n_X11_copy1 {X : sx_X} {S : St} {s : Nat} {x i j k : Int} (hx : -2147483648 ≤ x ∧ x ≤ 2147483647) (hnx : x < 0 ∨ 4 ≤ x) (hs : s < 4) : Ct X yX11_copy cX11_copy 8 (some .int) 2 0 0 [.ref 2, vI x, vI i, vI (s : Int), vI j, vI k] (hp S) (sx_is (some (vI (-2))) (hp S)) := by
  refine Ct.of false [some (.ref 2), some (vI x), some (vI i), some (vI (s : Int)), some (vI j), some (vI k), none, none] (plainFor_of_name (by decide)) (fun h => by cases h) (Nat.le_of_ble_eq_true rfl) (fun _ => rfl) sx_isl ?_
  refine sx_aload_n (p1 := 1) dX11_copy_0 rfl rfl ?_
  refine sx_iload_n (p1 := 2) dX11_copy_1 rfl rfl ?_
  refine sx_callVr (p1 := 5) (As := [_]) (k1 := 0) (n1 := 0) dX11_copy_2 rfl rfl (c_X11_sheetAtN hx hnx) mt_X11_sheetAt ml_X11_253 (hp_c2 _) rfl rfl (Nat.le_of_ble_eq_true rfl) rfl (Nat.le_of_ble_eq_true rfl) rfl rfl (Nat.le_of_ble_eq_true rfl) (Nat.le_of_ble_eq_true rfl) ?_
  refine sx_astoreN (lo1 := [some _, some _, some _, some _, some _, some _, some _, none]) (p1 := 7) dX11_copy_5 rfl (by decide) rfl ?_
  refine sx_aload_n (p1 := 8) dX11_copy_7 rfl rfl ?_
  refine sx_iload_n (p1 := 9) dX11_copy_8 rfl rfl ?_
  refine sx_callVr (p1 := 12) (As := [_]) (k1 := 0) (n1 := 0) dX11_copy_9 rfl rfl (c_X11_sheetAt hs) mt_X11_sheetAt ml_X11_253 (hp_c2 _) rfl rfl (Nat.le_of_ble_eq_true rfl) rfl (Nat.le_of_ble_eq_true rfl) rfl rfl (Nat.le_of_ble_eq_true rfl) (Nat.le_of_ble_eq_true rfl) ?_
  refine sx_astore (lo1 := [some _, some _, some _, some _, some _, some _, some _, some _]) (p1 := 14) dX11_copy_12 rfl (by decide) rfl ?_
  refine sx_aloadN (p1 := 16) dX11_copy_14 rfl rfl ?_
  refine sx_ifnullN (p1 := 24) (tg := 24) dX11_copy_16 rfl rfl ?_
  refine sx_bipush (p1 := 26) dX11_copy_24 rfl (by decide) ?_
  exact sx_iret dX11_copy_26 rfl (sx_ri (by rfl) (by rfl))
set_option maxRecDepth 20000 in
theorem n_X11_copy2 {X : sx_X} {S : St} {s : Nat} {y i j k : Int} (hs : s < 4) (hy : -2147483648 ≤ y ∧ y ≤ 2147483647) (hny : y < 0 ∨ 4 ≤ y)  : Ct X yX11_copy cX11_copy 8 (some .int) 2 0 0 [.ref 2, vI (s : Int), vI i, vI y, vI j, vI k] (hp S) (sx_is (some (vI (-2))) (hp S)) := by
  refine Ct.of false [some (.ref 2), some (vI (s : Int)), some (vI i), some (vI y), some (vI j), some (vI k), none, none] (plainFor_of_name (by decide)) (fun h => by cases h) (Nat.le_of_ble_eq_true rfl) (fun _ => rfl) sx_isl ?_
  refine sx_aload_n (p1 := 1) dX11_copy_0 rfl rfl ?_
  refine sx_iload_n (p1 := 2) dX11_copy_1 rfl rfl ?_
  refine sx_callVr (p1 := 5) (As := [_]) (k1 := 0) (n1 := 0) dX11_copy_2 rfl rfl (c_X11_sheetAt hs) mt_X11_sheetAt ml_X11_253 (hp_c2 _) rfl rfl (Nat.le_of_ble_eq_true rfl) rfl (Nat.le_of_ble_eq_true rfl) rfl rfl (Nat.le_of_ble_eq_true rfl) (Nat.le_of_ble_eq_true rfl) ?_
  refine sx_astore (lo1 := [some _, some _, some _, some _, some _, some _, some _, none]) (p1 := 7) dX11_copy_5 rfl (by decide) rfl ?_
  refine sx_aload_n (p1 := 8) dX11_copy_7 rfl rfl ?_
  refine sx_iload_n (p1 := 9) dX11_copy_8 rfl rfl ?_
  refine sx_callVr (p1 := 12) (As := [_]) (k1 := 0) (n1 := 0) dX11_copy_9 rfl rfl (c_X11_sheetAtN hy hny) mt_X11_sheetAt ml_X11_253 (hp_c2 _) rfl rfl (Nat.le_of_ble_eq_true rfl) rfl (Nat.le_of_ble_eq_true rfl) rfl rfl (Nat.le_of_ble_eq_true rfl) (Nat.le_of_ble_eq_true rfl) ?_
  refine sx_astoreN (lo1 := [some _, some _, some _, some _, some _, some _, some _, some _]) (p1 := 14) dX11_copy_12 rfl (by decide) rfl ?_
  refine sx_aload (p1 := 16) dX11_copy_14 rfl rfl ?_
  refine sx_ifnull (p1 := 19) dX11_copy_16 rfl ?_
  refine sx_aloadN (p1 := 21) dX11_copy_19 rfl rfl ?_
  refine sx_ifnonnullN (p1 := 24) dX11_copy_21 rfl ?_
  refine sx_bipush (p1 := 26) dX11_copy_24 rfl (by decide) ?_
  exact sx_iret dX11_copy_26 rfl (sx_ri (by rfl) (by rfl))
set_option maxRecDepth 20000 in
theorem c_X11_copy {X : sx_X} {S : St} {s s2 : Nat} {i j k : Int} (hs : s < 4) (hs2 : s2 < 4) (hC : CI S) (hi : -2147483648 ≤ i ∧ i ≤ 2147483647) (hj : -2147483648 ≤ j ∧ j ≤ 2147483647) (hk : -2147483648 ≤ k ∧ k ≤ 2147483647) : Ct X yX11_copy cX11_copy 8 (some .int) 2 0 0 [.ref 2, vI (s : Int), vI i, vI (s2 : Int), vI j, vI k] (hp S) (sx_is (some (vI (if S.1 (16 + 2 * s) = -1 ∨ S.1 (16 + 2 * s2) = -1 then -11 else if S.1 (16 + 2 * s) ≠ S.1 (16 + 2 * s2) then -14 else if (0 ≤ i ∧ 0 ≤ k ∧ k ≤ S.1 (17 + 2 * s) ∧ i ≤ S.1 (17 + 2 * s) - k) ∧ 0 ≤ j ∧ 0 ≤ k ∧ k ≤ S.1 (17 + 2 * s2) ∧ j ≤ S.1 (17 + 2 * s2) - k then 1 else -12))) (hp (if S.1 (16 + 2 * s) = -1 ∨ S.1 (16 + 2 * s2) = -1 then si S 24 1 else if S.1 (16 + 2 * s) ≠ S.1 (16 + 2 * s2) then si S 24 4 else if (0 ≤ i ∧ 0 ≤ k ∧ k ≤ S.1 (17 + 2 * s) ∧ i ≤ S.1 (17 + 2 * s) - k) ∧ 0 ≤ j ∧ 0 ≤ k ∧ k ≤ S.1 (17 + 2 * s2) ∧ j ≤ S.1 (17 + 2 * s2) - k then sA S (32 + 2 * s2) (va_cpy (S.2 (32 + 2 * s)) (S.2 (32 + 2 * s2)) i.toNat j.toNat k.toNat) else si S 24 2))) := by
  obtain ⟨hV, hF, l0, l1, bT, bA, bB, bC, bSh, g3, g5⟩ := hC
  have b0 : 0 ≤ S.1 2 ∧ S.1 2 ≤ 16 := hV.1
  have b1 : 0 ≤ S.1 4 ∧ S.1 4 ≤ 6 := hV.2.1
  have b2 : 0 ≤ S.1 6 ∧ S.1 6 ≤ 99 := hV.2.2.1
  have b3 : 0 ≤ S.1 7 ∧ S.1 7 ≤ 1 := hV.2.2.2.1
  have b4 : 0 ≤ S.1 8 ∧ S.1 8 ≤ 16 := hV.2.2.2.2.1
  have b5 : 0 ≤ S.1 9 ∧ S.1 9 ≤ 999 := hV.2.2.2.2.2.1
  have b6 : 0 ≤ S.1 10 ∧ S.1 10 ≤ 1999 := hV.2.2.2.2.2.2.1
  have b7 : 0 ≤ S.1 11 ∧ S.1 11 ≤ 16 := hV.2.2.2.2.2.2.2.1
  have bK : ∀ q, 0 ≤ gK S q ∧ gK S q ≤ 3 := hV.2.2.2.2.2.2.2.2.1
  have bL : ∀ q, 0 ≤ gL S q ∧ gL S q ≤ 9 := hV.2.2.2.2.2.2.2.2.2.1
  have bW : ∀ q, 0 ≤ pW S q ∧ pW S q ≤ 9 := hV.2.2.2.2.2.2.2.2.2.2.1
  have bS : ∀ q, 0 ≤ pS S q ∧ pS S q ≤ 9 := hV.2.2.2.2.2.2.2.2.2.2.2.1
  have bH : ∀ q, 0 ≤ pH S q ∧ pH S q ≤ 1 := hV.2.2.2.2.2.2.2.2.2.2.2.2
  have c0 : 0 ≤ (cV S).1 0 ∧ (cV S).1 0 ≤ 16 := b0
  have c1 : 0 ≤ (cV S).1 1 ∧ (cV S).1 1 ≤ 6 := b1
  have c2 : 0 ≤ (cV S).1 2 ∧ (cV S).1 2 ≤ 99 := b2
  have c3 : 0 ≤ (cV S).1 3 ∧ (cV S).1 3 ≤ 1 := b3
  have c4 : 0 ≤ (cV S).1 4 ∧ (cV S).1 4 ≤ 16 := b4
  have c5 : 0 ≤ (cV S).1 5 ∧ (cV S).1 5 ≤ 999 := b5
  have c6 : 0 ≤ (cV S).1 6 ∧ (cV S).1 6 ≤ 1999 := b6
  have c7 : 0 ≤ (cV S).1 7 ∧ (cV S).1 7 ≤ 16 := b7
  obtain ⟨hz, hfo, hit⟩ := bSh s hs
  obtain ⟨hz2, hfo2, hit2⟩ := bSh s2 hs2
  refine Ct.of false [some (.ref 2), some (vI (s : Int)), some (vI i), some (vI (s2 : Int)), some (vI j), some (vI k), none, none] (plainFor_of_name (by decide)) (fun h => by cases h) (Nat.le_of_ble_eq_true rfl) (fun _ => rfl) sx_isl ?_
  refine sx_aload_n (p1 := 1) dX11_copy_0 rfl rfl ?_
  refine sx_iload_n (p1 := 2) dX11_copy_1 rfl rfl ?_
  refine sx_callVr (p1 := 5) (As := [_]) (k1 := 0) (n1 := 0) dX11_copy_2 rfl rfl (c_X11_sheetAt hs) mt_X11_sheetAt ml_X11_253 (hp_c2 _) rfl rfl (Nat.le_of_ble_eq_true rfl) rfl (Nat.le_of_ble_eq_true rfl) rfl rfl (Nat.le_of_ble_eq_true rfl) (Nat.le_of_ble_eq_true rfl) ?_
  refine sx_astore (lo1 := [some _, some _, some _, some _, some _, some _, some _, none]) (p1 := 7) dX11_copy_5 rfl (by decide) rfl ?_
  refine sx_aload_n (p1 := 8) dX11_copy_7 rfl rfl ?_
  refine sx_iload_n (p1 := 9) dX11_copy_8 rfl rfl ?_
  refine sx_callVr (p1 := 12) (As := [_]) (k1 := 0) (n1 := 0) dX11_copy_9 rfl rfl (c_X11_sheetAt hs2) mt_X11_sheetAt ml_X11_253 (hp_c2 _) rfl rfl (Nat.le_of_ble_eq_true rfl) rfl (Nat.le_of_ble_eq_true rfl) rfl rfl (Nat.le_of_ble_eq_true rfl) (Nat.le_of_ble_eq_true rfl) ?_
  refine sx_astore (lo1 := [some _, some _, some _, some _, some _, some _, some _, some _]) (p1 := 14) dX11_copy_12 rfl (by decide) rfl ?_
  refine sx_aload (p1 := 16) dX11_copy_14 rfl rfl ?_
  refine sx_ifnull (p1 := 19) dX11_copy_16 rfl ?_
  refine sx_aload (p1 := 21) dX11_copy_19 rfl rfl ?_
  refine sx_ifnonnull (p1 := 27) (tg := 27) dX11_copy_21 rfl rfl ?_
  refine sx_aload (p1 := 29) dX11_copy_27 rfl rfl ?_
  refine sx_callVr (p1 := 32) (As := []) (k1 := 0) (n1 := 0) dX11_copy_29 rfl rfl (c_X7_isLost hs hz hfo) mt_X7_isLost ml_X11_257 (hp_sh hs _) rfl rfl (Nat.le_of_ble_eq_true rfl) rfl (Nat.le_of_ble_eq_true rfl) rfl rfl (Nat.le_of_ble_eq_true rfl) (Nat.le_of_ble_eq_true rfl) ?_
  refine sx_if_ne (p1 := 35) (tg := 43) dX11_copy_32 rfl rfl (by split <;> omega) (fun q32 => ?_) (fun q32 => ?_)
  · refine sx_aload_n (p1 := 44) dX11_copy_43 rfl rfl ?_
    refine sx_iconst (p1 := 45) dX11_copy_44 rfl ?_
    refine sx_callVr (p1 := 48) (As := [_]) (k1 := 0) (n1 := 0) dX11_copy_45 rfl rfl (c_X11_found) mt_X11_found ml_X11_260 (hp_c2 _) rfl rfl (Nat.le_of_ble_eq_true rfl) rfl (Nat.le_of_ble_eq_true rfl) rfl rfl (Nat.le_of_ble_eq_true rfl) (Nat.le_of_ble_eq_true rfl) ?_
    exact sx_iret dX11_copy_48 rfl (sx_ri (by first | omega | ((repeat' split) <;> first | omega | rfl)) (by (repeat' split) <;> first | rfl | omega))
  · refine sx_aload (p1 := 37) dX11_copy_35 rfl rfl ?_
    refine sx_callVr (p1 := 40) (As := []) (k1 := 0) (n1 := 0) dX11_copy_37 rfl rfl (c_X7_isLost hs2 hz2 hfo2) mt_X7_isLost ml_X11_257 (hp_sh hs2 _) rfl rfl (Nat.le_of_ble_eq_true rfl) rfl (Nat.le_of_ble_eq_true rfl) rfl rfl (Nat.le_of_ble_eq_true rfl) (Nat.le_of_ble_eq_true rfl) ?_
    refine sx_if_eq (p1 := 43) (tg := 49) dX11_copy_40 rfl rfl (by split <;> omega) (fun q40 => ?_) (fun q40 => ?_)
    · refine sx_aload (p1 := 51) dX11_copy_49 rfl rfl ?_
      refine sx_aload (p1 := 53) dX11_copy_51 rfl rfl ?_
      refine sx_callVr (p1 := 56) (As := [_]) (k1 := 0) (n1 := 0) dX11_copy_53 rfl rfl (c_X7_isLike hs hz hfo hs2 hfo2) mt_X7_isLike ml_X11_287 (hp_sh hs _) rfl rfl (Nat.le_of_ble_eq_true rfl) rfl (Nat.le_of_ble_eq_true rfl) rfl rfl (Nat.le_of_ble_eq_true rfl) (Nat.le_of_ble_eq_true rfl) ?_
      refine sx_if_ne (p1 := 59) (tg := 65) dX11_copy_56 rfl rfl (by split <;> omega) (fun q56 => ?_) (fun q56 => ?_)
      · refine sx_aload (p1 := 67) dX11_copy_65 rfl rfl ?_
        refine sx_iload_n (p1 := 68) dX11_copy_67 rfl rfl ?_
        refine sx_iload (p1 := 70) dX11_copy_68 rfl rfl ?_
        refine sx_callVr (p1 := 73) (As := [_, _]) (k1 := 0) (n1 := 0) dX11_copy_70 rfl rfl (c_X7_holds hs hz hfo (by omega) (by omega)) mt_X7_holds ml_X11_291 (hp_sh hs _) rfl rfl (Nat.le_of_ble_eq_true rfl) rfl (Nat.le_of_ble_eq_true rfl) rfl rfl (Nat.le_of_ble_eq_true rfl) (Nat.le_of_ble_eq_true rfl) ?_
        refine sx_if_eq (p1 := 76) (tg := 88) dX11_copy_73 rfl rfl (by split <;> omega) (fun q73 => ?_) (fun q73 => ?_)
        · refine sx_aload_n (p1 := 89) dX11_copy_88 rfl rfl ?_
          refine sx_iconst (p1 := 90) dX11_copy_89 rfl ?_
          refine sx_callVr (p1 := 93) (As := [_]) (k1 := 0) (n1 := 0) dX11_copy_90 rfl rfl (c_X11_found) mt_X11_found ml_X11_260 (hp_c2 _) rfl rfl (Nat.le_of_ble_eq_true rfl) rfl (Nat.le_of_ble_eq_true rfl) rfl rfl (Nat.le_of_ble_eq_true rfl) (Nat.le_of_ble_eq_true rfl) ?_
          exact sx_iret dX11_copy_93 rfl (sx_ri (by first | omega | ((repeat' split) <;> first | omega | rfl)) (by (repeat' split) <;> first | rfl | omega))
        · refine sx_aload (p1 := 78) dX11_copy_76 rfl rfl ?_
          refine sx_iload (p1 := 80) dX11_copy_78 rfl rfl ?_
          refine sx_iload (p1 := 82) dX11_copy_80 rfl rfl ?_
          refine sx_callVr (p1 := 85) (As := [_, _]) (k1 := 0) (n1 := 0) dX11_copy_82 rfl rfl (c_X7_holds hs2 hz2 hfo2 (by omega) (by omega)) mt_X7_holds ml_X11_291 (hp_sh hs2 _) rfl rfl (Nat.le_of_ble_eq_true rfl) rfl (Nat.le_of_ble_eq_true rfl) rfl rfl (Nat.le_of_ble_eq_true rfl) (Nat.le_of_ble_eq_true rfl) ?_
          refine sx_if_ne (p1 := 88) (tg := 94) dX11_copy_85 rfl rfl (by split <;> omega) (fun q85 => ?_) (fun q85 => ?_)
          · refine sx_aload (p1 := 96) dX11_copy_94 rfl rfl ?_
            refine sx_aload (p1 := 98) dX11_copy_96 rfl rfl ?_
            refine sx_iload_n (p1 := 99) dX11_copy_98 rfl rfl ?_
            refine sx_iload (p1 := 101) dX11_copy_99 rfl rfl ?_
            refine sx_iload (p1 := 103) dX11_copy_101 rfl rfl ?_
            refine sx_callVn (p1 := 106) (As := [_, _, _, _]) (k1 := 0) (n1 := 0) dX11_copy_103 rfl rfl (c_X7_takeFrom hs2 hz2 hfo2 hs hz hfo (by omega) (by omega) (by omega) (by omega) (by omega)) mt_X7_takeFrom ml_X11_294 (hp_sh hs2 _) rfl rfl (Nat.le_of_ble_eq_true rfl) rfl (Nat.le_of_ble_eq_true rfl) rfl rfl (Nat.le_of_ble_eq_true rfl) (Nat.le_of_ble_eq_true rfl) ?_
            refine sx_iconst (p1 := 107) dX11_copy_106 rfl ?_
            exact sx_iret dX11_copy_107 rfl (sx_ri (by first | omega | ((repeat' split) <;> first | omega | rfl)) (by (repeat' split) <;> first | rfl | omega))
          · refine sx_aload_n (p1 := 89) dX11_copy_88 rfl rfl ?_
            refine sx_iconst (p1 := 90) dX11_copy_89 rfl ?_
            refine sx_callVr (p1 := 93) (As := [_]) (k1 := 0) (n1 := 0) dX11_copy_90 rfl rfl (c_X11_found) mt_X11_found ml_X11_260 (hp_c2 _) rfl rfl (Nat.le_of_ble_eq_true rfl) rfl (Nat.le_of_ble_eq_true rfl) rfl rfl (Nat.le_of_ble_eq_true rfl) (Nat.le_of_ble_eq_true rfl) ?_
            exact sx_iret dX11_copy_93 rfl (sx_ri (by first | omega | ((repeat' split) <;> first | omega | rfl)) (by (repeat' split) <;> first | rfl | omega))
      · refine sx_aload_n (p1 := 60) dX11_copy_59 rfl rfl ?_
        refine sx_iconst (p1 := 61) dX11_copy_60 rfl ?_
        refine sx_callVr (p1 := 64) (As := [_]) (k1 := 0) (n1 := 0) dX11_copy_61 rfl rfl (c_X11_found) mt_X11_found ml_X11_260 (hp_c2 _) rfl rfl (Nat.le_of_ble_eq_true rfl) rfl (Nat.le_of_ble_eq_true rfl) rfl rfl (Nat.le_of_ble_eq_true rfl) (Nat.le_of_ble_eq_true rfl) ?_
        exact sx_iret dX11_copy_64 rfl (sx_ri (by first | omega | ((repeat' split) <;> first | omega | rfl)) (by (repeat' split) <;> first | rfl | omega))
    · refine sx_aload_n (p1 := 44) dX11_copy_43 rfl rfl ?_
      refine sx_iconst (p1 := 45) dX11_copy_44 rfl ?_
      refine sx_callVr (p1 := 48) (As := [_]) (k1 := 0) (n1 := 0) dX11_copy_45 rfl rfl (c_X11_found) mt_X11_found ml_X11_260 (hp_c2 _) rfl rfl (Nat.le_of_ble_eq_true rfl) rfl (Nat.le_of_ble_eq_true rfl) rfl rfl (Nat.le_of_ble_eq_true rfl) (Nat.le_of_ble_eq_true rfl) ?_
      exact sx_iret dX11_copy_48 rfl (sx_ri (by first | omega | ((repeat' split) <;> first | omega | rfl)) (by (repeat' split) <;> first | rfl | omega))
set_option maxRecDepth 20000 in
theorem c_X11_write {X : sx_X} {S : St} {s : Nat} {j : Int} (hs : s < 4) (hC : CI S) (hj : -2147483648 ≤ j ∧ j ≤ 2147483647) : Ct X yX11_write cX11_write 6 (some .int) 2 0 0 [.ref 2, vI j, vI (s : Int)] (hp S) (sx_is (some (vI (if 0 ≤ j ∧ j ≤ 1999 then (if S.1 (16 + 2 * s) = -1 then -11 else (min (S.1 (17 + 2 * s)) ((cV S).1 1))) else -2))) (hp (if 0 ≤ j ∧ j ≤ 1999 then (if S.1 (16 + 2 * s) = -1 then si S 24 1 else sA S (32 + 2 * s) (wrF (S.2 (32 + 2 * s)) (fun q : Nat => ctZ (S.1 (16 + 2 * s)) (mPl (cV S) (j - (cV S).1 5 - (q : Int) * (cV S).1 2))) (min (S.1 (17 + 2 * s)) ((cV S).1 1)).toNat)) else S))) := by
  obtain ⟨hV, hF, l0, l1, bT, bA, bB, bC, bSh, g3, g5⟩ := hC
  have b0 : 0 ≤ S.1 2 ∧ S.1 2 ≤ 16 := hV.1
  have b1 : 0 ≤ S.1 4 ∧ S.1 4 ≤ 6 := hV.2.1
  have b2 : 0 ≤ S.1 6 ∧ S.1 6 ≤ 99 := hV.2.2.1
  have b3 : 0 ≤ S.1 7 ∧ S.1 7 ≤ 1 := hV.2.2.2.1
  have b4 : 0 ≤ S.1 8 ∧ S.1 8 ≤ 16 := hV.2.2.2.2.1
  have b5 : 0 ≤ S.1 9 ∧ S.1 9 ≤ 999 := hV.2.2.2.2.2.1
  have b6 : 0 ≤ S.1 10 ∧ S.1 10 ≤ 1999 := hV.2.2.2.2.2.2.1
  have b7 : 0 ≤ S.1 11 ∧ S.1 11 ≤ 16 := hV.2.2.2.2.2.2.2.1
  have bK : ∀ q, 0 ≤ gK S q ∧ gK S q ≤ 3 := hV.2.2.2.2.2.2.2.2.1
  have bL : ∀ q, 0 ≤ gL S q ∧ gL S q ≤ 9 := hV.2.2.2.2.2.2.2.2.2.1
  have bW : ∀ q, 0 ≤ pW S q ∧ pW S q ≤ 9 := hV.2.2.2.2.2.2.2.2.2.2.1
  have bS : ∀ q, 0 ≤ pS S q ∧ pS S q ≤ 9 := hV.2.2.2.2.2.2.2.2.2.2.2.1
  have bH : ∀ q, 0 ≤ pH S q ∧ pH S q ≤ 1 := hV.2.2.2.2.2.2.2.2.2.2.2.2
  have c0 : 0 ≤ (cV S).1 0 ∧ (cV S).1 0 ≤ 16 := b0
  have c1 : 0 ≤ (cV S).1 1 ∧ (cV S).1 1 ≤ 6 := b1
  have c2 : 0 ≤ (cV S).1 2 ∧ (cV S).1 2 ≤ 99 := b2
  have c3 : 0 ≤ (cV S).1 3 ∧ (cV S).1 3 ≤ 1 := b3
  have c4 : 0 ≤ (cV S).1 4 ∧ (cV S).1 4 ≤ 16 := b4
  have c5 : 0 ≤ (cV S).1 5 ∧ (cV S).1 5 ≤ 999 := b5
  have c6 : 0 ≤ (cV S).1 6 ∧ (cV S).1 6 ≤ 1999 := b6
  have c7 : 0 ≤ (cV S).1 7 ∧ (cV S).1 7 ≤ 16 := b7
  obtain ⟨hz, hfo, hit⟩ := bSh s hs
  have zk : (0 ≤ j ∧ j ≤ 1999) → Rn X RX11 false cX11_write 6 2 0 0 (some .int) 56 [some (.ref 2), some (vI j), some (vI (s : Int)), some (.ref (31 + 2 * s)), some (vI (min (S.1 (17 + 2 * s)) ((cV S).1 1))), some (vI 0)] [] (hp S) 0 0 (sx_is (some (vI (min (S.1 (17 + 2 * s)) ((cV S).1 1)))) (hp (sA S (32 + 2 * s) (wrF (S.2 (32 + 2 * s)) (fun q : Nat => ctZ (S.1 (16 + 2 * s)) (mPl (cV S) (j - (cV S).1 5 - (q : Int) * (cV S).1 2))) (min (S.1 (17 + 2 * s)) ((cV S).1 1)).toNat)))) := by
    intro hm
    have key : ∀ (n i : Nat), i + n = (min (S.1 (17 + 2 * s)) ((cV S).1 1)).toNat → Rn X RX11 false cX11_write 6 2 0 0 (some .int) 56 [some (.ref 2), some (vI j), some (vI (s : Int)), some (.ref (31 + 2 * s)), some (vI (min (S.1 (17 + 2 * s)) ((cV S).1 1))), some (vI (i : Int))] [] (hp (sA S (32 + 2 * s) (wrF (S.2 (32 + 2 * s)) (fun q : Nat => ctZ (S.1 (16 + 2 * s)) (mPl (cV S) (j - (cV S).1 5 - (q : Int) * (cV S).1 2))) i))) 0 0 (sx_is (some (vI (min (S.1 (17 + 2 * s)) ((cV S).1 1)))) (hp (sA S (32 + 2 * s) (wrF (S.2 (32 + 2 * s)) (fun q : Nat => ctZ (S.1 (16 + 2 * s)) (mPl (cV S) (j - (cV S).1 5 - (q : Int) * (cV S).1 2))) (min (S.1 (17 + 2 * s)) ((cV S).1 1)).toNat)))) := by
      intro n
      induction n with
      | zero =>
        intro i hi 
        rw [Nat.add_zero] at hi
        subst hi
        refine sx_iload (p1 := 58) dX11_write_56 rfl rfl ?_
        refine sx_iload (p1 := 60) dX11_write_58 rfl rfl ?_
        refine sx_icmp_ge (p1 := 63) (tg := 85) dX11_write_60 rfl rfl (by omega) (by omega) (fun q60 => ?_) (fun q60 => absurd q60 (by omega))
        refine sx_iload (p1 := 87) dX11_write_85 rfl rfl ?_
        exact sx_iret dX11_write_87 rfl (sx_ri (by rfl) (by rfl))
      | succ n ih =>
        intro i hi 
        refine sx_iload (p1 := 58) dX11_write_56 rfl rfl ?_
        refine sx_iload (p1 := 60) dX11_write_58 rfl rfl ?_
        refine sx_icmp_ge (p1 := 63) (tg := 85) dX11_write_60 rfl rfl (by omega) (by omega) (fun q60 => absurd q60 (by omega)) (fun q60 => ?_)
        refine sx_aload_n (p1 := 64) dX11_write_63 rfl rfl ?_
        refine sx_iload (p1 := 66) dX11_write_64 rfl rfl ?_
        refine sx_aload_n (p1 := 67) dX11_write_66 rfl rfl ?_
        refine sx_get (p1 := 70) dX11_write_67 rfl fl_X11_47 (hp_c2 _) rfl ?_
        refine sx_iload (p1 := 72) dX11_write_70 rfl rfl ?_
        refine sx_iload_n (p1 := 73) dX11_write_72 rfl rfl ?_
        refine sx_callVr (p1 := 76) (As := [_, _]) (k1 := 0) (n1 := 0) dX11_write_73 rfl rfl (v_X8_partOf (S := sA S (32 + 2 * s) (wrF (S.2 (32 + 2 * s)) (fun q : Nat => ctZ (S.1 (16 + 2 * s)) (mPl (cV S) (j - (cV S).1 5 - (q : Int) * (cV S).1 2))) i)) (V := cV S) (cV_sh hs _) hV (by omega) (by omega)) mt_X8_partOf ml_X11_158 (hp_c15 _) rfl rfl (Nat.le_of_ble_eq_true rfl) rfl (Nat.le_of_ble_eq_true rfl) rfl rfl (Nat.le_of_ble_eq_true rfl) (Nat.le_of_ble_eq_true rfl) ?_
        refine sx_callVn (p1 := 79) (As := [_, _]) (k1 := 0) (n1 := 0) dX11_write_76 rfl rfl (c_X7_put (S := sA S (32 + 2 * s) (wrF (S.2 (32 + 2 * s)) (fun q : Nat => ctZ (S.1 (16 + 2 * s)) (mPl (cV S) (j - (cV S).1 5 - (q : Int) * (cV S).1 2))) i)) hs hz hfo (by show 0 ≤ (i : Int) ∧ (i : Int) < S.1 (17 + 2 * s); omega)) mt_X7_put ml_X11_283 (hp_sh hs _) rfl rfl (Nat.le_of_ble_eq_true rfl) rfl (Nat.le_of_ble_eq_true rfl) rfl rfl (Nat.le_of_ble_eq_true rfl) (Nat.le_of_ble_eq_true rfl) ?_
        refine sx_iinc (lo1 := [some _, some _, some _, some _, some _, some _]) (p1 := 82) dX11_write_79 rfl (by decide) rfl rfl ?_
        refine sx_goto (p1 := 56) (tg := 56) dX11_write_82 rfl rfl ?_
        have h9 := ih (i + 1) (by omega)
        rw [← wrF_s (S.2 (32 + 2 * s)) (fun q : Nat => ctZ (S.1 (16 + 2 * s)) (mPl (cV S) (j - (cV S).1 5 - (q : Int) * (cV S).1 2))) i rfl, ← sa_sA] at h9
        exact h9
    have h9 := key _ 0 (Nat.zero_add _)
    rw [wrF_0, sA_self] at h9
    exact h9
  refine Ct.of false [some (.ref 2), some (vI j), some (vI (s : Int)), none, none, none] (plainFor_of_name (by decide)) (fun h => by cases h) (Nat.le_of_ble_eq_true rfl) (fun _ => rfl) sx_isl ?_
  refine sx_aload_n (p1 := 1) dX11_write_0 rfl rfl ?_
  refine sx_iload_n (p1 := 2) dX11_write_1 rfl rfl ?_
  refine sx_callVr (p1 := 5) (As := [_]) (k1 := 0) (n1 := 0) dX11_write_2 rfl rfl (c_X11_sheetAt hs) mt_X11_sheetAt ml_X11_253 (hp_c2 _) rfl rfl (Nat.le_of_ble_eq_true rfl) rfl (Nat.le_of_ble_eq_true rfl) rfl rfl (Nat.le_of_ble_eq_true rfl) (Nat.le_of_ble_eq_true rfl) ?_
  refine sx_astore_n (lo1 := [some _, some _, some _, some _, none, none]) (p1 := 6) dX11_write_5 rfl (by decide) rfl ?_
  refine sx_aload_n (p1 := 7) dX11_write_6 rfl rfl ?_
  refine sx_ifnull (p1 := 10) dX11_write_7 rfl ?_
  refine sx_iload_n (p1 := 11) dX11_write_10 rfl rfl ?_
  refine sx_iconst (p1 := 12) dX11_write_11 rfl ?_
  refine sx_sipush (p1 := 15) dX11_write_12 rfl (by decide) ?_
  refine sx_callSr (p1 := 18) (As := [_, _, _]) (k1 := 0) (n1 := 0) dX11_write_15 rfl rfl (c_X11_within (by omega) (by omega) (by omega)) mt_X11_within ml_X11_101 (Nat.le_of_ble_eq_true rfl) rfl (Nat.le_of_ble_eq_true rfl) rfl rfl (Nat.le_of_ble_eq_true rfl) (Nat.le_of_ble_eq_true rfl) ?_
  refine sx_if_ne (p1 := 21) (tg := 24) dX11_write_18 rfl rfl (by split <;> omega) (fun q18 => ?_) (fun q18 => ?_)
  · have zj : 0 ≤ j ∧ j ≤ 1999 := Decidable.byContradiction (fun q => by rw [if_neg q] at q18; exact q18 rfl)
    rw [if_pos zj, if_pos zj]
    refine sx_aload_n (p1 := 25) dX11_write_24 rfl rfl ?_
    refine sx_callVr (p1 := 28) (As := []) (k1 := 0) (n1 := 0) dX11_write_25 rfl rfl (c_X7_isLost hs hz hfo) mt_X7_isLost ml_X11_257 (hp_sh hs _) rfl rfl (Nat.le_of_ble_eq_true rfl) rfl (Nat.le_of_ble_eq_true rfl) rfl rfl (Nat.le_of_ble_eq_true rfl) (Nat.le_of_ble_eq_true rfl) ?_
    refine sx_if_eq (p1 := 31) (tg := 37) dX11_write_28 rfl rfl (by split <;> omega) (fun q28 => ?_) (fun q28 => ?_)
    · have zf : ¬ S.1 (16 + 2 * s) = -1 := fun q => by rw [if_pos q] at q28; omega
      rw [if_neg zf, if_neg zf]
      refine sx_aload_n (p1 := 38) dX11_write_37 rfl rfl ?_
      refine sx_callVr (p1 := 41) (As := []) (k1 := 0) (n1 := 0) dX11_write_38 rfl rfl (c_X7_size hs hz hfo) mt_X7_size ml_X11_263 (hp_sh hs _) rfl rfl (Nat.le_of_ble_eq_true rfl) rfl (Nat.le_of_ble_eq_true rfl) rfl rfl (Nat.le_of_ble_eq_true rfl) (Nat.le_of_ble_eq_true rfl) ?_
      refine sx_aload_n (p1 := 42) dX11_write_41 rfl rfl ?_
      refine sx_get (p1 := 45) dX11_write_42 rfl fl_X11_31 (hp_c2 _) rfl ?_
      refine sx_callVr (p1 := 48) (As := []) (k1 := 0) (n1 := 0) dX11_write_45 rfl rfl (v_X5_size (V := cV S) rfl hV) mt_X5_size ml_X11_216 (hp_c10 _) rfl rfl (Nat.le_of_ble_eq_true rfl) rfl (Nat.le_of_ble_eq_true rfl) rfl rfl (Nat.le_of_ble_eq_true rfl) (Nat.le_of_ble_eq_true rfl) ?_
      refine sx_callSr (p1 := 51) (As := [_, _]) (k1 := 0) (n1 := 0) dX11_write_48 rfl rfl (c_J9_min_7cf53 (by omega) (by omega)) mt_J9_min_7cf53 ml_X11_204 (Nat.le_of_ble_eq_true rfl) rfl (Nat.le_of_ble_eq_true rfl) rfl rfl (Nat.le_of_ble_eq_true rfl) (Nat.le_of_ble_eq_true rfl) ?_
      refine sx_istore (lo1 := [some _, some _, some _, some _, some _, none]) (p1 := 53) dX11_write_51 rfl (by decide) rfl ?_
      refine sx_iconst (p1 := 54) dX11_write_53 rfl ?_
      refine sx_istore (lo1 := [some _, some _, some _, some _, some _, some _]) (p1 := 56) dX11_write_54 rfl (by decide) rfl ?_
      exact zk zj
    · have zf : S.1 (16 + 2 * s) = -1 := Decidable.byContradiction (fun q => by rw [if_neg q] at q28; exact q28 rfl)
      rw [if_pos zf, if_pos zf]
      refine sx_aload_n (p1 := 32) dX11_write_31 rfl rfl ?_
      refine sx_iconst (p1 := 33) dX11_write_32 rfl ?_
      refine sx_callVr (p1 := 36) (As := [_]) (k1 := 0) (n1 := 0) dX11_write_33 rfl rfl (c_X11_found) mt_X11_found ml_X11_260 (hp_c2 _) rfl rfl (Nat.le_of_ble_eq_true rfl) rfl (Nat.le_of_ble_eq_true rfl) rfl rfl (Nat.le_of_ble_eq_true rfl) (Nat.le_of_ble_eq_true rfl) ?_
      exact sx_iret dX11_write_36 rfl (sx_ri (by first | omega | ((repeat' split) <;> first | omega | rfl)) (by rfl))
  · rw [if_neg (fun q => by rw [if_pos q] at q18; omega), if_neg (fun q => by rw [if_pos q] at q18; omega)]
    refine sx_bipush (p1 := 23) dX11_write_21 rfl (by decide) ?_
    exact sx_iret dX11_write_23 rfl (sx_ri (by first | omega | ((repeat' split) <;> first | omega | rfl)) (by rfl))
set_option maxRecDepth 20000 in
theorem c_X11_read {X : sx_X} {S : St} {s : Nat} (hs : s < 4) (hC : CI S)  : Ct X yX11_read cX11_read 5 (some .int) 2 0 0 [.ref 2, vI (s : Int)] (hp S) (sx_is (some (vI (if S.1 (16 + 2 * s) = -1 then -11 else (rdF (S.2 (32 + 2 * s)) (S.1 (17 + 2 * s)) 20 0 S).2))) (hp (if S.1 (16 + 2 * s) = -1 then si S 24 1 else (rdF (S.2 (32 + 2 * s)) (S.1 (17 + 2 * s)) 20 0 S).1))) := by
  obtain ⟨hV, hF, l0, l1, bT, bA, bB, bC, bSh, g3, g5⟩ := hC
  have b0 : 0 ≤ S.1 2 ∧ S.1 2 ≤ 16 := hV.1
  have b1 : 0 ≤ S.1 4 ∧ S.1 4 ≤ 6 := hV.2.1
  have b2 : 0 ≤ S.1 6 ∧ S.1 6 ≤ 99 := hV.2.2.1
  have b3 : 0 ≤ S.1 7 ∧ S.1 7 ≤ 1 := hV.2.2.2.1
  have b4 : 0 ≤ S.1 8 ∧ S.1 8 ≤ 16 := hV.2.2.2.2.1
  have b5 : 0 ≤ S.1 9 ∧ S.1 9 ≤ 999 := hV.2.2.2.2.2.1
  have b6 : 0 ≤ S.1 10 ∧ S.1 10 ≤ 1999 := hV.2.2.2.2.2.2.1
  have b7 : 0 ≤ S.1 11 ∧ S.1 11 ≤ 16 := hV.2.2.2.2.2.2.2.1
  have bK : ∀ q, 0 ≤ gK S q ∧ gK S q ≤ 3 := hV.2.2.2.2.2.2.2.2.1
  have bL : ∀ q, 0 ≤ gL S q ∧ gL S q ≤ 9 := hV.2.2.2.2.2.2.2.2.2.1
  have bW : ∀ q, 0 ≤ pW S q ∧ pW S q ≤ 9 := hV.2.2.2.2.2.2.2.2.2.2.1
  have bS : ∀ q, 0 ≤ pS S q ∧ pS S q ≤ 9 := hV.2.2.2.2.2.2.2.2.2.2.2.1
  have bH : ∀ q, 0 ≤ pH S q ∧ pH S q ≤ 1 := hV.2.2.2.2.2.2.2.2.2.2.2.2
  have c0 : 0 ≤ (cV S).1 0 ∧ (cV S).1 0 ≤ 16 := b0
  have c1 : 0 ≤ (cV S).1 1 ∧ (cV S).1 1 ≤ 6 := b1
  have c2 : 0 ≤ (cV S).1 2 ∧ (cV S).1 2 ≤ 99 := b2
  have c3 : 0 ≤ (cV S).1 3 ∧ (cV S).1 3 ≤ 1 := b3
  have c4 : 0 ≤ (cV S).1 4 ∧ (cV S).1 4 ≤ 16 := b4
  have c5 : 0 ≤ (cV S).1 5 ∧ (cV S).1 5 ≤ 999 := b5
  have c6 : 0 ≤ (cV S).1 6 ∧ (cV S).1 6 ≤ 1999 := b6
  have c7 : 0 ≤ (cV S).1 7 ∧ (cV S).1 7 ≤ 16 := b7
  obtain ⟨hz, hfo, hit⟩ := bSh s hs
  have key : ∀ (n i : Nat) (T : St), i + n = 20 → (0 ≤ T.1 15 ∧ T.1 15 ≤ 8) → T.1 (16 + 2 * s) = S.1 (16 + 2 * s) → T.1 (17 + 2 * s) = S.1 (17 + 2 * s) → T.2 (32 + 2 * s) = (S.2 (32 + 2 * s)) → (rdF (S.2 (32 + 2 * s)) (S.1 (17 + 2 * s)) 20 0 S) = (rdF (S.2 (32 + 2 * s)) (S.1 (17 + 2 * s)) n i T) → Rn X RX11 false cX11_read 5 2 0 0 (some .int) 31 [some (.ref 2), some (vI (s : Int)), some (.ref (31 + 2 * s)), some (vI (i : Int)), some (vI (3 * (i : Int)))] [] (hp T) 0 0 (sx_is (some (vI (rdF (S.2 (32 + 2 * s)) (S.1 (17 + 2 * s)) 20 0 S).2)) (hp (rdF (S.2 (32 + 2 * s)) (S.1 (17 + 2 * s)) 20 0 S).1)) := by
    intro n
    induction n with
    | zero =>
      intro i T hi tT t1 t2 t3 he
      rw [he]
      refine sx_iload (p1 := 33) dX11_read_31 rfl rfl ?_
      refine sx_iconst (p1 := 34) dX11_read_33 rfl ?_
      refine sx_iadd (p1 := 35) dX11_read_34 rfl ?_
      refine sx_aload_n (p1 := 36) dX11_read_35 rfl rfl ?_
      refine sx_callVr (p1 := 39) (As := []) (k1 := 0) (n1 := 0) dX11_read_36 rfl rfl (c_X7_size hs (by omega) (by omega)) mt_X7_size ml_X11_263 (hp_sh hs _) rfl rfl (Nat.le_of_ble_eq_true rfl) rfl (Nat.le_of_ble_eq_true rfl) rfl rfl (Nat.le_of_ble_eq_true rfl) (Nat.le_of_ble_eq_true rfl) ?_
      refine sx_icmp_ge (p1 := 42) (tg := 121) dX11_read_39 rfl rfl (by omega) (by omega) (fun q39 => ?_) (fun q39 => absurd q39 (by rw [t2]; omega))
      refine sx_iload_n (p1 := 122) dX11_read_121 rfl rfl ?_
      exact sx_iret dX11_read_122 rfl (sx_ri (by rfl) (by rfl))
    | succ n ih =>
      intro i T hi tT t1 t2 t3 he
      have i0 := hit (3 * i)
      have i1 := hit (3 * i + 1)
      have i2 := hit (3 * i + 2)
      have e0 : (3 * (i : Int)).toNat = 3 * i := by omega
      have e1 : (3 * (i : Int) + 1).toNat = 3 * i + 1 := by omega
      have e2 : (3 * (i : Int) + 2).toNat = 3 * i + 2 := by omega
      have g0 : 3 * (i : Int) + 2 < S.1 (17 + 2 * s) → (if 0 ≤ 3 * (i : Int) ∧ 3 * (i : Int) < T.1 (17 + 2 * s) then T.2 (32 + 2 * s) (3 * (i : Int)).toNat else 0) = (S.2 (32 + 2 * s)) (3 * i) := fun q => by rw [if_pos (by omega), e0, t3]
      have g1 : 3 * (i : Int) + 2 < S.1 (17 + 2 * s) → (if 0 ≤ 3 * (i : Int) + 1 ∧ 3 * (i : Int) + 1 < T.1 (17 + 2 * s) then T.2 (32 + 2 * s) (3 * (i : Int) + 1).toNat else 0) = (S.2 (32 + 2 * s)) (3 * i + 1) := fun q => by rw [if_pos (by omega), e1, t3]
      have g2 : 3 * (i : Int) + 2 < S.1 (17 + 2 * s) → (if 0 ≤ 3 * (i : Int) + 2 ∧ 3 * (i : Int) + 2 < T.1 (17 + 2 * s) then T.2 (32 + 2 * s) (3 * (i : Int) + 2).toNat else 0) = (S.2 (32 + 2 * s)) (3 * i + 2) := fun q => by rw [if_pos (by omega), e2, t3]
      refine sx_iload (p1 := 33) dX11_read_31 rfl rfl ?_
      refine sx_iconst (p1 := 34) dX11_read_33 rfl ?_
      refine sx_iadd (p1 := 35) dX11_read_34 rfl ?_
      refine sx_aload_n (p1 := 36) dX11_read_35 rfl rfl ?_
      refine sx_callVr (p1 := 39) (As := []) (k1 := 0) (n1 := 0) dX11_read_36 rfl rfl (c_X7_size hs (by omega) (by omega)) mt_X7_size ml_X11_263 (hp_sh hs _) rfl rfl (Nat.le_of_ble_eq_true rfl) rfl (Nat.le_of_ble_eq_true rfl) rfl rfl (Nat.le_of_ble_eq_true rfl) (Nat.le_of_ble_eq_true rfl) ?_
      refine sx_icmp_ge (p1 := 42) (tg := 121) dX11_read_39 rfl rfl (by omega) (by omega) (fun q39 => ?_) (fun q39 => ?_)
      · have zq : (rdF (S.2 (32 + 2 * s)) (S.1 (17 + 2 * s)) (n + 1) i T) = (T, (i : Int)) := if_neg (fun q => by omega)
        rw [he, zq]
        refine sx_iload_n (p1 := 122) dX11_read_121 rfl rfl ?_
        exact sx_iret dX11_read_122 rfl (sx_ri (by rfl) (by rfl))
      · have h3 := g0 (by omega)
        have h4 := g1 (by omega)
        have h5 := g2 (by omega)
        refine sx_aload_n (p1 := 43) dX11_read_42 rfl rfl ?_
        refine sx_get (p1 := 46) dX11_read_43 rfl fl_X11_86 (hp_c2 _) rfl ?_
        refine sx_callVr (p1 := 49) (As := []) (k1 := 0) (n1 := 0) dX11_read_46 rfl rfl (c_X9_isFull tT) mt_X9_isFull ml_X11_240 (hp_c26 _) rfl rfl (Nat.le_of_ble_eq_true rfl) rfl (Nat.le_of_ble_eq_true rfl) rfl rfl (Nat.le_of_ble_eq_true rfl) (Nat.le_of_ble_eq_true rfl) ?_
        refine sx_if_ne (p1 := 52) (tg := 121) dX11_read_49 rfl rfl (by split <;> omega) (fun q49 => ?_) (fun q49 => ?_)
        · have zq : (rdF (S.2 (32 + 2 * s)) (S.1 (17 + 2 * s)) (n + 1) i T) = (T, (i : Int)) := if_neg (fun q => by rw [if_neg (by omega)] at q49; exact q49 rfl)
          rw [he, zq]
          refine sx_iload_n (p1 := 122) dX11_read_121 rfl rfl ?_
          exact sx_iret dX11_read_122 rfl (sx_ri (by rfl) (by rfl))
        · have zt : T.1 15 < 8 := Decidable.byContradiction (fun q => by rw [if_pos (by omega)] at q49; omega)
          refine sx_aload_n (p1 := 53) dX11_read_52 rfl rfl ?_
          refine sx_iload (p1 := 55) dX11_read_53 rfl rfl ?_
          refine sx_callVr (p1 := 58) (As := [_]) (k1 := 0) (n1 := 0) dX11_read_55 rfl rfl (c_X7_item hs (by omega) (by omega) (by omega)) mt_X7_item ml_X11_264 (hp_sh hs _) rfl rfl (Nat.le_of_ble_eq_true rfl) rfl (Nat.le_of_ble_eq_true rfl) rfl rfl (Nat.le_of_ble_eq_true rfl) (Nat.le_of_ble_eq_true rfl) ?_
          rw [h3]
          refine sx_aload_n (p1 := 59) dX11_read_58 rfl rfl ?_
          refine sx_iload (p1 := 61) dX11_read_59 rfl rfl ?_
          refine sx_iconst (p1 := 62) dX11_read_61 rfl ?_
          refine sx_iadd (p1 := 63) dX11_read_62 rfl ?_
          refine sx_callVr (p1 := 66) (As := [_]) (k1 := 0) (n1 := 0) dX11_read_63 rfl rfl (c_X7_item hs (by omega) (by omega) (by omega)) mt_X7_item ml_X11_264 (hp_sh hs _) rfl rfl (Nat.le_of_ble_eq_true rfl) rfl (Nat.le_of_ble_eq_true rfl) rfl rfl (Nat.le_of_ble_eq_true rfl) (Nat.le_of_ble_eq_true rfl) ?_
          rw [h4]
          refine sx_aload_n (p1 := 67) dX11_read_66 rfl rfl ?_
          refine sx_iload (p1 := 69) dX11_read_67 rfl rfl ?_
          refine sx_iconst (p1 := 70) dX11_read_69 rfl ?_
          refine sx_iadd (p1 := 71) dX11_read_70 rfl ?_
          refine sx_callVr (p1 := 74) (As := [_]) (k1 := 0) (n1 := 0) dX11_read_71 rfl rfl (c_X7_item hs (by omega) (by omega) (by omega)) mt_X7_item ml_X11_264 (hp_sh hs _) rfl rfl (Nat.le_of_ble_eq_true rfl) rfl (Nat.le_of_ble_eq_true rfl) rfl rfl (Nat.le_of_ble_eq_true rfl) (Nat.le_of_ble_eq_true rfl) ?_
          rw [h5]
          refine sx_callSr (p1 := 77) (As := [_, _, _]) (k1 := 0) (n1 := 0) dX11_read_74 rfl rfl (c_X9_fits i0 i1 i2) mt_X9_fits ml_X11_237 (Nat.le_of_ble_eq_true rfl) rfl (Nat.le_of_ble_eq_true rfl) rfl rfl (Nat.le_of_ble_eq_true rfl) (Nat.le_of_ble_eq_true rfl) ?_
          refine sx_if_ne (p1 := 80) (tg := 83) dX11_read_77 rfl rfl (by split <;> omega) (fun q77 => ?_) (fun q77 => ?_)
          · have zfi : ((0 ≤ (S.2 (32 + 2 * s)) (3 * i) ∧ (S.2 (32 + 2 * s)) (3 * i) ≤ 5) ∧ (0 ≤ (S.2 (32 + 2 * s)) (3 * i + 1) ∧ (S.2 (32 + 2 * s)) (3 * i + 1) ≤ 15) ∧ 0 ≤ (S.2 (32 + 2 * s)) (3 * i + 2) ∧ (S.2 (32 + 2 * s)) (3 * i + 2) ≤ 1) := Decidable.byContradiction (fun q => by rw [if_neg q] at q77; exact q77 rfl)
            have zq : (rdF (S.2 (32 + 2 * s)) (S.1 (17 + 2 * s)) (n + 1) i T) = rdF (S.2 (32 + 2 * s)) (S.1 (17 + 2 * s)) n (i + 1) (rdA T ((S.2 (32 + 2 * s)) (3 * i)) ((S.2 (32 + 2 * s)) (3 * i + 1)) ((S.2 (32 + 2 * s)) (3 * i + 2))) := if_pos ⟨by omega, zt, zfi⟩
            refine sx_aload_n (p1 := 84) dX11_read_83 rfl rfl ?_
            refine sx_get (p1 := 87) dX11_read_84 rfl fl_X11_86 (hp_c2 _) rfl ?_
            refine sx_aload_n (p1 := 88) dX11_read_87 rfl rfl ?_
            refine sx_iload (p1 := 90) dX11_read_88 rfl rfl ?_
            refine sx_callVr (p1 := 93) (As := [_]) (k1 := 0) (n1 := 0) dX11_read_90 rfl rfl (c_X7_item hs (by omega) (by omega) (by omega)) mt_X7_item ml_X11_264 (hp_sh hs _) rfl rfl (Nat.le_of_ble_eq_true rfl) rfl (Nat.le_of_ble_eq_true rfl) rfl rfl (Nat.le_of_ble_eq_true rfl) (Nat.le_of_ble_eq_true rfl) ?_
            rw [h3]
            refine sx_aload_n (p1 := 94) dX11_read_93 rfl rfl ?_
            refine sx_iload (p1 := 96) dX11_read_94 rfl rfl ?_
            refine sx_iconst (p1 := 97) dX11_read_96 rfl ?_
            refine sx_iadd (p1 := 98) dX11_read_97 rfl ?_
            refine sx_callVr (p1 := 101) (As := [_]) (k1 := 0) (n1 := 0) dX11_read_98 rfl rfl (c_X7_item hs (by omega) (by omega) (by omega)) mt_X7_item ml_X11_264 (hp_sh hs _) rfl rfl (Nat.le_of_ble_eq_true rfl) rfl (Nat.le_of_ble_eq_true rfl) rfl rfl (Nat.le_of_ble_eq_true rfl) (Nat.le_of_ble_eq_true rfl) ?_
            rw [h4]
            refine sx_aload_n (p1 := 102) dX11_read_101 rfl rfl ?_
            refine sx_iload (p1 := 104) dX11_read_102 rfl rfl ?_
            refine sx_iconst (p1 := 105) dX11_read_104 rfl ?_
            refine sx_iadd (p1 := 106) dX11_read_105 rfl ?_
            refine sx_callVr (p1 := 109) (As := [_]) (k1 := 0) (n1 := 0) dX11_read_106 rfl rfl (c_X7_item hs (by omega) (by omega) (by omega)) mt_X7_item ml_X11_264 (hp_sh hs _) rfl rfl (Nat.le_of_ble_eq_true rfl) rfl (Nat.le_of_ble_eq_true rfl) rfl rfl (Nat.le_of_ble_eq_true rfl) (Nat.le_of_ble_eq_true rfl) ?_
            rw [h5]
            refine sx_callVn (p1 := 112) (As := [_, _, _]) (k1 := 0) (n1 := 0) dX11_read_109 rfl rfl (c_X9_add tT (by omega)) mt_X9_add ml_X11_241 (hp_c26 _) rfl rfl (Nat.le_of_ble_eq_true rfl) rfl (Nat.le_of_ble_eq_true rfl) rfl rfl (Nat.le_of_ble_eq_true rfl) (Nat.le_of_ble_eq_true rfl) ?_
            rw [show si (sa (sa (sa T 27 (T.1 15).toNat ((S.2 (32 + 2 * s)) (3 * i))) 28 (T.1 15).toNat ((S.2 (32 + 2 * s)) (3 * i + 1))) 29 (T.1 15).toNat ((S.2 (32 + 2 * s)) (3 * i + 2))) 15 (T.1 15 + 1) = rdA T ((S.2 (32 + 2 * s)) (3 * i)) ((S.2 (32 + 2 * s)) (3 * i + 1)) ((S.2 (32 + 2 * s)) (3 * i + 2)) from rfl]
            refine sx_iinc (lo1 := [some _, some _, some _, some _, some _]) (p1 := 115) dX11_read_112 rfl (by decide) rfl rfl ?_
            refine sx_iinc (lo1 := [some _, some _, some _, some _, some _]) (p1 := 118) dX11_read_115 rfl (by decide) rfl rfl ?_
            refine sx_goto (p1 := 31) (tg := 31) dX11_read_118 rfl rfl ?_
            have h9 := ih (i + 1) (rdA T _ _ _) (by omega) (by rw [rdA_t]; omega) (by rw [rdA_s _ _ _ _ _ (by omega)]; exact t1) (by rw [rdA_s _ _ _ _ _ (by omega)]; exact t2) (by rw [rdA_a _ _ _ _ _ (by omega)]; exact t3) (he.trans zq)
            rw [show 3 * ((i + 1 : Nat) : Int) = 3 * (i : Int) + 3 by omega] at h9
            exact h9
          · have zq : (rdF (S.2 (32 + 2 * s)) (S.1 (17 + 2 * s)) (n + 1) i T) = (T, (i : Int)) := if_neg (fun q => by rw [if_pos q.2.2] at q77; omega)
            rw [he, zq]
            refine sx_goto (p1 := 121) (tg := 121) dX11_read_80 rfl rfl ?_
            refine sx_iload_n (p1 := 122) dX11_read_121 rfl rfl ?_
            exact sx_iret dX11_read_122 rfl (sx_ri (by rfl) (by rfl))
  refine Ct.of false [some (.ref 2), some (vI (s : Int)), none, none, none] (plainFor_of_name (by decide)) (fun h => by cases h) (Nat.le_of_ble_eq_true rfl) (fun _ => rfl) sx_isl ?_
  refine sx_aload_n (p1 := 1) dX11_read_0 rfl rfl ?_
  refine sx_iload_n (p1 := 2) dX11_read_1 rfl rfl ?_
  refine sx_callVr (p1 := 5) (As := [_]) (k1 := 0) (n1 := 0) dX11_read_2 rfl rfl (c_X11_sheetAt hs) mt_X11_sheetAt ml_X11_253 (hp_c2 _) rfl rfl (Nat.le_of_ble_eq_true rfl) rfl (Nat.le_of_ble_eq_true rfl) rfl rfl (Nat.le_of_ble_eq_true rfl) (Nat.le_of_ble_eq_true rfl) ?_
  refine sx_astore_n (lo1 := [some _, some _, some _, none, none]) (p1 := 6) dX11_read_5 rfl (by decide) rfl ?_
  refine sx_aload_n (p1 := 7) dX11_read_6 rfl rfl ?_
  refine sx_ifnonnull (p1 := 13) (tg := 13) dX11_read_7 rfl rfl ?_
  refine sx_aload_n (p1 := 14) dX11_read_13 rfl rfl ?_
  refine sx_callVr (p1 := 17) (As := []) (k1 := 0) (n1 := 0) dX11_read_14 rfl rfl (c_X7_isLost hs hz hfo) mt_X7_isLost ml_X11_257 (hp_sh hs _) rfl rfl (Nat.le_of_ble_eq_true rfl) rfl (Nat.le_of_ble_eq_true rfl) rfl rfl (Nat.le_of_ble_eq_true rfl) (Nat.le_of_ble_eq_true rfl) ?_
  refine sx_if_eq (p1 := 20) (tg := 26) dX11_read_17 rfl rfl (by split <;> omega) (fun q17 => ?_) (fun q17 => ?_)
  · have zf : ¬ S.1 (16 + 2 * s) = -1 := fun q => by rw [if_pos q] at q17; omega
    rw [if_neg zf, if_neg zf]
    refine sx_iconst (p1 := 27) dX11_read_26 rfl ?_
    refine sx_istore_n (lo1 := [some _, some _, some _, some _, none]) (p1 := 28) dX11_read_27 rfl (by decide) rfl ?_
    refine sx_iconst (p1 := 29) dX11_read_28 rfl ?_
    refine sx_istore (lo1 := [some _, some _, some _, some _, some _]) (p1 := 31) dX11_read_29 rfl (by decide) rfl ?_
    exact key 20 0 S rfl bT rfl rfl rfl rfl
  · have zf : S.1 (16 + 2 * s) = -1 := Decidable.byContradiction (fun q => by rw [if_neg q] at q17; exact q17 rfl)
    rw [if_pos zf, if_pos zf]
    refine sx_aload_n (p1 := 21) dX11_read_20 rfl rfl ?_
    refine sx_iconst (p1 := 22) dX11_read_21 rfl ?_
    refine sx_callVr (p1 := 25) (As := [_]) (k1 := 0) (n1 := 0) dX11_read_22 rfl rfl (c_X11_found) mt_X11_found ml_X11_260 (hp_c2 _) rfl rfl (Nat.le_of_ble_eq_true rfl) rfl (Nat.le_of_ble_eq_true rfl) rfl rfl (Nat.le_of_ble_eq_true rfl) (Nat.le_of_ble_eq_true rfl) ?_
    exact sx_iret dX11_read_25 rfl (sx_ri (by rfl) (by rfl))
