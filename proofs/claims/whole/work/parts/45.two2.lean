theorem and_b8 : ∀ j : Nat, j < 256 → sx_and (sx_b8 (sx_b8 (j : Int))) 255 = (j : Int) := by decide +kernel
theorem and_b8I {j : Int} (h : 0 ≤ j ∧ j ≤ 255) : sx_and (sx_b8 (sx_b8 j)) 255 = j := by
  have e := and_b8 j.toNat (by omega)
  rwa [Int.toNat_of_nonneg h.1] at e
theorem tx_M {t : Nat} (ht : t < 2) : (t = 0 ∧ txM t = 32) ∨ (t = 1 ∧ txM t = 23) := by
  rcases (show t = 0 ∨ t = 1 by omega) with rfl | rfl
  · exact Or.inl ⟨rfl, rfl⟩
  · exact Or.inr ⟨rfl, rfl⟩
theorem pA_G (R : St) : jG (pA R) := by
  have t0 : txB (pA R) 0 = txB R 0 := txB_ext (pA_s R 0 (by decide)) (pA_a R 4 (by decide))
  have fr := gIt_free (txB R 0) (R.1 0) (R.2 8) (R.2 9) z0 z0 32
  have ge := gEnd_b (gIt (txB R 0) (R.1 0) (R.2 8) (R.2 9) 32)
  have e3 : (pG R).1 3 = (gEnd (gIt (txB R 0) (R.1 0) (R.2 8) (R.2 9) 32)).2.2.1 := rfl
  have e2 : (pG R).1 2 = (gEnd (gIt (txB R 0) (R.1 0) (R.2 8) (R.2 9) 32)).2.1 := rfl
  have e8 : (pG R).2 8 = (gEnd (gIt (txB R 0) (R.1 0) (R.2 8) (R.2 9) 32)).2.2.2.1 := rfl
  have e9 : (pG R).2 9 = (gEnd (gIt (txB R 0) (R.1 0) (R.2 8) (R.2 9) 32)).2.2.2.2 := rfl
  rw [ge.1] at e2
  rw [ge.2] at e3 e8 e9
  have p3 : (pA R).1 3 = (pG R).1 3 := pP_s (pG R) 3 (by decide)
  have p2 : (pA R).1 2 = (pG R).1 2 := pP_s (pG R) 2 (by decide)
  have p8 : (pA R).2 8 = (pG R).2 8 := (sA_ne (by decide)).trans (pP_a (pG R) 8 (by decide))
  have p9 : (pA R).2 9 = (pG R).2 9 := (sA_ne (by decide)).trans (pP_a (pG R) 9 (by decide))
  unfold jG
  rw [t0, pA_s R 0 (by decide), p3, p2, p8, p9, e3, e2, e8, e9, ← fr.2.2.1, ← fr.2.1]
  refine ⟨rfl, rfl, fun i hi => fr.2.2.2 i ?_⟩
  split at hi
  · exact hi
  · omega
theorem pA_W (R : St) : jW (pA R) := by
  have t1 : txB (pA R) 1 = txB R 1 := txB_ext (pA_s R 1 (by decide)) (pA_a R 6 (by decide))
  have t2 : txB (pG R) 1 = txB R 1 := txB_ext (pG_s R 1 (by decide)) (pG_a R 6 (by decide))
  have a4 : (pA R).1 4 = (pP (pG R)).1 4 := rfl
  have a5 : (pA R).1 5 = (pP (pG R)).1 5 := rfl
  have a11 : (pA R).2 11 = (pP (pG R)).2 11 := sA_ne (by decide)
  have a12 : (pA R).2 12 = (pP (pG R)).2 12 := sA_ne (by decide)
  have a13 : (pA R).2 13 = (pP (pG R)).2 13 := sA_ne (by decide)
  have ep : pP (pG R) = if wF (txB R 1) (R.1 1) (R.1 1).toNat 0 = -1 then wS (pG R) (txB R 1) (-1) (((R.1 1).toNat + 3) / 4) else si (si (pG R) 4 0) 5 (wF (txB R 1) (R.1 1) (R.1 1).toNat 0) := by
    unfold pP
    rw [t2, pG_s R 1 (by decide)]
  unfold jW
  rw [t1, pA_s R 1 (by decide), a4, a5, a11, a12, a13]
  by_cases c : wF (txB R 1) (R.1 1) (R.1 1).toNat 0 = -1
  · rw [if_pos c] at ep
    rw [ep, if_pos c]
    refine ⟨c.symm, rfl, fun i hi => ?_⟩
    have hi2 : i < ((R.1 1).toNat + 3) / 4 := by
      have : (wS (pG R) (txB R 1) (-1) (((R.1 1).toNat + 3) / 4)).1 4 = ((((R.1 1).toNat + 3) / 4 : Nat) : Int) := rfl
      omega
    exact ⟨if_pos hi2, if_pos hi2, if_pos hi2⟩
  · rw [if_neg c] at ep
    rw [ep, if_neg c]
    refine ⟨rfl, rfl, fun i hi => ?_⟩
    have : (si (si (pG R) 4 0) 5 (wF (txB R 1) (R.1 1) (R.1 1).toNat 0)).1 4 = 0 := rfl
    omega
theorem J_text {S R T : St} (hJ : J S) (r1 : ∀ k, 6 ≤ k → R.1 k = S.1 k) (r2 : ∀ k, k ≠ 4 → k ≠ 6 → R.2 k = S.2 k) (l0 : 0 ≤ R.1 0 ∧ R.1 0 ≤ 32) (l1 : 0 ≤ R.1 1 ∧ R.1 1 ≤ 23) (t1 : ∀ k, T.1 k = (pA R).1 k) (t2 : ∀ k, k ≠ 44 → k ≠ 45 → T.2 k = (pA R).2 k) (hb : ∀ i, 0 ≤ T.2 44 i ∧ T.2 44 i ≤ 255) (hL : jT T) : J T := by
  have hT : okT R := by
    have h := okT_of hJ.1.1
    unfold okT
    rw [r1 6 (by decide), r1 7 (by decide), r1 8 (by decide), r1 9 (by decide), r1 10 (by decide), r1 11 (by decide)]
    exact h
  have hc : cV T = cV (pA R) := cV_ext (fun k _ => t1 k) (fun k hk => t2 k (by omega) (by omega))
  have s : ∀ k, 6 ≤ k → T.1 k = S.1 k := fun k hk => (t1 k).trans ((pA_s R k (by omega)).trans (r1 k hk))
  have a : ∀ k, 17 ≤ k → k ≠ 44 → k ≠ 45 → T.2 k = S.2 k := fun k h1 h2 h3 => (t2 k h2 h3).trans ((pA_a R k (by omega)).trans (r2 k (by omega) (by omega)))
  refine ⟨⟨by rw [hc]; exact pA_ok hT l1, ?_, ?_, ?_, ?_, hb, hL, ?_, ?_, ?_⟩, GF_ext ⟨s 15 (by decide), s 39 (by decide)⟩ ⟨a 27 (by decide) (by decide) (by decide), a 28 (by decide) (by decide) (by decide), a 29 (by decide) (by decide) (by decide), a 54 (by decide) (by decide) (by decide)⟩ hJ.2.1, GH_ext (fun k hk => s k (by omega)) (fun k hk => a k (by omega) (by omega) (by omega)) hJ.2.2.1, GB_ext (s 36 (by decide)) ⟨a 20 (by decide) (by decide) (by decide), a 50 (by decide) (by decide) (by decide)⟩ hJ.2.2.2⟩
  · intro q h hq hh
    rw [hc, t2 16 (by decide) (by decide)]
    exact pA_F R q h hq hh
  · rw [t1, pA_s R 0 (by decide)]
    exact l0
  · rw [t1, pA_s R 1 (by decide)]
    exact l1
  · rw [t1, t1]
    have g := pG_b R
    have p := pP_b (pG R) (by rw [pG_s R 1 (by decide)]; exact l1)
    have e3 : (pA R).1 3 = (pG R).1 3 := pP_s (pG R) 3 (by decide)
    have e5 : (pA R).1 5 = (pP (pG R)).1 5 := rfl
    rw [e3, e5]
    exact ⟨⟨g.2.2.2.1, by omega⟩, p.2.2.2.2.1, by omega⟩
  · unfold jG
    rw [txB_ext (S := pA R) (t1 0) (t2 4 (by decide) (by decide)), t1 0, t1 2, t1 3, t2 8 (by decide) (by decide), t2 9 (by decide) (by decide)]
    exact pA_G R
  · unfold jW
    rw [txB_ext (S := pA R) (t1 1) (t2 6 (by decide) (by decide)), t1 1, t1 4, t1 5, t2 11 (by decide) (by decide), t2 12 (by decide) (by decide), t2 13 (by decide) (by decide)]
    exact pA_W R
  · intro k hk
    rw [a 51 (by decide) (by decide) (by decide), s (6 + k) (by omega)]
    exact hJ.1.2.2.2.2.2.2.2.2.2 k hk
theorem jT_type {S T : St} {t : Nat} {j : Int} (ht : t < 2) (hL : jT S) (l0 : 0 ≤ S.1 0 ∧ S.1 0 ≤ 32) (l1 : 0 ≤ S.1 1 ∧ S.1 1 ≤ 23) (hj : 0 ≤ j ∧ j ≤ 255) (hn : 0 ≤ S.1 t ∧ S.1 t ≤ 31) (t0 : ∀ q, q < 2 → T.1 q = if q = t then S.1 t + 1 else S.1 q) (t45 : ∀ q, T.2 45 q = if q = t then S.1 t + 1 else S.2 45 q) (t44 : ∀ q, T.2 44 q = if q = 40 * t + (S.1 t).toNat then j else S.2 44 q) (tb : ∀ q i, q < 2 → T.2 (4 + 2 * q) i = if q = t ∧ i = (S.1 t).toNat then sx_b8 (sx_b8 j) else S.2 (4 + 2 * q) i) : jT T := by
  have hq2 : ∀ q, q < 2 → S.1 q ≤ 32 := by
    intro q hq
    rcases (show q = 0 ∨ q = 1 by omega) with rfl | rfl <;> omega
  refine ⟨⟨?_, ?_⟩, fun q i hq hi => ?_⟩
  · rw [t45, t0 0 (by decide)]
    split
    · rfl
    · exact hL.1.1
  · rw [t45, t0 1 (by decide)]
    split
    · rfl
    · exact hL.1.2
  · rw [t0 q hq] at hi
    rw [t44, tb q i hq]
    have h32 := hq2 q hq
    by_cases e : q = t ∧ i = (S.1 t).toNat
    · rw [if_pos (by omega), if_pos e, and_b8I hj]
    · have hi2 : (i : Int) < S.1 q := by
        by_cases c : q = t
        · rw [if_pos c] at hi
          subst c
          omega
        · rw [if_neg c] at hi
          exact hi
      rw [if_neg e, if_neg (by omega)]
      exact hL.2 q i hq hi2
theorem jT_cut {S T : St} {t : Nat} {x : Int} (hL : jT S) (hx : x ≤ S.1 t) (t0 : ∀ q, q < 2 → T.1 q = if q = t then x else S.1 q) (t45 : ∀ q, T.2 45 q = if q = t then x else S.2 45 q) (t44 : T.2 44 = S.2 44) (tb : ∀ q, q < 2 → T.2 (4 + 2 * q) = S.2 (4 + 2 * q)) : jT T := by
  refine ⟨⟨?_, ?_⟩, fun q i hq hi => ?_⟩
  · rw [t45, t0 0 (by decide)]
    split
    · rfl
    · exact hL.1.1
  · rw [t45, t0 1 (by decide)]
    split
    · rfl
    · exact hL.1.2
  · rw [t0 q hq] at hi
    rw [t44, tb q hq]
    have hi2 : (i : Int) < S.1 q := by
      by_cases c : q = t
      · rw [if_pos c] at hi
        subst c
        omega
      · rw [if_neg c] at hi
        exact hi
    exact hL.2 q i hq hi2
theorem J_len {S : St} (hJ : J S) {t : Nat} (ht : t < 2) : (0 ≤ S.1 t ∧ S.1 t ≤ txM t) ∧ S.2 45 t = S.1 t := by
  have l0 := hJ.1.2.2.1
  have l1 := hJ.1.2.2.2.1
  have hL := hJ.1.2.2.2.2.2.2.1
  rcases (show t = 0 ∨ t = 1 by omega) with rfl | rfl
  · exact ⟨l0, hL.1.1⟩
  · exact ⟨l1, hL.1.2⟩
theorem J_type {S : St} {t : Nat} {j : Int} (hJ : J S) (ht : t < 2) (hj : 0 ≤ j ∧ j ≤ 255) (hn : S.1 t < txM t) : J (sa (sa (pA (si (sa S (4 + 2 * t) (S.1 t).toNat (sx_b8 (sx_b8 j))) t (S.1 t + 1))) 44 (40 * t + (S.1 t).toNat) j) 45 t (S.1 t + 1)) := by
  have l0 := hJ.1.2.2.1
  have l1 := hJ.1.2.2.2.1
  have hL := hJ.1.2.2.2.2.2.2.1
  have hl := (J_len hJ ht).1
  have tM := tx_M ht
  have r1 : ∀ k, 6 ≤ k → (si (sa S (4 + 2 * t) (S.1 t).toNat (sx_b8 (sx_b8 j))) t (S.1 t + 1)).1 k = S.1 k := fun k hk => si_ne (by omega)
  have r2 : ∀ k, k ≠ 4 → k ≠ 6 → (si (sa S (4 + 2 * t) (S.1 t).toNat (sx_b8 (sx_b8 j))) t (S.1 t + 1)).2 k = S.2 k := fun k h1 h2 => sa_ne (by omega)
  have rl : ∀ k, (si (sa S (4 + 2 * t) (S.1 t).toNat (sx_b8 (sx_b8 j))) t (S.1 t + 1)).1 k = if k = t then S.1 t + 1 else S.1 k := fun k => rfl
  have rb : ∀ q i, (si (sa S (4 + 2 * t) (S.1 t).toNat (sx_b8 (sx_b8 j))) t (S.1 t + 1)).2 (4 + 2 * q) i = if q = t ∧ i = (S.1 t).toNat then sx_b8 (sx_b8 j) else S.2 (4 + 2 * q) i := by
    intro q i
    show sx_u S.2 (4 + 2 * t) (sx_u (S.2 (4 + 2 * t)) (S.1 t).toNat (sx_b8 (sx_b8 j))) (4 + 2 * q) i = _
    unfold sx_u
    by_cases c : q = t
    · subst c
      rw [if_pos rfl]
      by_cases d : i = (S.1 q).toNat
      · rw [if_pos d, if_pos ⟨rfl, d⟩]
      · rw [if_neg d, if_neg (fun z => d z.2)]
    · rw [if_neg (by omega), if_neg (fun z => c z.1)]
  generalize si (sa S (4 + 2 * t) (S.1 t).toNat (sx_b8 (sx_b8 j))) t (S.1 t + 1) = R at r1 r2 rl rb ⊢
  have e44 : ∀ q, (sa (sa (pA R) 44 (40 * t + (S.1 t).toNat) j) 45 t (S.1 t + 1)).2 44 q = if q = 40 * t + (S.1 t).toNat then j else S.2 44 q := by
    intro q
    rw [← r2 44 (by decide) (by decide), ← pA_a R 44 (by decide)]
    rfl
  have e45 : ∀ q, (sa (sa (pA R) 44 (40 * t + (S.1 t).toNat) j) 45 t (S.1 t + 1)).2 45 q = if q = t then S.1 t + 1 else S.2 45 q := by
    intro q
    rw [← r2 45 (by decide) (by decide), ← pA_a R 45 (by decide)]
    rfl
  refine J_text (R := R) hJ r1 r2 ?_ ?_ (fun k => rfl) (fun k h1 h2 => (sa_ne h2).trans (sa_ne h1)) ?_ (jT_type ht hL l0 l1 hj (by omega) ?_ e45 e44 ?_)
  · rw [rl]
    split <;> omega
  · rw [rl]
    split <;> omega
  · intro i
    rw [e44]
    split
    · exact hj
    · exact hJ.1.2.2.2.2.2.1 i
  · intro q hq
    rw [← rl]
    exact pA_s R q (by omega)
  · intro q i hq
    rw [← rb]
    exact congrFun ((sa_ne (by omega)).trans ((sa_ne (by omega)).trans (pA_a R (4 + 2 * q) (by omega)))) i
theorem J_cut {S : St} {t : Nat} {x : Int} (hJ : J S) (ht : t < 2) (hx : 0 ≤ x ∧ x ≤ S.1 t) : J (sa (pA (si S t x)) 45 t x) := by
  have l0 := hJ.1.2.2.1
  have l1 := hJ.1.2.2.2.1
  have hL := hJ.1.2.2.2.2.2.2.1
  have rl : ∀ k, (si S t x).1 k = if k = t then x else S.1 k := fun k => rfl
  have hq : ∀ q, q < 2 → (si S t x).1 q ≤ S.1 q ∧ 0 ≤ (si S t x).1 q := by
    intro q hq
    rw [rl]
    by_cases c : q = t
    · rw [if_pos c, c]
      omega
    · rw [if_neg c]
      have : 0 ≤ S.1 q := by rcases (show q = 0 ∨ q = 1 by omega) with rfl | rfl <;> omega
      omega
  have q0 := hq 0 (by decide)
  have q1 := hq 1 (by decide)
  refine J_text (R := si S t x) hJ (fun k hk => si_ne (by omega)) (fun k _ _ => rfl) ⟨q0.2, by omega⟩ ⟨q1.2, by omega⟩ (fun k => rfl) (fun k h1 h2 => sa_ne h2) ?_ (jT_cut hL hx.2 ?_ ?_ ?_ ?_)
  · intro i
    rw [sa_ne (by decide), pA_a (si S t x) 44 (by decide)]
    exact hJ.1.2.2.2.2.2.1 i
  · intro q hq
    rw [← rl]
    exact pA_s (si S t x) q (by omega)
  · intro q
    show (if q = t then x else (pA (si S t x)).2 45 q) = _
    rw [pA_a (si S t x) 45 (by decide)]
    rfl
  · rw [sa_ne (by decide), pA_a (si S t x) 44 (by decide)]
    rfl
  · intro q hq
    rw [sa_ne (by omega), pA_a (si S t x) (4 + 2 * q) (by omega)]
    rfl
theorem tw_type {X : sx_X} {S : St} {i j : Int} (hJ : J S) (hi : -2147483648 ≤ i ∧ i ≤ 2147483647) (hj : -2147483648 ≤ j ∧ j ≤ 2147483647) : TwI X yX11_type cX11_type 4 6 yX12_type cX12_type 3 2 [vI i, vI j] S := by
  by_cases hn : i ≠ 0 ∧ i ≠ 1
  · exact ⟨S, S, -2, n_X11_type (J_CI hJ) hi hj hn, n_X12_type hn hi hj, hJ⟩
  · obtain ⟨t, ht, rfl⟩ : ∃ t : Nat, t < 2 ∧ i = (t : Int) := ⟨i.toNat, by omega, by omega⟩
    have hl := J_len hJ ht
    have h1 := c_X11_type (X := X) ht (J_CI hJ) hj
    by_cases c : 0 ≤ j ∧ j ≤ 255 ∧ S.1 t < txM t
    · rw [if_pos (show 0 ≤ j ∧ j ≤ 255 from ⟨c.1, c.2.1⟩), if_neg (show ¬ txM t ≤ S.1 t by omega), if_pos c] at h1
      have k45 : (pA (si (sa S (4 + 2 * t) (S.1 t).toNat (sx_b8 (sx_b8 j))) t (S.1 t + 1))).2 45 t = S.1 t := by
        rw [pA_a _ 45 (by decide), ← hl.2]
        exact congrFun (sa_ne (by omega)) t
      have h2 := c_X12_type (X := X) (S := pA (si (sa S (4 + 2 * t) (S.1 t).toNat (sx_b8 (sx_b8 j))) t (S.1 t + 1))) ht (by rw [k45]; exact hl.1) hj
      rw [k45, if_pos (show 0 ≤ j ∧ j ≤ 255 from ⟨c.1, c.2.1⟩), if_neg (show ¬ txM t ≤ S.1 t by omega), if_pos c] at h2
      exact ⟨_, _, _, h1, h2, J_type hJ ht ⟨c.1, c.2.1⟩ c.2.2⟩
    · rw [if_neg c] at h1
      have h2 := c_X12_type (X := X) (S := S) ht (by rw [hl.2]; exact hl.1) hj
      rw [hl.2, if_neg c] at h2
      exact ⟨_, _, _, h1, h2, hJ⟩
theorem tw_wipe {X : sx_X} {S : St} {i : Int} (hJ : J S) (hi : -2147483648 ≤ i ∧ i ≤ 2147483647) : TwI X yX11_wipe cX11_wipe 4 6 yX12_wipe cX12_wipe 3 2 [vI i] S := by
  by_cases hn : i ≠ 0 ∧ i ≠ 1
  · exact ⟨S, S, -2, n_X11_wipe (J_CI hJ) hi hn, n_X12_wipe hn hi, hJ⟩
  · obtain ⟨t, ht, rfl⟩ : ∃ t : Nat, t < 2 ∧ i = (t : Int) := ⟨i.toNat, by omega, by omega⟩
    have hl := J_len hJ ht
    have h1 := c_X11_wipe (X := X) ht (J_CI hJ)
    rw [show max 0 (S.1 t - S.1 t) = 0 by omega] at h1
    have h2 := c_X12_wipe (X := X) (S := pA (si S t 0)) ht
    have k45 : (pA (si S t 0)).2 45 t = S.1 t := by
      rw [pA_a _ 45 (by decide), ← hl.2]
      rfl
    rw [k45] at h2
    exact ⟨_, _, _, h1, h2, J_cut hJ ht ⟨by omega, hl.1.1⟩⟩
theorem tw_undo {X : sx_X} {S : St} {i : Int} (hJ : J S) (hi : -2147483648 ≤ i ∧ i ≤ 2147483647) : TwI X yX11_undo cX11_undo 3 6 yX12_undo cX12_undo 2 2 [vI i] S := by
  by_cases hn : i ≠ 0 ∧ i ≠ 1
  · exact ⟨S, S, -2, n_X11_undo (J_CI hJ) hi hn, n_X12_undo hn hi, hJ⟩
  · obtain ⟨t, ht, rfl⟩ : ∃ t : Nat, t < 2 ∧ i = (t : Int) := ⟨i.toNat, by omega, by omega⟩
    have hl := J_len hJ ht
    have h1 := c_X11_undo (X := X) ht (J_CI hJ)
    by_cases c : S.1 t = 0
    · rw [if_pos c, if_pos c] at h1
      have h2 := c_X12_undo (X := X) (S := S) ht (by rw [hl.2]; exact hl.1)
      rw [hl.2, if_pos c, if_pos c] at h2
      exact ⟨_, _, _, h1, h2, hJ⟩
    · rw [if_neg c, if_neg c, show max 0 (S.1 t - 1) = S.1 t - 1 by omega] at h1
      have k45 : (pA (si S t (S.1 t - 1))).2 45 t = S.1 t := by
        rw [pA_a _ 45 (by decide), ← hl.2]
        rfl
      have h2 := c_X12_undo (X := X) (S := pA (si S t (S.1 t - 1))) ht (by rw [k45]; exact hl.1)
      rw [k45, if_neg c, if_neg c] at h2
      exact ⟨_, _, _, h1, h2, J_cut hJ ht ⟨by omega, by omega⟩⟩
theorem J_set {S : St} {k : Nat} {j : Int} (hJ : J S) (hk : k < 6) (hj : 0 ≤ j ∧ j ≤ sx_most k) : J (sa (sA (si S (6 + k) j) 16 (paF (cV (si S (6 + k) j)) (S.2 16) 32)) 51 k j) := by
  have hV := okV_set hJ.1.1 hk hj
  have hF := okF_of (si S (6 + k) j)
  have s : ∀ q, q ≠ 6 + k → (sa (sA (si S (6 + k) j) 16 (paF (cV (si S (6 + k) j)) (S.2 16) 32)) 51 k j).1 q = S.1 q := fun q h => si_ne h
  have a : ∀ q, q ≠ 16 → q ≠ 51 → (sa (sA (si S (6 + k) j) 16 (paF (cV (si S (6 + k) j)) (S.2 16) 32)) 51 k j).2 q = S.2 q := fun q h1 h2 => (sa_ne h2).trans (sA_ne h1)
  have e16 : (sa (sA (si S (6 + k) j) 16 (paF (cV (si S (6 + k) j)) (S.2 16) 32)) 51 k j).2 16 = (sA (si S (6 + k) j) 16 (paF (cV (si S (6 + k) j)) ((si S (6 + k) j).2 16) 32)).2 16 := sa_ne (by decide)
  have s6 : ∀ q, (sa (sA (si S (6 + k) j) 16 (paF (cV (si S (6 + k) j)) (S.2 16) 32)) 51 k j).1 q = (si S (6 + k) j).1 q := fun q => rfl
  have e51 : ∀ q, (sa (sA (si S (6 + k) j) 16 (paF (cV (si S (6 + k) j)) (S.2 16) 32)) 51 k j).2 51 q = if q = k then j else S.2 51 q := fun q => rfl
  generalize sa (sA (si S (6 + k) j) 16 (paF (cV (si S (6 + k) j)) (S.2 16) 32)) 51 k j = T at s a e16 s6 e51 ⊢
  have hc : cV T = cV (si S (6 + k) j) := cV_ext (fun q _ => s6 q) (fun q hq => a q (by omega) (by omega))
  obtain ⟨⟨a1, a2, a3, a4, a5, a6, a7, a8, a9, a10⟩, hf, hh, hb⟩ := hJ
  refine ⟨⟨by rw [hc]; exact hV, ?_, ?_, ?_, ?_, ?_, ?_, ?_, ?_, ?_⟩, GF_ext ⟨s 15 (by omega), s 39 (by omega)⟩ ⟨a 27 (by decide) (by decide), a 28 (by decide) (by decide), a 29 (by decide) (by decide), a 54 (by decide) (by decide)⟩ hf, GH_ext (fun q hq => s q (by omega)) (fun q hq => a q (by omega) (by omega)) hh, GB_ext (s 36 (by omega)) ⟨a 20 (by decide) (by decide), a 50 (by decide) (by decide)⟩ hb⟩
  · intro q h hq hh
    rw [hc, e16]
    exact hF q h hq hh
  · rw [s 0 (by omega)]
    exact a3
  · rw [s 1 (by omega)]
    exact a4
  · rw [s 3 (by omega), s 5 (by omega)]
    exact a5
  · rw [a 44 (by decide) (by decide)]
    exact a6
  · refine ⟨?_, fun t i ht hi => ?_⟩
    · rw [a 45 (by decide) (by decide), s 0 (by omega), s 1 (by omega)]
      exact a7.1
    · rw [s t (by omega)] at hi
      rw [a 44 (by decide) (by decide), a (4 + 2 * t) (by omega) (by omega)]
      exact a7.2 t i ht hi
  · unfold jG
    rw [txB_ext (S := S) (s 0 (by omega)) (a 4 (by decide) (by decide)), s 0 (by omega), s 2 (by omega), s 3 (by omega), a 8 (by decide) (by decide), a 9 (by decide) (by decide)]
    exact a8
  · unfold jW
    rw [txB_ext (S := S) (s 1 (by omega)) (a 6 (by decide) (by decide)), s 1 (by omega), s 4 (by omega), s 5 (by omega), a 11 (by decide) (by decide), a 12 (by decide) (by decide), a 13 (by decide) (by decide)]
    exact a9
  · intro q hq
    rw [e51]
    by_cases c : q = k
    · rw [if_pos c, c, s6]
      exact (if_pos rfl).symm
    · rw [if_neg c, s (6 + q) (by omega)]
      exact a10 q hq
theorem tw_set {X : sx_X} {S : St} {i j : Int} (hJ : J S) (hi : -2147483648 ≤ i ∧ i ≤ 2147483647) (hj : -2147483648 ≤ j ∧ j ≤ 2147483647) : TwI X yX11_set cX11_set 4 3 yX12_set cX12_set 4 1 [vI i, vI j] S := by
  by_cases hn : (0 ≤ i ∧ i < 6) ∧ 0 ≤ j ∧ j ≤ sx_most i.toNat
  · obtain ⟨k, hk, rfl⟩ : ∃ k : Nat, k < 6 ∧ i = (k : Int) := ⟨i.toNat, by omega, by omega⟩
    rw [Int.toNat_natCast] at hn
    have h1 := c_X11_set (X := X) hk (J_CI hJ) hn.2
    have h2 := c_X12_set (X := X) (S := sA (si S (6 + k) j) 16 (paF (cV (si S (6 + k) j)) (S.2 16) 32)) hk hn.2
    rw [sA_ne (by decide), show (si S (6 + k) j).2 51 k = S.1 (6 + k) from hJ.1.2.2.2.2.2.2.2.2.2 k hk] at h2
    exact ⟨_, _, _, h1, h2, J_set hJ hk hn.2⟩
  · exact ⟨S, S, -2, n_X11_set (J_CI hJ) hi hj hn, n_X12_set hi hj hn, hJ⟩
/-- the class's tellings (in A) are the reference's (in B) -/
def F2 (A B : St) : Prop := (0 ≤ A.1 15 ∧ A.1 15 ≤ 8) ∧ (∀ i, 0 ≤ A.2 27 i ∧ A.2 27 i ≤ 5) ∧ (∀ i, 0 ≤ A.2 28 i ∧ A.2 28 i ≤ 15) ∧ (∀ i, 0 ≤ A.2 29 i ∧ A.2 29 i ≤ 1) ∧ (∀ i, -2147483648 ≤ B.2 54 i ∧ B.2 54 i ≤ 2147483647) ∧ B.1 39 = A.1 15 ∧ ∀ i : Nat, (i : Int) < A.1 15 → B.2 54 (3 * i) = A.2 27 i ∧ B.2 54 (3 * i + 1) = A.2 28 i ∧ B.2 54 (3 * i + 2) = A.2 29 i
theorem F2_of {A B : St} (h : F2 A B) (h1 : B.1 15 = A.1 15) (h2 : B.2 27 = A.2 27 ∧ B.2 28 = A.2 28 ∧ B.2 29 = A.2 29) : GF B := by
  unfold GF jF
  rw [h1, h2.1, h2.2.1, h2.2.2]
  exact h
theorem F2_to {S B : St} (h : GF S) (h1 : B.1 39 = S.1 39) (h2 : B.2 54 = S.2 54) : F2 S B := by
  unfold F2
  rw [h1, h2]
  exact h
theorem rdB_s (T : St) (a b c : Int) (k : Nat) (h : k ≠ 39) : (rdB T a b c).1 k = T.1 k := si_ne h
theorem F2_step {A B : St} {a b c : Int} (h : F2 A B) (h8 : A.1 15 < 8) (ha : 0 ≤ a ∧ a ≤ 5) (hb : 0 ≤ b ∧ b ≤ 15) (hc : 0 ≤ c ∧ c ≤ 1) : F2 (rdA A a b c) (rdB B a b c) := by
  obtain ⟨f1, f2, f3, f4, f5, f6, f7⟩ := h
  have e27 : ∀ i, (rdA A a b c).2 27 i = if i = (A.1 15).toNat then a else A.2 27 i := fun i => rfl
  have e28 : ∀ i, (rdA A a b c).2 28 i = if i = (A.1 15).toNat then b else A.2 28 i := fun i => rfl
  have e29 : ∀ i, (rdA A a b c).2 29 i = if i = (A.1 15).toNat then c else A.2 29 i := fun i => rfl
  have e54 : ∀ i, (rdB B a b c).2 54 i = if i = 3 * (A.1 15).toNat + 2 then c else if i = 3 * (A.1 15).toNat + 1 then b else if i = 3 * (A.1 15).toNat then a else B.2 54 i := by
    intro i
    rw [← f6]
    rfl
  have e15 : (rdA A a b c).1 15 = A.1 15 + 1 := rfl
  have e39 : (rdB B a b c).1 39 = B.1 39 + 1 := rfl
  refine ⟨by rw [e15]; omega, fun i => ?_, fun i => ?_, fun i => ?_, fun i => ?_, by rw [e39, e15, f6], fun i hi => ?_⟩
  · rw [e27]
    split
    · exact ha
    · exact f2 i
  · rw [e28]
    split
    · exact hb
    · exact f3 i
  · rw [e29]
    split
    · exact hc
    · exact f4 i
  · rw [e54]
    have := f5 i
    (repeat' split) <;> omega
  · rw [e15] at hi
    by_cases d : i = (A.1 15).toNat
    · refine ⟨?_, ?_, ?_⟩
      · rw [e54, e27, if_neg (show ¬ 3 * i = 3 * (A.1 15).toNat + 2 by omega), if_neg (show ¬ 3 * i = 3 * (A.1 15).toNat + 1 by omega), if_pos (show 3 * i = 3 * (A.1 15).toNat by omega), if_pos d]
      · rw [e54, e28, if_neg (show ¬ 3 * i + 1 = 3 * (A.1 15).toNat + 2 by omega), if_pos (show 3 * i + 1 = 3 * (A.1 15).toNat + 1 by omega), if_pos d]
      · rw [e54, e29, if_pos (show 3 * i + 2 = 3 * (A.1 15).toNat + 2 by omega), if_pos d]
    · have z := f7 i (by omega)
      refine ⟨?_, ?_, ?_⟩
      · rw [e54, e27, if_neg (show ¬ 3 * i = 3 * (A.1 15).toNat + 2 by omega), if_neg (show ¬ 3 * i = 3 * (A.1 15).toNat + 1 by omega), if_neg (show ¬ 3 * i = 3 * (A.1 15).toNat by omega), if_neg d]
        exact z.1
      · rw [e54, e28, if_neg (show ¬ 3 * i + 1 = 3 * (A.1 15).toNat + 2 by omega), if_neg (show ¬ 3 * i + 1 = 3 * (A.1 15).toNat + 1 by omega), if_neg (show ¬ 3 * i + 1 = 3 * (A.1 15).toNat by omega), if_neg d]
        exact z.2.1
      · rw [e54, e29, if_neg (show ¬ 3 * i + 2 = 3 * (A.1 15).toNat + 2 by omega), if_neg (show ¬ 3 * i + 2 = 3 * (A.1 15).toNat + 1 by omega), if_neg (show ¬ 3 * i + 2 = 3 * (A.1 15).toNat by omega), if_neg d]
        exact z.2.2
/-- what tellings change -/
def Fc (T S : St) : Prop := (∀ k, k ≠ 15 → k ≠ 39 → T.1 k = S.1 k) ∧ ∀ k, k ≠ 27 → k ≠ 28 → k ≠ 29 → k ≠ 54 → T.2 k = S.2 k
theorem J_F {S T : St} (hJ : J S) (h : Fc T S) (hF : GF T) : J T :=
  ⟨GA_ext (fun k hk => h.1 k (by omega) (by omega)) (fun k hk => h.2 k (by omega) (by omega) (by omega) (by omega)) hJ.1, hF, GH_ext (fun k hk => h.1 k (by omega) (by omega)) (fun k hk => h.2 k (by omega) (by omega) (by omega) (by omega)) hJ.2.2.1, GB_ext (h.1 36 (by decide) (by decide)) ⟨h.2 20 (by decide) (by decide) (by decide) (by decide), h.2 50 (by decide) (by decide) (by decide) (by decide)⟩ hJ.2.2.2⟩
theorem rdF_s (f : Nat → Int) (z : Int) (q : Nat) (h : q ≠ 15) : ∀ (n k : Nat) (T : St), (rdF f z n k T).1.1 q = T.1 q
  | 0, _, _ => rfl
  | n + 1, k, T => by
    rw [rdF]
    split
    · rw [rdF_s f z q h n (k + 1), rdA_s _ _ _ _ q h]
    · rfl
theorem rdF_a (f : Nat → Int) (z : Int) (q : Nat) (h : q ≠ 27 ∧ q ≠ 28 ∧ q ≠ 29) : ∀ (n k : Nat) (T : St), (rdF f z n k T).1.2 q = T.2 q
  | 0, _, _ => rfl
  | n + 1, k, T => by
    rw [rdF]
    split
    · rw [rdF_a f z q h n (k + 1), rdA_a _ _ _ _ q h]
    · rfl
theorem rdG_s (f : Nat → Int) (z : Int) (q : Nat) (h : q ≠ 39) : ∀ (n k : Nat) (T : St), (rdG f z n k T).1.1 q = T.1 q
  | 0, _, _ => rfl
  | n + 1, k, T => by
    rw [rdG]
    split
    · rw [rdG_s f z q h n (k + 1), rdB_s _ _ _ _ q h]
    · rfl
theorem rdG_a (f : Nat → Int) (z : Int) (q : Nat) (h : q ≠ 54) : ∀ (n k : Nat) (T : St), (rdG f z n k T).1.2 q = T.2 q
  | 0, _, _ => rfl
  | n + 1, k, T => by
    rw [rdG]
    split
    · rw [rdG_a f z q h n (k + 1), rdB_a _ _ _ _ q h]
    · rfl
theorem rd_sim {f f' : Nat → Int} {z : Int} (hf : ∀ q : Nat, (q : Int) < z → f' q = f q) : ∀ (n k : Nat) (A B : St), F2 A B → (rdG f' z n k B).2 = (rdF f z n k A).2 ∧ F2 (rdF f z n k A).1 (rdG f' z n k B).1
  | 0, _, _, _, h => ⟨rfl, h⟩
  | n + 1, k, A, B, h => by
    rw [rdG, rdF, h.2.2.2.2.2.1]
    by_cases c : 3 * (k : Int) + 2 < z
    · rw [hf (3 * k) (by omega), hf (3 * k + 1) (by omega), hf (3 * k + 2) (by omega)]
      by_cases d : A.1 15 < 8 ∧ (0 ≤ f (3 * k) ∧ f (3 * k) ≤ 5) ∧ (0 ≤ f (3 * k + 1) ∧ f (3 * k + 1) ≤ 15) ∧ 0 ≤ f (3 * k + 2) ∧ f (3 * k + 2) ≤ 1
      · rw [if_pos ⟨by omega, d⟩, if_pos ⟨c, d⟩]
        exact rd_sim hf n (k + 1) _ _ (F2_step h d.1 d.2.1 d.2.2.1 d.2.2.2)
      · rw [if_neg (fun q => d q.2), if_neg (fun q => d q.2)]
        exact ⟨rfl, h⟩
    · rw [if_neg (fun q => c (by omega)), if_neg (fun q => c q.1)]
      exact ⟨rfl, h⟩
theorem tw_fell {X : sx_X} {S : St} {i j k : Int} (hJ : J S) (hi : -2147483648 ≤ i ∧ i ≤ 2147483647) (hj : -2147483648 ≤ j ∧ j ≤ 2147483647) (hk : -2147483648 ≤ k ∧ k ≤ 2147483647) : TwI X yX11_fell cX11_fell 4 2 yX12_fell cX12_fell 4 2 [vI i, vI j, vI k] S := by
  have h1 := c_X11_fell (X := X) (J_CI hJ) hi hj hk
  have hF := hJ.2.1
  have h39 : S.1 39 = S.1 15 := hF.2.2.2.2.2.1
  by_cases c : ((0 ≤ i ∧ i ≤ 5) ∧ (0 ≤ j ∧ j ≤ 15) ∧ 0 ≤ k ∧ k ≤ 1) ∧ S.1 15 < 8
  · rw [if_pos c.1, if_neg (show ¬ 8 ≤ S.1 15 by omega), if_pos c] at h1
    have k39 : (rdA S i j k).1 39 = S.1 15 := (rdA_s S i j k 39 (by decide)).trans h39
    have h2 := c_X12_fell (X := X) (S := rdA S i j k) (by rw [k39]; exact hF.1) hi hj hk
    rw [k39, if_pos c.1, if_neg (show ¬ 8 ≤ S.1 15 by omega), if_pos c] at h2
    have f2 := F2_step (F2_to (B := rdA S i j k) hF (rdA_s S i j k 39 (by decide)) (rdA_a S i j k 54 (by decide))) c.2 c.1.1 c.1.2.1 c.1.2.2
    refine ⟨_, _, _, h1, h2, J_F hJ ⟨fun q a1 a2 => (rdB_s _ _ _ _ q a2).trans (rdA_s _ _ _ _ q a1), fun q a1 a2 a3 a4 => (rdB_a _ _ _ _ q a4).trans (rdA_a _ _ _ _ q ⟨a1, a2, a3⟩)⟩ (F2_of f2 (rdB_s _ _ _ _ 15 (by decide)) ⟨rdB_a _ _ _ _ 27 (by decide), rdB_a _ _ _ _ 28 (by decide), rdB_a _ _ _ _ 29 (by decide)⟩)⟩
  · rw [if_neg c] at h1
    have h2 := c_X12_fell (X := X) (S := S) (by rw [h39]; exact hF.1) hi hj hk
    rw [h39, if_neg c] at h2
    exact ⟨_, _, _, h1, h2, hJ⟩
theorem tw_forget {X : sx_X} {S : St} (hJ : J S)  : TwI X yX11_forget cX11_forget 2 1 yX12_forget cX12_forget 2 0 [] S := by
  have h1 := c_X11_forget (X := X) (J_CI hJ)
  have h2 := c_X12_forget (X := X) (S := si S 15 0)
  have hF := hJ.2.1
  rw [show (si S 15 0).1 39 = S.1 15 from hF.2.2.2.2.2.1] at h2
  refine ⟨_, _, _, h1, h2, J_F hJ ⟨fun q a1 a2 => (si_ne a2).trans (si_ne a1), fun q _ _ _ _ => rfl⟩ ⟨?_, hF.2.1, hF.2.2.1, hF.2.2.2.1, hF.2.2.2.2.1, rfl, fun i hi => ?_⟩⟩
  · show (0 : Int) ≤ 0 ∧ (0 : Int) ≤ 8
    decide
  · have hi2 : (i : Int) < 0 := hi
    omega
theorem J_find {S : St} (hJ : J S) (x : Int) : J (si (si S 24 x) 30 x) := by
  have hH := hJ.2.2.1
  refine ⟨GA_ext (S := S) (fun k hk => (si_ne (by omega)).trans (si_ne (by omega))) (fun _ _ => rfl) hJ.1, GF_ext (S := S) ⟨rfl, rfl⟩ ⟨rfl, rfl, rfl, rfl⟩ hJ.2.1, ⟨fun s hs => ?_, hH.2.1, fun s hs => ?_, rfl⟩, GB_ext (S := S) rfl ⟨rfl, rfl⟩ hJ.2.2.2⟩
  · rw [si_ne (by omega), si_ne (by omega), si_ne (by omega), si_ne (by omega)]
    exact hH.1 s hs
  · rw [si_ne (by omega), si_ne (by omega), si_ne (by omega), si_ne (by omega)]
    exact hH.2.2.1 s hs
theorem tw_read {X : sx_X} {S : St} {i : Int} (hJ : J S) (hi : -2147483648 ≤ i ∧ i ≤ 2147483647) : TwI X yX11_read cX11_read 5 2 yX12_read cX12_read 5 3 [vI i] S := by
  by_cases hn : i < 0 ∨ 4 ≤ i
  · exact ⟨S, S, -2, n_X11_read (J_CI hJ) hi hn, n_X12_read hn hi, hJ⟩
  · obtain ⟨s, hs, rfl⟩ : ∃ s : Nat, s < 4 ∧ i = (s : Int) := ⟨i.toNat, by omega, by omega⟩
    have h1 := c_X11_read (X := X) hs (J_CI hJ)
    have hH := hJ.2.2.1
    have hL := hH.2.2.1 s hs
    have hb := hH.1 s hs
    have hF := hJ.2.1
    have h39 : S.1 39 = S.1 15 := hF.2.2.2.2.2.1
    by_cases c : S.1 (16 + 2 * s) = -1
    · rw [if_pos c, if_pos c] at h1
      have h2 := c_X12_read (X := X) (S := si S 24 1) hs (show okSh (si S 24 1) from hH.2.1) (by rw [si_ne (by decide), h39]; exact hF.1)
      rw [show (si S 24 1).2 40 s = -1 from hL.1.trans c, if_pos (by decide), if_pos (by decide)] at h2
      exact ⟨_, _, _, h1, h2, J_find hJ 1⟩
    · rw [if_neg c, if_neg c] at h1
      have hz := hL.2 c
      generalize hA : rdF (S.2 (32 + 2 * s)) (S.1 (17 + 2 * s)) 20 0 S = A at h1
      have aS : ∀ q, q ≠ 15 → A.1.1 q = S.1 q := fun q h => by rw [← hA]; exact rdF_s _ _ q h 20 0 S
      have aA : ∀ q, q ≠ 27 ∧ q ≠ 28 ∧ q ≠ 29 → A.1.2 q = S.2 q := fun q h => by rw [← hA]; exact rdF_a _ _ q h 20 0 S
      have f0 : F2 S A.1 := F2_to hF (aS 39 (by decide)) (aA 54 (by decide))
      have sim := rd_sim (f := S.2 (32 + 2 * s)) (f' := fun q => A.1.2 42 (60 * s + q)) (z := S.1 (17 + 2 * s)) (fun q hq => by
        rw [aA 42 (by decide)]
        exact hz.2 q hq) 20 0 S A.1 f0
      rw [hA] at sim
      have h2 := c_X12_read (X := X) (S := A.1) hs (by unfold okSh; rw [aA 40 (by decide), aA 41 (by decide), aA 42 (by decide)]; exact hH.2.1) (by rw [aS 39 (by decide), h39]; exact hF.1)
      have k40 : ¬ A.1.2 40 s < 0 := by
        rw [aA 40 (by decide), hL.1]
        omega
      have k41 : A.1.2 41 s = S.1 (17 + 2 * s) := by
        rw [aA 41 (by decide)]
        exact hz.1
      rw [if_neg k40, if_neg k40, k41, sim.1] at h2
      have gS : ∀ q, q ≠ 39 → (rdG (fun q => A.1.2 42 (60 * s + q)) (S.1 (17 + 2 * s)) 20 0 A.1).1.1 q = A.1.1 q := fun q h => rdG_s _ _ q h 20 0 A.1
      have gA : ∀ q, q ≠ 54 → (rdG (fun q => A.1.2 42 (60 * s + q)) (S.1 (17 + 2 * s)) 20 0 A.1).1.2 q = A.1.2 q := fun q h => rdG_a _ _ q h 20 0 A.1
      exact ⟨_, _, _, h1, h2, J_F hJ ⟨fun q a1 a2 => (gS q a2).trans (aS q a1), fun q a1 a2 a3 a4 => (gA q a4).trans (aA q ⟨a1, a2, a3⟩)⟩ (F2_of sim.2 (gS 15 (by decide)) ⟨gA 27 (by decide), gA 28 (by decide), gA 29 (by decide)⟩)⟩
