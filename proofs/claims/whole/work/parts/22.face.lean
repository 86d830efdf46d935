theorem gIt_v (B : Int → Int) (n : Int) (K L : Nat → Int) : ∀ k i : Nat, (i : Int) < (gIt B n K L k).2.1 → (0 ≤ (gIt B n K L k).2.2.2.1 i ∧ (gIt B n K L k).2.2.2.1 i ≤ 3) ∧ 0 ≤ (gIt B n K L k).2.2.2.2 i ∧ (gIt B n K L k).2.2.2.2 i ≤ 9
  | 0, i, h => by
    simp only [gIt] at h
    omega
  | k + 1, i, h => by
    have hb := (gIt_b B n K L k).2.1
    have ih := gIt_v B n K L k i
    have k1 := kdOf_b (B (gIt B n K L k).1)
    have f1 := figZ_b (B ((gIt B n K L k).1 + 1))
    rw [gIt] at h ⊢
    revert h
    unfold gStep
    split
    · split
      · intro h
        exact ih h
      · split
        · intro h
          simp only [sx_u] at h ⊢
          split
          · omega
          · exact ih (by omega)
        · split
          · intro h
            exact ih h
          · intro h
            simp only [sx_u] at h ⊢
            split
            · omega
            · exact ih (by omega)
    · intro h
      exact ih h
theorem wF_ok (B : Int → Int) (n : Int) (hn : 0 ≤ n) : ∀ k i : Nat, i + k = n.toNat → wF B n k i = -1 → (n = 0 ∨ n % 4 = 3) ∧ ∀ j : Nat, i ≤ j → (j : Int) < n → fitZ B j = 1
  | 0, i, h, hw => by
    unfold wF at hw
    split at hw
    · exact ⟨by assumption, fun j h1 h2 => by omega⟩
    · omega
  | k + 1, i, h, hw => by
    unfold wF at hw
    split at hw
    · omega
    · rename_i h9
      have ih := wF_ok B n hn k (i + 1) (by omega) hw
      refine ⟨ih.1, fun j h1 h2 => ?_⟩
      by_cases e : j = i
      · subst e
        rcases fitZ_b B j with q | q
        · exact absurd q h9
        · exact q
      · exact ih.2 j (by omega) h2
/-- the texts read anew -/
def pG (S : St) : St := gS S (gEnd (gIt (txB S 0) (S.1 0) (S.2 8) (S.2 9) 32))
def pP (S : St) : St := if wF (txB S 1) (S.1 1) (S.1 1).toNat 0 = -1 then wS S (txB S 1) (-1) (((S.1 1).toNat + 3) / 4) else si (si S 4 0) 5 (wF (txB S 1) (S.1 1) (S.1 1).toNat 0)
def pA (S : St) : St := sA (pP (pG S)) 16 (paF (cV (pP (pG S))) ((pP (pG S)).2 16) 32)
theorem gEnd_b (g : G5) : (gEnd g).2.1 = (if g.2.2.1 = -1 then g.2.1 else 0) ∧ (gEnd g).2.2 = g.2.2 := by
  unfold gEnd
  split
  · exact ⟨rfl, rfl⟩
  · exact ⟨rfl, rfl⟩
/-- what the gully's text leaves -/
theorem pG_b (S : St) : (0 ≤ (pG S).1 2 ∧ (pG S).1 2 ≤ 16) ∧ (∀ q, 0 ≤ gK (pG S) q ∧ gK (pG S) q ≤ 3) ∧ (∀ q, 0 ≤ gL (pG S) q ∧ gL (pG S) q ≤ 9) ∧ -1 ≤ (pG S).1 3 ∧ (pG S).1 3 ≤ 64 := by
  have h1 := gIt_b (txB S 0) (S.1 0) (S.2 8) (S.2 9) 32
  have h2 := gIt_v (txB S 0) (S.1 0) (S.2 8) (S.2 9) 32
  have h3 := gEnd_b (gIt (txB S 0) (S.1 0) (S.2 8) (S.2 9) 32)
  have e2 : (pG S).1 2 = (gEnd (gIt (txB S 0) (S.1 0) (S.2 8) (S.2 9) 32)).2.1 := rfl
  have e3 : (pG S).1 3 = (gEnd (gIt (txB S 0) (S.1 0) (S.2 8) (S.2 9) 32)).2.2.1 := rfl
  have e8 : (pG S).2 8 = (gEnd (gIt (txB S 0) (S.1 0) (S.2 8) (S.2 9) 32)).2.2.2.1 := rfl
  have e9 : (pG S).2 9 = (gEnd (gIt (txB S 0) (S.1 0) (S.2 8) (S.2 9) 32)).2.2.2.2 := rfl
  rw [h3.1] at e2
  rw [h3.2] at e3 e8 e9
  refine ⟨?_, fun q => ?_, fun q => ?_, ?_⟩
  · rw [e2]
    split <;> omega
  · unfold gK
    split
    · rename_i hq
      rw [e2] at hq
      have h4 := h2 q.toNat (by split at hq <;> omega)
      rw [e8]
      exact h4.1
    · omega
  · unfold gL
    split
    · rename_i hq
      rw [e2] at hq
      have h4 := h2 q.toNat (by split at hq <;> omega)
      rw [e9]
      exact h4.2
    · omega
  · rw [e3]
    omega
theorem pP_b (S : St) (hl : 0 ≤ S.1 1 ∧ S.1 1 ≤ 23) : (0 ≤ (pP S).1 4 ∧ (pP S).1 4 ≤ 6) ∧ (∀ q, 0 ≤ pW (pP S) q ∧ pW (pP S) q ≤ 9) ∧ (∀ q, 0 ≤ pS (pP S) q ∧ pS (pP S) q ≤ 9) ∧ (∀ q, 0 ≤ pH (pP S) q ∧ pH (pP S) q ≤ 1) ∧ -1 ≤ (pP S).1 5 ∧ (pP S).1 5 ≤ 64 := by
  have hb := wF_b (txB S 1) (S.1 1) hl (S.1 1).toNat 0 (Nat.zero_add _)
  unfold pP
  split
  · rename_i hw
    have ho := wF_ok (txB S 1) (S.1 1) hl.1 (S.1 1).toNat 0 (Nat.zero_add _) hw
    have e4 : ∀ j, (wS S (txB S 1) (-1) j).1 4 = j := fun _ => rfl
    have e11 : ∀ j, (wS S (txB S 1) (-1) j).2 11 = wU (S.2 11) (wG1 (txB S 1)) j := fun _ => rfl
    have e12 : ∀ j, (wS S (txB S 1) (-1) j).2 12 = wU (S.2 12) (wG2 (txB S 1)) j := fun _ => rfl
    have e13 : ∀ j, (wS S (txB S 1) (-1) j).2 13 = wU (S.2 13) (wG3 (txB S 1)) j := fun _ => rfl
    refine ⟨?_, fun q => ?_, fun q => ?_, fun q => ?_, ?_⟩
    · rw [e4]
      omega
    · unfold pW
      split
      · rename_i hq
        rw [e4] at hq
        have f1 := ho.2 (4 * q.toNat) (by omega) (by omega)
        have f2 := figZ_b (txB S 1 (4 * (q.toNat : Int)))
        have f3 : ((4 * q.toNat : Nat) : Int) = 4 * (q.toNat : Int) := by omega
        rw [f3] at f1
        rw [e11]
        unfold wU
        rw [if_pos (by omega)]
        unfold wG1
        unfold fitZ at f1
        rw [if_pos (by omega)] at f1
        split at f1 <;> omega
      · omega
    · unfold pS
      split
      · rename_i hq
        rw [e4] at hq
        have f1 := ho.2 (4 * q.toNat + 1) (by omega) (by omega)
        have f2 := figZ_b (txB S 1 (4 * (q.toNat : Int) + 1))
        have f3 : ((4 * q.toNat + 1 : Nat) : Int) = 4 * (q.toNat : Int) + 1 := by omega
        rw [f3] at f1
        rw [e12]
        unfold wU
        rw [if_pos (by omega)]
        unfold wG2
        unfold fitZ at f1
        rw [if_neg (by omega), if_pos (by omega)] at f1
        split at f1 <;> omega
      · omega
    · unfold pH
      split
      · rename_i hq
        rw [e4] at hq
        rw [e13]
        unfold wU
        rw [if_pos (by omega)]
        unfold wG3
        split <;> omega
      · omega
    · show -1 ≤ (-1 : Int) ∧ (-1 : Int) ≤ 64
      omega
  · refine ⟨?_, fun q => ?_, fun q => ?_, fun q => ?_, ?_⟩
    · show 0 ≤ (0 : Int) ∧ (0 : Int) ≤ 6
      omega
    · unfold pW
      rw [show (si (si S 4 0) 5 (wF (txB S 1) (S.1 1) (S.1 1).toNat 0)).1 4 = 0 from rfl]
      split <;> omega
    · unfold pS
      rw [show (si (si S 4 0) 5 (wF (txB S 1) (S.1 1) (S.1 1).toNat 0)).1 4 = 0 from rfl]
      split <;> omega
    · unfold pH
      rw [show (si (si S 4 0) 5 (wF (txB S 1) (S.1 1) (S.1 1).toNat 0)).1 4 = 0 from rfl]
      split <;> omega
    · show -1 ≤ wF (txB S 1) (S.1 1) (S.1 1).toNat 0 ∧ wF (txB S 1) (S.1 1) (S.1 1).toNat 0 ≤ 64
      omega
theorem pP_s (S : St) (k : Nat) (h : k ≠ 4 ∧ k ≠ 5) : (pP S).1 k = S.1 k := by
  unfold pP
  split
  · simp [wS, si, sA, sx_u, h.1, h.2]
  · simp [si, sx_u, h.1, h.2]
theorem pP_a (S : St) (k : Nat) (h : k ≠ 11 ∧ k ≠ 12 ∧ k ≠ 13) : (pP S).2 k = S.2 k := by
  unfold pP
  split
  · simp [wS, si, sA, sx_u, h.1, h.2.1, h.2.2]
  · simp [si]
theorem pG_s (S : St) (k : Nat) (h : k ≠ 2 ∧ k ≠ 3) : (pG S).1 k = S.1 k := by
  simp [pG, gS, si, sA, sx_u, h.1, h.2]
theorem pG_a (S : St) (k : Nat) (h : k ≠ 8 ∧ k ≠ 9) : (pG S).2 k = S.2 k := by
  simp [pG, gS, si, sA, sx_u, h.1, h.2]
theorem pA_s (S : St) (k : Nat) (h : k ≠ 2 ∧ k ≠ 3 ∧ k ≠ 4 ∧ k ≠ 5) : (pA S).1 k = S.1 k := (pP_s (pG S) k ⟨h.2.2.1, h.2.2.2⟩).trans (pG_s S k ⟨h.1, h.2.1⟩)
theorem pA_a (S : St) (k : Nat) (h : k ≠ 8 ∧ k ≠ 9 ∧ k ≠ 11 ∧ k ≠ 12 ∧ k ≠ 13 ∧ k ≠ 16) : (pA S).2 k = S.2 k := by
  have e : (pA S).2 k = (pP (pG S)).2 k := by simp [pA, sA, sx_u, h.2.2.2.2.2]
  rw [e, pP_a _ k ⟨h.2.2.1, h.2.2.2.1, h.2.2.2.2.1⟩, pG_a _ k ⟨h.1, h.2.1⟩]
/-- the settings are in order -/
def okT (S : St) : Prop := (0 ≤ S.1 6 ∧ S.1 6 ≤ 99) ∧ (0 ≤ S.1 7 ∧ S.1 7 ≤ 1) ∧ (0 ≤ S.1 8 ∧ S.1 8 ≤ 16) ∧ (0 ≤ S.1 9 ∧ S.1 9 ≤ 999) ∧ (0 ≤ S.1 10 ∧ S.1 10 ≤ 1999) ∧ 0 ≤ S.1 11 ∧ S.1 11 ≤ 16
theorem okT_of {S : St} (h : okV (cV S)) : okT S := ⟨h.2.2.1, h.2.2.2.1, h.2.2.2.2.1, h.2.2.2.2.2.1, h.2.2.2.2.2.2.1, h.2.2.2.2.2.2.2.1⟩
theorem pA_k {S : St} {q : Int} : gK (pA S) q = gK (pG S) q ∧ gL (pA S) q = gL (pG S) q := by
  have e2 : (pA S).1 2 = (pG S).1 2 := pP_s (pG S) 2 (by decide)
  have e8 : (pA S).2 8 = (pG S).2 8 := pP_a (pG S) 8 (by decide)
  have e9 : (pA S).2 9 = (pG S).2 9 := pP_a (pG S) 9 (by decide)
  unfold gK gL
  rw [e2, e8, e9]
  exact ⟨rfl, rfl⟩
theorem pP_ok {S : St} (hT : okT S) (hl : 0 ≤ S.1 1 ∧ S.1 1 ≤ 23) : okV (cV (pP (pG S))) := by
  have g := pG_b S
  have e1 : (pG S).1 1 = S.1 1 := rfl
  have p := pP_b (pG S) (by rw [e1]; exact hl)
  have es : ∀ k, 6 ≤ k → (pP (pG S)).1 k = S.1 k := fun k hk => (pP_s (pG S) k (by omega)).trans (pG_s S k (by omega))
  have e2 : (pP (pG S)).1 2 = (pG S).1 2 := pP_s (pG S) 2 (by decide)
  refine ⟨?_, p.1, ?_, ?_, ?_, ?_, ?_, ?_, fun q => ?_, fun q => ?_, p.2.1, p.2.2.1, p.2.2.2.1⟩
  · show 0 ≤ (pP (pG S)).1 2 ∧ (pP (pG S)).1 2 ≤ 16
    rw [e2]
    exact g.1
  · show 0 ≤ (pP (pG S)).1 6 ∧ (pP (pG S)).1 6 ≤ 99
    rw [es 6 (by decide)]
    exact hT.1
  · show 0 ≤ (pP (pG S)).1 7 ∧ (pP (pG S)).1 7 ≤ 1
    rw [es 7 (by decide)]
    exact hT.2.1
  · show 0 ≤ (pP (pG S)).1 8 ∧ (pP (pG S)).1 8 ≤ 16
    rw [es 8 (by decide)]
    exact hT.2.2.1
  · show 0 ≤ (pP (pG S)).1 9 ∧ (pP (pG S)).1 9 ≤ 999
    rw [es 9 (by decide)]
    exact hT.2.2.2.1
  · show 0 ≤ (pP (pG S)).1 10 ∧ (pP (pG S)).1 10 ≤ 1999
    rw [es 10 (by decide)]
    exact hT.2.2.2.2.1
  · show 0 ≤ (pP (pG S)).1 11 ∧ (pP (pG S)).1 11 ≤ 16
    rw [es 11 (by decide)]
    exact hT.2.2.2.2.2
  · have := g.2.1 q
    rw [← (pA_k (S := S) (q := q)).1] at this
    exact this
  · have := g.2.2.1 q
    rw [← (pA_k (S := S) (q := q)).2] at this
    exact this
theorem pA_ok {S : St} (hT : okT S) (hl : 0 ≤ S.1 1 ∧ S.1 1 ≤ 23) : okV (cV (pA S)) := pP_ok hT hl
theorem pA_F (S : St) : okF (pA S) := okF_of (pP (pG S))
/-- the best gap so far: which, how much -/
def mGb (V : Vw) : Nat → Int × Int
  | 0 => (0, mAll V 0)
  | g + 1 => if mAll V ((g : Int) + 1) < (mGb V g).2 then ((g : Int) + 1, mAll V ((g : Int) + 1)) else mGb V g
theorem mGb_b {V : Vw} (hV : okV V) : ∀ g : Nat, (0 ≤ (mGb V g).2 ∧ (mGb V g).2 ≤ 1200000) ∧ 0 ≤ (mGb V g).1 ∧ (mGb V g).1 ≤ g
  | 0 => by
    have h := mAll_b hV 0
    simp only [mGb]
    omega
  | g + 1 => by
    have h1 := mGb_b hV g
    have h2 := mAll_b hV ((g : Int) + 1)
    rw [mGb]
    split
    · show (0 ≤ mAll V ((g : Int) + 1) ∧ _) ∧ 0 ≤ (g : Int) + 1 ∧ _
      omega
    · omega
set_option maxRecDepth 20000 in
theorem c_X11_parseAnew {X : sx_X} {S : St} (l0 : 0 ≤ S.1 0 ∧ S.1 0 ≤ 32) (l1 : 0 ≤ S.1 1 ∧ S.1 1 ≤ 23) (hT : okT S) : Ct X yX11_parseAnew cX11_parseAnew 1 none 5 0 0 [.ref 2] (hp S) (sx_is none (hp (pA S))) := by
  refine Ct.of false [some (.ref 2)] (plainFor_of_name (by decide)) (fun h => by cases h) (Nat.le_of_ble_eq_true rfl) (fun _ => rfl) sx_isl ?_
  refine sx_aload_n (p1 := 1) dX11_parseAnew_0 rfl rfl ?_
  refine sx_get (p1 := 4) dX11_parseAnew_1 rfl fl_X11_24 (hp_c2 _) rfl ?_
  refine sx_aload_n (p1 := 5) dX11_parseAnew_4 rfl rfl ?_
  refine sx_get (p1 := 8) dX11_parseAnew_5 rfl fl_X11_14 (hp_c2 _) rfl ?_
  refine sx_callVn (p1 := 11) (As := [_]) (k1 := 0) (n1 := 0) dX11_parseAnew_8 rfl rfl (c_X0_parse l0) mt_X0_parse ml_X11_383 (hp_c7 _) rfl rfl (Nat.le_of_ble_eq_true rfl) rfl (Nat.le_of_ble_eq_true rfl) rfl rfl (Nat.le_of_ble_eq_true rfl) (Nat.le_of_ble_eq_true rfl) ?_
  refine sx_aload_n (p1 := 12) dX11_parseAnew_11 rfl rfl ?_
  refine sx_get (p1 := 15) dX11_parseAnew_12 rfl fl_X11_31 (hp_c2 _) rfl ?_
  refine sx_aload_n (p1 := 16) dX11_parseAnew_15 rfl rfl ?_
  refine sx_get (p1 := 19) dX11_parseAnew_16 rfl fl_X11_18 (hp_c2 _) rfl ?_
  rw [show gS S (gEnd (gIt (txB S 0) (S.1 0) (S.2 8) (S.2 9) 32)) = pG S from rfl]
  refine sx_callVn (p1 := 22) (As := [_]) (k1 := 0) (n1 := 0) dX11_parseAnew_19 rfl rfl (c_X5_parse (S := pG S) l1) mt_X5_parse ml_X11_387 (hp_c10 _) rfl rfl (Nat.le_of_ble_eq_true rfl) rfl (Nat.le_of_ble_eq_true rfl) rfl rfl (Nat.le_of_ble_eq_true rfl) (Nat.le_of_ble_eq_true rfl) ?_
  refine sx_aload_n (p1 := 23) dX11_parseAnew_22 rfl rfl ?_
  refine sx_get (p1 := 26) dX11_parseAnew_23 rfl fl_X11_47 (hp_c2 _) rfl ?_
  refine sx_callVn (p1 := 29) (As := []) (k1 := 0) (n1 := 0) dX11_parseAnew_26 rfl rfl (c_X8_prepareSun (S := pP (pG S)) (pP_ok hT l1)) mt_X8_prepareSun ml_X11_155 (hp_c15 _) rfl rfl (Nat.le_of_ble_eq_true rfl) rfl (Nat.le_of_ble_eq_true rfl) rfl rfl (Nat.le_of_ble_eq_true rfl) (Nat.le_of_ble_eq_true rfl) ?_
  exact sx_vret dX11_parseAnew_29 rfl (sx_rv (by rfl))
set_option maxRecDepth 20000 in
theorem c_X11_found {X : sx_X} {S : St} {i : Int}  : Ct X yX11_found cX11_found 2 (some .int) 0 0 0 [.ref 2, vI i] (hp S) (sx_is (some (vI (-10 - i))) (hp (si S 24 i))) := by
  refine Ct.of false [some (.ref 2), some (vI i)] (plainFor_of_name (by decide)) (fun h => by cases h) (Nat.le_of_ble_eq_true rfl) (fun _ => rfl) sx_isl ?_
  refine sx_aload_n (p1 := 1) dX11_found_0 rfl rfl ?_
  refine sx_iload_n (p1 := 2) dX11_found_1 rfl rfl ?_
  refine sx_put (p1 := 5) dX11_found_2 rfl fl_X11_307 (hp_c2 _) (Nat.le_of_ble_eq_true rfl) (fun _ => rfl) (fun _ => rfl) (hp_s24 _ _) ?_
  refine sx_bipush (p1 := 7) dX11_found_5 rfl (by decide) ?_
  refine sx_iload_n (p1 := 8) dX11_found_7 rfl rfl ?_
  refine sx_isub (p1 := 9) dX11_found_8 rfl ?_
  exact sx_iret dX11_found_9 rfl (sx_ri (by first | rfl | omega) (by rfl))
set_option maxRecDepth 20000 in
theorem c_X11_textAt {X : sx_X} {S : St} {t : Nat} (ht : t < 2) : Ct X yX11_textAt cX11_textAt 2 (some (.object "StonesAbove$Text")) 0 0 0 [.ref 2, vI (t : Int)] (hp S) (sx_is (some (.ref (3 + 2 * t))) (hp S)) := by
  rcases (show t = 0 ∨ t = 1 by omega) with rfl | rfl
  · refine Ct.of false [some (.ref 2), some (vI ((0 : Nat) : Int))] (plainFor_of_name (by decide)) (fun h => by cases h) (Nat.le_of_ble_eq_true rfl) (fun _ => rfl) sx_isl ?_
    refine sx_iload_n (p1 := 1) dX11_textAt_0 rfl rfl ?_
    refine sx_if_ne (p1 := 4) (tg := 9) dX11_textAt_1 rfl rfl (by omega) (fun q1 => absurd q1 (by omega)) (fun q1 => ?_)
    refine sx_aload_n (p1 := 5) dX11_textAt_4 rfl rfl ?_
    refine sx_get (p1 := 8) dX11_textAt_5 rfl fl_X11_14 (hp_c2 _) rfl ?_
    exact sx_aret dX11_textAt_8 rfl ⟨rfl, rfl⟩
  · refine Ct.of false [some (.ref 2), some (vI ((1 : Nat) : Int))] (plainFor_of_name (by decide)) (fun h => by cases h) (Nat.le_of_ble_eq_true rfl) (fun _ => rfl) sx_isl ?_
    refine sx_iload_n (p1 := 1) dX11_textAt_0 rfl rfl ?_
    refine sx_if_ne (p1 := 4) (tg := 9) dX11_textAt_1 rfl rfl (by omega) (fun q1 => ?_) (fun q1 => absurd q1 (by omega))
    refine sx_iload_n (p1 := 10) dX11_textAt_9 rfl rfl ?_
    refine sx_iconst (p1 := 11) dX11_textAt_10 rfl ?_
    refine sx_icmp_ne (p1 := 14) (tg := 21) dX11_textAt_11 rfl rfl (by omega) (by omega) (fun q11 => absurd q11 (by omega)) (fun q11 => ?_)
    refine sx_aload_n (p1 := 15) dX11_textAt_14 rfl rfl ?_
    refine sx_get (p1 := 18) dX11_textAt_15 rfl fl_X11_18 (hp_c2 _) rfl ?_
    refine sx_goto (p1 := 22) (tg := 22) dX11_textAt_18 rfl rfl ?_
    exact sx_aret dX11_textAt_22 rfl ⟨rfl, rfl⟩
set_option maxRecDepth 20000 in
theorem c_X11_textAtN {X : sx_X} {S : St} {i : Int} (hi : -2147483648 ≤ i ∧ i ≤ 2147483647) (hn : i ≠ 0 ∧ i ≠ 1) : Ct X yX11_textAt cX11_textAt 2 (some (.object "StonesAbove$Text")) 0 0 0 [.ref 2, vI i] (hp S) (sx_is (some .null) (hp S)) := by
  refine Ct.of false [some (.ref 2), some (vI i)] (plainFor_of_name (by decide)) (fun h => by cases h) (Nat.le_of_ble_eq_true rfl) (fun _ => rfl) sx_isl ?_
  refine sx_iload_n (p1 := 1) dX11_textAt_0 rfl rfl ?_
  refine sx_if_ne (p1 := 4) (tg := 9) dX11_textAt_1 rfl rfl (by omega) (fun q1 => ?_) (fun q1 => absurd q1 (by omega))
  refine sx_iload_n (p1 := 10) dX11_textAt_9 rfl rfl ?_
  refine sx_iconst (p1 := 11) dX11_textAt_10 rfl ?_
  refine sx_icmp_ne (p1 := 14) (tg := 21) dX11_textAt_11 rfl rfl (by omega) (by omega) (fun q11 => ?_) (fun q11 => absurd q11 (by omega))
  refine sx_null (p1 := 22) dX11_textAt_21 rfl ?_
  exact sx_aretN dX11_textAt_22 rfl ⟨rfl, rfl⟩
set_option maxRecDepth 20000 in
theorem c_X11_sheetAt {X : sx_X} {S : St} {s : Nat} (hs : s < 4) : Ct X yX11_sheetAt cX11_sheetAt 2 (some (.object "StonesAbove$Sheet")) 0 0 0 [.ref 2, vI (s : Int)] (hp S) (sx_is (some (.ref (31 + 2 * s))) (hp S)) := by
  refine Ct.of false [some (.ref 2), some (vI (s : Int))] (plainFor_of_name (by decide)) (fun h => by cases h) (Nat.le_of_ble_eq_true rfl) (fun _ => rfl) sx_isl ?_
  refine sx_iload_n (p1 := 1) dX11_sheetAt_0 rfl rfl ?_
  refine sx_if_lt (p1 := 4) (tg := 22) dX11_sheetAt_1 rfl rfl (by omega) (fun q1 => absurd q1 (by omega)) (fun q1 => ?_)
  refine sx_iload_n (p1 := 5) dX11_sheetAt_4 rfl rfl ?_
  refine sx_aload_n (p1 := 6) dX11_sheetAt_5 rfl rfl ?_
  refine sx_get (p1 := 9) dX11_sheetAt_6 rfl fl_X11_92 (hp_c2 _) rfl ?_
  refine sx_alen (p1 := 10) dX11_sheetAt_9 rfl (hp_c30 _) (fun _ => rfl) ?_
  refine sx_icmp_ge (p1 := 13) (tg := 22) dX11_sheetAt_10 rfl rfl (by omega) (by omega) (fun q10 => absurd q10 (by omega)) (fun q10 => ?_)
  refine sx_aload_n (p1 := 14) dX11_sheetAt_13 rfl rfl ?_
  refine sx_get (p1 := 17) dX11_sheetAt_14 rfl fl_X11_92 (hp_c2 _) rfl ?_
  refine sx_iload_n (p1 := 18) dX11_sheetAt_17 rfl rfl ?_
  refine sx_aald (p1 := 19) dX11_sheetAt_18 rfl (hp_c30 _) (by omega) (by decide) (by rw [Int.toNat_natCast]; exact shF_s hs) ?_
  refine sx_goto (p1 := 23) (tg := 23) dX11_sheetAt_19 rfl rfl ?_
  exact sx_aret dX11_sheetAt_23 rfl ⟨rfl, rfl⟩
set_option maxRecDepth 20000 in
theorem c_X11_sheetAtN {X : sx_X} {S : St} {i : Int} (hi : -2147483648 ≤ i ∧ i ≤ 2147483647) (hn : i < 0 ∨ 4 ≤ i) : Ct X yX11_sheetAt cX11_sheetAt 2 (some (.object "StonesAbove$Sheet")) 0 0 0 [.ref 2, vI i] (hp S) (sx_is (some .null) (hp S)) := by
  refine Ct.of false [some (.ref 2), some (vI i)] (plainFor_of_name (by decide)) (fun h => by cases h) (Nat.le_of_ble_eq_true rfl) (fun _ => rfl) sx_isl ?_
  refine sx_iload_n (p1 := 1) dX11_sheetAt_0 rfl rfl ?_
  refine sx_if_lt (p1 := 4) (tg := 22) dX11_sheetAt_1 rfl rfl (by omega) (fun q1 => ?_) (fun q1 => ?_)
  · refine sx_null (p1 := 23) dX11_sheetAt_22 rfl ?_
    exact sx_aretN dX11_sheetAt_23 rfl ⟨rfl, rfl⟩
  · refine sx_iload_n (p1 := 5) dX11_sheetAt_4 rfl rfl ?_
    refine sx_aload_n (p1 := 6) dX11_sheetAt_5 rfl rfl ?_
    refine sx_get (p1 := 9) dX11_sheetAt_6 rfl fl_X11_92 (hp_c2 _) rfl ?_
    refine sx_alen (p1 := 10) dX11_sheetAt_9 rfl (hp_c30 _) (fun _ => rfl) ?_
    refine sx_icmp_ge (p1 := 13) (tg := 22) dX11_sheetAt_10 rfl rfl (by omega) (by omega) (fun q10 => ?_) (fun q10 => absurd q10 (by omega))
    refine sx_null (p1 := 23) dX11_sheetAt_22 rfl ?_
    exact sx_aretN dX11_sheetAt_23 rfl ⟨rfl, rfl⟩
set_option maxRecDepth 20000 in
theorem n_X11_type {X : sx_X} {S : St} {i j : Int} (hC : CI S) (hi : -2147483648 ≤ i ∧ i ≤ 2147483647) (hj : -2147483648 ≤ j ∧ j ≤ 2147483647) (hn : i ≠ 0 ∧ i ≠ 1) : Ct X yX11_type cX11_type 4 (some .int) 6 0 0 [.ref 2, vI i, vI j] (hp S) (sx_is (some (vI (-2))) (hp (S))) := by
  obtain ⟨hV, hF, l0, l1, bT, bA, bB, bC, bSh, g3, g5⟩ := hC
  have b0 : 0 ≤ S.1 2 ∧ S.1 2 ≤ 16 := hV.1
  have b1 : 0 ≤ S.1 4 ∧ S.1 4 ≤ 6 := hV.2.1
  have b2 : 0 ≤ S.1 6 ∧ S.1 6 ≤ 99 := hV.2.2.1
  have b3 : 0 ≤ S.1 7 ∧ S.1 7 ≤ 1 := hV.2.2.2.1
  have b4 : 0 ≤ S.1 8 ∧ S.1 8 ≤ 16 := hV.2.2.2.2.1
  have b5 : 0 ≤ S.1 9 ∧ S.1 9 ≤ 999 := hV.2.2.2.2.2.1
  have b6 : 0 ≤ S.1 10 ∧ S.1 10 ≤ 1999 := hV.2.2.2.2.2.2.1
  have b7 : 0 ≤ S.1 11 ∧ S.1 11 ≤ 16 := hV.2.2.2.2.2.2.2.1
  have bK : ∀ q, 0 ≤ gK S q ∧ gK S q ≤ 3 := hV.2.2.2.2.2.2.2.2.1
  have bL : ∀ q, 0 ≤ gL S q ∧ gL S q ≤ 9 := hV.2.2.2.2.2.2.2.2.2.1
  have bW : ∀ q, 0 ≤ pW S q ∧ pW S q ≤ 9 := hV.2.2.2.2.2.2.2.2.2.2.1
  have bS : ∀ q, 0 ≤ pS S q ∧ pS S q ≤ 9 := hV.2.2.2.2.2.2.2.2.2.2.2.1
  have bH : ∀ q, 0 ≤ pH S q ∧ pH S q ≤ 1 := hV.2.2.2.2.2.2.2.2.2.2.2.2
  have c0 : 0 ≤ (cV S).1 0 ∧ (cV S).1 0 ≤ 16 := b0
  have c1 : 0 ≤ (cV S).1 1 ∧ (cV S).1 1 ≤ 6 := b1
  have c2 : 0 ≤ (cV S).1 2 ∧ (cV S).1 2 ≤ 99 := b2
  have c3 : 0 ≤ (cV S).1 3 ∧ (cV S).1 3 ≤ 1 := b3
  have c4 : 0 ≤ (cV S).1 4 ∧ (cV S).1 4 ≤ 16 := b4
  have c5 : 0 ≤ (cV S).1 5 ∧ (cV S).1 5 ≤ 999 := b5
  have c6 : 0 ≤ (cV S).1 6 ∧ (cV S).1 6 ≤ 1999 := b6
  have c7 : 0 ≤ (cV S).1 7 ∧ (cV S).1 7 ≤ 16 := b7
  refine Ct.of false [some (.ref 2), some (vI i), some (vI j), none] (plainFor_of_name (by decide)) (fun h => by cases h) (Nat.le_of_ble_eq_true rfl) (fun _ => rfl) sx_isl ?_
  refine sx_aload_n (p1 := 1) dX11_type_0 rfl rfl ?_
  refine sx_iload_n (p1 := 2) dX11_type_1 rfl rfl ?_
  refine sx_callVr (p1 := 5) (As := [_]) (k1 := 0) (n1 := 0) dX11_type_2 rfl rfl (c_X11_textAtN hi hn) mt_X11_textAt ml_X11_97 (hp_c2 _) rfl rfl (Nat.le_of_ble_eq_true rfl) rfl (Nat.le_of_ble_eq_true rfl) rfl rfl (Nat.le_of_ble_eq_true rfl) (Nat.le_of_ble_eq_true rfl) ?_
  refine sx_astore_nN (lo1 := [some _, some _, some _, some _]) (p1 := 6) dX11_type_5 rfl (by decide) rfl ?_
  refine sx_aload_nN (p1 := 7) dX11_type_6 rfl rfl ?_
  refine sx_ifnullN (p1 := 21) (tg := 21) dX11_type_7 rfl rfl ?_
  refine sx_bipush (p1 := 23) dX11_type_21 rfl (by decide) ?_
  exact sx_iret dX11_type_23 rfl (sx_ri (by first | omega | ((repeat' split) <;> first | omega | rfl)) (by rfl))
set_option maxRecDepth 20000 in
theorem n_X11_wipe {X : sx_X} {S : St} {i : Int} (hC : CI S) (hi : -2147483648 ≤ i ∧ i ≤ 2147483647) (hn : i ≠ 0 ∧ i ≠ 1) : Ct X yX11_wipe cX11_wipe 4 (some .int) 6 0 0 [.ref 2, vI i] (hp S) (sx_is (some (vI (-2))) (hp (S))) := by
  obtain ⟨hV, hF, l0, l1, bT, bA, bB, bC, bSh, g3, g5⟩ := hC
  have b0 : 0 ≤ S.1 2 ∧ S.1 2 ≤ 16 := hV.1
  have b1 : 0 ≤ S.1 4 ∧ S.1 4 ≤ 6 := hV.2.1
  have b2 : 0 ≤ S.1 6 ∧ S.1 6 ≤ 99 := hV.2.2.1
  have b3 : 0 ≤ S.1 7 ∧ S.1 7 ≤ 1 := hV.2.2.2.1
  have b4 : 0 ≤ S.1 8 ∧ S.1 8 ≤ 16 := hV.2.2.2.2.1
  have b5 : 0 ≤ S.1 9 ∧ S.1 9 ≤ 999 := hV.2.2.2.2.2.1
  have b6 : 0 ≤ S.1 10 ∧ S.1 10 ≤ 1999 := hV.2.2.2.2.2.2.1
  have b7 : 0 ≤ S.1 11 ∧ S.1 11 ≤ 16 := hV.2.2.2.2.2.2.2.1
  have bK : ∀ q, 0 ≤ gK S q ∧ gK S q ≤ 3 := hV.2.2.2.2.2.2.2.2.1
  have bL : ∀ q, 0 ≤ gL S q ∧ gL S q ≤ 9 := hV.2.2.2.2.2.2.2.2.2.1
  have bW : ∀ q, 0 ≤ pW S q ∧ pW S q ≤ 9 := hV.2.2.2.2.2.2.2.2.2.2.1
  have bS : ∀ q, 0 ≤ pS S q ∧ pS S q ≤ 9 := hV.2.2.2.2.2.2.2.2.2.2.2.1
  have bH : ∀ q, 0 ≤ pH S q ∧ pH S q ≤ 1 := hV.2.2.2.2.2.2.2.2.2.2.2.2
  have c0 : 0 ≤ (cV S).1 0 ∧ (cV S).1 0 ≤ 16 := b0
  have c1 : 0 ≤ (cV S).1 1 ∧ (cV S).1 1 ≤ 6 := b1
  have c2 : 0 ≤ (cV S).1 2 ∧ (cV S).1 2 ≤ 99 := b2
  have c3 : 0 ≤ (cV S).1 3 ∧ (cV S).1 3 ≤ 1 := b3
  have c4 : 0 ≤ (cV S).1 4 ∧ (cV S).1 4 ≤ 16 := b4
  have c5 : 0 ≤ (cV S).1 5 ∧ (cV S).1 5 ≤ 999 := b5
  have c6 : 0 ≤ (cV S).1 6 ∧ (cV S).1 6 ≤ 1999 := b6
  have c7 : 0 ≤ (cV S).1 7 ∧ (cV S).1 7 ≤ 16 := b7
  refine Ct.of false [some (.ref 2), some (vI i), none, none] (plainFor_of_name (by decide)) (fun h => by cases h) (Nat.le_of_ble_eq_true rfl) (fun _ => rfl) sx_isl ?_
  refine sx_aload_n (p1 := 1) dX11_wipe_0 rfl rfl ?_
  refine sx_iload_n (p1 := 2) dX11_wipe_1 rfl rfl ?_
  refine sx_callVr (p1 := 5) (As := [_]) (k1 := 0) (n1 := 0) dX11_wipe_2 rfl rfl (c_X11_textAtN hi hn) mt_X11_textAt ml_X11_97 (hp_c2 _) rfl rfl (Nat.le_of_ble_eq_true rfl) rfl (Nat.le_of_ble_eq_true rfl) rfl rfl (Nat.le_of_ble_eq_true rfl) (Nat.le_of_ble_eq_true rfl) ?_
  refine sx_astore_nN (lo1 := [some _, some _, some _, none]) (p1 := 6) dX11_wipe_5 rfl (by decide) rfl ?_
  refine sx_aload_nN (p1 := 7) dX11_wipe_6 rfl rfl ?_
  refine sx_ifnonnullN (p1 := 10) dX11_wipe_7 rfl ?_
  refine sx_bipush (p1 := 12) dX11_wipe_10 rfl (by decide) ?_
  exact sx_iret dX11_wipe_12 rfl (sx_ri (by first | omega | ((repeat' split) <;> first | omega | rfl)) (by rfl))
set_option maxRecDepth 20000 in
theorem n_X11_undo {X : sx_X} {S : St} {i : Int} (hC : CI S) (hi : -2147483648 ≤ i ∧ i ≤ 2147483647) (hn : i ≠ 0 ∧ i ≠ 1) : Ct X yX11_undo cX11_undo 3 (some .int) 6 0 0 [.ref 2, vI i] (hp S) (sx_is (some (vI (-2))) (hp (S))) := by
  obtain ⟨hV, hF, l0, l1, bT, bA, bB, bC, bSh, g3, g5⟩ := hC
  have b0 : 0 ≤ S.1 2 ∧ S.1 2 ≤ 16 := hV.1
  have b1 : 0 ≤ S.1 4 ∧ S.1 4 ≤ 6 := hV.2.1
  have b2 : 0 ≤ S.1 6 ∧ S.1 6 ≤ 99 := hV.2.2.1
  have b3 : 0 ≤ S.1 7 ∧ S.1 7 ≤ 1 := hV.2.2.2.1
  have b4 : 0 ≤ S.1 8 ∧ S.1 8 ≤ 16 := hV.2.2.2.2.1
  have b5 : 0 ≤ S.1 9 ∧ S.1 9 ≤ 999 := hV.2.2.2.2.2.1
  have b6 : 0 ≤ S.1 10 ∧ S.1 10 ≤ 1999 := hV.2.2.2.2.2.2.1
  have b7 : 0 ≤ S.1 11 ∧ S.1 11 ≤ 16 := hV.2.2.2.2.2.2.2.1
  have bK : ∀ q, 0 ≤ gK S q ∧ gK S q ≤ 3 := hV.2.2.2.2.2.2.2.2.1
  have bL : ∀ q, 0 ≤ gL S q ∧ gL S q ≤ 9 := hV.2.2.2.2.2.2.2.2.2.1
  have bW : ∀ q, 0 ≤ pW S q ∧ pW S q ≤ 9 := hV.2.2.2.2.2.2.2.2.2.2.1
  have bS : ∀ q, 0 ≤ pS S q ∧ pS S q ≤ 9 := hV.2.2.2.2.2.2.2.2.2.2.2.1
  have bH : ∀ q, 0 ≤ pH S q ∧ pH S q ≤ 1 := hV.2.2.2.2.2.2.2.2.2.2.2.2
  have c0 : 0 ≤ (cV S).1 0 ∧ (cV S).1 0 ≤ 16 := b0
  have c1 : 0 ≤ (cV S).1 1 ∧ (cV S).1 1 ≤ 6 := b1
  have c2 : 0 ≤ (cV S).1 2 ∧ (cV S).1 2 ≤ 99 := b2
  have c3 : 0 ≤ (cV S).1 3 ∧ (cV S).1 3 ≤ 1 := b3
  have c4 : 0 ≤ (cV S).1 4 ∧ (cV S).1 4 ≤ 16 := b4
  have c5 : 0 ≤ (cV S).1 5 ∧ (cV S).1 5 ≤ 999 := b5
  have c6 : 0 ≤ (cV S).1 6 ∧ (cV S).1 6 ≤ 1999 := b6
  have c7 : 0 ≤ (cV S).1 7 ∧ (cV S).1 7 ≤ 16 := b7
  refine Ct.of false [some (.ref 2), some (vI i), none] (plainFor_of_name (by decide)) (fun h => by cases h) (Nat.le_of_ble_eq_true rfl) (fun _ => rfl) sx_isl ?_
  refine sx_aload_n (p1 := 1) dX11_undo_0 rfl rfl ?_
  refine sx_iload_n (p1 := 2) dX11_undo_1 rfl rfl ?_
  refine sx_callVr (p1 := 5) (As := [_]) (k1 := 0) (n1 := 0) dX11_undo_2 rfl rfl (c_X11_textAtN hi hn) mt_X11_textAt ml_X11_97 (hp_c2 _) rfl rfl (Nat.le_of_ble_eq_true rfl) rfl (Nat.le_of_ble_eq_true rfl) rfl rfl (Nat.le_of_ble_eq_true rfl) (Nat.le_of_ble_eq_true rfl) ?_
  refine sx_astore_nN (lo1 := [some _, some _, some _]) (p1 := 6) dX11_undo_5 rfl (by decide) rfl ?_
  refine sx_aload_nN (p1 := 7) dX11_undo_6 rfl rfl ?_
  refine sx_ifnonnullN (p1 := 10) dX11_undo_7 rfl ?_
  refine sx_bipush (p1 := 12) dX11_undo_10 rfl (by decide) ?_
  exact sx_iret dX11_undo_12 rfl (sx_ri (by first | omega | ((repeat' split) <;> first | omega | rfl)) (by rfl))
set_option maxRecDepth 20000 in
theorem c_X11_type {X : sx_X} {S : St} {t : Nat} {j : Int} (ht : t < 2) (hC : CI S) (hj : -2147483648 ≤ j ∧ j ≤ 2147483647) : Ct X yX11_type cX11_type 4 (some .int) 6 0 0 [.ref 2, vI (t : Int), vI j] (hp S) (sx_is (some (vI (if 0 ≤ j ∧ j ≤ 255 then (if txM t ≤ S.1 t then -4 else S.1 t + 1) else -2))) (hp (if 0 ≤ j ∧ j ≤ 255 ∧ S.1 t < txM t then pA (si (sa S (4 + 2 * t) (S.1 t).toNat (sx_b8 (sx_b8 j))) t (S.1 t + 1)) else S))) := by
  obtain ⟨hV, hF, l0, l1, bT, bA, bB, bC, bSh, g3, g5⟩ := hC
  have b0 : 0 ≤ S.1 2 ∧ S.1 2 ≤ 16 := hV.1
  have b1 : 0 ≤ S.1 4 ∧ S.1 4 ≤ 6 := hV.2.1
  have b2 : 0 ≤ S.1 6 ∧ S.1 6 ≤ 99 := hV.2.2.1
  have b3 : 0 ≤ S.1 7 ∧ S.1 7 ≤ 1 := hV.2.2.2.1
  have b4 : 0 ≤ S.1 8 ∧ S.1 8 ≤ 16 := hV.2.2.2.2.1
  have b5 : 0 ≤ S.1 9 ∧ S.1 9 ≤ 999 := hV.2.2.2.2.2.1
  have b6 : 0 ≤ S.1 10 ∧ S.1 10 ≤ 1999 := hV.2.2.2.2.2.2.1
  have b7 : 0 ≤ S.1 11 ∧ S.1 11 ≤ 16 := hV.2.2.2.2.2.2.2.1
  have bK : ∀ q, 0 ≤ gK S q ∧ gK S q ≤ 3 := hV.2.2.2.2.2.2.2.2.1
  have bL : ∀ q, 0 ≤ gL S q ∧ gL S q ≤ 9 := hV.2.2.2.2.2.2.2.2.2.1
  have bW : ∀ q, 0 ≤ pW S q ∧ pW S q ≤ 9 := hV.2.2.2.2.2.2.2.2.2.2.1
  have bS : ∀ q, 0 ≤ pS S q ∧ pS S q ≤ 9 := hV.2.2.2.2.2.2.2.2.2.2.2.1
  have bH : ∀ q, 0 ≤ pH S q ∧ pH S q ≤ 1 := hV.2.2.2.2.2.2.2.2.2.2.2.2
  have c0 : 0 ≤ (cV S).1 0 ∧ (cV S).1 0 ≤ 16 := b0
  have c1 : 0 ≤ (cV S).1 1 ∧ (cV S).1 1 ≤ 6 := b1
  have c2 : 0 ≤ (cV S).1 2 ∧ (cV S).1 2 ≤ 99 := b2
  have c3 : 0 ≤ (cV S).1 3 ∧ (cV S).1 3 ≤ 1 := b3
  have c4 : 0 ≤ (cV S).1 4 ∧ (cV S).1 4 ≤ 16 := b4
  have c5 : 0 ≤ (cV S).1 5 ∧ (cV S).1 5 ≤ 999 := b5
  have c6 : 0 ≤ (cV S).1 6 ∧ (cV S).1 6 ≤ 1999 := b6
  have c7 : 0 ≤ (cV S).1 7 ∧ (cV S).1 7 ≤ 16 := b7
  have tm := txM_o t
  have hl : 0 ≤ S.1 t ∧ S.1 t ≤ txM t := by
    rcases (show t = 0 ∨ t = 1 by omega) with rfl | rfl
    · exact l0
    · exact l1
  refine Ct.of false [some (.ref 2), some (vI (t : Int)), some (vI j), none] (plainFor_of_name (by decide)) (fun h => by cases h) (Nat.le_of_ble_eq_true rfl) (fun _ => rfl) sx_isl ?_
  refine sx_aload_n (p1 := 1) dX11_type_0 rfl rfl ?_
  refine sx_iload_n (p1 := 2) dX11_type_1 rfl rfl ?_
  refine sx_callVr (p1 := 5) (As := [_]) (k1 := 0) (n1 := 0) dX11_type_2 rfl rfl (c_X11_textAt ht) mt_X11_textAt ml_X11_97 (hp_c2 _) rfl rfl (Nat.le_of_ble_eq_true rfl) rfl (Nat.le_of_ble_eq_true rfl) rfl rfl (Nat.le_of_ble_eq_true rfl) (Nat.le_of_ble_eq_true rfl) ?_
  refine sx_astore_n (lo1 := [some _, some _, some _, some _]) (p1 := 6) dX11_type_5 rfl (by decide) rfl ?_
  refine sx_aload_n (p1 := 7) dX11_type_6 rfl rfl ?_
  refine sx_ifnull (p1 := 10) dX11_type_7 rfl ?_
  refine sx_iload_n (p1 := 11) dX11_type_10 rfl rfl ?_
  refine sx_iconst (p1 := 12) dX11_type_11 rfl ?_
  refine sx_sipush (p1 := 15) dX11_type_12 rfl (by decide) ?_
  refine sx_callSr (p1 := 18) (As := [_, _, _]) (k1 := 0) (n1 := 0) dX11_type_15 rfl rfl (c_X11_within (by omega) (by omega) (by omega)) mt_X11_within ml_X11_101 (Nat.le_of_ble_eq_true rfl) rfl (Nat.le_of_ble_eq_true rfl) rfl rfl (Nat.le_of_ble_eq_true rfl) (Nat.le_of_ble_eq_true rfl) ?_
  refine sx_if_ne (p1 := 21) (tg := 24) dX11_type_18 rfl rfl (by omega) (fun q18 => ?_) (fun q18 => ?_)
  · refine sx_aload_n (p1 := 25) dX11_type_24 rfl rfl ?_
    refine sx_callVr (p1 := 28) (As := []) (k1 := 0) (n1 := 0) dX11_type_25 rfl rfl (c_X10_isFull ht hl) mt_X10_isFull ml_X11_105 (hp_tx ht _) rfl rfl (Nat.le_of_ble_eq_true rfl) rfl (Nat.le_of_ble_eq_true rfl) rfl rfl (Nat.le_of_ble_eq_true rfl) (Nat.le_of_ble_eq_true rfl) ?_
    refine sx_if_eq (p1 := 31) (tg := 34) dX11_type_28 rfl rfl (by split <;> omega) (fun q28 => ?_) (fun q28 => ?_)
    · have zl0 : 0 ≤ (si (sa S (4 + 2 * t) (S.1 t).toNat (sx_b8 (sx_b8 j))) t (S.1 t + 1)).1 0 ∧ (si (sa S (4 + 2 * t) (S.1 t).toNat (sx_b8 (sx_b8 j))) t (S.1 t + 1)).1 0 ≤ 32 := by
        rcases (show t = 0 ∨ t = 1 by omega) with rfl | rfl
        · show 0 ≤ (S.1 0 + 1) ∧ (S.1 0 + 1) ≤ 32
          have : txM 0 = 32 := rfl
          omega
        · exact l0
      have zl1 : 0 ≤ (si (sa S (4 + 2 * t) (S.1 t).toNat (sx_b8 (sx_b8 j))) t (S.1 t + 1)).1 1 ∧ (si (sa S (4 + 2 * t) (S.1 t).toNat (sx_b8 (sx_b8 j))) t (S.1 t + 1)).1 1 ≤ 23 := by
        rcases (show t = 0 ∨ t = 1 by omega) with rfl | rfl
        · exact l1
        · show 0 ≤ (S.1 1 + 1) ∧ (S.1 1 + 1) ≤ 23
          have : txM 1 = 23 := rfl
          omega
      have zT : okT (si (sa S (4 + 2 * t) (S.1 t).toNat (sx_b8 (sx_b8 j))) t (S.1 t + 1)) := by
        rcases (show t = 0 ∨ t = 1 by omega) with rfl | rfl <;> exact okT_of hV
      have zp : (pA (si (sa S (4 + 2 * t) (S.1 t).toNat (sx_b8 (sx_b8 j))) t (S.1 t + 1))).1 t = (S.1 t + 1) := by
        rw [pA_s _ t (by omega)]
        simp [si, sx_u]
      refine sx_aload_n (p1 := 35) dX11_type_34 rfl rfl ?_
      refine sx_iload_n (p1 := 36) dX11_type_35 rfl rfl ?_
      refine sx_callVn (p1 := 39) (As := [_]) (k1 := 0) (n1 := 0) dX11_type_36 rfl rfl (c_X10_append ht hl (by omega)) mt_X10_append ml_X11_109 (hp_tx ht _) rfl rfl (Nat.le_of_ble_eq_true rfl) rfl (Nat.le_of_ble_eq_true rfl) rfl rfl (Nat.le_of_ble_eq_true rfl) (Nat.le_of_ble_eq_true rfl) ?_
      refine sx_aload_n (p1 := 40) dX11_type_39 rfl rfl ?_
      refine sx_callVn (p1 := 43) (As := []) (k1 := 0) (n1 := 0) dX11_type_40 rfl rfl (c_X11_parseAnew zl0 zl1 zT) mt_X11_parseAnew ml_X11_112 (hp_c2 _) rfl rfl (Nat.le_of_ble_eq_true rfl) rfl (Nat.le_of_ble_eq_true rfl) rfl rfl (Nat.le_of_ble_eq_true rfl) (Nat.le_of_ble_eq_true rfl) ?_
      refine sx_aload_n (p1 := 44) dX11_type_43 rfl rfl ?_
      refine sx_callVr (p1 := 47) (As := []) (k1 := 0) (n1 := 0) dX11_type_44 rfl rfl (c_X10_length ht (by rw [zp]; omega)) mt_X10_length ml_X11_115 (hp_tx ht _) rfl rfl (Nat.le_of_ble_eq_true rfl) rfl (Nat.le_of_ble_eq_true rfl) rfl rfl (Nat.le_of_ble_eq_true rfl) (Nat.le_of_ble_eq_true rfl) ?_
      exact sx_iret dX11_type_47 rfl (sx_ri (by rw [zp, if_pos (by omega), if_neg (by omega)]) (by rw [if_pos (by omega)]))
    · refine sx_bipush (p1 := 33) dX11_type_31 rfl (by decide) ?_
      exact sx_iret dX11_type_33 rfl (sx_ri (by first | omega | ((repeat' split) <;> first | omega | rfl)) (by rw [if_neg (by omega)]))
  · refine sx_bipush (p1 := 23) dX11_type_21 rfl (by decide) ?_
    exact sx_iret dX11_type_23 rfl (sx_ri (by first | omega | ((repeat' split) <;> first | omega | rfl)) (by rw [if_neg (by omega)]))
set_option maxRecDepth 20000 in
theorem c_X11_wipe {X : sx_X} {S : St} {t : Nat} (ht : t < 2) (hC : CI S)  : Ct X yX11_wipe cX11_wipe 4 (some .int) 6 0 0 [.ref 2, vI (t : Int)] (hp S) (sx_is (some (vI (S.1 t))) (hp (pA (si S t (max 0 (S.1 t - S.1 t)))))) := by
  obtain ⟨hV, hF, l0, l1, bT, bA, bB, bC, bSh, g3, g5⟩ := hC
  have b0 : 0 ≤ S.1 2 ∧ S.1 2 ≤ 16 := hV.1
  have b1 : 0 ≤ S.1 4 ∧ S.1 4 ≤ 6 := hV.2.1
  have b2 : 0 ≤ S.1 6 ∧ S.1 6 ≤ 99 := hV.2.2.1
  have b3 : 0 ≤ S.1 7 ∧ S.1 7 ≤ 1 := hV.2.2.2.1
  have b4 : 0 ≤ S.1 8 ∧ S.1 8 ≤ 16 := hV.2.2.2.2.1
  have b5 : 0 ≤ S.1 9 ∧ S.1 9 ≤ 999 := hV.2.2.2.2.2.1
  have b6 : 0 ≤ S.1 10 ∧ S.1 10 ≤ 1999 := hV.2.2.2.2.2.2.1
  have b7 : 0 ≤ S.1 11 ∧ S.1 11 ≤ 16 := hV.2.2.2.2.2.2.2.1
  have bK : ∀ q, 0 ≤ gK S q ∧ gK S q ≤ 3 := hV.2.2.2.2.2.2.2.2.1
  have bL : ∀ q, 0 ≤ gL S q ∧ gL S q ≤ 9 := hV.2.2.2.2.2.2.2.2.2.1
  have bW : ∀ q, 0 ≤ pW S q ∧ pW S q ≤ 9 := hV.2.2.2.2.2.2.2.2.2.2.1
  have bS : ∀ q, 0 ≤ pS S q ∧ pS S q ≤ 9 := hV.2.2.2.2.2.2.2.2.2.2.2.1
  have bH : ∀ q, 0 ≤ pH S q ∧ pH S q ≤ 1 := hV.2.2.2.2.2.2.2.2.2.2.2.2
  have c0 : 0 ≤ (cV S).1 0 ∧ (cV S).1 0 ≤ 16 := b0
  have c1 : 0 ≤ (cV S).1 1 ∧ (cV S).1 1 ≤ 6 := b1
  have c2 : 0 ≤ (cV S).1 2 ∧ (cV S).1 2 ≤ 99 := b2
  have c3 : 0 ≤ (cV S).1 3 ∧ (cV S).1 3 ≤ 1 := b3
  have c4 : 0 ≤ (cV S).1 4 ∧ (cV S).1 4 ≤ 16 := b4
  have c5 : 0 ≤ (cV S).1 5 ∧ (cV S).1 5 ≤ 999 := b5
  have c6 : 0 ≤ (cV S).1 6 ∧ (cV S).1 6 ≤ 1999 := b6
  have c7 : 0 ≤ (cV S).1 7 ∧ (cV S).1 7 ≤ 16 := b7
  have tm := txM_o t
  have hl : 0 ≤ S.1 t ∧ S.1 t ≤ txM t := by
    rcases (show t = 0 ∨ t = 1 by omega) with rfl | rfl
    · exact l0
    · exact l1
  have zl0 : 0 ≤ (si S t (max 0 (S.1 t - S.1 t))).1 0 ∧ (si S t (max 0 (S.1 t - S.1 t))).1 0 ≤ 32 := by
    rcases (show t = 0 ∨ t = 1 by omega) with rfl | rfl
    · show 0 ≤ max 0 (S.1 0 - S.1 0) ∧ max 0 (S.1 0 - S.1 0) ≤ 32
      have : txM 0 = 32 := rfl
      omega
    · exact l0
  have zl1 : 0 ≤ (si S t (max 0 (S.1 t - S.1 t))).1 1 ∧ (si S t (max 0 (S.1 t - S.1 t))).1 1 ≤ 23 := by
    rcases (show t = 0 ∨ t = 1 by omega) with rfl | rfl
    · exact l1
    · show 0 ≤ max 0 (S.1 1 - S.1 1) ∧ max 0 (S.1 1 - S.1 1) ≤ 23
      have : txM 1 = 23 := rfl
      omega
  have zT : okT (si S t (max 0 (S.1 t - S.1 t))) := by
    rcases (show t = 0 ∨ t = 1 by omega) with rfl | rfl <;> exact okT_of hV
  have zp : (pA (si S t (max 0 (S.1 t - S.1 t)))).1 t = max 0 (S.1 t - S.1 t) := by
    rw [pA_s _ t (by omega)]
    simp [si, sx_u]
  refine Ct.of false [some (.ref 2), some (vI (t : Int)), none, none] (plainFor_of_name (by decide)) (fun h => by cases h) (Nat.le_of_ble_eq_true rfl) (fun _ => rfl) sx_isl ?_
  refine sx_aload_n (p1 := 1) dX11_wipe_0 rfl rfl ?_
  refine sx_iload_n (p1 := 2) dX11_wipe_1 rfl rfl ?_
  refine sx_callVr (p1 := 5) (As := [_]) (k1 := 0) (n1 := 0) dX11_wipe_2 rfl rfl (c_X11_textAt ht) mt_X11_textAt ml_X11_97 (hp_c2 _) rfl rfl (Nat.le_of_ble_eq_true rfl) rfl (Nat.le_of_ble_eq_true rfl) rfl rfl (Nat.le_of_ble_eq_true rfl) (Nat.le_of_ble_eq_true rfl) ?_
  refine sx_astore_n (lo1 := [some _, some _, some _, none]) (p1 := 6) dX11_wipe_5 rfl (by decide) rfl ?_
  refine sx_aload_n (p1 := 7) dX11_wipe_6 rfl rfl ?_
  refine sx_ifnonnull (p1 := 13) (tg := 13) dX11_wipe_7 rfl rfl ?_
  refine sx_aload_n (p1 := 14) dX11_wipe_13 rfl rfl ?_
  refine sx_callVr (p1 := 17) (As := []) (k1 := 0) (n1 := 0) dX11_wipe_14 rfl rfl (c_X10_length ht hl) mt_X10_length ml_X11_115 (hp_tx ht _) rfl rfl (Nat.le_of_ble_eq_true rfl) rfl (Nat.le_of_ble_eq_true rfl) rfl rfl (Nat.le_of_ble_eq_true rfl) (Nat.le_of_ble_eq_true rfl) ?_
  refine sx_istore_n (lo1 := [some _, some _, some _, some _]) (p1 := 18) dX11_wipe_17 rfl (by decide) rfl ?_
  refine sx_aload_n (p1 := 19) dX11_wipe_18 rfl rfl ?_
  refine sx_iload_n (p1 := 20) dX11_wipe_19 rfl rfl ?_
  refine sx_callVn (p1 := 23) (As := [_]) (k1 := 0) (n1 := 0) dX11_wipe_20 rfl rfl (c_X10_shorten ht hl (by omega)) mt_X10_shorten ml_X11_119 (hp_tx ht _) rfl rfl (Nat.le_of_ble_eq_true rfl) rfl (Nat.le_of_ble_eq_true rfl) rfl rfl (Nat.le_of_ble_eq_true rfl) (Nat.le_of_ble_eq_true rfl) ?_
  refine sx_aload_n (p1 := 24) dX11_wipe_23 rfl rfl ?_
  refine sx_callVn (p1 := 27) (As := []) (k1 := 0) (n1 := 0) dX11_wipe_24 rfl rfl (c_X11_parseAnew zl0 zl1 zT) mt_X11_parseAnew ml_X11_112 (hp_c2 _) rfl rfl (Nat.le_of_ble_eq_true rfl) rfl (Nat.le_of_ble_eq_true rfl) rfl rfl (Nat.le_of_ble_eq_true rfl) (Nat.le_of_ble_eq_true rfl) ?_
  refine sx_iload_n (p1 := 28) dX11_wipe_27 rfl rfl ?_
  exact sx_iret dX11_wipe_28 rfl (sx_ri (by rfl) (by rfl))
set_option maxRecDepth 20000 in
theorem c_X11_undo {X : sx_X} {S : St} {t : Nat} (ht : t < 2) (hC : CI S)  : Ct X yX11_undo cX11_undo 3 (some .int) 6 0 0 [.ref 2, vI (t : Int)] (hp S) (sx_is (some (vI (if S.1 t = 0 then -3 else S.1 t - 1))) (hp (if S.1 t = 0 then S else pA (si S t (max 0 (S.1 t - 1)))))) := by
  obtain ⟨hV, hF, l0, l1, bT, bA, bB, bC, bSh, g3, g5⟩ := hC
  have b0 : 0 ≤ S.1 2 ∧ S.1 2 ≤ 16 := hV.1
  have b1 : 0 ≤ S.1 4 ∧ S.1 4 ≤ 6 := hV.2.1
  have b2 : 0 ≤ S.1 6 ∧ S.1 6 ≤ 99 := hV.2.2.1
  have b3 : 0 ≤ S.1 7 ∧ S.1 7 ≤ 1 := hV.2.2.2.1
  have b4 : 0 ≤ S.1 8 ∧ S.1 8 ≤ 16 := hV.2.2.2.2.1
  have b5 : 0 ≤ S.1 9 ∧ S.1 9 ≤ 999 := hV.2.2.2.2.2.1
  have b6 : 0 ≤ S.1 10 ∧ S.1 10 ≤ 1999 := hV.2.2.2.2.2.2.1
  have b7 : 0 ≤ S.1 11 ∧ S.1 11 ≤ 16 := hV.2.2.2.2.2.2.2.1
  have bK : ∀ q, 0 ≤ gK S q ∧ gK S q ≤ 3 := hV.2.2.2.2.2.2.2.2.1
  have bL : ∀ q, 0 ≤ gL S q ∧ gL S q ≤ 9 := hV.2.2.2.2.2.2.2.2.2.1
  have bW : ∀ q, 0 ≤ pW S q ∧ pW S q ≤ 9 := hV.2.2.2.2.2.2.2.2.2.2.1
  have bS : ∀ q, 0 ≤ pS S q ∧ pS S q ≤ 9 := hV.2.2.2.2.2.2.2.2.2.2.2.1
  have bH : ∀ q, 0 ≤ pH S q ∧ pH S q ≤ 1 := hV.2.2.2.2.2.2.2.2.2.2.2.2
  have c0 : 0 ≤ (cV S).1 0 ∧ (cV S).1 0 ≤ 16 := b0
  have c1 : 0 ≤ (cV S).1 1 ∧ (cV S).1 1 ≤ 6 := b1
  have c2 : 0 ≤ (cV S).1 2 ∧ (cV S).1 2 ≤ 99 := b2
  have c3 : 0 ≤ (cV S).1 3 ∧ (cV S).1 3 ≤ 1 := b3
  have c4 : 0 ≤ (cV S).1 4 ∧ (cV S).1 4 ≤ 16 := b4
  have c5 : 0 ≤ (cV S).1 5 ∧ (cV S).1 5 ≤ 999 := b5
  have c6 : 0 ≤ (cV S).1 6 ∧ (cV S).1 6 ≤ 1999 := b6
  have c7 : 0 ≤ (cV S).1 7 ∧ (cV S).1 7 ≤ 16 := b7
  have tm := txM_o t
  have hl : 0 ≤ S.1 t ∧ S.1 t ≤ txM t := by
    rcases (show t = 0 ∨ t = 1 by omega) with rfl | rfl
    · exact l0
    · exact l1
  have zl0 : 0 ≤ (si S t (max 0 (S.1 t - 1))).1 0 ∧ (si S t (max 0 (S.1 t - 1))).1 0 ≤ 32 := by
    rcases (show t = 0 ∨ t = 1 by omega) with rfl | rfl
    · show 0 ≤ max 0 (S.1 0 - 1) ∧ max 0 (S.1 0 - 1) ≤ 32
      have : txM 0 = 32 := rfl
      omega
    · exact l0
  have zl1 : 0 ≤ (si S t (max 0 (S.1 t - 1))).1 1 ∧ (si S t (max 0 (S.1 t - 1))).1 1 ≤ 23 := by
    rcases (show t = 0 ∨ t = 1 by omega) with rfl | rfl
    · exact l1
    · show 0 ≤ max 0 (S.1 1 - 1) ∧ max 0 (S.1 1 - 1) ≤ 23
      have : txM 1 = 23 := rfl
      omega
  have zT : okT (si S t (max 0 (S.1 t - 1))) := by
    rcases (show t = 0 ∨ t = 1 by omega) with rfl | rfl <;> exact okT_of hV
  have zp : (pA (si S t (max 0 (S.1 t - 1)))).1 t = max 0 (S.1 t - 1) := by
    rw [pA_s _ t (by omega)]
    simp [si, sx_u]
  refine Ct.of false [some (.ref 2), some (vI (t : Int)), none] (plainFor_of_name (by decide)) (fun h => by cases h) (Nat.le_of_ble_eq_true rfl) (fun _ => rfl) sx_isl ?_
  refine sx_aload_n (p1 := 1) dX11_undo_0 rfl rfl ?_
  refine sx_iload_n (p1 := 2) dX11_undo_1 rfl rfl ?_
  refine sx_callVr (p1 := 5) (As := [_]) (k1 := 0) (n1 := 0) dX11_undo_2 rfl rfl (c_X11_textAt ht) mt_X11_textAt ml_X11_97 (hp_c2 _) rfl rfl (Nat.le_of_ble_eq_true rfl) rfl (Nat.le_of_ble_eq_true rfl) rfl rfl (Nat.le_of_ble_eq_true rfl) (Nat.le_of_ble_eq_true rfl) ?_
  refine sx_astore_n (lo1 := [some _, some _, some _]) (p1 := 6) dX11_undo_5 rfl (by decide) rfl ?_
  refine sx_aload_n (p1 := 7) dX11_undo_6 rfl rfl ?_
  refine sx_ifnonnull (p1 := 13) (tg := 13) dX11_undo_7 rfl rfl ?_
  refine sx_aload_n (p1 := 14) dX11_undo_13 rfl rfl ?_
  refine sx_callVr (p1 := 17) (As := []) (k1 := 0) (n1 := 0) dX11_undo_14 rfl rfl (c_X10_length ht hl) mt_X10_length ml_X11_115 (hp_tx ht _) rfl rfl (Nat.le_of_ble_eq_true rfl) rfl (Nat.le_of_ble_eq_true rfl) rfl rfl (Nat.le_of_ble_eq_true rfl) (Nat.le_of_ble_eq_true rfl) ?_
  refine sx_if_ne (p1 := 20) (tg := 23) dX11_undo_17 rfl rfl (by omega) (fun q17 => ?_) (fun q17 => ?_)
  · refine sx_aload_n (p1 := 24) dX11_undo_23 rfl rfl ?_
    refine sx_iconst (p1 := 25) dX11_undo_24 rfl ?_
    refine sx_callVn (p1 := 28) (As := [_]) (k1 := 0) (n1 := 0) dX11_undo_25 rfl rfl (c_X10_shorten ht hl (by omega)) mt_X10_shorten ml_X11_119 (hp_tx ht _) rfl rfl (Nat.le_of_ble_eq_true rfl) rfl (Nat.le_of_ble_eq_true rfl) rfl rfl (Nat.le_of_ble_eq_true rfl) (Nat.le_of_ble_eq_true rfl) ?_
    refine sx_aload_n (p1 := 29) dX11_undo_28 rfl rfl ?_
    refine sx_callVn (p1 := 32) (As := []) (k1 := 0) (n1 := 0) dX11_undo_29 rfl rfl (c_X11_parseAnew zl0 zl1 zT) mt_X11_parseAnew ml_X11_112 (hp_c2 _) rfl rfl (Nat.le_of_ble_eq_true rfl) rfl (Nat.le_of_ble_eq_true rfl) rfl rfl (Nat.le_of_ble_eq_true rfl) (Nat.le_of_ble_eq_true rfl) ?_
    refine sx_aload_n (p1 := 33) dX11_undo_32 rfl rfl ?_
    refine sx_callVr (p1 := 36) (As := []) (k1 := 0) (n1 := 0) dX11_undo_33 rfl rfl (c_X10_length ht (by rw [zp]; omega)) mt_X10_length ml_X11_115 (hp_tx ht _) rfl rfl (Nat.le_of_ble_eq_true rfl) rfl (Nat.le_of_ble_eq_true rfl) rfl rfl (Nat.le_of_ble_eq_true rfl) (Nat.le_of_ble_eq_true rfl) ?_
    exact sx_iret dX11_undo_36 rfl (sx_ri (by rw [zp, if_neg (by omega)]; omega) (by rw [if_neg (by omega)]))
  · refine sx_bipush (p1 := 22) dX11_undo_20 rfl (by decide) ?_
    exact sx_iret dX11_undo_22 rfl (sx_ri (by rw [if_pos (by omega)]) (by rw [if_pos (by omega)]))
theorem okV_set {S : St} {k : Nat} {j : Int} (hV : okV (cV S)) (hk : k < 6) (hj : 0 ≤ j ∧ j ≤ sx_most k) : okV (cV (si S (6 + k) j)) := by
  obtain ⟨h0, h1, h2, h3, h4, h5, h6, h7, h8⟩ := hV
  rcases (show k = 0 ∨ k = 1 ∨ k = 2 ∨ k = 3 ∨ k = 4 ∨ k = 5 by omega) with rfl | rfl | rfl | rfl | rfl | rfl
  · exact ⟨h0, h1, hj, h3, h4, h5, h6, h7, h8⟩
  · exact ⟨h0, h1, h2, hj, h4, h5, h6, h7, h8⟩
  · exact ⟨h0, h1, h2, h3, hj, h5, h6, h7, h8⟩
  · exact ⟨h0, h1, h2, h3, h4, hj, h6, h7, h8⟩
  · exact ⟨h0, h1, h2, h3, h4, h5, hj, h7, h8⟩
  · exact ⟨h0, h1, h2, h3, h4, h5, h6, hj, h8⟩
set_option maxRecDepth 20000 in
theorem c_X11_set {X : sx_X} {S : St} {k : Nat} {j : Int} (hk : k < 6) (hC : CI S) (hj : 0 ≤ j ∧ j ≤ sx_most k) : Ct X yX11_set cX11_set 4 (some .int) 3 0 0 [.ref 2, vI (k : Int), vI j] (hp S) (sx_is (some (vI (S.1 (6 + k)))) (hp (sA (si S (6 + k) j) 16 (paF (cV (si S (6 + k) j)) (S.2 16) 32)))) := by
  obtain ⟨hV, hF, l0, l1, bT, bA, bB, bC, bSh, g3, g5⟩ := hC
  have b0 : 0 ≤ S.1 2 ∧ S.1 2 ≤ 16 := hV.1
  have b1 : 0 ≤ S.1 4 ∧ S.1 4 ≤ 6 := hV.2.1
  have b2 : 0 ≤ S.1 6 ∧ S.1 6 ≤ 99 := hV.2.2.1
  have b3 : 0 ≤ S.1 7 ∧ S.1 7 ≤ 1 := hV.2.2.2.1
  have b4 : 0 ≤ S.1 8 ∧ S.1 8 ≤ 16 := hV.2.2.2.2.1
  have b5 : 0 ≤ S.1 9 ∧ S.1 9 ≤ 999 := hV.2.2.2.2.2.1
  have b6 : 0 ≤ S.1 10 ∧ S.1 10 ≤ 1999 := hV.2.2.2.2.2.2.1
  have b7 : 0 ≤ S.1 11 ∧ S.1 11 ≤ 16 := hV.2.2.2.2.2.2.2.1
  have bK : ∀ q, 0 ≤ gK S q ∧ gK S q ≤ 3 := hV.2.2.2.2.2.2.2.2.1
  have bL : ∀ q, 0 ≤ gL S q ∧ gL S q ≤ 9 := hV.2.2.2.2.2.2.2.2.2.1
  have bW : ∀ q, 0 ≤ pW S q ∧ pW S q ≤ 9 := hV.2.2.2.2.2.2.2.2.2.2.1
  have bS : ∀ q, 0 ≤ pS S q ∧ pS S q ≤ 9 := hV.2.2.2.2.2.2.2.2.2.2.2.1
  have bH : ∀ q, 0 ≤ pH S q ∧ pH S q ≤ 1 := hV.2.2.2.2.2.2.2.2.2.2.2.2
  have c0 : 0 ≤ (cV S).1 0 ∧ (cV S).1 0 ≤ 16 := b0
  have c1 : 0 ≤ (cV S).1 1 ∧ (cV S).1 1 ≤ 6 := b1
  have c2 : 0 ≤ (cV S).1 2 ∧ (cV S).1 2 ≤ 99 := b2
  have c3 : 0 ≤ (cV S).1 3 ∧ (cV S).1 3 ≤ 1 := b3
  have c4 : 0 ≤ (cV S).1 4 ∧ (cV S).1 4 ≤ 16 := b4
  have c5 : 0 ≤ (cV S).1 5 ∧ (cV S).1 5 ≤ 999 := b5
  have c6 : 0 ≤ (cV S).1 6 ∧ (cV S).1 6 ≤ 1999 := b6
  have c7 : 0 ≤ (cV S).1 7 ∧ (cV S).1 7 ≤ 16 := b7
  have zi : -2147483648 ≤ (k : Int) ∧ (k : Int) ≤ 2147483647 := by omega
  have zm : ∀ q, 1 ≤ sx_most q ∧ sx_most q ≤ 1999 := by
    intro q
    unfold sx_most
    split <;> omega
  have zn := zm k
  have zV : okV (cV (si S (6 + k) j)) := okV_set hV hk hj
  have zt : sx_most (k : Int).toNat = sx_most k := by rw [Int.toNat_natCast]
  refine Ct.of false [some (.ref 2), some (vI (k : Int)), some (vI j), none] (plainFor_of_name (by decide)) (fun h => by cases h) (Nat.le_of_ble_eq_true rfl) (fun _ => rfl) sx_isl ?_
  refine sx_aload_n (p1 := 1) dX11_set_0 rfl rfl ?_
  refine sx_get (p1 := 4) dX11_set_1 rfl fl_X11_38 (hp_c2 _) rfl ?_
  refine sx_iload_n (p1 := 5) dX11_set_4 rfl rfl ?_
  refine sx_iload_n (p1 := 6) dX11_set_5 rfl rfl ?_
  refine sx_callVr (p1 := 9) (As := [_, _]) (k1 := 0) (n1 := 0) dX11_set_6 rfl rfl (c_X6_takes zi (by omega)) mt_X6_takes ml_X11_147 (hp_c14 _) rfl rfl (Nat.le_of_ble_eq_true rfl) rfl (Nat.le_of_ble_eq_true rfl) rfl rfl (Nat.le_of_ble_eq_true rfl) (Nat.le_of_ble_eq_true rfl) ?_
  refine sx_if_ne (p1 := 12) (tg := 15) dX11_set_9 rfl rfl (by split <;> omega) (fun q9 => ?_) (fun q9 => absurd q9 (by rw [if_pos (by rw [zt]; omega)]; omega))
  refine sx_aload_n (p1 := 16) dX11_set_15 rfl rfl ?_
  refine sx_get (p1 := 19) dX11_set_16 rfl fl_X11_38 (hp_c2 _) rfl ?_
  refine sx_iload_n (p1 := 20) dX11_set_19 rfl rfl ?_
  refine sx_iload_n (p1 := 21) dX11_set_20 rfl rfl ?_
  refine sx_callVr (p1 := 24) (As := [_, _]) (k1 := 0) (n1 := 0) dX11_set_21 rfl rfl (c_X6_change hk) mt_X6_change ml_X11_151 (hp_c14 _) rfl rfl (Nat.le_of_ble_eq_true rfl) rfl (Nat.le_of_ble_eq_true rfl) rfl rfl (Nat.le_of_ble_eq_true rfl) (Nat.le_of_ble_eq_true rfl) ?_
  refine sx_istore_n (lo1 := [some _, some _, some _, some _]) (p1 := 25) dX11_set_24 rfl (by decide) rfl ?_
  refine sx_aload_n (p1 := 26) dX11_set_25 rfl rfl ?_
  refine sx_get (p1 := 29) dX11_set_26 rfl fl_X11_47 (hp_c2 _) rfl ?_
  refine sx_callVn (p1 := 32) (As := []) (k1 := 0) (n1 := 0) dX11_set_29 rfl rfl (c_X8_prepareSun (S := si S (6 + k) j) zV) mt_X8_prepareSun ml_X11_155 (hp_c15 _) rfl rfl (Nat.le_of_ble_eq_true rfl) rfl (Nat.le_of_ble_eq_true rfl) rfl rfl (Nat.le_of_ble_eq_true rfl) (Nat.le_of_ble_eq_true rfl) ?_
  refine sx_iload_n (p1 := 33) dX11_set_32 rfl rfl ?_
  exact sx_iret dX11_set_33 rfl (sx_ri (by rfl) (by rfl))
set_option maxRecDepth 20000 in
theorem n_X11_set {X : sx_X} {S : St} {i j : Int} (hC : CI S) (hi : -2147483648 ≤ i ∧ i ≤ 2147483647) (hj : -2147483648 ≤ j ∧ j ≤ 2147483647) (hn : ¬ ((0 ≤ i ∧ i < 6) ∧ 0 ≤ j ∧ j ≤ sx_most i.toNat)) : Ct X yX11_set cX11_set 4 (some .int) 3 0 0 [.ref 2, vI i, vI j] (hp S) (sx_is (some (vI (-2))) (hp (S))) := by
  obtain ⟨hV, hF, l0, l1, bT, bA, bB, bC, bSh, g3, g5⟩ := hC
  have b0 : 0 ≤ S.1 2 ∧ S.1 2 ≤ 16 := hV.1
  have b1 : 0 ≤ S.1 4 ∧ S.1 4 ≤ 6 := hV.2.1
  have b2 : 0 ≤ S.1 6 ∧ S.1 6 ≤ 99 := hV.2.2.1
  have b3 : 0 ≤ S.1 7 ∧ S.1 7 ≤ 1 := hV.2.2.2.1
  have b4 : 0 ≤ S.1 8 ∧ S.1 8 ≤ 16 := hV.2.2.2.2.1
  have b5 : 0 ≤ S.1 9 ∧ S.1 9 ≤ 999 := hV.2.2.2.2.2.1
  have b6 : 0 ≤ S.1 10 ∧ S.1 10 ≤ 1999 := hV.2.2.2.2.2.2.1
  have b7 : 0 ≤ S.1 11 ∧ S.1 11 ≤ 16 := hV.2.2.2.2.2.2.2.1
  have bK : ∀ q, 0 ≤ gK S q ∧ gK S q ≤ 3 := hV.2.2.2.2.2.2.2.2.1
  have bL : ∀ q, 0 ≤ gL S q ∧ gL S q ≤ 9 := hV.2.2.2.2.2.2.2.2.2.1
  have bW : ∀ q, 0 ≤ pW S q ∧ pW S q ≤ 9 := hV.2.2.2.2.2.2.2.2.2.2.1
  have bS : ∀ q, 0 ≤ pS S q ∧ pS S q ≤ 9 := hV.2.2.2.2.2.2.2.2.2.2.2.1
  have bH : ∀ q, 0 ≤ pH S q ∧ pH S q ≤ 1 := hV.2.2.2.2.2.2.2.2.2.2.2.2
  have c0 : 0 ≤ (cV S).1 0 ∧ (cV S).1 0 ≤ 16 := b0
  have c1 : 0 ≤ (cV S).1 1 ∧ (cV S).1 1 ≤ 6 := b1
  have c2 : 0 ≤ (cV S).1 2 ∧ (cV S).1 2 ≤ 99 := b2
  have c3 : 0 ≤ (cV S).1 3 ∧ (cV S).1 3 ≤ 1 := b3
  have c4 : 0 ≤ (cV S).1 4 ∧ (cV S).1 4 ≤ 16 := b4
  have c5 : 0 ≤ (cV S).1 5 ∧ (cV S).1 5 ≤ 999 := b5
  have c6 : 0 ≤ (cV S).1 6 ∧ (cV S).1 6 ≤ 1999 := b6
  have c7 : 0 ≤ (cV S).1 7 ∧ (cV S).1 7 ≤ 16 := b7
  refine Ct.of false [some (.ref 2), some (vI i), some (vI j), none] (plainFor_of_name (by decide)) (fun h => by cases h) (Nat.le_of_ble_eq_true rfl) (fun _ => rfl) sx_isl ?_
  refine sx_aload_n (p1 := 1) dX11_set_0 rfl rfl ?_
  refine sx_get (p1 := 4) dX11_set_1 rfl fl_X11_38 (hp_c2 _) rfl ?_
  refine sx_iload_n (p1 := 5) dX11_set_4 rfl rfl ?_
  refine sx_iload_n (p1 := 6) dX11_set_5 rfl rfl ?_
  refine sx_callVr (p1 := 9) (As := [_, _]) (k1 := 0) (n1 := 0) dX11_set_6 rfl rfl (c_X6_takes (by omega) (by omega)) mt_X6_takes ml_X11_147 (hp_c14 _) rfl rfl (Nat.le_of_ble_eq_true rfl) rfl (Nat.le_of_ble_eq_true rfl) rfl rfl (Nat.le_of_ble_eq_true rfl) (Nat.le_of_ble_eq_true rfl) ?_
  refine sx_if_ne (p1 := 12) (tg := 15) dX11_set_9 rfl rfl (by split <;> omega) (fun q9 => absurd q9 (by rw [if_neg hn]; omega)) (fun q9 => ?_)
  refine sx_bipush (p1 := 14) dX11_set_12 rfl (by decide) ?_
  exact sx_iret dX11_set_14 rfl (sx_ri (by first | omega | ((repeat' split) <;> first | omega | rfl)) (by rfl))
set_option maxRecDepth 20000 in
theorem c_X11_gap {X : sx_X} {S : St} {mo : Int} (hC : CI S) (hmo : -2147483648 ≤ mo ∧ mo ≤ 2147483647) : Ct X yX11_gap cX11_gap 8 (some .int) 5 0 0 [.ref 2, vI mo] (hp S) (sx_is (some (vI (if 0 ≤ mo ∧ mo ≤ 99 then (mGb (cV S) mo.toNat).1 else -2))) (hp S)) := by
  obtain ⟨hV, hF, l0, l1, bT, bA, bB, bC, bSh, g3, g5⟩ := hC
  have b0 : 0 ≤ S.1 2 ∧ S.1 2 ≤ 16 := hV.1
  have b1 : 0 ≤ S.1 4 ∧ S.1 4 ≤ 6 := hV.2.1
  have b2 : 0 ≤ S.1 6 ∧ S.1 6 ≤ 99 := hV.2.2.1
  have b3 : 0 ≤ S.1 7 ∧ S.1 7 ≤ 1 := hV.2.2.2.1
  have b4 : 0 ≤ S.1 8 ∧ S.1 8 ≤ 16 := hV.2.2.2.2.1
  have b5 : 0 ≤ S.1 9 ∧ S.1 9 ≤ 999 := hV.2.2.2.2.2.1
  have b6 : 0 ≤ S.1 10 ∧ S.1 10 ≤ 1999 := hV.2.2.2.2.2.2.1
  have b7 : 0 ≤ S.1 11 ∧ S.1 11 ≤ 16 := hV.2.2.2.2.2.2.2.1
  have bK : ∀ q, 0 ≤ gK S q ∧ gK S q ≤ 3 := hV.2.2.2.2.2.2.2.2.1
  have bL : ∀ q, 0 ≤ gL S q ∧ gL S q ≤ 9 := hV.2.2.2.2.2.2.2.2.2.1
  have bW : ∀ q, 0 ≤ pW S q ∧ pW S q ≤ 9 := hV.2.2.2.2.2.2.2.2.2.2.1
  have bS : ∀ q, 0 ≤ pS S q ∧ pS S q ≤ 9 := hV.2.2.2.2.2.2.2.2.2.2.2.1
  have bH : ∀ q, 0 ≤ pH S q ∧ pH S q ≤ 1 := hV.2.2.2.2.2.2.2.2.2.2.2.2
  have c0 : 0 ≤ (cV S).1 0 ∧ (cV S).1 0 ≤ 16 := b0
  have c1 : 0 ≤ (cV S).1 1 ∧ (cV S).1 1 ≤ 6 := b1
  have c2 : 0 ≤ (cV S).1 2 ∧ (cV S).1 2 ≤ 99 := b2
  have c3 : 0 ≤ (cV S).1 3 ∧ (cV S).1 3 ≤ 1 := b3
  have c4 : 0 ≤ (cV S).1 4 ∧ (cV S).1 4 ≤ 16 := b4
  have c5 : 0 ≤ (cV S).1 5 ∧ (cV S).1 5 ≤ 999 := b5
  have c6 : 0 ≤ (cV S).1 6 ∧ (cV S).1 6 ≤ 1999 := b6
  have c7 : 0 ≤ (cV S).1 7 ∧ (cV S).1 7 ≤ 16 := b7
  have zk : 0 ≤ mo ∧ mo ≤ 99 → Rn X RX11 false cX11_gap 8 5 0 0 (some .int) 27 [some (.ref 2), some (vI mo), some (vI (mGb (cV S) 0).1), some (vJ (mGb (cV S) 0).2), none, some (vI 1), none, none] [] (hp S) 0 0 (sx_is (some (vI (mGb (cV S) mo.toNat).1)) (hp S)) := by
    intro hm
    have key : ∀ (n i : Nat), i + n = mo.toNat → Rn X RX11 false cX11_gap 8 5 0 0 (some .int) 27 [some (.ref 2), some (vI mo), some (vI (mGb (cV S) i).1), some (vJ (mGb (cV S) i).2), none, some (vI ((i : Int) + 1)), none, none] [] (hp S) 0 0 (sx_is (some (vI (mGb (cV S) mo.toNat).1)) (hp S)) := by
      intro n
      induction n with
      | zero =>
        intro i hi 
        rw [Nat.add_zero] at hi
        subst hi
        refine sx_iload (p1 := 29) dX11_gap_27 rfl rfl ?_
        refine sx_iload_n (p1 := 30) dX11_gap_29 rfl rfl ?_
        refine sx_icmp_gt (p1 := 33) (tg := 63) dX11_gap_30 rfl rfl (by omega) (by omega) (fun q30 => ?_) (fun q30 => absurd q30 (by omega))
        refine sx_iload_n (p1 := 64) dX11_gap_63 rfl rfl ?_
        exact sx_iret dX11_gap_64 rfl (sx_ri (by first | rfl | omega) (by rfl))
      | succ n ih =>
        intro i hi 
        have m1 := mGb_b hV i
        have m2 := mAll_b hV ((i : Int) + 1)
        refine sx_iload (p1 := 29) dX11_gap_27 rfl rfl ?_
        refine sx_iload_n (p1 := 30) dX11_gap_29 rfl rfl ?_
        refine sx_icmp_gt (p1 := 33) (tg := 63) dX11_gap_30 rfl rfl (by omega) (by omega) (fun q30 => absurd q30 (by omega)) (fun q30 => ?_)
        refine sx_aload_n (p1 := 34) dX11_gap_33 rfl rfl ?_
        refine sx_get (p1 := 37) dX11_gap_34 rfl fl_X11_47 (hp_c2 _) rfl ?_
        refine sx_iload (p1 := 39) dX11_gap_37 rfl rfl ?_
        refine sx_callVr (p1 := 42) (As := [_]) (k1 := 0) (n1 := 0) dX11_gap_39 rfl rfl (v_X8_together (V := cV S) rfl hV hF (by omega)) mt_X8_together ml_X11_192 (hp_c15 _) rfl rfl (Nat.le_of_ble_eq_true rfl) rfl (Nat.le_of_ble_eq_true rfl) rfl rfl (Nat.le_of_ble_eq_true rfl) (Nat.le_of_ble_eq_true rfl) ?_
        refine sx_lstore (lo1 := [some _, some _, some _, some _, none, some _, some _, none]) (p1 := 44) dX11_gap_42 rfl (by decide) rfl ?_
        refine sx_lload (p1 := 46) dX11_gap_44 rfl rfl ?_
        refine sx_lload_n (p1 := 47) dX11_gap_46 rfl rfl ?_
        refine sx_lcmp_ge (p2 := 0) (p1 := 51) (tg := 57) dX11_gap_47 dX11_gap_48 rfl rfl (by omega) (by omega) (fun q47 => ?_) (fun q47 => ?_)
        · have zq4 : (mGb (cV S) (i + 1)) = (mGb (cV S) i) := if_neg (by omega)
          refine sx_iinc (lo1 := [some _, some _, some _, some _, none, some _, some _, none]) (p1 := 60) dX11_gap_57 rfl (by decide) rfl rfl ?_
          refine sx_goto (p1 := 27) (tg := 27) dX11_gap_60 rfl rfl ?_
          refine sx_drop [true, true, true, true, false, true, false, false] (lo1 := [some _, some _, some _, some _, none, some _, none, none]) rfl ?_
          have h9 := ih (i + 1) (by omega)
          rw [zq4] at h9
          exact h9
        · have zq4 : (mGb (cV S) (i + 1)) = ((i : Int) + 1, mAll (cV S) ((i : Int) + 1)) := if_pos (by omega)
          refine sx_lload (p1 := 53) dX11_gap_51 rfl rfl ?_
          refine sx_lstore_n (lo1 := [some _, some _, some _, some _, none, some _, some _, none]) (p1 := 54) dX11_gap_53 rfl (by decide) rfl ?_
          refine sx_iload (p1 := 56) dX11_gap_54 rfl rfl ?_
          refine sx_istore_n (lo1 := [some _, some _, some _, some _, none, some _, some _, none]) (p1 := 57) dX11_gap_56 rfl (by decide) rfl ?_
          refine sx_iinc (lo1 := [some _, some _, some _, some _, none, some _, some _, none]) (p1 := 60) dX11_gap_57 rfl (by decide) rfl rfl ?_
          refine sx_goto (p1 := 27) (tg := 27) dX11_gap_60 rfl rfl ?_
          refine sx_drop [true, true, true, true, false, true, false, false] (lo1 := [some _, some _, some _, some _, none, some _, none, none]) rfl ?_
          have h9 := ih (i + 1) (by omega)
          rw [zq4] at h9
          exact h9
    exact key _ 0 (Nat.zero_add _)
  refine Ct.of false [some (.ref 2), some (vI mo), none, none, none, none, none, none] (plainFor_of_name (by decide)) (fun h => by cases h) (Nat.le_of_ble_eq_true rfl) (fun _ => rfl) sx_isl ?_
  refine sx_iload_n (p1 := 1) dX11_gap_0 rfl rfl ?_
  refine sx_iconst (p1 := 2) dX11_gap_1 rfl ?_
  refine sx_bipush (p1 := 4) dX11_gap_2 rfl (by decide) ?_
  refine sx_callSr (p1 := 7) (As := [_, _, _]) (k1 := 0) (n1 := 0) dX11_gap_4 rfl rfl (c_X11_within (by omega) (by omega) (by omega)) mt_X11_within ml_X11_101 (Nat.le_of_ble_eq_true rfl) rfl (Nat.le_of_ble_eq_true rfl) rfl rfl (Nat.le_of_ble_eq_true rfl) (Nat.le_of_ble_eq_true rfl) ?_
  refine sx_if_ne (p1 := 10) (tg := 13) dX11_gap_7 rfl rfl (by omega) (fun q7 => ?_) (fun q7 => ?_)
  · rw [if_pos (by omega)]
    refine sx_iconst (p1 := 14) dX11_gap_13 rfl ?_
    refine sx_istore_n (lo1 := [some _, some _, some _, none, none, none, none, none]) (p1 := 15) dX11_gap_14 rfl (by decide) rfl ?_
    refine sx_aload_n (p1 := 16) dX11_gap_15 rfl rfl ?_
    refine sx_get (p1 := 19) dX11_gap_16 rfl fl_X11_47 (hp_c2 _) rfl ?_
    refine sx_iconst (p1 := 20) dX11_gap_19 rfl ?_
    refine sx_callVr (p1 := 23) (As := [_]) (k1 := 0) (n1 := 0) dX11_gap_20 rfl rfl (v_X8_together (V := cV S) rfl hV hF (by omega)) mt_X8_together ml_X11_192 (hp_c15 _) rfl rfl (Nat.le_of_ble_eq_true rfl) rfl (Nat.le_of_ble_eq_true rfl) rfl rfl (Nat.le_of_ble_eq_true rfl) (Nat.le_of_ble_eq_true rfl) ?_
    refine sx_lstore_n (lo1 := [some _, some _, some _, some _, none, none, none, none]) (p1 := 24) dX11_gap_23 rfl (by decide) rfl ?_
    refine sx_iconst (p1 := 25) dX11_gap_24 rfl ?_
    refine sx_istore (lo1 := [some _, some _, some _, some _, none, some _, none, none]) (p1 := 27) dX11_gap_25 rfl (by decide) rfl ?_
    exact zk (by omega)
  · rw [if_neg (by omega)]
    refine sx_bipush (p1 := 12) dX11_gap_10 rfl (by decide) ?_
    exact sx_iret dX11_gap_12 rfl (sx_ri (by rfl) (by rfl))
theorem mHb_lt {V : Vw} (gap k : Int) : ∀ {b : Nat}, 1 ≤ b → b ≤ 64 → 0 ≤ (mHb V gap k b).1 ∧ (mHb V gap k b).1 < 64
  | 0, h, _ => by omega
  | b + 1, _, h => by
    rw [mHb]
    split
    · show 0 ≤ (b : Int) ∧ (b : Int) < 64
      omega
    · by_cases e : b = 0
      · subst e
        simp [mHb]
      · exact mHb_lt gap k (by omega) (by omega)
set_option maxRecDepth 20000 in
theorem c_X11_helmets {X : sx_X} {S : St} {i j : Int} (hC : CI S) (hi : -2147483648 ≤ i ∧ i ≤ 2147483647) (hj : -2147483648 ≤ j ∧ j ≤ 2147483647)  : Ct X yX11_helmets cX11_helmets 4 (some .long) 5 0 0 [.ref 2, vI i, vI j] (hp S) (sx_is (some (vJ (if (0 ≤ i ∧ i ≤ (cV S).1 1) ∧ 0 ≤ j ∧ j ≤ 2 then (if j = 0 then (mHb (cV S) (S.1 6) i (2 ^ (S.1 4).toNat)).1 else mFrac (mHelm (cV S) (S.1 6) ((mHb (cV S) (S.1 6) i (2 ^ (S.1 4).toNat)).1).toNat) 256 (j - 1)) else -9223372036854775806))) (hp (if (0 ≤ i ∧ i ≤ (cV S).1 1) ∧ 0 ≤ j ∧ j ≤ 2 then sA S 23 (hmF (cV S) (S.1 6) (S.2 23) 12) else S))) := by
  obtain ⟨hV, hF, l0, l1, bT, bA, bB, bC, bSh, g3, g5⟩ := hC
  have b0 : 0 ≤ S.1 2 ∧ S.1 2 ≤ 16 := hV.1
  have b1 : 0 ≤ S.1 4 ∧ S.1 4 ≤ 6 := hV.2.1
  have b2 : 0 ≤ S.1 6 ∧ S.1 6 ≤ 99 := hV.2.2.1
  have b3 : 0 ≤ S.1 7 ∧ S.1 7 ≤ 1 := hV.2.2.2.1
  have b4 : 0 ≤ S.1 8 ∧ S.1 8 ≤ 16 := hV.2.2.2.2.1
  have b5 : 0 ≤ S.1 9 ∧ S.1 9 ≤ 999 := hV.2.2.2.2.2.1
  have b6 : 0 ≤ S.1 10 ∧ S.1 10 ≤ 1999 := hV.2.2.2.2.2.2.1
  have b7 : 0 ≤ S.1 11 ∧ S.1 11 ≤ 16 := hV.2.2.2.2.2.2.2.1
  have bK : ∀ q, 0 ≤ gK S q ∧ gK S q ≤ 3 := hV.2.2.2.2.2.2.2.2.1
  have bL : ∀ q, 0 ≤ gL S q ∧ gL S q ≤ 9 := hV.2.2.2.2.2.2.2.2.2.1
  have bW : ∀ q, 0 ≤ pW S q ∧ pW S q ≤ 9 := hV.2.2.2.2.2.2.2.2.2.2.1
  have bS : ∀ q, 0 ≤ pS S q ∧ pS S q ≤ 9 := hV.2.2.2.2.2.2.2.2.2.2.2.1
  have bH : ∀ q, 0 ≤ pH S q ∧ pH S q ≤ 1 := hV.2.2.2.2.2.2.2.2.2.2.2.2
  have c0 : 0 ≤ (cV S).1 0 ∧ (cV S).1 0 ≤ 16 := b0
  have c1 : 0 ≤ (cV S).1 1 ∧ (cV S).1 1 ≤ 6 := b1
  have c2 : 0 ≤ (cV S).1 2 ∧ (cV S).1 2 ≤ 99 := b2
  have c3 : 0 ≤ (cV S).1 3 ∧ (cV S).1 3 ≤ 1 := b3
  have c4 : 0 ≤ (cV S).1 4 ∧ (cV S).1 4 ≤ 16 := b4
  have c5 : 0 ≤ (cV S).1 5 ∧ (cV S).1 5 ≤ 999 := b5
  have c6 : 0 ≤ (cV S).1 6 ∧ (cV S).1 6 ≤ 1999 := b6
  have c7 : 0 ≤ (cV S).1 7 ∧ (cV S).1 7 ≤ 16 := b7
  have z1 := mHb_lt (V := cV S) (S.1 6) i (pow_b b1).1 (pow_b b1).2
  have z2 := mHelm_b hV (S.1 6) ((mHb (cV S) (S.1 6) i (2 ^ (S.1 4).toNat)).1).toNat
  have z3 : (mHb (cV S) (S.1 6) i (2 ^ (S.1 4).toNat)).1 = ((((mHb (cV S) (S.1 6) i (2 ^ (S.1 4).toNat)).1).toNat : Nat) : Int) := by omega
  refine Ct.of false [some (.ref 2), some (vI i), some (vI j), none] (plainFor_of_name (by decide)) (fun h => by cases h) (Nat.le_of_ble_eq_true rfl) (fun _ => rfl) sx_isl ?_
  refine sx_iload_n (p1 := 1) dX11_helmets_0 rfl rfl ?_
  refine sx_iconst (p1 := 2) dX11_helmets_1 rfl ?_
  refine sx_aload_n (p1 := 3) dX11_helmets_2 rfl rfl ?_
  refine sx_get (p1 := 6) dX11_helmets_3 rfl fl_X11_31 (hp_c2 _) rfl ?_
  refine sx_callVr (p1 := 9) (As := []) (k1 := 0) (n1 := 0) dX11_helmets_6 rfl rfl (v_X5_size (V := cV S) rfl hV) mt_X5_size ml_X11_216 (hp_c10 _) rfl rfl (Nat.le_of_ble_eq_true rfl) rfl (Nat.le_of_ble_eq_true rfl) rfl rfl (Nat.le_of_ble_eq_true rfl) (Nat.le_of_ble_eq_true rfl) ?_
  refine sx_callSr (p1 := 12) (As := [_, _, _]) (k1 := 0) (n1 := 0) dX11_helmets_9 rfl rfl (c_X11_within (by omega) (by omega) (by omega)) mt_X11_within ml_X11_101 (Nat.le_of_ble_eq_true rfl) rfl (Nat.le_of_ble_eq_true rfl) rfl rfl (Nat.le_of_ble_eq_true rfl) (Nat.le_of_ble_eq_true rfl) ?_
  refine sx_if_eq (p1 := 15) (tg := 24) dX11_helmets_12 rfl rfl (by omega) (fun q12 => ?_) (fun q12 => ?_)
  · refine sx_bipush (p1 := 26) dX11_helmets_24 rfl (by decide) ?_
    refine sx_callSr (p1 := 29) (As := [_]) (k1 := 0) (n1 := 0) dX11_helmets_26 rfl rfl (c_X11_refusal (by omega)) mt_X11_refusal ml_X11_168 (Nat.le_of_ble_eq_true rfl) rfl (Nat.le_of_ble_eq_true rfl) rfl rfl (Nat.le_of_ble_eq_true rfl) (Nat.le_of_ble_eq_true rfl) ?_
    exact sx_lret dX11_helmets_29 rfl (sx_rj (by first | omega | ((repeat' split) <;> first | omega | rfl)) (by rw [if_neg (by omega)]))
  · refine sx_iload_n (p1 := 16) dX11_helmets_15 rfl rfl ?_
    refine sx_iconst (p1 := 17) dX11_helmets_16 rfl ?_
    refine sx_iconst (p1 := 18) dX11_helmets_17 rfl ?_
    refine sx_callSr (p1 := 21) (As := [_, _, _]) (k1 := 0) (n1 := 0) dX11_helmets_18 rfl rfl (c_X11_within (by omega) (by omega) (by omega)) mt_X11_within ml_X11_101 (Nat.le_of_ble_eq_true rfl) rfl (Nat.le_of_ble_eq_true rfl) rfl rfl (Nat.le_of_ble_eq_true rfl) (Nat.le_of_ble_eq_true rfl) ?_
    refine sx_if_ne (p1 := 24) (tg := 30) dX11_helmets_21 rfl rfl (by omega) (fun q21 => ?_) (fun q21 => ?_)
    · refine sx_aload_n (p1 := 31) dX11_helmets_30 rfl rfl ?_
      refine sx_get (p1 := 34) dX11_helmets_31 rfl fl_X11_63 (hp_c2 _) rfl ?_
      refine sx_iload_n (p1 := 35) dX11_helmets_34 rfl rfl ?_
      refine sx_callVr (p1 := 38) (As := [_]) (k1 := 0) (n1 := 0) dX11_helmets_35 rfl rfl (c_X1_search hV hF (by omega)) mt_X1_search ml_X11_219 (hp_c22 _) rfl rfl (Nat.le_of_ble_eq_true rfl) rfl (Nat.le_of_ble_eq_true rfl) rfl rfl (Nat.le_of_ble_eq_true rfl) (Nat.le_of_ble_eq_true rfl) ?_
      refine sx_istore_n (lo1 := [some _, some _, some _, some _]) (p1 := 39) dX11_helmets_38 rfl (by decide) rfl ?_
      refine sx_iload_n (p1 := 40) dX11_helmets_39 rfl rfl ?_
      refine sx_if_ne (p1 := 43) (tg := 48) dX11_helmets_40 rfl rfl (by omega) (fun q40 => ?_) (fun q40 => ?_)
      · refine sx_aload_n (p1 := 49) dX11_helmets_48 rfl rfl ?_
        refine sx_get (p1 := 52) dX11_helmets_49 rfl fl_X11_63 (hp_c2 _) rfl ?_
        refine sx_iload_n (p1 := 53) dX11_helmets_52 rfl rfl ?_
        rw [z3]
        refine sx_callVr (p1 := 56) (As := [_]) (k1 := 0) (n1 := 0) dX11_helmets_53 rfl rfl (c_X1_harmWith hV (by omega)) mt_X1_harmWith ml_X11_221 (hp_c22 _) rfl rfl (Nat.le_of_ble_eq_true rfl) rfl (Nat.le_of_ble_eq_true rfl) rfl rfl (Nat.le_of_ble_eq_true rfl) (Nat.le_of_ble_eq_true rfl) ?_
        refine sx_ldc2 (z := 256) (p1 := 59) dX11_helmets_56 rfl kc_X11_183 (by decide) ?_
        refine sx_iload_n (p1 := 60) dX11_helmets_59 rfl rfl ?_
        refine sx_iconst (p1 := 61) dX11_helmets_60 rfl ?_
        refine sx_isub (p1 := 62) dX11_helmets_61 rfl ?_
        refine sx_callSr (p1 := 65) (As := [_, _, _]) (k1 := 0) (n1 := 0) dX11_helmets_62 rfl rfl (c_X11_fraction (by omega) (by omega) (by omega)) mt_X11_fraction ml_X11_185 (Nat.le_of_ble_eq_true rfl) rfl (Nat.le_of_ble_eq_true rfl) rfl rfl (Nat.le_of_ble_eq_true rfl) (Nat.le_of_ble_eq_true rfl) ?_
        exact sx_lret dX11_helmets_65 rfl (sx_rj (by rw [if_pos (by omega)]; first | (rw [if_pos (by omega)]; done) | (rw [if_neg (by omega)]; rfl)) (by rw [if_pos (by omega)]))
      · refine sx_iload_n (p1 := 44) dX11_helmets_43 rfl rfl ?_
        refine sx_i2l (p1 := 45) dX11_helmets_44 rfl (by omega) ?_
        refine sx_goto (p1 := 65) (tg := 65) dX11_helmets_45 rfl rfl ?_
        exact sx_lret dX11_helmets_65 rfl (sx_rj (by rw [if_pos (by omega)]; first | (rw [if_pos (by omega)]; done) | (rw [if_neg (by omega)]; rfl)) (by rw [if_pos (by omega)]))
    · refine sx_bipush (p1 := 26) dX11_helmets_24 rfl (by decide) ?_
      refine sx_callSr (p1 := 29) (As := [_]) (k1 := 0) (n1 := 0) dX11_helmets_26 rfl rfl (c_X11_refusal (by omega)) mt_X11_refusal ml_X11_168 (Nat.le_of_ble_eq_true rfl) rfl (Nat.le_of_ble_eq_true rfl) rfl rfl (Nat.le_of_ble_eq_true rfl) (Nat.le_of_ble_eq_true rfl) ?_
      exact sx_lret dX11_helmets_29 rfl (sx_rj (by first | omega | ((repeat' split) <;> first | omega | rfl)) (by rw [if_neg (by omega)]))
set_option maxRecDepth 20000 in
theorem c_X11_waits {X : sx_X} {S : St} {i j k l : Int} (hC : CI S) (hi : -2147483648 ≤ i ∧ i ≤ 2147483647) (hj : -2147483648 ≤ j ∧ j ≤ 2147483647) (hk : -2147483648 ≤ k ∧ k ≤ 2147483647) (hl : -2147483648 ≤ l ∧ l ≤ 2147483647)  : Ct X yX11_waits cX11_waits 7 (some .long) 5 0 0 [.ref 2, vI i, vI j, vI k, vI l] (hp S) (sx_is (some (vJ (if (1 ≤ i ∧ i ≤ 6) ∧ (0 ≤ j ∧ j ≤ 99) ∧ (0 ≤ k ∧ k ≤ 999) ∧ 0 ≤ l ∧ l ≤ 2 then (if l = 0 then (mWb (cV S) i j k 99).1 else mFrac (mPaid (cV S) i j k (mWb (cV S) i j k 99).1) 256 (l - 1)) else -9223372036854775806))) (hp (S))) := by
  obtain ⟨hV, hF, l0, l1, bT, bA, bB, bC, bSh, g3, g5⟩ := hC
  have b0 : 0 ≤ S.1 2 ∧ S.1 2 ≤ 16 := hV.1
  have b1 : 0 ≤ S.1 4 ∧ S.1 4 ≤ 6 := hV.2.1
  have b2 : 0 ≤ S.1 6 ∧ S.1 6 ≤ 99 := hV.2.2.1
  have b3 : 0 ≤ S.1 7 ∧ S.1 7 ≤ 1 := hV.2.2.2.1
  have b4 : 0 ≤ S.1 8 ∧ S.1 8 ≤ 16 := hV.2.2.2.2.1
  have b5 : 0 ≤ S.1 9 ∧ S.1 9 ≤ 999 := hV.2.2.2.2.2.1
  have b6 : 0 ≤ S.1 10 ∧ S.1 10 ≤ 1999 := hV.2.2.2.2.2.2.1
  have b7 : 0 ≤ S.1 11 ∧ S.1 11 ≤ 16 := hV.2.2.2.2.2.2.2.1
  have bK : ∀ q, 0 ≤ gK S q ∧ gK S q ≤ 3 := hV.2.2.2.2.2.2.2.2.1
  have bL : ∀ q, 0 ≤ gL S q ∧ gL S q ≤ 9 := hV.2.2.2.2.2.2.2.2.2.1
  have bW : ∀ q, 0 ≤ pW S q ∧ pW S q ≤ 9 := hV.2.2.2.2.2.2.2.2.2.2.1
  have bS : ∀ q, 0 ≤ pS S q ∧ pS S q ≤ 9 := hV.2.2.2.2.2.2.2.2.2.2.2.1
  have bH : ∀ q, 0 ≤ pH S q ∧ pH S q ≤ 1 := hV.2.2.2.2.2.2.2.2.2.2.2.2
  have c0 : 0 ≤ (cV S).1 0 ∧ (cV S).1 0 ≤ 16 := b0
  have c1 : 0 ≤ (cV S).1 1 ∧ (cV S).1 1 ≤ 6 := b1
  have c2 : 0 ≤ (cV S).1 2 ∧ (cV S).1 2 ≤ 99 := b2
  have c3 : 0 ≤ (cV S).1 3 ∧ (cV S).1 3 ≤ 1 := b3
  have c4 : 0 ≤ (cV S).1 4 ∧ (cV S).1 4 ≤ 16 := b4
  have c5 : 0 ≤ (cV S).1 5 ∧ (cV S).1 5 ≤ 999 := b5
  have c6 : 0 ≤ (cV S).1 6 ∧ (cV S).1 6 ≤ 1999 := b6
  have c7 : 0 ≤ (cV S).1 7 ∧ (cV S).1 7 ≤ 16 := b7
  refine Ct.of false [some (.ref 2), some (vI i), some (vI j), some (vI k), some (vI l), none, none] (plainFor_of_name (by decide)) (fun h => by cases h) (Nat.le_of_ble_eq_true rfl) (fun _ => rfl) sx_isl ?_
  refine sx_iload_n (p1 := 1) dX11_waits_0 rfl rfl ?_
  refine sx_iconst (p1 := 2) dX11_waits_1 rfl ?_
  refine sx_bipush (p1 := 4) dX11_waits_2 rfl (by decide) ?_
  refine sx_callSr (p1 := 7) (As := [_, _, _]) (k1 := 0) (n1 := 0) dX11_waits_4 rfl rfl (c_X11_within (by omega) (by omega) (by omega)) mt_X11_within ml_X11_101 (Nat.le_of_ble_eq_true rfl) rfl (Nat.le_of_ble_eq_true rfl) rfl rfl (Nat.le_of_ble_eq_true rfl) (Nat.le_of_ble_eq_true rfl) ?_
  refine sx_if_eq (p1 := 10) (tg := 35) dX11_waits_7 rfl rfl (by omega) (fun q7 => ?_) (fun q7 => ?_)
  · refine sx_iconst (p1 := 36) dX11_waits_35 rfl ?_
    refine sx_istore (lo1 := [some _, some _, some _, some _, some _, some _, none]) (p1 := 38) dX11_waits_36 rfl (by decide) rfl ?_
    refine sx_iload (p1 := 40) dX11_waits_38 rfl rfl ?_
    refine sx_if_eq (p1 := 43) (tg := 53) dX11_waits_40 rfl rfl (by omega) (fun q40 => ?_) (fun q40 => absurd q40 (by omega))
    refine sx_bipush (p1 := 55) dX11_waits_53 rfl (by decide) ?_
    refine sx_callSr (p1 := 58) (As := [_]) (k1 := 0) (n1 := 0) dX11_waits_55 rfl rfl (c_X11_refusal (by omega)) mt_X11_refusal ml_X11_168 (Nat.le_of_ble_eq_true rfl) rfl (Nat.le_of_ble_eq_true rfl) rfl rfl (Nat.le_of_ble_eq_true rfl) (Nat.le_of_ble_eq_true rfl) ?_
    exact sx_lret dX11_waits_58 rfl (sx_rj (by first | omega | ((repeat' split) <;> first | omega | rfl)) (by rfl))
  · refine sx_iload_n (p1 := 11) dX11_waits_10 rfl rfl ?_
    refine sx_iconst (p1 := 12) dX11_waits_11 rfl ?_
    refine sx_bipush (p1 := 14) dX11_waits_12 rfl (by decide) ?_
    refine sx_callSr (p1 := 17) (As := [_, _, _]) (k1 := 0) (n1 := 0) dX11_waits_14 rfl rfl (c_X11_within (by omega) (by omega) (by omega)) mt_X11_within ml_X11_101 (Nat.le_of_ble_eq_true rfl) rfl (Nat.le_of_ble_eq_true rfl) rfl rfl (Nat.le_of_ble_eq_true rfl) (Nat.le_of_ble_eq_true rfl) ?_
    refine sx_if_eq (p1 := 20) (tg := 35) dX11_waits_17 rfl rfl (by omega) (fun q17 => ?_) (fun q17 => ?_)
    · refine sx_iconst (p1 := 36) dX11_waits_35 rfl ?_
      refine sx_istore (lo1 := [some _, some _, some _, some _, some _, some _, none]) (p1 := 38) dX11_waits_36 rfl (by decide) rfl ?_
      refine sx_iload (p1 := 40) dX11_waits_38 rfl rfl ?_
      refine sx_if_eq (p1 := 43) (tg := 53) dX11_waits_40 rfl rfl (by omega) (fun q40 => ?_) (fun q40 => absurd q40 (by omega))
      refine sx_bipush (p1 := 55) dX11_waits_53 rfl (by decide) ?_
      refine sx_callSr (p1 := 58) (As := [_]) (k1 := 0) (n1 := 0) dX11_waits_55 rfl rfl (c_X11_refusal (by omega)) mt_X11_refusal ml_X11_168 (Nat.le_of_ble_eq_true rfl) rfl (Nat.le_of_ble_eq_true rfl) rfl rfl (Nat.le_of_ble_eq_true rfl) (Nat.le_of_ble_eq_true rfl) ?_
      exact sx_lret dX11_waits_58 rfl (sx_rj (by first | omega | ((repeat' split) <;> first | omega | rfl)) (by rfl))
    · refine sx_iload_n (p1 := 21) dX11_waits_20 rfl rfl ?_
      refine sx_iconst (p1 := 22) dX11_waits_21 rfl ?_
      refine sx_sipush (p1 := 25) dX11_waits_22 rfl (by decide) ?_
      refine sx_callSr (p1 := 28) (As := [_, _, _]) (k1 := 0) (n1 := 0) dX11_waits_25 rfl rfl (c_X11_within (by omega) (by omega) (by omega)) mt_X11_within ml_X11_101 (Nat.le_of_ble_eq_true rfl) rfl (Nat.le_of_ble_eq_true rfl) rfl rfl (Nat.le_of_ble_eq_true rfl) (Nat.le_of_ble_eq_true rfl) ?_
      refine sx_if_eq (p1 := 31) (tg := 35) dX11_waits_28 rfl rfl (by omega) (fun q28 => ?_) (fun q28 => ?_)
      · refine sx_iconst (p1 := 36) dX11_waits_35 rfl ?_
        refine sx_istore (lo1 := [some _, some _, some _, some _, some _, some _, none]) (p1 := 38) dX11_waits_36 rfl (by decide) rfl ?_
        refine sx_iload (p1 := 40) dX11_waits_38 rfl rfl ?_
        refine sx_if_eq (p1 := 43) (tg := 53) dX11_waits_40 rfl rfl (by omega) (fun q40 => ?_) (fun q40 => absurd q40 (by omega))
        refine sx_bipush (p1 := 55) dX11_waits_53 rfl (by decide) ?_
        refine sx_callSr (p1 := 58) (As := [_]) (k1 := 0) (n1 := 0) dX11_waits_55 rfl rfl (c_X11_refusal (by omega)) mt_X11_refusal ml_X11_168 (Nat.le_of_ble_eq_true rfl) rfl (Nat.le_of_ble_eq_true rfl) rfl rfl (Nat.le_of_ble_eq_true rfl) (Nat.le_of_ble_eq_true rfl) ?_
        exact sx_lret dX11_waits_58 rfl (sx_rj (by first | omega | ((repeat' split) <;> first | omega | rfl)) (by rfl))
      · refine sx_iconst (p1 := 32) dX11_waits_31 rfl ?_
        refine sx_goto (p1 := 36) (tg := 36) dX11_waits_32 rfl rfl ?_
        refine sx_istore (lo1 := [some _, some _, some _, some _, some _, some _, none]) (p1 := 38) dX11_waits_36 rfl (by decide) rfl ?_
        refine sx_iload (p1 := 40) dX11_waits_38 rfl rfl ?_
        refine sx_if_eq (p1 := 43) (tg := 53) dX11_waits_40 rfl rfl (by omega) (fun q40 => absurd q40 (by omega)) (fun q40 => ?_)
        refine sx_iload (p1 := 45) dX11_waits_43 rfl rfl ?_
        refine sx_iconst (p1 := 46) dX11_waits_45 rfl ?_
        refine sx_iconst (p1 := 47) dX11_waits_46 rfl ?_
        refine sx_callSr (p1 := 50) (As := [_, _, _]) (k1 := 0) (n1 := 0) dX11_waits_47 rfl rfl (c_X11_within (by omega) (by omega) (by omega)) mt_X11_within ml_X11_101 (Nat.le_of_ble_eq_true rfl) rfl (Nat.le_of_ble_eq_true rfl) rfl rfl (Nat.le_of_ble_eq_true rfl) (Nat.le_of_ble_eq_true rfl) ?_
        refine sx_if_ne (p1 := 53) (tg := 59) dX11_waits_50 rfl rfl (by omega) (fun q50 => ?_) (fun q50 => ?_)
        · refine sx_aload_n (p1 := 60) dX11_waits_59 rfl rfl ?_
          refine sx_get (p1 := 63) dX11_waits_60 rfl fl_X11_70 (hp_c2 _) rfl ?_
          refine sx_iload_n (p1 := 64) dX11_waits_63 rfl rfl ?_
          refine sx_iload_n (p1 := 65) dX11_waits_64 rfl rfl ?_
          refine sx_iload_n (p1 := 66) dX11_waits_65 rfl rfl ?_
          refine sx_callVr (p1 := 69) (As := [_, _, _]) (k1 := 0) (n1 := 0) dX11_waits_66 rfl rfl (v_X4_bestWait (V := cV S) rfl hV (by omega) (by omega) (by omega)) mt_X4_bestWait ml_X11_224 (hp_c24 _) rfl rfl (Nat.le_of_ble_eq_true rfl) rfl (Nat.le_of_ble_eq_true rfl) rfl rfl (Nat.le_of_ble_eq_true rfl) (Nat.le_of_ble_eq_true rfl) ?_
          refine sx_istore (lo1 := [some _, some _, some _, some _, some _, some _, some _]) (p1 := 71) dX11_waits_69 rfl (by decide) rfl ?_
          have zw := (mWb_b hV (n := i) (co := k) (by omega) (by omega) j 99 (by omega)).2
          refine sx_iload (p1 := 73) dX11_waits_71 rfl rfl ?_
          refine sx_if_ne (p1 := 76) (tg := 82) dX11_waits_73 rfl rfl (by omega) (fun q73 => ?_) (fun q73 => ?_)
          · have zp := mPaid_b hV (n := i) (co := k) (wa := (mWb (cV S) i j k 99).1) (by omega) (by omega) (by omega) j
            refine sx_aload_n (p1 := 83) dX11_waits_82 rfl rfl ?_
            refine sx_get (p1 := 86) dX11_waits_83 rfl fl_X11_70 (hp_c2 _) rfl ?_
            refine sx_iload_n (p1 := 87) dX11_waits_86 rfl rfl ?_
            refine sx_iload_n (p1 := 88) dX11_waits_87 rfl rfl ?_
            refine sx_iload_n (p1 := 89) dX11_waits_88 rfl rfl ?_
            refine sx_iload (p1 := 91) dX11_waits_89 rfl rfl ?_
            refine sx_callVr (p1 := 94) (As := [_, _, _, _]) (k1 := 0) (n1 := 0) dX11_waits_91 rfl rfl (v_X4_paid (V := cV S) rfl hV (by omega) (by omega) (by omega) (by omega)) mt_X4_paid ml_X11_227 (hp_c24 _) rfl rfl (Nat.le_of_ble_eq_true rfl) rfl (Nat.le_of_ble_eq_true rfl) rfl rfl (Nat.le_of_ble_eq_true rfl) (Nat.le_of_ble_eq_true rfl) ?_
            refine sx_ldc2 (z := 256) (p1 := 97) dX11_waits_94 rfl kc_X11_183 (by decide) ?_
            refine sx_iload (p1 := 99) dX11_waits_97 rfl rfl ?_
            refine sx_iconst (p1 := 100) dX11_waits_99 rfl ?_
            refine sx_isub (p1 := 101) dX11_waits_100 rfl ?_
            refine sx_callSr (p1 := 104) (As := [_, _, _]) (k1 := 0) (n1 := 0) dX11_waits_101 rfl rfl (c_X11_fraction (by omega) (by omega) (by omega)) mt_X11_fraction ml_X11_185 (Nat.le_of_ble_eq_true rfl) rfl (Nat.le_of_ble_eq_true rfl) rfl rfl (Nat.le_of_ble_eq_true rfl) (Nat.le_of_ble_eq_true rfl) ?_
            exact sx_lret dX11_waits_104 rfl (sx_rj (by first | omega | ((repeat' split) <;> first | omega | rfl)) (by rfl))
          · refine sx_iload (p1 := 78) dX11_waits_76 rfl rfl ?_
            refine sx_i2l (p1 := 79) dX11_waits_78 rfl (by omega) ?_
            refine sx_goto (p1 := 104) (tg := 104) dX11_waits_79 rfl rfl ?_
            exact sx_lret dX11_waits_104 rfl (sx_rj (by first | omega | ((repeat' split) <;> first | omega | rfl)) (by rfl))
        · refine sx_bipush (p1 := 55) dX11_waits_53 rfl (by decide) ?_
          refine sx_callSr (p1 := 58) (As := [_]) (k1 := 0) (n1 := 0) dX11_waits_55 rfl rfl (c_X11_refusal (by omega)) mt_X11_refusal ml_X11_168 (Nat.le_of_ble_eq_true rfl) rfl (Nat.le_of_ble_eq_true rfl) rfl rfl (Nat.le_of_ble_eq_true rfl) (Nat.le_of_ble_eq_true rfl) ?_
          exact sx_lret dX11_waits_58 rfl (sx_rj (by first | omega | ((repeat' split) <;> first | omega | rfl)) (by rfl))
set_option maxRecDepth 20000 in
theorem c_X11_foot {X : sx_X} {S : St} {i j k : Int} (hC : CI S) (hi : -2147483648 ≤ i ∧ i ≤ 2147483647) (hj : -2147483648 ≤ j ∧ j ≤ 2147483647) (hk : -2147483648 ≤ k ∧ k ≤ 2147483647)  : Ct X yX11_foot cX11_foot 6 (some .long) 4 0 0 [.ref 2, vI i, vI j, vI k] (hp S) (sx_is (some (vJ (if (0 ≤ i ∧ i < (cV S).1 0) ∧ (0 ≤ j ∧ j ≤ 1999) ∧ 0 ≤ k ∧ k ≤ 1 then (if mFoot (cV S) i j + (if 0 < (cV S).2 1 i ∧ (cV S).1 6 ≤ j then (cV S).1 7 else 0) = 0 then -9223372036854775805 else mFrac (mFoot (cV S) i j) (mFoot (cV S) i j + (if 0 < (cV S).2 1 i ∧ (cV S).1 6 ≤ j then (cV S).1 7 else 0)) k) else -9223372036854775806))) (hp (S))) := by
  obtain ⟨hV, hF, l0, l1, bT, bA, bB, bC, bSh, g3, g5⟩ := hC
  have b0 : 0 ≤ S.1 2 ∧ S.1 2 ≤ 16 := hV.1
  have b1 : 0 ≤ S.1 4 ∧ S.1 4 ≤ 6 := hV.2.1
  have b2 : 0 ≤ S.1 6 ∧ S.1 6 ≤ 99 := hV.2.2.1
  have b3 : 0 ≤ S.1 7 ∧ S.1 7 ≤ 1 := hV.2.2.2.1
  have b4 : 0 ≤ S.1 8 ∧ S.1 8 ≤ 16 := hV.2.2.2.2.1
  have b5 : 0 ≤ S.1 9 ∧ S.1 9 ≤ 999 := hV.2.2.2.2.2.1
  have b6 : 0 ≤ S.1 10 ∧ S.1 10 ≤ 1999 := hV.2.2.2.2.2.2.1
  have b7 : 0 ≤ S.1 11 ∧ S.1 11 ≤ 16 := hV.2.2.2.2.2.2.2.1
  have bK : ∀ q, 0 ≤ gK S q ∧ gK S q ≤ 3 := hV.2.2.2.2.2.2.2.2.1
  have bL : ∀ q, 0 ≤ gL S q ∧ gL S q ≤ 9 := hV.2.2.2.2.2.2.2.2.2.1
  have bW : ∀ q, 0 ≤ pW S q ∧ pW S q ≤ 9 := hV.2.2.2.2.2.2.2.2.2.2.1
  have bS : ∀ q, 0 ≤ pS S q ∧ pS S q ≤ 9 := hV.2.2.2.2.2.2.2.2.2.2.2.1
  have bH : ∀ q, 0 ≤ pH S q ∧ pH S q ≤ 1 := hV.2.2.2.2.2.2.2.2.2.2.2.2
  have c0 : 0 ≤ (cV S).1 0 ∧ (cV S).1 0 ≤ 16 := b0
  have c1 : 0 ≤ (cV S).1 1 ∧ (cV S).1 1 ≤ 6 := b1
  have c2 : 0 ≤ (cV S).1 2 ∧ (cV S).1 2 ≤ 99 := b2
  have c3 : 0 ≤ (cV S).1 3 ∧ (cV S).1 3 ≤ 1 := b3
  have c4 : 0 ≤ (cV S).1 4 ∧ (cV S).1 4 ≤ 16 := b4
  have c5 : 0 ≤ (cV S).1 5 ∧ (cV S).1 5 ≤ 999 := b5
  have c6 : 0 ≤ (cV S).1 6 ∧ (cV S).1 6 ≤ 1999 := b6
  have c7 : 0 ≤ (cV S).1 7 ∧ (cV S).1 7 ≤ 16 := b7
  have zf := mFoot_b hV i j
  have zs : 0 ≤ (if 0 < (cV S).2 1 i ∧ (cV S).1 6 ≤ j then (cV S).1 7 else 0) ∧ (if 0 < (cV S).2 1 i ∧ (cV S).1 6 ≤ j then (cV S).1 7 else 0) ≤ 16 := by split <;> omega
  generalize hE : (if 0 < (cV S).2 1 i ∧ (cV S).1 6 ≤ j then (cV S).1 7 else 0) = E at zs ⊢
  refine Ct.of false [some (.ref 2), some (vI i), some (vI j), some (vI k), none, none] (plainFor_of_name (by decide)) (fun h => by cases h) (Nat.le_of_ble_eq_true rfl) (fun _ => rfl) sx_isl ?_
  refine sx_aload_n (p1 := 1) dX11_foot_0 rfl rfl ?_
  refine sx_get (p1 := 4) dX11_foot_1 rfl fl_X11_24 (hp_c2 _) rfl ?_
  refine sx_iload_n (p1 := 5) dX11_foot_4 rfl rfl ?_
  refine sx_callVr (p1 := 8) (As := [_]) (k1 := 0) (n1 := 0) dX11_foot_5 rfl rfl (v_X0_has (V := cV S) rfl hV (by omega)) mt_X0_has ml_X11_126 (hp_c7 _) rfl rfl (Nat.le_of_ble_eq_true rfl) rfl (Nat.le_of_ble_eq_true rfl) rfl rfl (Nat.le_of_ble_eq_true rfl) (Nat.le_of_ble_eq_true rfl) ?_
  refine sx_if_eq (p1 := 11) (tg := 31) dX11_foot_8 rfl rfl (by omega) (fun q8 => ?_) (fun q8 => ?_)
  · refine sx_bipush (p1 := 33) dX11_foot_31 rfl (by decide) ?_
    refine sx_callSr (p1 := 36) (As := [_]) (k1 := 0) (n1 := 0) dX11_foot_33 rfl rfl (c_X11_refusal (by omega)) mt_X11_refusal ml_X11_168 (Nat.le_of_ble_eq_true rfl) rfl (Nat.le_of_ble_eq_true rfl) rfl rfl (Nat.le_of_ble_eq_true rfl) (Nat.le_of_ble_eq_true rfl) ?_
    exact sx_lret dX11_foot_36 rfl (sx_rj (by first | omega | ((repeat' split) <;> first | omega | rfl)) (by rfl))
  · refine sx_iload_n (p1 := 12) dX11_foot_11 rfl rfl ?_
    refine sx_iconst (p1 := 13) dX11_foot_12 rfl ?_
    refine sx_sipush (p1 := 16) dX11_foot_13 rfl (by decide) ?_
    refine sx_callSr (p1 := 19) (As := [_, _, _]) (k1 := 0) (n1 := 0) dX11_foot_16 rfl rfl (c_X11_within (by omega) (by omega) (by omega)) mt_X11_within ml_X11_101 (Nat.le_of_ble_eq_true rfl) rfl (Nat.le_of_ble_eq_true rfl) rfl rfl (Nat.le_of_ble_eq_true rfl) (Nat.le_of_ble_eq_true rfl) ?_
    refine sx_if_eq (p1 := 22) (tg := 31) dX11_foot_19 rfl rfl (by omega) (fun q19 => ?_) (fun q19 => ?_)
    · refine sx_bipush (p1 := 33) dX11_foot_31 rfl (by decide) ?_
      refine sx_callSr (p1 := 36) (As := [_]) (k1 := 0) (n1 := 0) dX11_foot_33 rfl rfl (c_X11_refusal (by omega)) mt_X11_refusal ml_X11_168 (Nat.le_of_ble_eq_true rfl) rfl (Nat.le_of_ble_eq_true rfl) rfl rfl (Nat.le_of_ble_eq_true rfl) (Nat.le_of_ble_eq_true rfl) ?_
      exact sx_lret dX11_foot_36 rfl (sx_rj (by first | omega | ((repeat' split) <;> first | omega | rfl)) (by rfl))
    · refine sx_iload_n (p1 := 23) dX11_foot_22 rfl rfl ?_
      refine sx_iconst (p1 := 24) dX11_foot_23 rfl ?_
      refine sx_iconst (p1 := 25) dX11_foot_24 rfl ?_
      refine sx_callSr (p1 := 28) (As := [_, _, _]) (k1 := 0) (n1 := 0) dX11_foot_25 rfl rfl (c_X11_within (by omega) (by omega) (by omega)) mt_X11_within ml_X11_101 (Nat.le_of_ble_eq_true rfl) rfl (Nat.le_of_ble_eq_true rfl) rfl rfl (Nat.le_of_ble_eq_true rfl) (Nat.le_of_ble_eq_true rfl) ?_
      refine sx_if_ne (p1 := 31) (tg := 37) dX11_foot_28 rfl rfl (by omega) (fun q28 => ?_) (fun q28 => ?_)
      · refine sx_aload_n (p1 := 38) dX11_foot_37 rfl rfl ?_
        refine sx_get (p1 := 41) dX11_foot_38 rfl fl_X11_47 (hp_c2 _) rfl ?_
        refine sx_iload_n (p1 := 42) dX11_foot_41 rfl rfl ?_
        refine sx_iload_n (p1 := 43) dX11_foot_42 rfl rfl ?_
        refine sx_callVr (p1 := 46) (As := [_, _]) (k1 := 0) (n1 := 0) dX11_foot_43 rfl rfl (v_X8_oddsOfFeet (V := cV S) rfl hV (by omega) (by omega)) mt_X8_oddsOfFeet ml_X11_231 (hp_c15 _) rfl rfl (Nat.le_of_ble_eq_true rfl) rfl (Nat.le_of_ble_eq_true rfl) rfl rfl (Nat.le_of_ble_eq_true rfl) (Nat.le_of_ble_eq_true rfl) ?_
        refine sx_istore (lo1 := [some _, some _, some _, some _, some _, none]) (p1 := 48) dX11_foot_46 rfl (by decide) rfl ?_
        refine sx_iload (p1 := 50) dX11_foot_48 rfl rfl ?_
        refine sx_aload_n (p1 := 51) dX11_foot_50 rfl rfl ?_
        refine sx_get (p1 := 54) dX11_foot_51 rfl fl_X11_47 (hp_c2 _) rfl ?_
        refine sx_iload_n (p1 := 55) dX11_foot_54 rfl rfl ?_
        refine sx_iload_n (p1 := 56) dX11_foot_55 rfl rfl ?_
        refine sx_callVr (p1 := 59) (As := [_, _]) (k1 := 0) (n1 := 0) dX11_foot_56 rfl rfl (v_X8_oddsOfSun (V := cV S) rfl hV (by omega) (by omega)) mt_X8_oddsOfSun ml_X11_234 (hp_c15 _) rfl rfl (Nat.le_of_ble_eq_true rfl) rfl (Nat.le_of_ble_eq_true rfl) rfl rfl (Nat.le_of_ble_eq_true rfl) (Nat.le_of_ble_eq_true rfl) ?_
        rw [hE]
        refine sx_iadd (p1 := 60) dX11_foot_59 rfl ?_
        refine sx_istore (lo1 := [some _, some _, some _, some _, some _, some _]) (p1 := 62) dX11_foot_60 rfl (by decide) rfl ?_
        refine sx_iload (p1 := 64) dX11_foot_62 rfl rfl ?_
        refine sx_if_ne (p1 := 67) (tg := 75) dX11_foot_64 rfl rfl (by omega) (fun q64 => ?_) (fun q64 => ?_)
        · refine sx_iload (p1 := 77) dX11_foot_75 rfl rfl ?_
          refine sx_i2l (p1 := 78) dX11_foot_77 rfl (by omega) ?_
          refine sx_iload (p1 := 80) dX11_foot_78 rfl rfl ?_
          refine sx_i2l (p1 := 81) dX11_foot_80 rfl (by omega) ?_
          refine sx_iload_n (p1 := 82) dX11_foot_81 rfl rfl ?_
          refine sx_callSr (p1 := 85) (As := [_, _, _]) (k1 := 0) (n1 := 0) dX11_foot_82 rfl rfl (c_X11_fraction (by omega) (by omega) (by omega)) mt_X11_fraction ml_X11_185 (Nat.le_of_ble_eq_true rfl) rfl (Nat.le_of_ble_eq_true rfl) rfl rfl (Nat.le_of_ble_eq_true rfl) (Nat.le_of_ble_eq_true rfl) ?_
          exact sx_lret dX11_foot_85 rfl (sx_rj (by first | omega | ((repeat' split) <;> first | omega | rfl)) (by rfl))
        · refine sx_bipush (p1 := 69) dX11_foot_67 rfl (by decide) ?_
          refine sx_callSr (p1 := 72) (As := [_]) (k1 := 0) (n1 := 0) dX11_foot_69 rfl rfl (c_X11_refusal (by omega)) mt_X11_refusal ml_X11_168 (Nat.le_of_ble_eq_true rfl) rfl (Nat.le_of_ble_eq_true rfl) rfl rfl (Nat.le_of_ble_eq_true rfl) (Nat.le_of_ble_eq_true rfl) ?_
          refine sx_goto (p1 := 85) (tg := 85) dX11_foot_72 rfl rfl ?_
          exact sx_lret dX11_foot_85 rfl (sx_rj (by first | omega | ((repeat' split) <;> first | omega | rfl)) (by rfl))
      · refine sx_bipush (p1 := 33) dX11_foot_31 rfl (by decide) ?_
        refine sx_callSr (p1 := 36) (As := [_]) (k1 := 0) (n1 := 0) dX11_foot_33 rfl rfl (c_X11_refusal (by omega)) mt_X11_refusal ml_X11_168 (Nat.le_of_ble_eq_true rfl) rfl (Nat.le_of_ble_eq_true rfl) rfl rfl (Nat.le_of_ble_eq_true rfl) (Nat.le_of_ble_eq_true rfl) ?_
        exact sx_lret dX11_foot_36 rfl (sx_rj (by first | omega | ((repeat' split) <;> first | omega | rfl)) (by rfl))
set_option maxRecDepth 20000 in
theorem c_X11_fell {X : sx_X} {S : St} {i j k : Int} (hC : CI S) (hi : -2147483648 ≤ i ∧ i ≤ 2147483647) (hj : -2147483648 ≤ j ∧ j ≤ 2147483647) (hk : -2147483648 ≤ k ∧ k ≤ 2147483647)  : Ct X yX11_fell cX11_fell 4 (some .int) 2 0 0 [.ref 2, vI i, vI j, vI k] (hp S) (sx_is (some (vI (if (0 ≤ i ∧ i ≤ 5) ∧ (0 ≤ j ∧ j ≤ 15) ∧ 0 ≤ k ∧ k ≤ 1 then (if 8 ≤ S.1 15 then -4 else S.1 15 + 1) else -2))) (hp (if ((0 ≤ i ∧ i ≤ 5) ∧ (0 ≤ j ∧ j ≤ 15) ∧ 0 ≤ k ∧ k ≤ 1) ∧ S.1 15 < 8 then si (sa (sa (sa S 27 (S.1 15).toNat i) 28 (S.1 15).toNat j) 29 (S.1 15).toNat k) 15 (S.1 15 + 1) else S))) := by
  obtain ⟨hV, hF, l0, l1, bT, bA, bB, bC, bSh, g3, g5⟩ := hC
  have b0 : 0 ≤ S.1 2 ∧ S.1 2 ≤ 16 := hV.1
  have b1 : 0 ≤ S.1 4 ∧ S.1 4 ≤ 6 := hV.2.1
  have b2 : 0 ≤ S.1 6 ∧ S.1 6 ≤ 99 := hV.2.2.1
  have b3 : 0 ≤ S.1 7 ∧ S.1 7 ≤ 1 := hV.2.2.2.1
  have b4 : 0 ≤ S.1 8 ∧ S.1 8 ≤ 16 := hV.2.2.2.2.1
  have b5 : 0 ≤ S.1 9 ∧ S.1 9 ≤ 999 := hV.2.2.2.2.2.1
  have b6 : 0 ≤ S.1 10 ∧ S.1 10 ≤ 1999 := hV.2.2.2.2.2.2.1
  have b7 : 0 ≤ S.1 11 ∧ S.1 11 ≤ 16 := hV.2.2.2.2.2.2.2.1
  have bK : ∀ q, 0 ≤ gK S q ∧ gK S q ≤ 3 := hV.2.2.2.2.2.2.2.2.1
  have bL : ∀ q, 0 ≤ gL S q ∧ gL S q ≤ 9 := hV.2.2.2.2.2.2.2.2.2.1
  have bW : ∀ q, 0 ≤ pW S q ∧ pW S q ≤ 9 := hV.2.2.2.2.2.2.2.2.2.2.1
  have bS : ∀ q, 0 ≤ pS S q ∧ pS S q ≤ 9 := hV.2.2.2.2.2.2.2.2.2.2.2.1
  have bH : ∀ q, 0 ≤ pH S q ∧ pH S q ≤ 1 := hV.2.2.2.2.2.2.2.2.2.2.2.2
  have c0 : 0 ≤ (cV S).1 0 ∧ (cV S).1 0 ≤ 16 := b0
  have c1 : 0 ≤ (cV S).1 1 ∧ (cV S).1 1 ≤ 6 := b1
  have c2 : 0 ≤ (cV S).1 2 ∧ (cV S).1 2 ≤ 99 := b2
  have c3 : 0 ≤ (cV S).1 3 ∧ (cV S).1 3 ≤ 1 := b3
  have c4 : 0 ≤ (cV S).1 4 ∧ (cV S).1 4 ≤ 16 := b4
  have c5 : 0 ≤ (cV S).1 5 ∧ (cV S).1 5 ≤ 999 := b5
  have c6 : 0 ≤ (cV S).1 6 ∧ (cV S).1 6 ≤ 1999 := b6
  have c7 : 0 ≤ (cV S).1 7 ∧ (cV S).1 7 ≤ 16 := b7
  refine Ct.of false [some (.ref 2), some (vI i), some (vI j), some (vI k)] (plainFor_of_name (by decide)) (fun h => by cases h) (Nat.le_of_ble_eq_true rfl) (fun _ => rfl) sx_isl ?_
  refine sx_iload_n (p1 := 1) dX11_fell_0 rfl rfl ?_
  refine sx_iload_n (p1 := 2) dX11_fell_1 rfl rfl ?_
  refine sx_iload_n (p1 := 3) dX11_fell_2 rfl rfl ?_
  refine sx_callSr (p1 := 6) (As := [_, _, _]) (k1 := 0) (n1 := 0) dX11_fell_3 rfl rfl (c_X9_fits (by omega) (by omega) (by omega)) mt_X9_fits ml_X11_237 (Nat.le_of_ble_eq_true rfl) rfl (Nat.le_of_ble_eq_true rfl) rfl rfl (Nat.le_of_ble_eq_true rfl) (Nat.le_of_ble_eq_true rfl) ?_
  refine sx_if_ne (p1 := 9) (tg := 12) dX11_fell_6 rfl rfl (by omega) (fun q6 => ?_) (fun q6 => ?_)
  · refine sx_aload_n (p1 := 13) dX11_fell_12 rfl rfl ?_
    refine sx_get (p1 := 16) dX11_fell_13 rfl fl_X11_86 (hp_c2 _) rfl ?_
    refine sx_callVr (p1 := 19) (As := []) (k1 := 0) (n1 := 0) dX11_fell_16 rfl rfl (c_X9_isFull bT) mt_X9_isFull ml_X11_240 (hp_c26 _) rfl rfl (Nat.le_of_ble_eq_true rfl) rfl (Nat.le_of_ble_eq_true rfl) rfl rfl (Nat.le_of_ble_eq_true rfl) (Nat.le_of_ble_eq_true rfl) ?_
    refine sx_if_eq (p1 := 22) (tg := 25) dX11_fell_19 rfl rfl (by split <;> omega) (fun q19 => ?_) (fun q19 => ?_)
    · refine sx_aload_n (p1 := 26) dX11_fell_25 rfl rfl ?_
      refine sx_get (p1 := 29) dX11_fell_26 rfl fl_X11_86 (hp_c2 _) rfl ?_
      refine sx_iload_n (p1 := 30) dX11_fell_29 rfl rfl ?_
      refine sx_iload_n (p1 := 31) dX11_fell_30 rfl rfl ?_
      refine sx_iload_n (p1 := 32) dX11_fell_31 rfl rfl ?_
      refine sx_callVn (p1 := 35) (As := [_, _, _]) (k1 := 0) (n1 := 0) dX11_fell_32 rfl rfl (c_X9_add bT (by omega)) mt_X9_add ml_X11_241 (hp_c26 _) rfl rfl (Nat.le_of_ble_eq_true rfl) rfl (Nat.le_of_ble_eq_true rfl) rfl rfl (Nat.le_of_ble_eq_true rfl) (Nat.le_of_ble_eq_true rfl) ?_
      refine sx_aload_n (p1 := 36) dX11_fell_35 rfl rfl ?_
      refine sx_get (p1 := 39) dX11_fell_36 rfl fl_X11_86 (hp_c2 _) rfl ?_
      refine sx_callVr (p1 := 42) (As := []) (k1 := 0) (n1 := 0) dX11_fell_39 rfl rfl (c_X9_size) mt_X9_size ml_X11_245 (hp_c26 _) rfl rfl (Nat.le_of_ble_eq_true rfl) rfl (Nat.le_of_ble_eq_true rfl) rfl rfl (Nat.le_of_ble_eq_true rfl) (Nat.le_of_ble_eq_true rfl) ?_
      exact sx_iret dX11_fell_42 rfl (sx_ri (by (rw [if_pos (by omega), if_neg (by omega)]; rfl)) (by first | rw [if_neg (by omega)] | rw [if_pos (by omega)]))
    · refine sx_bipush (p1 := 24) dX11_fell_22 rfl (by decide) ?_
      exact sx_iret dX11_fell_24 rfl (sx_ri (by first | omega | ((repeat' split) <;> first | omega | rfl)) (by first | rw [if_neg (by omega)] | rw [if_pos (by omega)]))
  · refine sx_bipush (p1 := 11) dX11_fell_9 rfl (by decide) ?_
    exact sx_iret dX11_fell_11 rfl (sx_ri (by first | omega | ((repeat' split) <;> first | omega | rfl)) (by first | rw [if_neg (by omega)] | rw [if_pos (by omega)]))
set_option maxRecDepth 20000 in
theorem c_X11_morning {X : sx_X} {S : St} {i : Int} (hC : CI S) (hi : -2147483648 ≤ i ∧ i ≤ 2147483647)  : Ct X yX11_morning cX11_morning 2 (some .int) 5 0 0 [.ref 2, vI i] (hp S) (sx_is (some (vI ((mPlay (cV S) (i, 0) (mTakes (cV S)).toNat).2))) (hp (mo S (mPlay (cV S) (i, 0) (mTakes (cV S)).toNat)))) := by
  obtain ⟨hV, hF, l0, l1, bT, bA, bB, bC, bSh, g3, g5⟩ := hC
  have b0 : 0 ≤ S.1 2 ∧ S.1 2 ≤ 16 := hV.1
  have b1 : 0 ≤ S.1 4 ∧ S.1 4 ≤ 6 := hV.2.1
  have b2 : 0 ≤ S.1 6 ∧ S.1 6 ≤ 99 := hV.2.2.1
  have b3 : 0 ≤ S.1 7 ∧ S.1 7 ≤ 1 := hV.2.2.2.1
  have b4 : 0 ≤ S.1 8 ∧ S.1 8 ≤ 16 := hV.2.2.2.2.1
  have b5 : 0 ≤ S.1 9 ∧ S.1 9 ≤ 999 := hV.2.2.2.2.2.1
  have b6 : 0 ≤ S.1 10 ∧ S.1 10 ≤ 1999 := hV.2.2.2.2.2.2.1
  have b7 : 0 ≤ S.1 11 ∧ S.1 11 ≤ 16 := hV.2.2.2.2.2.2.2.1
  have bK : ∀ q, 0 ≤ gK S q ∧ gK S q ≤ 3 := hV.2.2.2.2.2.2.2.2.1
  have bL : ∀ q, 0 ≤ gL S q ∧ gL S q ≤ 9 := hV.2.2.2.2.2.2.2.2.2.1
  have bW : ∀ q, 0 ≤ pW S q ∧ pW S q ≤ 9 := hV.2.2.2.2.2.2.2.2.2.2.1
  have bS : ∀ q, 0 ≤ pS S q ∧ pS S q ≤ 9 := hV.2.2.2.2.2.2.2.2.2.2.2.1
  have bH : ∀ q, 0 ≤ pH S q ∧ pH S q ≤ 1 := hV.2.2.2.2.2.2.2.2.2.2.2.2
  have c0 : 0 ≤ (cV S).1 0 ∧ (cV S).1 0 ≤ 16 := b0
  have c1 : 0 ≤ (cV S).1 1 ∧ (cV S).1 1 ≤ 6 := b1
  have c2 : 0 ≤ (cV S).1 2 ∧ (cV S).1 2 ≤ 99 := b2
  have c3 : 0 ≤ (cV S).1 3 ∧ (cV S).1 3 ≤ 1 := b3
  have c4 : 0 ≤ (cV S).1 4 ∧ (cV S).1 4 ≤ 16 := b4
  have c5 : 0 ≤ (cV S).1 5 ∧ (cV S).1 5 ≤ 999 := b5
  have c6 : 0 ≤ (cV S).1 6 ∧ (cV S).1 6 ≤ 1999 := b6
  have c7 : 0 ≤ (cV S).1 7 ∧ (cV S).1 7 ≤ 16 := b7
  refine Ct.of false [some (.ref 2), some (vI i)] (plainFor_of_name (by decide)) (fun h => by cases h) (Nat.le_of_ble_eq_true rfl) (fun _ => rfl) sx_isl ?_
  refine sx_aload_n (p1 := 1) dX11_morning_0 rfl rfl ?_
  refine sx_get (p1 := 4) dX11_morning_1 rfl fl_X11_79 (hp_c2 _) rfl ?_
  refine sx_iload_n (p1 := 5) dX11_morning_4 rfl rfl ?_
  refine sx_callVr (p1 := 8) (As := [_]) (k1 := 0) (n1 := 0) dX11_morning_5 rfl rfl (v_X2_play (V := cV S) rfl hV) mt_X2_play ml_X11_267 (hp_c25 _) rfl rfl (Nat.le_of_ble_eq_true rfl) rfl (Nat.le_of_ble_eq_true rfl) rfl rfl (Nat.le_of_ble_eq_true rfl) (Nat.le_of_ble_eq_true rfl) ?_
  exact sx_iret dX11_morning_8 rfl (sx_ri (by rfl) (by rfl))
def cnF (S : St) (i : Int) : Int := if i = 0 then (cV S).1 0 else if i = 1 then (cV S).1 1 else if i = 2 then S.1 0 else if i = 3 then S.1 1 else if i = 4 then S.1 15 else if i = 5 then sumN ((cV S).1 0).toNat (fun q => (cV S).2 1 q) else if i = 6 then S.1 6 else if i = 7 then sumN ((cV S).1 1).toNat (fun q => (cV S).2 4 q) else if i = 8 then S.1 24 else -2
set_option maxRecDepth 20000 in
theorem c_X11_count {X : sx_X} {S : St} {i : Int} (hC : CI S) (hi : -2147483648 ≤ i ∧ i ≤ 2147483647) : Ct X yX11_count cX11_count 2 (some .int) 2 0 0 [.ref 2, vI i] (hp S) (sx_is (some (vI (cnF S i))) (hp S)) := by
  obtain ⟨hV, hF, l0, l1, bT, bA, bB, bC, bSh, g3, g5⟩ := hC
  have b0 : 0 ≤ S.1 2 ∧ S.1 2 ≤ 16 := hV.1
  have b1 : 0 ≤ S.1 4 ∧ S.1 4 ≤ 6 := hV.2.1
  have b2 : 0 ≤ S.1 6 ∧ S.1 6 ≤ 99 := hV.2.2.1
  have b3 : 0 ≤ S.1 7 ∧ S.1 7 ≤ 1 := hV.2.2.2.1
  have b4 : 0 ≤ S.1 8 ∧ S.1 8 ≤ 16 := hV.2.2.2.2.1
  have b5 : 0 ≤ S.1 9 ∧ S.1 9 ≤ 999 := hV.2.2.2.2.2.1
  have b6 : 0 ≤ S.1 10 ∧ S.1 10 ≤ 1999 := hV.2.2.2.2.2.2.1
  have b7 : 0 ≤ S.1 11 ∧ S.1 11 ≤ 16 := hV.2.2.2.2.2.2.2.1
  have bK : ∀ q, 0 ≤ gK S q ∧ gK S q ≤ 3 := hV.2.2.2.2.2.2.2.2.1
  have bL : ∀ q, 0 ≤ gL S q ∧ gL S q ≤ 9 := hV.2.2.2.2.2.2.2.2.2.1
  have bW : ∀ q, 0 ≤ pW S q ∧ pW S q ≤ 9 := hV.2.2.2.2.2.2.2.2.2.2.1
  have bS : ∀ q, 0 ≤ pS S q ∧ pS S q ≤ 9 := hV.2.2.2.2.2.2.2.2.2.2.2.1
  have bH : ∀ q, 0 ≤ pH S q ∧ pH S q ≤ 1 := hV.2.2.2.2.2.2.2.2.2.2.2.2
  have c0 : 0 ≤ (cV S).1 0 ∧ (cV S).1 0 ≤ 16 := b0
  have c1 : 0 ≤ (cV S).1 1 ∧ (cV S).1 1 ≤ 6 := b1
  have c2 : 0 ≤ (cV S).1 2 ∧ (cV S).1 2 ≤ 99 := b2
  have c3 : 0 ≤ (cV S).1 3 ∧ (cV S).1 3 ≤ 1 := b3
  have c4 : 0 ≤ (cV S).1 4 ∧ (cV S).1 4 ≤ 16 := b4
  have c5 : 0 ≤ (cV S).1 5 ∧ (cV S).1 5 ≤ 999 := b5
  have c6 : 0 ≤ (cV S).1 6 ∧ (cV S).1 6 ≤ 1999 := b6
  have c7 : 0 ≤ (cV S).1 7 ∧ (cV S).1 7 ≤ 16 := b7
  by_cases hb : 0 ≤ i ∧ i ≤ 8
  · rcases (show i = 0 ∨ i = 1 ∨ i = 2 ∨ i = 3 ∨ i = 4 ∨ i = 5 ∨ i = 6 ∨ i = 7 ∨ i = 8 by omega) with rfl | rfl | rfl | rfl | rfl | rfl | rfl | rfl | rfl
    · refine Ct.of false [some (.ref 2), some (vI 0)] (plainFor_of_name (by decide)) (fun h => by cases h) (Nat.le_of_ble_eq_true rfl) (fun _ => rfl) sx_isl ?_
      refine sx_iload_n (p1 := 1) dX11_count_0 rfl rfl ?_
      · refine sx_tsIn (p1 := 52) (tg := 52) dX11_count_1 (by decide) (by decide) rfl rfl rfl ?_
        refine sx_aload_n (p1 := 53) dX11_count_52 rfl rfl ?_
        refine sx_get (p1 := 56) dX11_count_53 rfl fl_X11_24 (hp_c2 _) rfl ?_
        refine sx_get (p1 := 59) dX11_count_56 rfl fl_X11_298 (hp_c7 _) rfl ?_
        exact sx_iret dX11_count_59 rfl (sx_ri (by rfl) (by rfl))
    · refine Ct.of false [some (.ref 2), some (vI 1)] (plainFor_of_name (by decide)) (fun h => by cases h) (Nat.le_of_ble_eq_true rfl) (fun _ => rfl) sx_isl ?_
      refine sx_iload_n (p1 := 1) dX11_count_0 rfl rfl ?_
      · refine sx_tsIn (p1 := 60) (tg := 60) dX11_count_1 (by decide) (by decide) rfl rfl rfl ?_
        refine sx_aload_n (p1 := 61) dX11_count_60 rfl rfl ?_
        refine sx_get (p1 := 64) dX11_count_61 rfl fl_X11_31 (hp_c2 _) rfl ?_
        refine sx_callVr (p1 := 67) (As := []) (k1 := 0) (n1 := 0) dX11_count_64 rfl rfl (v_X5_size (V := cV S) rfl hV) mt_X5_size ml_X11_216 (hp_c10 _) rfl rfl (Nat.le_of_ble_eq_true rfl) rfl (Nat.le_of_ble_eq_true rfl) rfl rfl (Nat.le_of_ble_eq_true rfl) (Nat.le_of_ble_eq_true rfl) ?_
        exact sx_iret dX11_count_67 rfl (sx_ri (by rfl) (by rfl))
    · refine Ct.of false [some (.ref 2), some (vI 2)] (plainFor_of_name (by decide)) (fun h => by cases h) (Nat.le_of_ble_eq_true rfl) (fun _ => rfl) sx_isl ?_
      refine sx_iload_n (p1 := 1) dX11_count_0 rfl rfl ?_
      · refine sx_tsIn (p1 := 68) (tg := 68) dX11_count_1 (by decide) (by decide) rfl rfl rfl ?_
        refine sx_aload_n (p1 := 69) dX11_count_68 rfl rfl ?_
        refine sx_get (p1 := 72) dX11_count_69 rfl fl_X11_14 (hp_c2 _) rfl ?_
        refine sx_callVr (p1 := 75) (As := []) (k1 := 0) (n1 := 0) dX11_count_72 rfl rfl (c_X10_length (t := 0) (by decide) l0) mt_X10_length ml_X11_115 (hp_c3 _) rfl rfl (Nat.le_of_ble_eq_true rfl) rfl (Nat.le_of_ble_eq_true rfl) rfl rfl (Nat.le_of_ble_eq_true rfl) (Nat.le_of_ble_eq_true rfl) ?_
        exact sx_iret dX11_count_75 rfl (sx_ri (by rfl) (by rfl))
    · refine Ct.of false [some (.ref 2), some (vI 3)] (plainFor_of_name (by decide)) (fun h => by cases h) (Nat.le_of_ble_eq_true rfl) (fun _ => rfl) sx_isl ?_
      refine sx_iload_n (p1 := 1) dX11_count_0 rfl rfl ?_
      · refine sx_tsIn (p1 := 76) (tg := 76) dX11_count_1 (by decide) (by decide) rfl rfl rfl ?_
        refine sx_aload_n (p1 := 77) dX11_count_76 rfl rfl ?_
        refine sx_get (p1 := 80) dX11_count_77 rfl fl_X11_18 (hp_c2 _) rfl ?_
        refine sx_callVr (p1 := 83) (As := []) (k1 := 0) (n1 := 0) dX11_count_80 rfl rfl (c_X10_length (t := 1) (by decide) l1) mt_X10_length ml_X11_115 (hp_c5 _) rfl rfl (Nat.le_of_ble_eq_true rfl) rfl (Nat.le_of_ble_eq_true rfl) rfl rfl (Nat.le_of_ble_eq_true rfl) (Nat.le_of_ble_eq_true rfl) ?_
        exact sx_iret dX11_count_83 rfl (sx_ri (by rfl) (by rfl))
    · refine Ct.of false [some (.ref 2), some (vI 4)] (plainFor_of_name (by decide)) (fun h => by cases h) (Nat.le_of_ble_eq_true rfl) (fun _ => rfl) sx_isl ?_
      refine sx_iload_n (p1 := 1) dX11_count_0 rfl rfl ?_
      · refine sx_tsIn (p1 := 84) (tg := 84) dX11_count_1 (by decide) (by decide) rfl rfl rfl ?_
        refine sx_aload_n (p1 := 85) dX11_count_84 rfl rfl ?_
        refine sx_get (p1 := 88) dX11_count_85 rfl fl_X11_86 (hp_c2 _) rfl ?_
        refine sx_callVr (p1 := 91) (As := []) (k1 := 0) (n1 := 0) dX11_count_88 rfl rfl (c_X9_size) mt_X9_size ml_X11_245 (hp_c26 _) rfl rfl (Nat.le_of_ble_eq_true rfl) rfl (Nat.le_of_ble_eq_true rfl) rfl rfl (Nat.le_of_ble_eq_true rfl) (Nat.le_of_ble_eq_true rfl) ?_
        exact sx_iret dX11_count_91 rfl (sx_ri (by rfl) (by rfl))
    · refine Ct.of false [some (.ref 2), some (vI 5)] (plainFor_of_name (by decide)) (fun h => by cases h) (Nat.le_of_ble_eq_true rfl) (fun _ => rfl) sx_isl ?_
      refine sx_iload_n (p1 := 1) dX11_count_0 rfl rfl ?_
      · refine sx_tsIn (p1 := 92) (tg := 92) dX11_count_1 (by decide) (by decide) rfl rfl rfl ?_
        refine sx_aload_n (p1 := 93) dX11_count_92 rfl rfl ?_
        refine sx_get (p1 := 96) dX11_count_93 rfl fl_X11_24 (hp_c2 _) rfl ?_
        refine sx_callVr (p1 := 99) (As := []) (k1 := 0) (n1 := 0) dX11_count_96 rfl rfl (c_X0_loosenessInAll b0 bL) mt_X0_loosenessInAll ml_X11_301 (hp_c7 _) rfl rfl (Nat.le_of_ble_eq_true rfl) rfl (Nat.le_of_ble_eq_true rfl) rfl rfl (Nat.le_of_ble_eq_true rfl) (Nat.le_of_ble_eq_true rfl) ?_
        exact sx_iret dX11_count_99 rfl (sx_ri (by rfl) (by rfl))
    · refine Ct.of false [some (.ref 2), some (vI 6)] (plainFor_of_name (by decide)) (fun h => by cases h) (Nat.le_of_ble_eq_true rfl) (fun _ => rfl) sx_isl ?_
      refine sx_iload_n (p1 := 1) dX11_count_0 rfl rfl ?_
      · refine sx_tsIn (p1 := 100) (tg := 100) dX11_count_1 (by decide) (by decide) rfl rfl rfl ?_
        refine sx_aload_n (p1 := 101) dX11_count_100 rfl rfl ?_
        refine sx_get (p1 := 104) dX11_count_101 rfl fl_X11_38 (hp_c2 _) rfl ?_
        refine sx_get (p1 := 107) dX11_count_104 rfl fl_X11_172 (hp_c14 _) rfl ?_
        exact sx_iret dX11_count_107 rfl (sx_ri (by rfl) (by rfl))
    · refine Ct.of false [some (.ref 2), some (vI 7)] (plainFor_of_name (by decide)) (fun h => by cases h) (Nat.le_of_ble_eq_true rfl) (fun _ => rfl) sx_isl ?_
      refine sx_iload_n (p1 := 1) dX11_count_0 rfl rfl ?_
      · refine sx_tsIn (p1 := 108) (tg := 108) dX11_count_1 (by decide) (by decide) rfl rfl rfl ?_
        refine sx_aload_n (p1 := 109) dX11_count_108 rfl rfl ?_
        refine sx_get (p1 := 112) dX11_count_109 rfl fl_X11_31 (hp_c2 _) rfl ?_
        refine sx_callVr (p1 := 115) (As := []) (k1 := 0) (n1 := 0) dX11_count_112 rfl rfl (c_X5_helmetsInAll b1 bH) mt_X5_helmetsInAll ml_X11_304 (hp_c10 _) rfl rfl (Nat.le_of_ble_eq_true rfl) rfl (Nat.le_of_ble_eq_true rfl) rfl rfl (Nat.le_of_ble_eq_true rfl) (Nat.le_of_ble_eq_true rfl) ?_
        exact sx_iret dX11_count_115 rfl (sx_ri (by rfl) (by rfl))
    · refine Ct.of false [some (.ref 2), some (vI 8)] (plainFor_of_name (by decide)) (fun h => by cases h) (Nat.le_of_ble_eq_true rfl) (fun _ => rfl) sx_isl ?_
      refine sx_iload_n (p1 := 1) dX11_count_0 rfl rfl ?_
      · refine sx_tsIn (p1 := 116) (tg := 116) dX11_count_1 (by decide) (by decide) rfl rfl rfl ?_
        refine sx_aload_n (p1 := 117) dX11_count_116 rfl rfl ?_
        refine sx_get (p1 := 120) dX11_count_117 rfl fl_X11_307 (hp_c2 _) rfl ?_
        exact sx_iret dX11_count_120 rfl (sx_ri (by rfl) (by rfl))
  · refine Ct.of false [some (.ref 2), some (vI i)] (plainFor_of_name (by decide)) (fun h => by cases h) (Nat.le_of_ble_eq_true rfl) (fun _ => rfl) sx_isl ?_
    refine sx_iload_n (p1 := 1) dX11_count_0 rfl rfl ?_
    · refine sx_tsOut (p1 := 121) (tg := 121) dX11_count_1 (by omega) (by omega) rfl rfl ?_
      refine sx_bipush (p1 := 123) dX11_count_121 rfl (by decide) ?_
      exact sx_iret dX11_count_123 rfl (sx_ri (by unfold cnF; rw [if_neg (by omega)]; rw [if_neg (by omega)]; rw [if_neg (by omega)]; rw [if_neg (by omega)]; rw [if_neg (by omega)]; rw [if_neg (by omega)]; rw [if_neg (by omega)]; rw [if_neg (by omega)]; rw [if_neg (by omega)]) (by rfl))
