/-- the texts' bytes are the same -/
def jT (S : St) : Prop := (S.2 45 0 = S.1 0 ∧ S.2 45 1 = S.1 1) ∧ ∀ t i : Nat, t < 2 → (i : Int) < S.1 t → S.2 44 (40 * t + i) = sx_and (S.2 (4 + 2 * t) i) 255
def z0 : Nat → Int := fun _ => 0
/-- the gully was read out of its text -/
def jG (S : St) : Prop := S.1 3 = (gIt (txB S 0) (S.1 0) z0 z0 32).2.2.1 ∧ S.1 2 = (if (gIt (txB S 0) (S.1 0) z0 z0 32).2.2.1 = -1 then (gIt (txB S 0) (S.1 0) z0 z0 32).2.1 else 0) ∧ ∀ i : Nat, (i : Int) < S.1 2 → S.2 8 i = (gIt (txB S 0) (S.1 0) z0 z0 32).2.2.2.1 i ∧ S.2 9 i = (gIt (txB S 0) (S.1 0) z0 z0 32).2.2.2.2 i
/-- the walkers were read out of their text -/
def jW (S : St) : Prop := S.1 5 = wF (txB S 1) (S.1 1) (S.1 1).toNat 0 ∧ S.1 4 = (if wF (txB S 1) (S.1 1) (S.1 1).toNat 0 = -1 then ((((S.1 1).toNat + 3) / 4 : Nat) : Int) else 0) ∧ ∀ i : Nat, (i : Int) < S.1 4 → S.2 11 i = wG1 (txB S 1) i ∧ S.2 12 i = wG2 (txB S 1) i ∧ S.2 13 i = wG3 (txB S 1) i
def jS (S : St) : Prop := ∀ k : Nat, k < 6 → S.2 51 k = S.1 (6 + k)
def jF (S : St) : Prop := S.1 39 = S.1 15 ∧ ∀ i : Nat, (i : Int) < S.1 15 → S.2 54 (3 * i) = S.2 27 i ∧ S.2 54 (3 * i + 1) = S.2 28 i ∧ S.2 54 (3 * i + 2) = S.2 29 i
def jH (S : St) : Prop := ∀ s : Nat, s < 4 → S.2 40 s = S.1 (16 + 2 * s) ∧ (S.1 (16 + 2 * s) ≠ -1 → S.2 41 s = S.1 (17 + 2 * s) ∧ ∀ i : Nat, (i : Int) < S.1 (17 + 2 * s) → S.2 42 (60 * s + i) = S.2 (32 + 2 * s) i)
def GA (S : St) : Prop := okV (cV S) ∧ okF S ∧ (0 ≤ S.1 0 ∧ S.1 0 ≤ 32) ∧ (0 ≤ S.1 1 ∧ S.1 1 ≤ 23) ∧ ((-1 ≤ S.1 3 ∧ S.1 3 ≤ 100) ∧ -1 ≤ S.1 5 ∧ S.1 5 ≤ 100) ∧ (∀ i, 0 ≤ S.2 44 i ∧ S.2 44 i ≤ 255) ∧ jT S ∧ jG S ∧ jW S ∧ jS S
def GF (S : St) : Prop := (0 ≤ S.1 15 ∧ S.1 15 ≤ 8) ∧ (∀ i, 0 ≤ S.2 27 i ∧ S.2 27 i ≤ 5) ∧ (∀ i, 0 ≤ S.2 28 i ∧ S.2 28 i ≤ 15) ∧ (∀ i, 0 ≤ S.2 29 i ∧ S.2 29 i ≤ 1) ∧ (∀ i, -2147483648 ≤ S.2 54 i ∧ S.2 54 i ≤ 2147483647) ∧ jF S
def GH (S : St) : Prop := (∀ s, s < 4 → (0 ≤ S.1 (17 + 2 * s) ∧ S.1 (17 + 2 * s) ≤ 60) ∧ (-1 ≤ S.1 (16 + 2 * s) ∧ S.1 (16 + 2 * s) ≤ 2) ∧ ∀ i, -2147483648 ≤ S.2 (32 + 2 * s) i ∧ S.2 (32 + 2 * s) i ≤ 2147483647) ∧ okSh S ∧ jH S ∧ S.1 30 = S.1 24
def GB (S : St) : Prop := (∀ a, 0 ≤ S.2 20 a ∧ S.2 20 a ≤ 5) ∧ (∀ i, 0 ≤ S.2 50 i ∧ S.2 50 i ≤ 1) ∧ -2147483648 ≤ S.1 36 ∧ S.1 36 ≤ 2147483647
/-- what holds between two calls -/
def J (S : St) : Prop := GA S ∧ GF S ∧ GH S ∧ GB S
theorem J_CI {S : St} (h : J S) : CI S := by
  obtain ⟨⟨a1, a2, a3, a4, a5, -⟩, ⟨f1, f2, f3, f4, -⟩, ⟨h1, -⟩, -⟩ := h
  exact ⟨a1, a2, a3, a4, f1, f2, f3, f4, h1, a5⟩
theorem J_Y {S : St} (h : J S) : okY S := by
  obtain ⟨⟨-, -, a3, a4, -, a6, a7, -⟩, -, -, g⟩ := h
  refine ⟨?_, ?_, a6, g.2.1⟩
  · rw [a7.1.1]
    exact a3
  · rw [a7.1.2]
    exact a4
theorem txB_ext {S T : St} {t : Nat} (h1 : T.1 t = S.1 t) (h2 : T.2 (4 + 2 * t) = S.2 (4 + 2 * t)) : txB T t = txB S t := by
  funext i
  unfold txB
  rw [h1, h2]
theorem GA_ext {S T : St} (h1 : ∀ k, k < 12 → T.1 k = S.1 k) (h2 : ∀ k, k < 17 ∨ k = 44 ∨ k = 45 ∨ k = 51 → T.2 k = S.2 k) (h : GA S) : GA T := by
  obtain ⟨a1, a2, a3, a4, a5, a6, a7, a8, a9, a10⟩ := h
  have hc : cV T = cV S := cV_ext h1 (fun k hk => h2 k (by omega))
  have t0 : txB T 0 = txB S 0 := txB_ext (h1 0 (by omega)) (h2 4 (by omega))
  have t1 : txB T 1 = txB S 1 := txB_ext (h1 1 (by omega)) (h2 6 (by omega))
  refine ⟨by rw [hc]; exact a1, ?_, ?_, ?_, ?_, ?_, ?_, ?_, ?_, ?_⟩
  · intro q h hq hh
    rw [hc, h2 16 (by omega)]
    exact a2 q h hq hh
  · rw [h1 0 (by omega)]
    exact a3
  · rw [h1 1 (by omega)]
    exact a4
  · rw [h1 3 (by omega), h1 5 (by omega)]
    exact a5
  · rw [h2 44 (by omega)]
    exact a6
  · refine ⟨?_, fun t i ht hi => ?_⟩
    · rw [h2 45 (by omega), h1 0 (by omega), h1 1 (by omega)]
      exact a7.1
    · rw [h1 t (by omega)] at hi
      rw [h2 44 (by omega), h2 (4 + 2 * t) (by omega)]
      exact a7.2 t i ht hi
  · unfold jG
    rw [t0, h1 0 (by omega), h1 2 (by omega), h1 3 (by omega), h2 8 (by omega), h2 9 (by omega)]
    exact a8
  · unfold jW
    rw [t1, h1 1 (by omega), h1 4 (by omega), h1 5 (by omega), h2 11 (by omega), h2 12 (by omega), h2 13 (by omega)]
    exact a9
  · intro k hk
    rw [h2 51 (by omega), h1 (6 + k) (by omega)]
    exact a10 k hk
theorem GF_ext {S T : St} (h1 : T.1 15 = S.1 15 ∧ T.1 39 = S.1 39) (h2 : T.2 27 = S.2 27 ∧ T.2 28 = S.2 28 ∧ T.2 29 = S.2 29 ∧ T.2 54 = S.2 54) (h : GF S) : GF T := by
  unfold GF jF
  rw [h1.1, h1.2, h2.1, h2.2.1, h2.2.2.1, h2.2.2.2]
  exact h
theorem GH_ext {S T : St} (h1 : ∀ k, (16 ≤ k ∧ k ≤ 24) ∨ k = 30 → T.1 k = S.1 k) (h2 : ∀ k, 32 ≤ k ∧ k ≤ 42 → T.2 k = S.2 k) (h : GH S) : GH T := by
  obtain ⟨a1, a2, a3, a4⟩ := h
  refine ⟨fun s hs => ?_, ?_, fun s hs => ?_, ?_⟩
  · rw [h1 (17 + 2 * s) (by omega), h1 (16 + 2 * s) (by omega), h2 (32 + 2 * s) (by omega)]
    exact a1 s hs
  · unfold okSh
    rw [h2 40 (by omega), h2 41 (by omega), h2 42 (by omega)]
    exact a2
  · rw [h1 (17 + 2 * s) (by omega), h1 (16 + 2 * s) (by omega), h2 (32 + 2 * s) (by omega), h2 40 (by omega), h2 41 (by omega), h2 42 (by omega)]
    exact a3 s hs
  · rw [h1 30 (by omega), h1 24 (by omega)]
    exact a4
theorem GB_ext {S T : St} (h1 : T.1 36 = S.1 36) (h2 : T.2 20 = S.2 20 ∧ T.2 50 = S.2 50) (h : GB S) : GB T := by
  unfold GB
  rw [h1, h2.1, h2.2]
  exact h
/-- where only scratch has changed -/
theorem J_ext {S T : St} (h1 : ∀ k, k < 12 ∨ (15 ≤ k ∧ k ≤ 30) ∨ k = 39 → T.1 k = S.1 k) (h2 : ∀ k, k < 18 ∨ (24 ≤ k ∧ k ≤ 42) ∨ k = 44 ∨ k = 45 ∨ k = 51 ∨ k = 54 → T.2 k = S.2 k) (hB : GB T) (h : J S) : J T :=
  ⟨GA_ext (fun k hk => h1 k (by omega)) (fun k hk => h2 k (by omega)) h.1, GF_ext ⟨h1 15 (by omega), h1 39 (by omega)⟩ ⟨h2 27 (by omega), h2 28 (by omega), h2 29 (by omega), h2 54 (by omega)⟩ h.2.1, GH_ext (fun k hk => h1 k (by omega)) (fun k hk => h2 k (by omega)) h.2.2.1, hB⟩
/-- a reading hangs on the text alone -/
theorem gStep_cg {B B' : Int → Int} (h : ∀ i, 0 ≤ i → B i = B' i) (n : Int) (g : G5) (hg : 0 ≤ g.1) : gStep B n g = gStep B' n g := by
  unfold gStep
  rw [h g.1 hg, h (g.1 + 1) (by omega)]
theorem gIt_cg {B B' : Int → Int} (h : ∀ i, 0 ≤ i → B i = B' i) (n : Int) (K L : Nat → Int) : ∀ k : Nat, gIt B n K L k = gIt B' n K L k
  | 0 => rfl
  | k + 1 => by
    have hb := (gIt_b B n K L k).1.1
    rw [gIt, gIt, ← gIt_cg h n K L k, gStep_cg h n _ hb]
theorem gIt_free (B : Int → Int) (n : Int) (K L K' L' : Nat → Int) : ∀ k : Nat, (gIt B n K L k).1 = (gIt B n K' L' k).1 ∧ (gIt B n K L k).2.1 = (gIt B n K' L' k).2.1 ∧ (gIt B n K L k).2.2.1 = (gIt B n K' L' k).2.2.1 ∧ ∀ i : Nat, (i : Int) < (gIt B n K L k).2.1 → (gIt B n K L k).2.2.2.1 i = (gIt B n K' L' k).2.2.2.1 i ∧ (gIt B n K L k).2.2.2.2 i = (gIt B n K' L' k).2.2.2.2 i
  | 0 => ⟨rfl, rfl, rfl, fun i hi => by simp only [gIt] at hi; omega⟩
  | k + 1 => by
    have ih := gIt_free B n K L K' L' k
    have hb := (gIt_b B n K L k).2.1
    rw [gIt, gIt]
    generalize gIt B n K L k = g at ih hb ⊢
    generalize gIt B n K' L' k = g' at ih ⊢
    obtain ⟨a, p, f, K1, L1⟩ := g
    obtain ⟨a', p', f', K2, L2⟩ := g'
    simp only at ih hb
    obtain ⟨rfl, rfl, rfl, ih⟩ := ih
    unfold gStep
    simp only
    have up : ∀ (x y : Int) (i : Nat), (i : Int) < p + 1 → sx_u K1 p.toNat x i = sx_u K2 p.toNat x i ∧ sx_u L1 p.toNat y i = sx_u L2 p.toNat y i := by
      intro x y i hi
      unfold sx_u
      by_cases c : i = p.toNat
      · rw [if_pos c, if_pos c, if_pos c, if_pos c]
        exact ⟨rfl, rfl⟩
      · rw [if_neg c, if_neg c, if_neg c, if_neg c]
        exact ih i (by omega)
    split
    · split
      · exact ⟨rfl, rfl, rfl, ih⟩
      · split
        · exact ⟨rfl, rfl, rfl, up _ _⟩
        · split
          · exact ⟨rfl, rfl, rfl, ih⟩
          · exact ⟨rfl, rfl, rfl, up _ _⟩
    · exact ⟨rfl, rfl, rfl, ih⟩
theorem fitZ_cg {B B' : Int → Int} (h : ∀ i, 0 ≤ i → B i = B' i) {i : Int} (hi : 0 ≤ i) : fitZ B i = fitZ B' i := by
  unfold fitZ
  rw [h i hi]
theorem wF_cg {B B' : Int → Int} (h : ∀ i, 0 ≤ i → B i = B' i) (n : Int) : ∀ k i : Nat, wF B n k i = wF B' n k i
  | 0, _ => rfl
  | k + 1, i => by
    unfold wF
    rw [fitZ_cg h (by omega), wF_cg h n k (i + 1)]
theorem wG_cg {B B' : Int → Int} (h : ∀ i, 0 ≤ i → B i = B' i) (x : Nat) : wG1 B x = wG1 B' x ∧ wG2 B x = wG2 B' x ∧ wG3 B x = wG3 B' x := by
  unfold wG1 wG2 wG3
  rw [h (4 * (x : Int)) (by omega), h (4 * (x : Int) + 1) (by omega), h (4 * (x : Int) + 2) (by omega)]
  exact ⟨rfl, rfl, rfl⟩
theorem jT_B {S : St} (h : jT S) {t : Nat} (ht : t < 2) : ∀ i : Int, 0 ≤ i → rB S t i = txB S t i := by
  intro i hi
  have hl : S.2 45 t = S.1 t := by
    rcases (show t = 0 ∨ t = 1 by omega) with rfl | rfl
    · exact h.1.1
    · exact h.1.2
  unfold rB txB
  rw [hl]
  by_cases c : i < S.1 t
  · rw [if_pos c, if_pos ⟨hi, c⟩]
    exact h.2 t i.toNat ht (by omega)
  · rw [if_neg c, if_neg (fun q => c q.2)]
theorem rdS_eq (S : St) : rdS S = plF (wrS (rgE S) (rwEnd (rgE S)) (rwW (rgE S)) (rwJ (rgE S))) := by
  unfold rdS
  rw [rwE_eq]
theorem rd_s (S : St) (k : Nat) (h : k < 31 ∨ 35 < k) : (rdS S).1 k = S.1 k := by
  rw [rdS_eq]
  simp only [plF, wrS, rgE, rG, si, sA, sx_u]
  rw [if_neg (by omega), if_neg (by omega), if_neg (by omega), if_neg (by omega), if_neg (by omega), if_neg (by omega)]
theorem rd_a (S : St) (k : Nat) (h : k ≠ 46 ∧ k ≠ 47 ∧ k ≠ 48 ∧ k ≠ 49 ∧ k ≠ 50 ∧ k ≠ 52) : (rdS S).2 k = S.2 k := by
  rw [rdS_eq]
  simp only [plF, wrS, rgE, rG, si, sA, sx_u]
  rw [if_neg (by omega), if_neg (by omega), if_neg (by omega), if_neg (by omega), if_neg (by omega), if_neg (by omega)]
theorem J_rd {S : St} (h : J S) : J (rdS S) := by
  have hy := rdS_y (J_Y h)
  refine J_ext (S := S) (fun k hk => rd_s S k (by omega)) (fun k hk => rd_a S k (by omega)) ⟨?_, hy.2.2.2, ?_⟩ h
  · rw [rd_a S 20 (by decide)]
    exact h.2.2.2.1
  · rw [rd_s S 36 (by decide)]
    exact h.2.2.2.2.2
theorem rd_W {S : St} (h : jT S) (hP : jW S) : rwF S = S.1 5 ∧ rwW (rgE S) = S.1 4 := by
  have e := wF_cg (jT_B h (show 1 < 2 by decide)) (S.1 1) (S.1 1).toNat 0
  have f1 : rwF S = S.1 5 := by
    unfold rwF
    rw [h.1.2, e]
    exact hP.1.symm
  refine ⟨f1, ?_⟩
  show (if rwF S = -1 then ((((S.2 45 1).toNat + 3) / 4 : Nat) : Int) else 0) = S.1 4
  rw [h.1.2, hP.2.1, f1, hP.1]
theorem rd_G {S : St} (h : jT S) (hP : jG S) : (rgA S).2.2.1 = S.1 3 ∧ (rgG (rgA S)).2.1 = S.1 2 ∧ ∀ i : Nat, (i : Int) < S.1 2 → (rgA S).2.2.2.1 i = S.2 8 i ∧ (rgA S).2.2.2.2 i = S.2 9 i := by
  have e1 : rgA S = gIt (txB S 0) (S.1 0) (S.2 46) (S.2 47) 32 := by
    unfold rgA
    rw [h.1.1, gIt_cg (jT_B h (show 0 < 2 by decide))]
  have e2 := gIt_free (txB S 0) (S.1 0) (S.2 46) (S.2 47) z0 z0 32
  rw [← e1] at e2
  obtain ⟨-, p2, p3, p4⟩ := e2
  obtain ⟨q1, q2, q3⟩ := hP
  have g1 : (rgG (rgA S)).2.1 = S.1 2 := by
    rw [q2, ← p3, ← p2]
    unfold rgG
    split <;> rfl
  refine ⟨p3.trans q1.symm, g1, fun i hi => ?_⟩
  have hi2 : (i : Int) < (rgA S).2.1 := by
    rw [q2, ← p3, ← p2] at hi
    split at hi
    · exact hi
    · omega
  have z := p4 i hi2
  have y := q3 i hi
  exact ⟨z.1.trans y.1.symm, z.2.trans y.2.symm⟩
/-- after a reading the reference sees what the class sees -/
theorem viewA {S : St} (hA : GA S) : mV (rdS S) = cV S := by
  obtain ⟨a1, -, -, a4, -, -, a7, a8, a9, a10⟩ := hA
  have g := rd_G a7 a8
  have v := rd_W a7 a9
  have r32 : (rdS S).1 32 = S.1 2 := by rw [rdS_eq]; exact g.2.1
  have r33 : (rdS S).1 33 = S.1 4 := by rw [rdS_eq]; exact v.2
  have r34 : (rdS S).1 34 = S.1 6 := by rw [rdS_eq]; exact a10 0 (by decide)
  have r51 : ∀ k, k < 6 → (rdS S).2 51 k = S.1 (6 + k) := fun k hk => by rw [rd_a S 51 (by decide)]; exact a10 k hk
  have r46 : (rdS S).2 46 = (rgA S).2.2.2.1 := by
    rw [rdS_eq]
    show (rgG (rgA S)).2.2.2.1 = _
    rw [rgG_a]
  have r47 : (rdS S).2 47 = (rgA S).2.2.2.2 := by
    rw [rdS_eq]
    show (rgG (rgA S)).2.2.2.2 = _
    rw [rgG_a]
  have r48 : (rdS S).2 48 = wU (S.2 48) (wG1 (rB S 1)) (rwJ S) := by rw [rdS_eq]; rfl
  have r49 : (rdS S).2 49 = wU (S.2 49) (wG2 (rB S 1)) (rwJ S) := by rw [rdS_eq]; rfl
  have r50 : (rdS S).2 50 = wU (S.2 50) (wG3 (rB S 1)) (rwJ S) := by rw [rdS_eq]; rfl
  have hw : ∀ i : Nat, (i : Int) < S.1 4 → (rdS S).2 48 i = S.2 11 i ∧ (rdS S).2 49 i = S.2 12 i ∧ (rdS S).2 50 i = S.2 13 i := by
    intro i hi
    have hP := a9.2.2 i hi
    have hc := wG_cg (jT_B a7 (show 1 < 2 by decide)) i
    have h4 := a9.2.1
    rw [← a9.1] at h4
    have hj : i < rwJ S := by
      unfold rwJ rwEnd
      rw [v.1, a7.1.2]
      have wo := wF_ok (txB S 1) (S.1 1) a4.1 (S.1 1).toNat 0 (by omega)
      rw [← a9.1] at wo
      split at h4
      · rename_i c
        have wo2 := (wo c).1
        rw [if_pos c]
        omega
      · omega
    rw [r48, r49, r50]
    unfold wU
    rw [if_pos hj, if_pos hj, if_pos hj, hc.1, hc.2.1, hc.2.2]
    exact ⟨hP.1.symm, hP.2.1.symm, hP.2.2.symm⟩
  have fe : ∀ {c d : Prop} [Decidable c] [Decidable d] {x y : Int}, (c ↔ d) → (d → x = y) → (if c then x else 0) = if d then y else 0 := by
    intro c d _ _ x y h1 h2
    by_cases q : d
    · rw [if_pos q, if_pos (h1.mpr q), h2 q]
    · rw [if_neg q, if_neg (fun z => q (h1.mp z))]
  refine Prod.ext (funext fun k => ?_) (funext fun k => funext fun q => ?_)
  · match k with
    | 0 => exact r32
    | 1 => exact r33
    | 2 => exact r34
    | 3 => exact r51 1 (by decide)
    | 4 => exact r51 2 (by decide)
    | 5 => exact r51 3 (by decide)
    | 6 => exact r51 4 (by decide)
    | n + 7 => exact r51 5 (by decide)
  · match k with
    | 0 =>
      show rK (rdS S) q = gK S q
      unfold rK gK
      rw [r32, r46]
      exact fe Iff.rfl (fun c => (g.2.2 q.toNat (by omega)).1)
    | 1 =>
      show rL (rdS S) q = gL S q
      unfold rL gL
      rw [r32, r47]
      exact fe Iff.rfl (fun c => (g.2.2 q.toNat (by omega)).2)
    | 2 =>
      show rW (rdS S) q = pW S q
      unfold rW pW
      rw [r33]
      exact fe Iff.rfl (fun c => (hw q.toNat (by omega)).1)
    | 3 =>
      show rS (rdS S) q = pS S q
      unfold rS pS
      rw [r33]
      exact fe Iff.rfl (fun c => (hw q.toNat (by omega)).2.1)
    | n + 4 =>
      show rH (rdS S) q = pH S q
      unfold rH pH
      rw [r33]
      exact fe Iff.rfl (fun c => (hw q.toNat (by omega)).2.2)
def bS (S : St) : Nat := hbF ((rdS S).2 50) ((rdS S).1 33).toNat
theorem view {S : St} (hJ : J S) : mV (rdS S) = cV S := viewA hJ.1
theorem QA {S : St} (h : GA S) (hy : okY S) : okQ (rdS S) (bS S) := by
  refine ⟨by rw [viewA h]; exact h.1, fun a ha => ?_, ?_, rfl, ?_, (rdS_y hy).2.2.2⟩
  · rw [rdS_eq]
    show wrF _ (fun i => (i : Int)) 6 a = _
    unfold wrF
    rw [if_pos ha]
  · rw [rdS_eq]
    rfl
  · unfold bS
    rw [rdS_eq]
    rfl
theorem J_Q {S : St} (h : J S) : okQ (rdS S) (bS S) := QA h.1 (J_Y h)
theorem J_D {S : St} (h : J S) : okD (rdS S) (bS S) := by
  have hr := J_rd h
  refine ⟨RD_of S, rdS_y (J_Y h), J_Q h, hr.2.2.2.2.2, ?_, hr.2.1.2.2.2.2.1⟩
  rw [hr.2.1.2.2.2.2.2.1]
  exact hr.2.1.1

