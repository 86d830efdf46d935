/-- to read again changes nothing -/
theorem gIt_p (B : Int → Int) (n : Int) (K L : Nat → Int) (k : Nat) : (gIt B n K L k).2.1 ≤ (gIt B n K L (k + 1)).2.1 ∧ ∀ i : Nat, (i : Int) < (gIt B n K L k).2.1 → (gIt B n K L (k + 1)).2.2.2.1 i = (gIt B n K L k).2.2.2.1 i ∧ (gIt B n K L (k + 1)).2.2.2.2 i = (gIt B n K L k).2.2.2.2 i := by
  rw [gIt]
  unfold gStep
  have hb := (gIt_b B n K L k).2.1
  split
  · split
    · exact ⟨Int.le_refl _, fun _ _ => ⟨rfl, rfl⟩⟩
    · split
      · refine ⟨by simp only; omega, fun i hi => ?_⟩
        simp only [sx_u]
        rw [if_neg (by omega), if_neg (by omega)]
        exact ⟨rfl, rfl⟩
      · split
        · exact ⟨Int.le_refl _, fun _ _ => ⟨rfl, rfl⟩⟩
        · refine ⟨by simp only; omega, fun i hi => ?_⟩
          simp only [sx_u]
          rw [if_neg (by omega), if_neg (by omega)]
          exact ⟨rfl, rfl⟩
  · exact ⟨Int.le_refl _, fun _ _ => ⟨rfl, rfl⟩⟩
theorem gIt_keep (B : Int → Int) (n : Int) (K L : Nat → Int) (k : Nat) : ∀ d i : Nat, (i : Int) < (gIt B n K L k).2.1 → ((i : Int) < (gIt B n K L (k + d)).2.1 ∧ (gIt B n K L (k + d)).2.2.2.1 i = (gIt B n K L k).2.2.2.1 i ∧ (gIt B n K L (k + d)).2.2.2.2 i = (gIt B n K L k).2.2.2.2 i)
  | 0, i, h => ⟨h, rfl, rfl⟩
  | d + 1, i, h => by
    have ih := gIt_keep B n K L k d i h
    have hp := gIt_p B n K L (k + d)
    have h2 := hp.2 i ih.1
    rw [show k + (d + 1) = k + d + 1 by omega]
    exact ⟨by omega, h2.1.trans ih.2.1, h2.2.trans ih.2.2⟩
theorem sx_u_id {f : Nat → Int} {i : Nat} {x : Int} (h : f i = x) : sx_u f i x = f := by
  funext j
  unfold sx_u
  by_cases c : j = i
  · rw [if_pos c, c, h]
  · rw [if_neg c]
/-- a run over the arrays that a run left: they stay -/
theorem gIt_idem (B : Int → Int) (n : Int) (K L F G : Nat → Int) (N : Nat) (hF : ∀ i : Nat, (i : Int) < (gIt B n K L N).2.1 → F i = (gIt B n K L N).2.2.2.1 i ∧ G i = (gIt B n K L N).2.2.2.2 i) : ∀ k : Nat, k ≤ N → gIt B n F G k = ((gIt B n K L k).1, (gIt B n K L k).2.1, (gIt B n K L k).2.2.1, F, G)
  | 0, _ => rfl
  | k + 1, hk => by
    have ih := gIt_idem B n K L F G N hF k (by omega)
    have hb := (gIt_b B n K L k).2.1
    have kp := fun i h => gIt_keep B n K L (k + 1) (N - (k + 1)) i h
    rw [show k + 1 + (N - (k + 1)) = N by omega] at kp
    have key : ∀ i : Nat, (i : Int) < (gIt B n K L (k + 1)).2.1 → F i = (gIt B n K L (k + 1)).2.2.2.1 i ∧ G i = (gIt B n K L (k + 1)).2.2.2.2 i := fun i h => by
      have h1 := kp i h
      have h2 := hF i h1.1
      exact ⟨h2.1.trans h1.2.1, h2.2.trans h1.2.2⟩
    revert key
    rw [show gIt B n F G (k + 1) = gStep B n (gIt B n F G k) from rfl, show gIt B n K L (k + 1) = gStep B n (gIt B n K L k) from rfl, ih]
    generalize gIt B n K L k = g at hb ⊢
    obtain ⟨a, p, f, K1, L1⟩ := g
    simp only at hb ⊢
    unfold gStep
    simp only
    split
    · split
      · exact fun _ => rfl
      · split
        · intro key
          have h9 := key p.toNat (by simp only; omega)
          simp only [sx_u, if_pos] at h9
          rw [sx_u_id h9.1, sx_u_id h9.2]
        · split
          · exact fun _ => rfl
          · intro key
            have h9 := key p.toNat (by simp only; omega)
            simp only [sx_u, if_pos] at h9
            rw [sx_u_id h9.1, sx_u_id h9.2]
    · exact fun _ => rfl
def rwEnd (S : St) : Int := if rwF S = -1 then S.2 45 1 else rwF S
def rwW (S : St) : Int := if rwF S = -1 then (((S.2 45 1).toNat + 3) / 4 : Nat) else 0
def rwJ (S : St) : Nat := ((rwEnd S).toNat + 1) / 4
theorem rwE_eq (S : St) : rwE S = wrS S (rwEnd S) (rwW S) (rwJ S) := by
  unfold rwE rwJ rwEnd rwW
  by_cases h : rwF S = -1
  · rw [if_pos h, if_pos h, if_pos h]
  · rw [if_neg h, if_neg h, if_neg h]
/-- the state is one that was read -/
def RD (T : St) : Prop := (rgA T).2.2.2.1 = T.2 46 ∧ (rgA T).2.2.2.2 = T.2 47 ∧ T.1 32 = (rgG (rgA T)).2.1 ∧ T.1 31 = rwEnd T ∧ T.1 33 = rwW T ∧ wU (T.2 48) (wG1 (rB T 1)) (rwJ T) = T.2 48 ∧ wU (T.2 49) (wG2 (rB T 1)) (rwJ T) = T.2 49 ∧ wU (T.2 50) (wG3 (rB T 1)) (rwJ T) = T.2 50
theorem si_back0 (S : St) (k : Nat) : si S k (S.1 k) = S := by
  refine Prod.ext ?_ rfl
  funext j
  simp only [si, sx_u]
  by_cases c : j = k
  · rw [if_pos c, c]
  · rw [if_neg c]
theorem rgG_a (g : G5) : (rgG g).2.2.2 = g.2.2.2 := by
  unfold rgG
  split <;> rfl
theorem RD_g {T : St} (h : RD T) : rgE T = si T 31 (rgG (rgA T)).1 := by
  unfold rgE rG
  rw [show (rgG (rgA T)).2.2.2 = (rgA T).2.2.2 from rgG_a _, h.1, h.2.1, ← h.2.2.1]
  rw [show sA T 46 (T.2 46) = T from sA_self T 46, show sA T 47 (T.2 47) = T from sA_self T 47]
  rw [show si T 32 (T.1 32) = T from si_back0 T 32]
theorem RD_w {T : St} (h : RD T) (x : Int) : rwE (si T 31 x) = T := by
  rw [rwE_eq]
  show wrS (si T 31 x) (rwEnd T) (rwW T) (rwJ T) = T
  unfold wrS
  show si (si (sA (sA (sA (si T 31 x) 48 (wU (T.2 48) (wG1 (rB T 1)) (rwJ T))) 49 (wU (T.2 49) (wG2 (rB T 1)) (rwJ T))) 50 (wU (T.2 50) (wG3 (rB T 1)) (rwJ T))) 33 (rwW T)) 31 (rwEnd T) = T
  rw [h.2.2.2.2.2.1, h.2.2.2.2.2.2.1, h.2.2.2.2.2.2.2, ← h.2.2.2.1, ← h.2.2.2.2.1]
  rw [show sA (si T 31 x) 48 (T.2 48) = si T 31 x from sA_self (si T 31 x) 48, show sA (si T 31 x) 49 (T.2 49) = si T 31 x from sA_self (si T 31 x) 49, show sA (si T 31 x) 50 (T.2 50) = si T 31 x from sA_self (si T 31 x) 50]
  rw [show si (si T 31 x) 33 (T.1 33) = si T 31 x from si_back0 (si T 31 x) 33, si_back T 31 x _ rfl]
theorem RD_r {T : St} {b : Nat} (h : RD T) (hQ : okQ T b) : rdS T = T := by
  unfold rdS
  rw [RD_g h, RD_w h]
  exact plF_to hQ (fun _ _ _ => rfl) (fun _ _ => rfl) (fun _ _ => rfl)
theorem wU_wU (f g : Nat → Int) (j : Nat) : wU (wU f g j) g j = wU f g j := by
  funext x
  unfold wU
  split <;> rfl
/-- what reads() leaves was read -/
theorem RD_of (S : St) : RD (rdS S) := by
  have e : rdS S = plF (wrS (rgE S) (rwEnd (rgE S)) (rwW (rgE S)) (rwJ (rgE S))) := by
    unfold rdS
    rw [rwE_eq]
  have a1 : rgA (rdS S) = gIt (rB S 0) (S.2 45 0) (rgA S).2.2.2.1 (rgA S).2.2.2.2 32 := by
    rw [e]
    show gIt (rB S 0) (S.2 45 0) (rgG (rgA S)).2.2.2.1 (rgG (rgA S)).2.2.2.2 32 = _
    rw [rgG_a]
  have a2 : rgA (rdS S) = rgA S := by
    rw [a1]
    exact gIt_idem (rB S 0) (S.2 45 0) (S.2 46) (S.2 47) _ _ 32 (fun i _ => ⟨rfl, rfl⟩) 32 (Nat.le_refl _)
  have k1 : (rdS S).2 46 = (rgG (rgA S)).2.2.2.1 := by rw [e]; rfl
  have k2 : (rdS S).2 47 = (rgG (rgA S)).2.2.2.2 := by rw [e]; rfl
  have b1 : ∀ t, rB (rdS S) t = rB S t := by
    intro t
    rw [e]
    rfl
  have f1 : rwF (rdS S) = rwF (rgE S) := by
    rw [e]
    rfl
  have w1 : rwEnd (rdS S) = rwEnd (rgE S) := by
    rw [e]
    rfl
  have w2 : rwW (rdS S) = rwW (rgE S) := by
    rw [e]
    rfl
  have w3 : rwJ (rdS S) = rwJ (rgE S) := by
    rw [e]
    rfl
  refine ⟨?_, ?_, ?_, ?_, ?_, ?_, ?_, ?_⟩
  · rw [a2, k1, rgG_a]
  · rw [a2, k2, rgG_a]
  · rw [a2, e]
    rfl
  · rw [w1, e]
    rfl
  · rw [w2, e]
    rfl
  · rw [w3, b1, e]
    exact wU_wU _ _ _
  · rw [w3, b1, e]
    exact wU_wU _ _ _
  · rw [w3, b1, e]
    exact wU_wU _ _ _
