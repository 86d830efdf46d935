def rB (S : St) (t : Nat) (i : Int) : Int := if i < S.2 45 t then S.2 44 (40 * t + i.toNat) else -1
/-- the reference's texts and figures are in order -/
def okY (S : St) : Prop := (0 ≤ S.2 45 0 ∧ S.2 45 0 ≤ 32) ∧ (0 ≤ S.2 45 1 ∧ S.2 45 1 ≤ 23) ∧ (∀ i, 0 ≤ S.2 44 i ∧ S.2 44 i ≤ 255) ∧ ∀ i, 0 ≤ S.2 50 i ∧ S.2 50 i ≤ 1
theorem rB_b {S : St} (h : okY S) (t : Nat) (i : Int) : -1 ≤ rB S t i ∧ rB S t i ≤ 255 := by
  have := h.2.2.1 (40 * t + i.toNat)
  unfold rB
  split <;> omega
def rG (S : St) (g : G5) : St := si (si (sA (sA S 46 g.2.2.2.1) 47 g.2.2.2.2) 32 g.2.1) 31 g.1
theorem rG_a (S : St) (a p f x : Int) (K L : Nat → Int) : si (rG S (a, p, f, K, L)) 31 x = rG S (x, p, f, K, L) := by
  refine Prod.ext ?_ rfl
  funext b
  simp only [rG, si, sx_u]
  by_cases h1 : b = 31 <;> simp [h1]
theorem rG_p (S : St) (a p f x : Int) (K L : Nat → Int) : si (rG S (a, p, f, K, L)) 32 x = rG S (a, x, f, K, L) := by
  refine Prod.ext ?_ rfl
  funext b
  simp only [rG, si, sx_u]
  by_cases h1 : b = 32
  · subst h1
    simp
  · by_cases h2 : b = 31 <;> simp [h1, h2]
theorem rG_K (S : St) (a p f x : Int) (i : Nat) (K L : Nat → Int) : sa (rG S (a, p, f, K, L)) 46 i x = rG S (a, p, f, sx_u K i x, L) := by
  refine Prod.ext rfl ?_
  funext b
  simp only [rG, si, sa, sA, sx_u]
  by_cases h1 : b = 46
  · subst h1
    simp
  · by_cases h2 : b = 47 <;> simp [h1, h2]
theorem rG_L (S : St) (a p f x : Int) (i : Nat) (K L : Nat → Int) : sa (rG S (a, p, f, K, L)) 47 i x = rG S (a, p, f, K, sx_u L i x) := by
  refine Prod.ext rfl ?_
  funext b
  simp only [rG, si, sa, sA, sx_u]
  by_cases h1 : b = 47
  · subst h1
    simp
  · simp [h1]
theorem rG_0 (S : St) : si (si S 32 0) 31 0 = rG S (0, 0, -1, S.2 46, S.2 47) := by
  refine Prod.ext rfl ?_
  funext b
  simp only [rG, si, sA, sx_u]
  by_cases h1 : b = 47
  · subst h1
    simp
  · by_cases h2 : b = 46
    · subst h2
      simp
    · simp [h1, h2]
/-- what the gully's text leaves in the reference -/
def rgA (S : St) : G5 := gIt (rB S 0) (S.2 45 0) (S.2 46) (S.2 47) 32
def rgG (g : G5) : G5 := if g.2.2.1 = -1 then g else (g.2.2.1, 0, g.2.2.1, g.2.2.2)
def rgE (S : St) : St := rG S (rgG (rgA S))
/-- walkers -/
def wrS (S : St) (a : Int) (k : Int) (j : Nat) : St := si (si (sA (sA (sA S 48 (wU (S.2 48) (wG1 (rB S 1)) j)) 49 (wU (S.2 49) (wG2 (rB S 1)) j)) 50 (wU (S.2 50) (wG3 (rB S 1)) j)) 33 k) 31 a
theorem wrS_a (S : St) (a k x : Int) (j : Nat) : si (wrS S a k j) 31 x = wrS S x k j := by
  refine Prod.ext ?_ rfl
  funext b
  simp only [wrS, si, sx_u]
  by_cases h1 : b = 31 <;> simp [h1]
theorem wrS_k (S : St) (a k x : Int) (j : Nat) : si (wrS S a k j) 33 x = wrS S a x j := by
  refine Prod.ext ?_ rfl
  funext b
  simp only [wrS, si, sx_u]
  by_cases h1 : b = 33
  · subst h1
    simp
  · by_cases h2 : b = 31 <;> simp [h1, h2]
theorem wrS_0 (S : St) : si (si S 31 0) 33 0 = wrS S 0 0 0 := by
  refine Prod.ext ?_ ?_
  · funext b
    simp only [wrS, si, sA, sx_u]
    by_cases h1 : b = 33
    · subst h1
      simp
    · by_cases h2 : b = 31 <;> simp [h1, h2]
  · funext b
    simp only [wrS, si, sA, sx_u, wU_0]
    by_cases h1 : b = 50
    · subst h1
      simp
    · by_cases h2 : b = 49
      · subst h2
        simp
      · by_cases h3 : b = 48
        · subst h3
          simp
        · simp [h1, h2, h3]
theorem wrS_s (S : St) (a k x y z : Int) (j : Nat) (hx : x = wG1 (rB S 1) j) (hy : y = wG2 (rB S 1) j) (hz : z = wG3 (rB S 1) j) : sa (sa (sa (wrS S a k j) 48 j x) 49 j y) 50 j z = wrS S a k (j + 1) := by
  refine Prod.ext rfl ?_
  funext b
  simp only [wrS, si, sa, sA, sx_u]
  by_cases h1 : b = 50
  · subst h1
    simp
    exact wU_s _ _ _ hz
  · by_cases h2 : b = 49
    · subst h2
      simp
      exact wU_s _ _ _ hy
    · by_cases h3 : b = 48
      · subst h3
        simp
        exact wU_s _ _ _ hx
      · simp [h1, h2, h3]
/-- how far a walker reads -/
def rwO (B : Int → Int) (k : Nat) : Nat := if fitZ B (4 * (k : Int)) = 0 then 0 else if fitZ B (4 * (k : Int) + 1) = 0 then 1 else if fitZ B (4 * (k : Int) + 2) = 0 then 2 else 3
def rwF (S : St) : Int := wF (rB S 1) (S.2 45 1) (S.2 45 1).toNat 0
def rwE (S : St) : St := if rwF S = -1 then wrS S (S.2 45 1) (((S.2 45 1).toNat + 3) / 4 : Nat) (((S.2 45 1).toNat + 1) / 4) else wrS S (rwF S) 0 (((rwF S).toNat + 1) / 4)
def plF (S : St) : St := si (si (sA S 52 (wrF (S.2 52) (fun i => (i : Int)) 6)) 34 (S.2 51 0)) 35 (hbF (S.2 50) (S.1 33).toNat : Nat)
def rdS (S : St) : St := plF (rwE (rgE S))
theorem figZ_in (b : Int) (lo : Int) (hlo : 0 ≤ lo) : (lo ≤ b - 48 ∧ b - 48 ≤ 9) ↔ lo ≤ figZ b := by
  unfold figZ
  split <;> omega
theorem figZ_eq {b : Int} (h : 0 ≤ figZ b) : figZ b = b - 48 := by
  unfold figZ at h ⊢
  split at h
  · rw [if_pos (by assumption)]
  · omega
theorem wF_at {B : Int → Int} {n : Int} {i : Nat} (hi : (i : Int) < n) (h : fitZ B i = 0) : wF B n (n.toNat - i) i = i := by
  obtain ⟨k, hk⟩ : ∃ k, n.toNat - i = k + 1 := ⟨n.toNat - i - 1, by omega⟩
  rw [hk, wF, if_pos h]
theorem wF_go {B : Int → Int} {n : Int} {i : Nat} (hi : (i : Int) < n) (h : fitZ B i ≠ 0) : wF B n (n.toNat - i) i = wF B n (n.toNat - (i + 1)) (i + 1) := by
  obtain ⟨k, hk⟩ : ∃ k, n.toNat - i = k + 1 := ⟨n.toNat - i - 1, by omega⟩
  rw [hk, wF, if_neg h, show n.toNat - (i + 1) = k by omega]
theorem wF_end {B : Int → Int} {n : Int} {i : Nat} (hi : (i : Int) = n) : wF B n (n.toNat - i) i = if n = 0 ∨ n % 4 = 3 then -1 else n := by
  rw [show n.toNat - i = 0 by omega, wF]
theorem fitZ_out {S : St} {i : Int} (h : S.2 45 1 ≤ i) : fitZ (rB S 1) i = 0 := by
  have : rB S 1 i = -1 := if_neg (by omega)
  unfold fitZ
  rw [this]
  simp [figZ]
set_option maxRecDepth 20000 in
theorem c_X12_here0 {X : sx_X} {S : St} (hl : 0 ≤ S.2 45 0 ∧ S.2 45 0 ≤ 32) (ha : 0 ≤ S.1 31 ∧ S.1 31 ≤ 39) : Ct X yX12_here cX12_here 2 (some .int) 0 0 0 [.ref 39, vI 0] (hp S) (sx_is (some (vI (rB S 0 (S.1 31)))) (hp (S))) := by
  refine Ct.of false [some (.ref 39), some (vI 0)] (plainFor_of_name (by decide)) (fun h => by cases h) (Nat.le_of_ble_eq_true rfl) (fun _ => rfl) sx_isl ?_
  refine sx_aload_n (p1 := 1) dX12_here_0 rfl rfl ?_
  refine sx_get (v := vI (S.1 31)) (p1 := 4) dX12_here_1 rfl fl_X12_92 (hp_c39 _) rfl ?_
  refine sx_aload_n (p1 := 5) dX12_here_4 rfl rfl ?_
  refine sx_get (p1 := 8) dX12_here_5 rfl fl_X12_25 (hp_c39 _) rfl ?_
  refine sx_iload_n (p1 := 9) dX12_here_8 rfl rfl ?_
  refine sx_iald (g := S.2 45) (p1 := 10) dX12_here_9 rfl (hp_c45 _) (by omega) (by decide) ?_
  rw [show Int.toNat 0 = 0 from rfl]
  refine sx_icmp_ge (p1 := 13) (tg := 30) dX12_here_10 rfl rfl (by omega) (by omega) (fun q10 => ?_) (fun q10 => ?_)
  · refine sx_iconst (p1 := 31) dX12_here_30 rfl ?_
    exact sx_iret dX12_here_31 rfl (sx_ri (by unfold rB; first | (rw [if_pos (by omega)]; exact congrArg (S.2 44) (by omega)) | (rw [if_neg (by omega)])) (by rfl))
  · refine sx_aload_n (p1 := 14) dX12_here_13 rfl rfl ?_
    refine sx_get (p1 := 17) dX12_here_14 rfl fl_X12_22 (hp_c39 _) rfl ?_
    refine sx_bipush (p1 := 19) dX12_here_17 rfl (by decide) ?_
    refine sx_iload_n (p1 := 20) dX12_here_19 rfl rfl ?_
    refine sx_imul (p1 := 21) dX12_here_20 rfl ?_
    refine sx_aload_n (p1 := 22) dX12_here_21 rfl rfl ?_
    refine sx_get (v := vI (S.1 31)) (p1 := 25) dX12_here_22 rfl fl_X12_92 (hp_c39 _) rfl ?_
    refine sx_iadd (p1 := 26) dX12_here_25 rfl ?_
    refine sx_iald (g := S.2 44) (p1 := 27) dX12_here_26 rfl (hp_c44 _) (by omega) (by decide) ?_
    refine sx_goto (p1 := 31) (tg := 31) dX12_here_27 rfl rfl ?_
    exact sx_iret dX12_here_31 rfl (sx_ri (by unfold rB; first | (rw [if_pos (by omega)]; exact congrArg (S.2 44) (by omega)) | (rw [if_neg (by omega)])) (by rfl))
set_option maxRecDepth 20000 in
theorem c_X12_here1 {X : sx_X} {S : St} (hl : 0 ≤ S.2 45 1 ∧ S.2 45 1 ≤ 32) (ha : 0 ≤ S.1 31 ∧ S.1 31 ≤ 39) : Ct X yX12_here cX12_here 2 (some .int) 0 0 0 [.ref 39, vI 1] (hp S) (sx_is (some (vI (rB S 1 (S.1 31)))) (hp (S))) := by
  refine Ct.of false [some (.ref 39), some (vI 1)] (plainFor_of_name (by decide)) (fun h => by cases h) (Nat.le_of_ble_eq_true rfl) (fun _ => rfl) sx_isl ?_
  refine sx_aload_n (p1 := 1) dX12_here_0 rfl rfl ?_
  refine sx_get (v := vI (S.1 31)) (p1 := 4) dX12_here_1 rfl fl_X12_92 (hp_c39 _) rfl ?_
  refine sx_aload_n (p1 := 5) dX12_here_4 rfl rfl ?_
  refine sx_get (p1 := 8) dX12_here_5 rfl fl_X12_25 (hp_c39 _) rfl ?_
  refine sx_iload_n (p1 := 9) dX12_here_8 rfl rfl ?_
  refine sx_iald (g := S.2 45) (p1 := 10) dX12_here_9 rfl (hp_c45 _) (by omega) (by decide) ?_
  rw [show Int.toNat 1 = 1 from rfl]
  refine sx_icmp_ge (p1 := 13) (tg := 30) dX12_here_10 rfl rfl (by omega) (by omega) (fun q10 => ?_) (fun q10 => ?_)
  · refine sx_iconst (p1 := 31) dX12_here_30 rfl ?_
    exact sx_iret dX12_here_31 rfl (sx_ri (by unfold rB; first | (rw [if_pos (by omega)]; exact congrArg (S.2 44) (by omega)) | (rw [if_neg (by omega)])) (by rfl))
  · refine sx_aload_n (p1 := 14) dX12_here_13 rfl rfl ?_
    refine sx_get (p1 := 17) dX12_here_14 rfl fl_X12_22 (hp_c39 _) rfl ?_
    refine sx_bipush (p1 := 19) dX12_here_17 rfl (by decide) ?_
    refine sx_iload_n (p1 := 20) dX12_here_19 rfl rfl ?_
    refine sx_imul (p1 := 21) dX12_here_20 rfl ?_
    refine sx_aload_n (p1 := 22) dX12_here_21 rfl rfl ?_
    refine sx_get (v := vI (S.1 31)) (p1 := 25) dX12_here_22 rfl fl_X12_92 (hp_c39 _) rfl ?_
    refine sx_iadd (p1 := 26) dX12_here_25 rfl ?_
    refine sx_iald (g := S.2 44) (p1 := 27) dX12_here_26 rfl (hp_c44 _) (by omega) (by decide) ?_
    refine sx_goto (p1 := 31) (tg := 31) dX12_here_27 rfl rfl ?_
    exact sx_iret dX12_here_31 rfl (sx_ri (by unfold rB; first | (rw [if_pos (by omega)]; exact congrArg (S.2 44) (by omega)) | (rw [if_neg (by omega)])) (by rfl))
set_option maxRecDepth 20000 in
theorem c_X12_readsGully {X : sx_X} {S : St} (hY : okY S) : Ct X yX12_readsGully cX12_readsGully 4 (some .int) 1 0 0 [.ref 39] (hp S) (sx_is (some (vI (rgA S).2.2.1)) (hp (rgE S))) := by
  have h45 := hY.1
  have key : ∀ (n i : Nat) (a p : Int) (K L : Nat → Int), i + n = 32 → (i : Int) ≤ a → gIt (rB S 0) (S.2 45 0) (S.2 46) (S.2 47) i = (a, p, -1, K, L) → Rn X RX12 false cX12_readsGully 4 1 0 0 (some .int) 10 [some (.ref 39), none, none, none] [] (hp (rG S (a, p, -1, K, L))) 0 0 (sx_is (some (vI (rgA S).2.2.1)) (hp (rgE S))) := by
    intro n
    induction n with
    | zero =>
      intro i a p K L hi ha hG
      have hb := gIt_b (rB S 0) (S.2 45 0) (S.2 46) (S.2 47) i
      rw [hG] at hb
      simp only at hb
      have hx := rB_b hY 0 a
      have hx1 := rB_b hY 0 (a + 1)
      have hk := kdOf_b (rB S 0 a)
      have hs : gIt (rB S 0) (S.2 45 0) (S.2 46) (S.2 47) (i + 1) = gStep (rB S 0) (S.2 45 0) (a, p, -1, K, L) := by rw [gIt, hG]
      have zE : rgA S = (a, p, -1, K, L) := by
        rw [← hG]
        exact gIt_fix (rB S 0) (S.2 45 0) (S.2 46) (S.2 47) (by rw [hG]; show ¬ (a < S.2 45 0 ∧ _); omega) 32 (by omega)
      have zF : rgE S = rG S (rgG (a, p, -1, K, L)) := by rw [rgE, zE]
      rw [zE, zF]
      refine sx_aload_n (p1 := 11) dX12_readsGully_10 rfl rfl ?_
      refine sx_get (v := vI a) (p1 := 14) dX12_readsGully_11 rfl fl_X12_92 (hp_c39 _) rfl ?_
      refine sx_aload_n (p1 := 15) dX12_readsGully_14 rfl rfl ?_
      refine sx_get (p1 := 18) dX12_readsGully_15 rfl fl_X12_25 (hp_c39 _) rfl ?_
      refine sx_iconst (p1 := 19) dX12_readsGully_18 rfl ?_
      refine sx_iald (g := S.2 45) (p1 := 20) dX12_readsGully_19 rfl (hp_c45 _) (by omega) (by decide) ?_
      rw [show Int.toNat 0 = 0 from rfl]
      refine sx_icmp_ge (p1 := 23) (tg := 149) dX12_readsGully_20 rfl rfl (by omega) (by (show -2147483648 ≤ S.2 45 0 ∧ S.2 45 0 ≤ 2147483647); omega) (fun q20 => ?_) (fun q20 => absurd q20 (by (show ¬ a < S.2 45 0); omega))
      refine sx_iconst (p1 := 150) dX12_readsGully_149 rfl ?_
      exact sx_iret dX12_readsGully_150 rfl (sx_ri (by rfl) (by rfl))
    | succ n ih =>
      intro i a p K L hi ha hG
      have hb := gIt_b (rB S 0) (S.2 45 0) (S.2 46) (S.2 47) i
      rw [hG] at hb
      simp only at hb
      have hx := rB_b hY 0 a
      have hx1 := rB_b hY 0 (a + 1)
      have hk := kdOf_b (rB S 0 a)
      have hs : gIt (rB S 0) (S.2 45 0) (S.2 46) (S.2 47) (i + 1) = gStep (rB S 0) (S.2 45 0) (a, p, -1, K, L) := by rw [gIt, hG]
      refine sx_aload_n (p1 := 11) dX12_readsGully_10 rfl rfl ?_
      refine sx_get (v := vI a) (p1 := 14) dX12_readsGully_11 rfl fl_X12_92 (hp_c39 _) rfl ?_
      refine sx_aload_n (p1 := 15) dX12_readsGully_14 rfl rfl ?_
      refine sx_get (p1 := 18) dX12_readsGully_15 rfl fl_X12_25 (hp_c39 _) rfl ?_
      refine sx_iconst (p1 := 19) dX12_readsGully_18 rfl ?_
      refine sx_iald (g := S.2 45) (p1 := 20) dX12_readsGully_19 rfl (hp_c45 _) (by omega) (by decide) ?_
      rw [show Int.toNat 0 = 0 from rfl]
      refine sx_icmp_ge (p1 := 23) (tg := 149) dX12_readsGully_20 rfl rfl (by omega) (by (show -2147483648 ≤ S.2 45 0 ∧ S.2 45 0 ≤ 2147483647); omega) (fun q20 => ?_) (fun q20 => ?_)
      · have zE : rgA S = (a, p, -1, K, L) := by
          rw [← hG]
          exact gIt_fix (rB S 0) (S.2 45 0) (S.2 46) (S.2 47) (by rw [hG]; show ¬ (a < S.2 45 0 ∧ _); omega) 32 (by omega)
        have zF : rgE S = rG S (rgG (a, p, -1, K, L)) := by rw [rgE, zE]
        rw [zE, zF]
        refine sx_iconst (p1 := 150) dX12_readsGully_149 rfl ?_
        exact sx_iret dX12_readsGully_150 rfl (sx_ri (by rfl) (by rfl))
      · have q20 : a < S.2 45 0 := q20
        refine sx_aload_n (p1 := 24) dX12_readsGully_23 rfl rfl ?_
        refine sx_iconst (p1 := 25) dX12_readsGully_24 rfl ?_
        refine sx_callVr (p1 := 28) (As := [_]) (k1 := 0) (n1 := 0) dX12_readsGully_25 rfl rfl (c_X12_here0 (S := rG S (a, p, -1, K, L)) h45 (show 0 ≤ a ∧ a ≤ 39 by omega)) mt_X12_here ml_X12_98 (hp_c39 _) rfl rfl (Nat.le_of_ble_eq_true rfl) rfl (Nat.le_of_ble_eq_true rfl) rfl rfl (Nat.le_of_ble_eq_true rfl) (Nat.le_of_ble_eq_true rfl) ?_
        rw [show rB (rG S (a, p, -1, K, L)) 0 ((rG S (a, p, -1, K, L)).1 31) = rB S 0 a from rfl]
        refine sx_callSr (p1 := 31) (As := [_]) (k1 := 0) (n1 := 0) dX12_readsGully_28 rfl rfl (c_X12_kindOf (show -2147483648 ≤ rB S 0 a ∧ rB S 0 a ≤ 2147483647 by omega)) mt_X12_kindOf ml_X12_101 (Nat.le_of_ble_eq_true rfl) rfl (Nat.le_of_ble_eq_true rfl) rfl rfl (Nat.le_of_ble_eq_true rfl) (Nat.le_of_ble_eq_true rfl) ?_
        refine sx_istore_n (lo1 := [some _, some _, none, none]) (p1 := 32) dX12_readsGully_31 rfl (by decide) rfl ?_
        refine sx_aload_n (p1 := 33) dX12_readsGully_32 rfl rfl ?_
        refine sx_get (v := vI p) (p1 := 36) dX12_readsGully_33 rfl fl_X12_95 (hp_c39 _) rfl ?_
        refine sx_bipush (p1 := 38) dX12_readsGully_36 rfl (by decide) ?_
        refine sx_icmp_ge (p1 := 41) (tg := 50) dX12_readsGully_38 rfl rfl (by omega) (by omega) (fun q38 => ?_) (fun q38 => ?_)
        · have zs : gIt (rB S 0) (S.2 45 0) (S.2 46) (S.2 47) (i + 1) = (a, p, a, K, L) := hs.trans ((if_pos ⟨q20, rfl⟩).trans (if_pos (Or.inr q38)))
          have zE : rgA S = (a, p, a, K, L) := by
            rw [← zs]
            exact gIt_fix (rB S 0) (S.2 45 0) (S.2 46) (S.2 47) (by rw [zs]; simp only; omega) 32 (by omega)
          have zF : rgE S = rG S (rgG (a, p, a, K, L)) := by rw [rgE, zE]
          rw [zE, zF]
          refine sx_iconst (p1 := 51) dX12_readsGully_50 rfl ?_
          refine sx_istore_n (lo1 := [some _, some _, some _, none]) (p1 := 52) dX12_readsGully_51 rfl (by decide) rfl ?_
          refine sx_iconst (p1 := 53) dX12_readsGully_52 rfl ?_
          refine sx_istore_n (lo1 := [some _, some _, some _, some _]) (p1 := 54) dX12_readsGully_53 rfl (by decide) rfl ?_
          refine sx_iload_n (p1 := 55) dX12_readsGully_54 rfl rfl ?_
          refine sx_if_eq (p1 := 58) (tg := 92) dX12_readsGully_55 rfl rfl (by omega) (fun q55 => ?_) (fun q55 => absurd q55 (by omega))
          refine sx_iload_n (p1 := 93) dX12_readsGully_92 rfl rfl ?_
          refine sx_if_ne (p1 := 96) (tg := 106) dX12_readsGully_93 rfl rfl (by first | omega | (split <;> omega)) (fun q93 => absurd q93 (by omega)) (fun q93 => ?_)
          refine sx_aload_n (p1 := 97) dX12_readsGully_96 rfl rfl ?_
          refine sx_iconst (p1 := 98) dX12_readsGully_97 rfl ?_
          refine sx_put (p1 := 101) dX12_readsGully_98 rfl fl_X12_95 (hp_c39 _) (Nat.le_of_ble_eq_true rfl) (fun _ => rfl) (fun _ => rfl) (hp_s32 _ _) ?_
          rw [rG_p]
          refine sx_aload_n (p1 := 102) dX12_readsGully_101 rfl rfl ?_
          refine sx_get (p1 := 105) dX12_readsGully_102 rfl fl_X12_92 (hp_c39 _) rfl ?_
          exact sx_iret dX12_readsGully_105 rfl (sx_ri (by rfl) (by unfold rgG; rw [if_neg (by simp only; omega)]; rfl))
        · refine sx_iload_n (p1 := 42) dX12_readsGully_41 rfl rfl ?_
          refine sx_iconst (p1 := 43) dX12_readsGully_42 rfl ?_
          refine sx_icmp_eq (p1 := 46) (tg := 50) dX12_readsGully_43 rfl rfl (by (show -2147483648 ≤ kdOf (rB S 0 a) ∧ kdOf (rB S 0 a) ≤ 2147483647); omega) (by omega) (fun q43 => ?_) (fun q43 => ?_)
          · have q43 : kdOf (rB S 0 a) = -1 := q43
            have zs : gIt (rB S 0) (S.2 45 0) (S.2 46) (S.2 47) (i + 1) = (a, p, a, K, L) := hs.trans ((if_pos ⟨q20, rfl⟩).trans (if_pos (Or.inl q43)))
            have zE : rgA S = (a, p, a, K, L) := by
              rw [← zs]
              exact gIt_fix (rB S 0) (S.2 45 0) (S.2 46) (S.2 47) (by rw [zs]; simp only; omega) 32 (by omega)
            have zF : rgE S = rG S (rgG (a, p, a, K, L)) := by rw [rgE, zE]
            rw [zE, zF]
            refine sx_iconst (p1 := 51) dX12_readsGully_50 rfl ?_
            refine sx_istore_n (lo1 := [some _, some _, some _, none]) (p1 := 52) dX12_readsGully_51 rfl (by decide) rfl ?_
            refine sx_iconst (p1 := 53) dX12_readsGully_52 rfl ?_
            refine sx_istore_n (lo1 := [some _, some _, some _, some _]) (p1 := 54) dX12_readsGully_53 rfl (by decide) rfl ?_
            refine sx_iload_n (p1 := 55) dX12_readsGully_54 rfl rfl ?_
            refine sx_if_eq (p1 := 58) (tg := 92) dX12_readsGully_55 rfl rfl (by omega) (fun q55 => ?_) (fun q55 => absurd q55 (by omega))
            refine sx_iload_n (p1 := 93) dX12_readsGully_92 rfl rfl ?_
            refine sx_if_ne (p1 := 96) (tg := 106) dX12_readsGully_93 rfl rfl (by first | omega | (split <;> omega)) (fun q93 => absurd q93 (by omega)) (fun q93 => ?_)
            refine sx_aload_n (p1 := 97) dX12_readsGully_96 rfl rfl ?_
            refine sx_iconst (p1 := 98) dX12_readsGully_97 rfl ?_
            refine sx_put (p1 := 101) dX12_readsGully_98 rfl fl_X12_95 (hp_c39 _) (Nat.le_of_ble_eq_true rfl) (fun _ => rfl) (fun _ => rfl) (hp_s32 _ _) ?_
            rw [rG_p]
            refine sx_aload_n (p1 := 102) dX12_readsGully_101 rfl rfl ?_
            refine sx_get (p1 := 105) dX12_readsGully_102 rfl fl_X12_92 (hp_c39 _) rfl ?_
            exact sx_iret dX12_readsGully_105 rfl (sx_ri (by rfl) (by unfold rgG; rw [if_neg (by simp only; omega)]; rfl))
          · have q43 : ¬ kdOf (rB S 0 a) = -1 := q43
            refine sx_iconst (p1 := 47) dX12_readsGully_46 rfl ?_
            refine sx_goto (p1 := 51) (tg := 51) dX12_readsGully_47 rfl rfl ?_
            refine sx_istore_n (lo1 := [some _, some _, some _, none]) (p1 := 52) dX12_readsGully_51 rfl (by decide) rfl ?_
            refine sx_iconst (p1 := 53) dX12_readsGully_52 rfl ?_
            refine sx_istore_n (lo1 := [some _, some _, some _, some _]) (p1 := 54) dX12_readsGully_53 rfl (by decide) rfl ?_
            refine sx_iload_n (p1 := 55) dX12_readsGully_54 rfl rfl ?_
            refine sx_if_eq (p1 := 58) (tg := 92) dX12_readsGully_55 rfl rfl (by omega) (fun q55 => absurd q55 (by omega)) (fun q55 => ?_)
            refine sx_iload_n (p1 := 59) dX12_readsGully_58 rfl rfl ?_
            refine sx_iconst (p1 := 60) dX12_readsGully_59 rfl ?_
            refine sx_icmp_ne (p1 := 63) (tg := 92) dX12_readsGully_60 rfl rfl (by (show -2147483648 ≤ kdOf (rB S 0 a) ∧ kdOf (rB S 0 a) ≤ 2147483647); omega) (by omega) (fun q60 => ?_) (fun q60 => ?_)
            · have q60 : kdOf (rB S 0 a) ≠ 3 := q60
              have zs : gIt (rB S 0) (S.2 45 0) (S.2 46) (S.2 47) (i + 1) = (a + 1, p + 1, -1, sx_u K p.toNat (kdOf (rB S 0 a)), sx_u L p.toNat 0) := hs.trans ((if_pos ⟨q20, rfl⟩).trans ((if_neg (fun q => by simp only at q; omega)).trans (if_pos q60)))
              refine sx_iload_n (p1 := 93) dX12_readsGully_92 rfl rfl ?_
              refine sx_if_ne (p1 := 96) (tg := 106) dX12_readsGully_93 rfl rfl (by first | omega | (split <;> omega)) (fun q93 => ?_) (fun q93 => absurd q93 (by omega))
              refine sx_aload_n (p1 := 107) dX12_readsGully_106 rfl rfl ?_
              refine sx_get (p1 := 110) dX12_readsGully_107 rfl fl_X12_28 (hp_c39 _) rfl ?_
              refine sx_aload_n (p1 := 111) dX12_readsGully_110 rfl rfl ?_
              refine sx_get (v := vI p) (p1 := 114) dX12_readsGully_111 rfl fl_X12_95 (hp_c39 _) rfl ?_
              refine sx_iload_n (p1 := 115) dX12_readsGully_114 rfl rfl ?_
              refine sx_iast (p1 := 116) dX12_readsGully_115 rfl (hp_c46 _) (by omega) (by decide) (hp_a46 _ _ _) ?_
              rw [rG_K]
              refine sx_aload_n (p1 := 117) dX12_readsGully_116 rfl rfl ?_
              refine sx_get (p1 := 120) dX12_readsGully_117 rfl fl_X12_31 (hp_c39 _) rfl ?_
              refine sx_aload_n (p1 := 121) dX12_readsGully_120 rfl rfl ?_
              refine sx_get (v := vI p) (p1 := 124) dX12_readsGully_121 rfl fl_X12_95 (hp_c39 _) rfl ?_
              refine sx_iload_n (p1 := 125) dX12_readsGully_124 rfl rfl ?_
              refine sx_iast (p1 := 126) dX12_readsGully_125 rfl (hp_c47 _) (by omega) (by decide) (hp_a47 _ _ _) ?_
              rw [rG_L]
              refine sx_aload_n (p1 := 127) dX12_readsGully_126 rfl rfl ?_
              refine sx_dup (p1 := 128) dX12_readsGully_127 rfl rfl ?_
              refine sx_get (v := vI p) (p1 := 131) dX12_readsGully_128 rfl fl_X12_95 (hp_c39 _) rfl ?_
              refine sx_iconst (p1 := 132) dX12_readsGully_131 rfl ?_
              refine sx_iadd (p1 := 133) dX12_readsGully_132 rfl ?_
              refine sx_put (p1 := 136) dX12_readsGully_133 rfl fl_X12_95 (hp_c39 _) (Nat.le_of_ble_eq_true rfl) (fun _ => rfl) (fun _ => rfl) (hp_s32 _ _) ?_
              rw [rG_p]
              refine sx_aload_n (p1 := 137) dX12_readsGully_136 rfl rfl ?_
              refine sx_dup (p1 := 138) dX12_readsGully_137 rfl rfl ?_
              refine sx_get (p1 := 141) dX12_readsGully_138 rfl fl_X12_92 (hp_c39 _) rfl ?_
              refine sx_iconst (p1 := 142) dX12_readsGully_141 rfl ?_
              refine sx_iadd (p1 := 143) dX12_readsGully_142 rfl ?_
              refine sx_put (p1 := 146) dX12_readsGully_143 rfl fl_X12_92 (hp_c39 _) (Nat.le_of_ble_eq_true rfl) (fun _ => rfl) (fun _ => rfl) (hp_s31 _ _) ?_
              refine sx_goto (p1 := 10) (tg := 10) dX12_readsGully_146 rfl rfl ?_
              refine sx_drop [true, false, false, false] (lo1 := [some _, none, none, none]) rfl ?_
              rw [rG_a]
              have h9 := ih (i + 1) _ _ _ _ (by omega) (by omega) zs
              exact h9
            · have q60 : kdOf (rB S 0 a) = 3 := q60
              refine sx_aload_n (p1 := 64) dX12_readsGully_63 rfl rfl ?_
              refine sx_dup (p1 := 65) dX12_readsGully_64 rfl rfl ?_
              refine sx_get (v := vI a) (p1 := 68) dX12_readsGully_65 rfl fl_X12_92 (hp_c39 _) rfl ?_
              refine sx_iconst (p1 := 69) dX12_readsGully_68 rfl ?_
              refine sx_iadd (p1 := 70) dX12_readsGully_69 rfl ?_
              refine sx_put (p1 := 73) dX12_readsGully_70 rfl fl_X12_92 (hp_c39 _) (Nat.le_of_ble_eq_true rfl) (fun _ => rfl) (fun _ => rfl) (hp_s31 _ _) ?_
              rw [rG_a]
              refine sx_aload_n (p1 := 74) dX12_readsGully_73 rfl rfl ?_
              refine sx_iconst (p1 := 75) dX12_readsGully_74 rfl ?_
              refine sx_callVr (p1 := 78) (As := [_]) (k1 := 0) (n1 := 0) dX12_readsGully_75 rfl rfl (c_X12_here0 (S := rG S (a + 1, p, -1, K, L)) h45 (show 0 ≤ a + 1 ∧ a + 1 ≤ 39 by omega)) mt_X12_here ml_X12_98 (hp_c39 _) rfl rfl (Nat.le_of_ble_eq_true rfl) rfl (Nat.le_of_ble_eq_true rfl) rfl rfl (Nat.le_of_ble_eq_true rfl) (Nat.le_of_ble_eq_true rfl) ?_
              rw [show rB (rG S (a + 1, p, -1, K, L)) 0 ((rG S (a + 1, p, -1, K, L)).1 31) = rB S 0 (a + 1) from rfl]
              refine sx_bipush (p1 := 80) dX12_readsGully_78 rfl (by decide) ?_
              refine sx_isub (p1 := 81) dX12_readsGully_80 rfl ?_
              refine sx_istore_n (lo1 := [some _, some _, some _, some _]) (p1 := 82) dX12_readsGully_81 rfl (by decide) rfl ?_
              refine sx_iload_n (p1 := 83) dX12_readsGully_82 rfl rfl ?_
              refine sx_i2l (p1 := 84) dX12_readsGully_83 rfl (by omega) ?_
              refine sx_lconst (y := 1) (p1 := 85) dX12_readsGully_84 rfl (by decide) ?_
              refine sx_ldc2 (z := 9) (p1 := 88) dX12_readsGully_85 rfl kc_X12_104 (by decide) ?_
              refine sx_callSr (p1 := 91) (As := [_, _, _]) (k1 := 0) (n1 := 0) dX12_readsGully_88 rfl rfl (c_X12_in (by omega) (by omega) (by omega)) mt_X12_in ml_X12_58 (Nat.le_of_ble_eq_true rfl) rfl (Nat.le_of_ble_eq_true rfl) rfl rfl (Nat.le_of_ble_eq_true rfl) (Nat.le_of_ble_eq_true rfl) ?_
              refine sx_istore_n (lo1 := [some _, some _, some _, some _]) (p1 := 92) dX12_readsGully_91 rfl (by decide) rfl ?_
              refine sx_iload_n (p1 := 93) dX12_readsGully_92 rfl rfl ?_
              refine sx_if_ne (p1 := 96) (tg := 106) dX12_readsGully_93 rfl rfl (by first | omega | (split <;> omega)) (fun q93 => ?_) (fun q93 => ?_)
              · have q93 : 1 ≤ rB S 0 (a + 1) - 48 ∧ rB S 0 (a + 1) - 48 ≤ 9 := Decidable.byContradiction (fun q => q93 (if_neg q))
                have q94 := (figZ_in (rB S 0 (a + 1)) 1 (by decide)).1 q93
                have q95 := figZ_eq (b := rB S 0 (a + 1)) (by omega)
                have zs : gIt (rB S 0) (S.2 45 0) (S.2 46) (S.2 47) (i + 1) = (a + 1 + 1, p + 1, -1, sx_u K p.toNat (kdOf (rB S 0 a)), sx_u L p.toNat (rB S 0 (a + 1) - 48)) := hs.trans ((if_pos ⟨q20, rfl⟩).trans ((if_neg (fun q => by simp only at q; omega)).trans ((if_neg (fun q => q q60)).trans ((if_neg (show ¬ figZ (rB S 0 (a + 1)) < 1 by omega)).trans (by rw [q95, q60, show a + 1 + 1 = a + 2 by omega])))))
                refine sx_aload_n (p1 := 107) dX12_readsGully_106 rfl rfl ?_
                refine sx_get (p1 := 110) dX12_readsGully_107 rfl fl_X12_28 (hp_c39 _) rfl ?_
                refine sx_aload_n (p1 := 111) dX12_readsGully_110 rfl rfl ?_
                refine sx_get (v := vI p) (p1 := 114) dX12_readsGully_111 rfl fl_X12_95 (hp_c39 _) rfl ?_
                refine sx_iload_n (p1 := 115) dX12_readsGully_114 rfl rfl ?_
                refine sx_iast (p1 := 116) dX12_readsGully_115 rfl (hp_c46 _) (by omega) (by decide) (hp_a46 _ _ _) ?_
                rw [rG_K]
                refine sx_aload_n (p1 := 117) dX12_readsGully_116 rfl rfl ?_
                refine sx_get (p1 := 120) dX12_readsGully_117 rfl fl_X12_31 (hp_c39 _) rfl ?_
                refine sx_aload_n (p1 := 121) dX12_readsGully_120 rfl rfl ?_
                refine sx_get (v := vI p) (p1 := 124) dX12_readsGully_121 rfl fl_X12_95 (hp_c39 _) rfl ?_
                refine sx_iload_n (p1 := 125) dX12_readsGully_124 rfl rfl ?_
                refine sx_iast (p1 := 126) dX12_readsGully_125 rfl (hp_c47 _) (by omega) (by decide) (hp_a47 _ _ _) ?_
                rw [rG_L]
                refine sx_aload_n (p1 := 127) dX12_readsGully_126 rfl rfl ?_
                refine sx_dup (p1 := 128) dX12_readsGully_127 rfl rfl ?_
                refine sx_get (v := vI p) (p1 := 131) dX12_readsGully_128 rfl fl_X12_95 (hp_c39 _) rfl ?_
                refine sx_iconst (p1 := 132) dX12_readsGully_131 rfl ?_
                refine sx_iadd (p1 := 133) dX12_readsGully_132 rfl ?_
                refine sx_put (p1 := 136) dX12_readsGully_133 rfl fl_X12_95 (hp_c39 _) (Nat.le_of_ble_eq_true rfl) (fun _ => rfl) (fun _ => rfl) (hp_s32 _ _) ?_
                rw [rG_p]
                refine sx_aload_n (p1 := 137) dX12_readsGully_136 rfl rfl ?_
                refine sx_dup (p1 := 138) dX12_readsGully_137 rfl rfl ?_
                refine sx_get (p1 := 141) dX12_readsGully_138 rfl fl_X12_92 (hp_c39 _) rfl ?_
                refine sx_iconst (p1 := 142) dX12_readsGully_141 rfl ?_
                refine sx_iadd (p1 := 143) dX12_readsGully_142 rfl ?_
                refine sx_put (p1 := 146) dX12_readsGully_143 rfl fl_X12_92 (hp_c39 _) (Nat.le_of_ble_eq_true rfl) (fun _ => rfl) (fun _ => rfl) (hp_s31 _ _) ?_
                refine sx_goto (p1 := 10) (tg := 10) dX12_readsGully_146 rfl rfl ?_
                refine sx_drop [true, false, false, false] (lo1 := [some _, none, none, none]) rfl ?_
                rw [rG_a]
                have h9 := ih (i + 1) _ _ _ _ (by omega) (by omega) zs
                exact h9
              · have q93 : ¬ (1 ≤ rB S 0 (a + 1) - 48 ∧ rB S 0 (a + 1) - 48 ≤ 9) := fun q => absurd ((if_pos q).symm.trans q93) (by decide)
                rw [figZ_in _ 1 (by decide)] at q93
                have zs : gIt (rB S 0) (S.2 45 0) (S.2 46) (S.2 47) (i + 1) = (a, p, a + 1, K, L) := hs.trans ((if_pos ⟨q20, rfl⟩).trans ((if_neg (fun q => by simp only at q; omega)).trans ((if_neg (fun q => q q60)).trans (if_pos (show figZ (rB S 0 (a + 1)) < 1 by omega)))))
                have zE : rgA S = (a, p, a + 1, K, L) := by
                  rw [← zs]
                  exact gIt_fix (rB S 0) (S.2 45 0) (S.2 46) (S.2 47) (by rw [zs]; simp only; omega) 32 (by omega)
                have zF : rgE S = rG S (rgG (a, p, a + 1, K, L)) := by rw [rgE, zE]
                rw [zE, zF]
                refine sx_aload_n (p1 := 97) dX12_readsGully_96 rfl rfl ?_
                refine sx_iconst (p1 := 98) dX12_readsGully_97 rfl ?_
                refine sx_put (p1 := 101) dX12_readsGully_98 rfl fl_X12_95 (hp_c39 _) (Nat.le_of_ble_eq_true rfl) (fun _ => rfl) (fun _ => rfl) (hp_s32 _ _) ?_
                rw [rG_p]
                refine sx_aload_n (p1 := 102) dX12_readsGully_101 rfl rfl ?_
                refine sx_get (p1 := 105) dX12_readsGully_102 rfl fl_X12_92 (hp_c39 _) rfl ?_
                exact sx_iret dX12_readsGully_105 rfl (sx_ri (by rfl) (by unfold rgG; rw [if_neg (by simp only; omega)]; rfl))
  refine Ct.of false [some (.ref 39), none, none, none] (plainFor_of_name (by decide)) (fun h => by cases h) (Nat.le_of_ble_eq_true rfl) (fun _ => rfl) sx_isl ?_
  refine sx_aload_n (p1 := 1) dX12_readsGully_0 rfl rfl ?_
  refine sx_iconst (p1 := 2) dX12_readsGully_1 rfl ?_
  refine sx_put (p1 := 5) dX12_readsGully_2 rfl fl_X12_95 (hp_c39 _) (Nat.le_of_ble_eq_true rfl) (fun _ => rfl) (fun _ => rfl) (hp_s32 _ _) ?_
  refine sx_aload_n (p1 := 6) dX12_readsGully_5 rfl rfl ?_
  refine sx_iconst (p1 := 7) dX12_readsGully_6 rfl ?_
  refine sx_put (p1 := 10) dX12_readsGully_7 rfl fl_X12_92 (hp_c39 _) (Nat.le_of_ble_eq_true rfl) (fun _ => rfl) (fun _ => rfl) (hp_s31 _ _) ?_
  rw [rG_0]
  exact key 32 0 0 0 (S.2 46) (S.2 47) rfl (by decide) rfl
set_option maxRecDepth 20000 in
theorem c_X12_readsWalker {X : sx_X} {S : St} {k : Nat} (hY : okY S) (hk : k < 6) : Ct X yX12_readsWalker cX12_readsWalker 3 (some .boolean) 1 0 0 [.ref 39] (hp (wrS S (4 * (k : Int)) k k)) (sx_is (some (vI (if (rwO (rB S 1) k) = 3 then 1 else 0))) (hp (if (rwO (rB S 1) k) = 3 then wrS S (4 * (k : Int) + 3) ((k : Int) + 1) (k + 1) else wrS S (4 * (k : Int) + ((rwO (rB S 1) k) : Nat)) (k : Int) k))) := by
  have h45 := hY.2.1
  have x0 := rB_b hY 1 (4 * (k : Int))
  have x1 := rB_b hY 1 (4 * (k : Int) + 1)
  have x2 := rB_b hY 1 (4 * (k : Int) + 2)
  have f0 : fitZ (rB S 1) (4 * (k : Int)) = if 1 ≤ figZ (rB S 1 (4 * (k : Int))) then 1 else 0 := if_pos (by omega)
  have f1 : fitZ (rB S 1) (4 * (k : Int) + 1) = if 0 ≤ figZ (rB S 1 (4 * (k : Int) + 1)) then 1 else 0 := (if_neg (by omega)).trans (if_pos (by omega))
  have f2 : fitZ (rB S 1) (4 * (k : Int) + 2) = if rB S 1 (4 * (k : Int) + 2) = 104 ∨ rB S 1 (4 * (k : Int) + 2) = 46 then 1 else 0 := (if_neg (by omega)).trans ((if_neg (by omega)).trans (if_pos (by omega)))
  refine Ct.of false [some (.ref 39), none, none] (plainFor_of_name (by decide)) (fun h => by cases h) (Nat.le_of_ble_eq_true rfl) (fun _ => rfl) sx_isl ?_
  refine sx_aload_n (p1 := 1) dX12_readsWalker_0 rfl rfl ?_
  refine sx_iconst (p1 := 2) dX12_readsWalker_1 rfl ?_
  refine sx_callVr (p1 := 5) (As := [_]) (k1 := 0) (n1 := 0) dX12_readsWalker_2 rfl rfl (c_X12_here1 (S := wrS S (4 * (k : Int)) (k : Int) k) (show 0 ≤ S.2 45 1 ∧ S.2 45 1 ≤ 32 by omega) (show 0 ≤ 4 * (k : Int) ∧ 4 * (k : Int) ≤ 39 by omega)) mt_X12_here ml_X12_98 (hp_c39 _) rfl rfl (Nat.le_of_ble_eq_true rfl) rfl (Nat.le_of_ble_eq_true rfl) rfl rfl (Nat.le_of_ble_eq_true rfl) (Nat.le_of_ble_eq_true rfl) ?_
  rw [show rB (wrS S (4 * (k : Int)) (k : Int) k) 1 ((wrS S (4 * (k : Int)) (k : Int) k).1 31) = rB S 1 (4 * (k : Int)) from rfl]
  refine sx_bipush (p1 := 7) dX12_readsWalker_5 rfl (by decide) ?_
  refine sx_isub (p1 := 8) dX12_readsWalker_7 rfl ?_
  refine sx_istore_n (lo1 := [some _, some _, none]) (p1 := 9) dX12_readsWalker_8 rfl (by decide) rfl ?_
  refine sx_aload_n (p1 := 10) dX12_readsWalker_9 rfl rfl ?_
  refine sx_get (v := vI (k : Int)) (p1 := 13) dX12_readsWalker_10 rfl fl_X12_106 (hp_c39 _) rfl ?_
  refine sx_bipush (p1 := 15) dX12_readsWalker_13 rfl (by decide) ?_
  refine sx_icmp_eq (p1 := 18) (tg := 30) dX12_readsWalker_15 rfl rfl (by omega) (by omega) (fun q15 => absurd q15 (by omega)) (fun q15 => ?_)
  refine sx_iload_n (p1 := 19) dX12_readsWalker_18 rfl rfl ?_
  refine sx_i2l (p1 := 20) dX12_readsWalker_19 rfl (by omega) ?_
  refine sx_lconst (y := 1) (p1 := 21) dX12_readsWalker_20 rfl (by decide) ?_
  refine sx_ldc2 (z := 9) (p1 := 24) dX12_readsWalker_21 rfl kc_X12_104 (by decide) ?_
  refine sx_callSr (p1 := 27) (As := [_, _, _]) (k1 := 0) (n1 := 0) dX12_readsWalker_24 rfl rfl (c_X12_in (by omega) (by omega) (by omega)) mt_X12_in ml_X12_58 (Nat.le_of_ble_eq_true rfl) rfl (Nat.le_of_ble_eq_true rfl) rfl rfl (Nat.le_of_ble_eq_true rfl) (Nat.le_of_ble_eq_true rfl) ?_
  refine sx_if_ne (p1 := 30) (tg := 32) dX12_readsWalker_27 rfl rfl (by split <;> omega) (fun q27 => ?_) (fun q27 => ?_)
  · have z0 : 1 ≤ figZ (rB S 1 (4 * (k : Int))) := by
      rw [← figZ_in _ 1 (by decide)]
      exact Decidable.byContradiction (fun q => q27 (if_neg q))
    rw [if_pos z0] at f0
    have y0 := figZ_eq (b := rB S 1 (4 * (k : Int))) (by omega)
    refine sx_aload_n (p1 := 33) dX12_readsWalker_32 rfl rfl ?_
    refine sx_dup (p1 := 34) dX12_readsWalker_33 rfl rfl ?_
    refine sx_get (v := vI (4 * (k : Int))) (p1 := 37) dX12_readsWalker_34 rfl fl_X12_92 (hp_c39 _) rfl ?_
    refine sx_iconst (p1 := 38) dX12_readsWalker_37 rfl ?_
    refine sx_iadd (p1 := 39) dX12_readsWalker_38 rfl ?_
    refine sx_put (p1 := 42) dX12_readsWalker_39 rfl fl_X12_92 (hp_c39 _) (Nat.le_of_ble_eq_true rfl) (fun _ => rfl) (fun _ => rfl) (hp_s31 _ _) ?_
    rw [wrS_a]
    refine sx_aload_n (p1 := 43) dX12_readsWalker_42 rfl rfl ?_
    refine sx_iconst (p1 := 44) dX12_readsWalker_43 rfl ?_
    refine sx_callVr (p1 := 47) (As := [_]) (k1 := 0) (n1 := 0) dX12_readsWalker_44 rfl rfl (c_X12_here1 (S := wrS S (4 * (k : Int) + 1) (k : Int) k) (show 0 ≤ S.2 45 1 ∧ S.2 45 1 ≤ 32 by omega) (show 0 ≤ 4 * (k : Int) + 1 ∧ 4 * (k : Int) + 1 ≤ 39 by omega)) mt_X12_here ml_X12_98 (hp_c39 _) rfl rfl (Nat.le_of_ble_eq_true rfl) rfl (Nat.le_of_ble_eq_true rfl) rfl rfl (Nat.le_of_ble_eq_true rfl) (Nat.le_of_ble_eq_true rfl) ?_
    rw [show rB (wrS S (4 * (k : Int) + 1) (k : Int) k) 1 ((wrS S (4 * (k : Int) + 1) (k : Int) k).1 31) = rB S 1 (4 * (k : Int) + 1) from rfl]
    refine sx_bipush (p1 := 49) dX12_readsWalker_47 rfl (by decide) ?_
    refine sx_isub (p1 := 50) dX12_readsWalker_49 rfl ?_
    refine sx_istore_n (lo1 := [some _, some _, some _]) (p1 := 51) dX12_readsWalker_50 rfl (by decide) rfl ?_
    refine sx_iload_n (p1 := 52) dX12_readsWalker_51 rfl rfl ?_
    refine sx_i2l (p1 := 53) dX12_readsWalker_52 rfl (by omega) ?_
    refine sx_lconst (y := 0) (p1 := 54) dX12_readsWalker_53 rfl (by decide) ?_
    refine sx_ldc2 (z := 9) (p1 := 57) dX12_readsWalker_54 rfl kc_X12_104 (by decide) ?_
    refine sx_callSr (p1 := 60) (As := [_, _, _]) (k1 := 0) (n1 := 0) dX12_readsWalker_57 rfl rfl (c_X12_in (by omega) (by omega) (by omega)) mt_X12_in ml_X12_58 (Nat.le_of_ble_eq_true rfl) rfl (Nat.le_of_ble_eq_true rfl) rfl rfl (Nat.le_of_ble_eq_true rfl) (Nat.le_of_ble_eq_true rfl) ?_
    refine sx_if_ne (p1 := 63) (tg := 65) dX12_readsWalker_60 rfl rfl (by split <;> omega) (fun q60 => ?_) (fun q60 => ?_)
    · have z1 : 0 ≤ figZ (rB S 1 (4 * (k : Int) + 1)) := by
        rw [← figZ_in _ 0 (by decide)]
        exact Decidable.byContradiction (fun q => q60 (if_neg q))
      rw [if_pos z1] at f1
      have y1 := figZ_eq (b := rB S 1 (4 * (k : Int) + 1)) (by omega)
      refine sx_aload_n (p1 := 66) dX12_readsWalker_65 rfl rfl ?_
      refine sx_dup (p1 := 67) dX12_readsWalker_66 rfl rfl ?_
      refine sx_get (v := vI (4 * (k : Int) + 1)) (p1 := 70) dX12_readsWalker_67 rfl fl_X12_92 (hp_c39 _) rfl ?_
      refine sx_iconst (p1 := 71) dX12_readsWalker_70 rfl ?_
      refine sx_iadd (p1 := 72) dX12_readsWalker_71 rfl ?_
      refine sx_put (p1 := 75) dX12_readsWalker_72 rfl fl_X12_92 (hp_c39 _) (Nat.le_of_ble_eq_true rfl) (fun _ => rfl) (fun _ => rfl) (hp_s31 _ _) ?_
      rw [wrS_a, show 4 * (k : Int) + 1 + 1 = 4 * (k : Int) + 2 by omega]
      refine sx_aload_n (p1 := 76) dX12_readsWalker_75 rfl rfl ?_
      refine sx_iconst (p1 := 77) dX12_readsWalker_76 rfl ?_
      refine sx_callVr (p1 := 80) (As := [_]) (k1 := 0) (n1 := 0) dX12_readsWalker_77 rfl rfl (c_X12_here1 (S := wrS S (4 * (k : Int) + 2) (k : Int) k) (show 0 ≤ S.2 45 1 ∧ S.2 45 1 ≤ 32 by omega) (show 0 ≤ 4 * (k : Int) + 2 ∧ 4 * (k : Int) + 2 ≤ 39 by omega)) mt_X12_here ml_X12_98 (hp_c39 _) rfl rfl (Nat.le_of_ble_eq_true rfl) rfl (Nat.le_of_ble_eq_true rfl) rfl rfl (Nat.le_of_ble_eq_true rfl) (Nat.le_of_ble_eq_true rfl) ?_
      rw [show rB (wrS S (4 * (k : Int) + 2) (k : Int) k) 1 ((wrS S (4 * (k : Int) + 2) (k : Int) k).1 31) = rB S 1 (4 * (k : Int) + 2) from rfl]
      refine sx_bipush (p1 := 82) dX12_readsWalker_80 rfl (by decide) ?_
      refine sx_icmp_eq (p1 := 85) (tg := 97) dX12_readsWalker_82 rfl rfl (by omega) (by omega) (fun q82 => ?_) (fun q82 => ?_)
      · rw [if_pos (Or.inl q82)] at f2
        have zo : (rwO (rB S 1) k) = 3 := (if_neg (by omega)).trans ((if_neg (by omega)).trans (if_neg (by omega)))
        rw [zo]
        refine sx_aload_n (p1 := 98) dX12_readsWalker_97 rfl rfl ?_
        refine sx_get (p1 := 101) dX12_readsWalker_98 rfl fl_X12_34 (hp_c39 _) rfl ?_
        refine sx_aload_n (p1 := 102) dX12_readsWalker_101 rfl rfl ?_
        refine sx_get (v := vI (k : Int)) (p1 := 105) dX12_readsWalker_102 rfl fl_X12_106 (hp_c39 _) rfl ?_
        refine sx_iload_n (p1 := 106) dX12_readsWalker_105 rfl rfl ?_
        refine sx_iast (p1 := 107) dX12_readsWalker_106 rfl (hp_c48 _) (by omega) (by decide) (hp_a48 _ _ _) ?_
        rw [Int.toNat_natCast]
        refine sx_aload_n (p1 := 108) dX12_readsWalker_107 rfl rfl ?_
        refine sx_get (p1 := 111) dX12_readsWalker_108 rfl fl_X12_37 (hp_c39 _) rfl ?_
        refine sx_aload_n (p1 := 112) dX12_readsWalker_111 rfl rfl ?_
        refine sx_get (v := vI (k : Int)) (p1 := 115) dX12_readsWalker_112 rfl fl_X12_106 (hp_c39 _) rfl ?_
        refine sx_iload_n (p1 := 116) dX12_readsWalker_115 rfl rfl ?_
        refine sx_iast (p1 := 117) dX12_readsWalker_116 rfl (hp_c49 _) (by omega) (by decide) (hp_a49 _ _ _) ?_
        rw [Int.toNat_natCast]
        refine sx_aload_n (p1 := 118) dX12_readsWalker_117 rfl rfl ?_
        refine sx_get (p1 := 121) dX12_readsWalker_118 rfl fl_X12_40 (hp_c39 _) rfl ?_
        refine sx_aload_n (p1 := 122) dX12_readsWalker_121 rfl rfl ?_
        refine sx_get (v := vI (k : Int)) (p1 := 125) dX12_readsWalker_122 rfl fl_X12_106 (hp_c39 _) rfl ?_
        refine sx_aload_n (p1 := 126) dX12_readsWalker_125 rfl rfl ?_
        refine sx_iconst (p1 := 127) dX12_readsWalker_126 rfl ?_
        refine sx_callVr (p1 := 130) (As := [_]) (k1 := 0) (n1 := 0) dX12_readsWalker_127 rfl rfl (c_X12_here1 (S := sa (sa (wrS S (4 * (k : Int) + 2) (k : Int) k) 48 k (rB S 1 (4 * (k : Int)) - 48)) 49 k (rB S 1 (4 * (k : Int) + 1) - 48)) (show 0 ≤ S.2 45 1 ∧ S.2 45 1 ≤ 32 by omega) (show 0 ≤ 4 * (k : Int) + 2 ∧ 4 * (k : Int) + 2 ≤ 39 by omega)) mt_X12_here ml_X12_98 (hp_c39 _) rfl rfl (Nat.le_of_ble_eq_true rfl) rfl (Nat.le_of_ble_eq_true rfl) rfl rfl (Nat.le_of_ble_eq_true rfl) (Nat.le_of_ble_eq_true rfl) ?_
        rw [show rB (sa (sa (wrS S (4 * (k : Int) + 2) (k : Int) k) 48 k (rB S 1 (4 * (k : Int)) - 48)) 49 k (rB S 1 (4 * (k : Int) + 1) - 48)) 1 ((sa (sa (wrS S (4 * (k : Int) + 2) (k : Int) k) 48 k (rB S 1 (4 * (k : Int)) - 48)) 49 k (rB S 1 (4 * (k : Int) + 1) - 48)).1 31) = rB S 1 (4 * (k : Int) + 2) from rfl]
        refine sx_bipush (p1 := 132) dX12_readsWalker_130 rfl (by decide) ?_
        refine sx_icmp_ne (p1 := 135) (tg := 139) dX12_readsWalker_132 rfl rfl (by omega) (by omega) (fun q132 => ?_) (fun q132 => ?_)
        · have y2 : (0 : Int) = wG3 (rB S 1) k := (if_neg q132).symm
          refine sx_iconst (p1 := 140) dX12_readsWalker_139 rfl ?_
          refine sx_zast (p1 := 141) dX12_readsWalker_140 rfl (hp_c50 _) (by omega) (by decide) (by omega) (hp_a50 _ _ _) ?_
          rw [Int.toNat_natCast, wrS_s S _ _ _ _ _ k y0.symm y1.symm y2]
          refine sx_aload_n (p1 := 142) dX12_readsWalker_141 rfl rfl ?_
          refine sx_dup (p1 := 143) dX12_readsWalker_142 rfl rfl ?_
          refine sx_get (v := vI (4 * (k : Int) + 2)) (p1 := 146) dX12_readsWalker_143 rfl fl_X12_92 (hp_c39 _) rfl ?_
          refine sx_iconst (p1 := 147) dX12_readsWalker_146 rfl ?_
          refine sx_iadd (p1 := 148) dX12_readsWalker_147 rfl ?_
          refine sx_put (p1 := 151) dX12_readsWalker_148 rfl fl_X12_92 (hp_c39 _) (Nat.le_of_ble_eq_true rfl) (fun _ => rfl) (fun _ => rfl) (hp_s31 _ _) ?_
          rw [wrS_a]
          refine sx_aload_n (p1 := 152) dX12_readsWalker_151 rfl rfl ?_
          refine sx_dup (p1 := 153) dX12_readsWalker_152 rfl rfl ?_
          refine sx_get (v := vI (k : Int)) (p1 := 156) dX12_readsWalker_153 rfl fl_X12_106 (hp_c39 _) rfl ?_
          refine sx_iconst (p1 := 157) dX12_readsWalker_156 rfl ?_
          refine sx_iadd (p1 := 158) dX12_readsWalker_157 rfl ?_
          refine sx_put (p1 := 161) dX12_readsWalker_158 rfl fl_X12_106 (hp_c39 _) (Nat.le_of_ble_eq_true rfl) (fun _ => rfl) (fun _ => rfl) (hp_s33 _ _) ?_
          rw [wrS_k]
          refine sx_iconst (p1 := 162) dX12_readsWalker_161 rfl ?_
          exact sx_zret dX12_readsWalker_162 rfl (by omega) (sx_ri (by rfl) (by rw [if_pos rfl, show 4 * (k : Int) + 2 + 1 = 4 * (k : Int) + 3 by omega]))
        · have y2 : (1 : Int) = wG3 (rB S 1) k := (if_pos q132).symm
          refine sx_iconst (p1 := 136) dX12_readsWalker_135 rfl ?_
          refine sx_goto (p1 := 140) (tg := 140) dX12_readsWalker_136 rfl rfl ?_
          refine sx_zast (p1 := 141) dX12_readsWalker_140 rfl (hp_c50 _) (by omega) (by decide) (by omega) (hp_a50 _ _ _) ?_
          rw [Int.toNat_natCast, wrS_s S _ _ _ _ _ k y0.symm y1.symm y2]
          refine sx_aload_n (p1 := 142) dX12_readsWalker_141 rfl rfl ?_
          refine sx_dup (p1 := 143) dX12_readsWalker_142 rfl rfl ?_
          refine sx_get (v := vI (4 * (k : Int) + 2)) (p1 := 146) dX12_readsWalker_143 rfl fl_X12_92 (hp_c39 _) rfl ?_
          refine sx_iconst (p1 := 147) dX12_readsWalker_146 rfl ?_
          refine sx_iadd (p1 := 148) dX12_readsWalker_147 rfl ?_
          refine sx_put (p1 := 151) dX12_readsWalker_148 rfl fl_X12_92 (hp_c39 _) (Nat.le_of_ble_eq_true rfl) (fun _ => rfl) (fun _ => rfl) (hp_s31 _ _) ?_
          rw [wrS_a]
          refine sx_aload_n (p1 := 152) dX12_readsWalker_151 rfl rfl ?_
          refine sx_dup (p1 := 153) dX12_readsWalker_152 rfl rfl ?_
          refine sx_get (v := vI (k : Int)) (p1 := 156) dX12_readsWalker_153 rfl fl_X12_106 (hp_c39 _) rfl ?_
          refine sx_iconst (p1 := 157) dX12_readsWalker_156 rfl ?_
          refine sx_iadd (p1 := 158) dX12_readsWalker_157 rfl ?_
          refine sx_put (p1 := 161) dX12_readsWalker_158 rfl fl_X12_106 (hp_c39 _) (Nat.le_of_ble_eq_true rfl) (fun _ => rfl) (fun _ => rfl) (hp_s33 _ _) ?_
          rw [wrS_k]
          refine sx_iconst (p1 := 162) dX12_readsWalker_161 rfl ?_
          exact sx_zret dX12_readsWalker_162 rfl (by omega) (sx_ri (by rfl) (by rw [if_pos rfl, show 4 * (k : Int) + 2 + 1 = 4 * (k : Int) + 3 by omega]))
      · refine sx_aload_n (p1 := 86) dX12_readsWalker_85 rfl rfl ?_
        refine sx_iconst (p1 := 87) dX12_readsWalker_86 rfl ?_
        refine sx_callVr (p1 := 90) (As := [_]) (k1 := 0) (n1 := 0) dX12_readsWalker_87 rfl rfl (c_X12_here1 (S := wrS S (4 * (k : Int) + 2) (k : Int) k) (show 0 ≤ S.2 45 1 ∧ S.2 45 1 ≤ 32 by omega) (show 0 ≤ 4 * (k : Int) + 2 ∧ 4 * (k : Int) + 2 ≤ 39 by omega)) mt_X12_here ml_X12_98 (hp_c39 _) rfl rfl (Nat.le_of_ble_eq_true rfl) rfl (Nat.le_of_ble_eq_true rfl) rfl rfl (Nat.le_of_ble_eq_true rfl) (Nat.le_of_ble_eq_true rfl) ?_
        rw [show rB (wrS S (4 * (k : Int) + 2) (k : Int) k) 1 ((wrS S (4 * (k : Int) + 2) (k : Int) k).1 31) = rB S 1 (4 * (k : Int) + 2) from rfl]
        refine sx_bipush (p1 := 92) dX12_readsWalker_90 rfl (by decide) ?_
        refine sx_icmp_eq (p1 := 95) (tg := 97) dX12_readsWalker_92 rfl rfl (by omega) (by omega) (fun q92 => ?_) (fun q92 => ?_)
        · rw [if_pos (Or.inr q92)] at f2
          have zo : (rwO (rB S 1) k) = 3 := (if_neg (by omega)).trans ((if_neg (by omega)).trans (if_neg (by omega)))
          rw [zo]
          refine sx_aload_n (p1 := 98) dX12_readsWalker_97 rfl rfl ?_
          refine sx_get (p1 := 101) dX12_readsWalker_98 rfl fl_X12_34 (hp_c39 _) rfl ?_
          refine sx_aload_n (p1 := 102) dX12_readsWalker_101 rfl rfl ?_
          refine sx_get (v := vI (k : Int)) (p1 := 105) dX12_readsWalker_102 rfl fl_X12_106 (hp_c39 _) rfl ?_
          refine sx_iload_n (p1 := 106) dX12_readsWalker_105 rfl rfl ?_
          refine sx_iast (p1 := 107) dX12_readsWalker_106 rfl (hp_c48 _) (by omega) (by decide) (hp_a48 _ _ _) ?_
          rw [Int.toNat_natCast]
          refine sx_aload_n (p1 := 108) dX12_readsWalker_107 rfl rfl ?_
          refine sx_get (p1 := 111) dX12_readsWalker_108 rfl fl_X12_37 (hp_c39 _) rfl ?_
          refine sx_aload_n (p1 := 112) dX12_readsWalker_111 rfl rfl ?_
          refine sx_get (v := vI (k : Int)) (p1 := 115) dX12_readsWalker_112 rfl fl_X12_106 (hp_c39 _) rfl ?_
          refine sx_iload_n (p1 := 116) dX12_readsWalker_115 rfl rfl ?_
          refine sx_iast (p1 := 117) dX12_readsWalker_116 rfl (hp_c49 _) (by omega) (by decide) (hp_a49 _ _ _) ?_
          rw [Int.toNat_natCast]
          refine sx_aload_n (p1 := 118) dX12_readsWalker_117 rfl rfl ?_
          refine sx_get (p1 := 121) dX12_readsWalker_118 rfl fl_X12_40 (hp_c39 _) rfl ?_
          refine sx_aload_n (p1 := 122) dX12_readsWalker_121 rfl rfl ?_
          refine sx_get (v := vI (k : Int)) (p1 := 125) dX12_readsWalker_122 rfl fl_X12_106 (hp_c39 _) rfl ?_
          refine sx_aload_n (p1 := 126) dX12_readsWalker_125 rfl rfl ?_
          refine sx_iconst (p1 := 127) dX12_readsWalker_126 rfl ?_
          refine sx_callVr (p1 := 130) (As := [_]) (k1 := 0) (n1 := 0) dX12_readsWalker_127 rfl rfl (c_X12_here1 (S := sa (sa (wrS S (4 * (k : Int) + 2) (k : Int) k) 48 k (rB S 1 (4 * (k : Int)) - 48)) 49 k (rB S 1 (4 * (k : Int) + 1) - 48)) (show 0 ≤ S.2 45 1 ∧ S.2 45 1 ≤ 32 by omega) (show 0 ≤ 4 * (k : Int) + 2 ∧ 4 * (k : Int) + 2 ≤ 39 by omega)) mt_X12_here ml_X12_98 (hp_c39 _) rfl rfl (Nat.le_of_ble_eq_true rfl) rfl (Nat.le_of_ble_eq_true rfl) rfl rfl (Nat.le_of_ble_eq_true rfl) (Nat.le_of_ble_eq_true rfl) ?_
          rw [show rB (sa (sa (wrS S (4 * (k : Int) + 2) (k : Int) k) 48 k (rB S 1 (4 * (k : Int)) - 48)) 49 k (rB S 1 (4 * (k : Int) + 1) - 48)) 1 ((sa (sa (wrS S (4 * (k : Int) + 2) (k : Int) k) 48 k (rB S 1 (4 * (k : Int)) - 48)) 49 k (rB S 1 (4 * (k : Int) + 1) - 48)).1 31) = rB S 1 (4 * (k : Int) + 2) from rfl]
          refine sx_bipush (p1 := 132) dX12_readsWalker_130 rfl (by decide) ?_
          refine sx_icmp_ne (p1 := 135) (tg := 139) dX12_readsWalker_132 rfl rfl (by omega) (by omega) (fun q132 => ?_) (fun q132 => ?_)
          · have y2 : (0 : Int) = wG3 (rB S 1) k := (if_neg q132).symm
            refine sx_iconst (p1 := 140) dX12_readsWalker_139 rfl ?_
            refine sx_zast (p1 := 141) dX12_readsWalker_140 rfl (hp_c50 _) (by omega) (by decide) (by omega) (hp_a50 _ _ _) ?_
            rw [Int.toNat_natCast, wrS_s S _ _ _ _ _ k y0.symm y1.symm y2]
            refine sx_aload_n (p1 := 142) dX12_readsWalker_141 rfl rfl ?_
            refine sx_dup (p1 := 143) dX12_readsWalker_142 rfl rfl ?_
            refine sx_get (v := vI (4 * (k : Int) + 2)) (p1 := 146) dX12_readsWalker_143 rfl fl_X12_92 (hp_c39 _) rfl ?_
            refine sx_iconst (p1 := 147) dX12_readsWalker_146 rfl ?_
            refine sx_iadd (p1 := 148) dX12_readsWalker_147 rfl ?_
            refine sx_put (p1 := 151) dX12_readsWalker_148 rfl fl_X12_92 (hp_c39 _) (Nat.le_of_ble_eq_true rfl) (fun _ => rfl) (fun _ => rfl) (hp_s31 _ _) ?_
            rw [wrS_a]
            refine sx_aload_n (p1 := 152) dX12_readsWalker_151 rfl rfl ?_
            refine sx_dup (p1 := 153) dX12_readsWalker_152 rfl rfl ?_
            refine sx_get (v := vI (k : Int)) (p1 := 156) dX12_readsWalker_153 rfl fl_X12_106 (hp_c39 _) rfl ?_
            refine sx_iconst (p1 := 157) dX12_readsWalker_156 rfl ?_
            refine sx_iadd (p1 := 158) dX12_readsWalker_157 rfl ?_
            refine sx_put (p1 := 161) dX12_readsWalker_158 rfl fl_X12_106 (hp_c39 _) (Nat.le_of_ble_eq_true rfl) (fun _ => rfl) (fun _ => rfl) (hp_s33 _ _) ?_
            rw [wrS_k]
            refine sx_iconst (p1 := 162) dX12_readsWalker_161 rfl ?_
            exact sx_zret dX12_readsWalker_162 rfl (by omega) (sx_ri (by rfl) (by rw [if_pos rfl, show 4 * (k : Int) + 2 + 1 = 4 * (k : Int) + 3 by omega]))
          · have y2 : (1 : Int) = wG3 (rB S 1) k := (if_pos q132).symm
            refine sx_iconst (p1 := 136) dX12_readsWalker_135 rfl ?_
            refine sx_goto (p1 := 140) (tg := 140) dX12_readsWalker_136 rfl rfl ?_
            refine sx_zast (p1 := 141) dX12_readsWalker_140 rfl (hp_c50 _) (by omega) (by decide) (by omega) (hp_a50 _ _ _) ?_
            rw [Int.toNat_natCast, wrS_s S _ _ _ _ _ k y0.symm y1.symm y2]
            refine sx_aload_n (p1 := 142) dX12_readsWalker_141 rfl rfl ?_
            refine sx_dup (p1 := 143) dX12_readsWalker_142 rfl rfl ?_
            refine sx_get (v := vI (4 * (k : Int) + 2)) (p1 := 146) dX12_readsWalker_143 rfl fl_X12_92 (hp_c39 _) rfl ?_
            refine sx_iconst (p1 := 147) dX12_readsWalker_146 rfl ?_
            refine sx_iadd (p1 := 148) dX12_readsWalker_147 rfl ?_
            refine sx_put (p1 := 151) dX12_readsWalker_148 rfl fl_X12_92 (hp_c39 _) (Nat.le_of_ble_eq_true rfl) (fun _ => rfl) (fun _ => rfl) (hp_s31 _ _) ?_
            rw [wrS_a]
            refine sx_aload_n (p1 := 152) dX12_readsWalker_151 rfl rfl ?_
            refine sx_dup (p1 := 153) dX12_readsWalker_152 rfl rfl ?_
            refine sx_get (v := vI (k : Int)) (p1 := 156) dX12_readsWalker_153 rfl fl_X12_106 (hp_c39 _) rfl ?_
            refine sx_iconst (p1 := 157) dX12_readsWalker_156 rfl ?_
            refine sx_iadd (p1 := 158) dX12_readsWalker_157 rfl ?_
            refine sx_put (p1 := 161) dX12_readsWalker_158 rfl fl_X12_106 (hp_c39 _) (Nat.le_of_ble_eq_true rfl) (fun _ => rfl) (fun _ => rfl) (hp_s33 _ _) ?_
            rw [wrS_k]
            refine sx_iconst (p1 := 162) dX12_readsWalker_161 rfl ?_
            exact sx_zret dX12_readsWalker_162 rfl (by omega) (sx_ri (by rfl) (by rw [if_pos rfl, show 4 * (k : Int) + 2 + 1 = 4 * (k : Int) + 3 by omega]))
        · have z2 : fitZ (rB S 1) (4 * (k : Int) + 2) = 0 := by rw [f2, if_neg (by omega)]
          have zo : (rwO (rB S 1) k) = 2 := (if_neg (by omega)).trans ((if_neg (by omega)).trans (if_pos z2))
          rw [zo]
          refine sx_iconst (p1 := 96) dX12_readsWalker_95 rfl ?_
          exact sx_zret dX12_readsWalker_96 rfl (by omega) (sx_ri (by rfl) (by rw [if_neg (by decide)]; rfl))
    · have z1 : fitZ (rB S 1) (4 * (k : Int) + 1) = 0 := by
        rw [f1, if_neg]
        rw [← figZ_in _ 0 (by decide)]
        intro q
        rw [if_pos q] at q60
        omega
      have zo : (rwO (rB S 1) k) = 1 := (if_neg (by omega)).trans (if_pos z1)
      rw [zo]
      refine sx_iconst (p1 := 64) dX12_readsWalker_63 rfl ?_
      exact sx_zret dX12_readsWalker_64 rfl (by omega) (sx_ri (by rfl) (by rw [if_neg (by decide)]; rfl))
  · have z0 : fitZ (rB S 1) (4 * (k : Int)) = 0 := by
      rw [f0, if_neg]
      rw [← figZ_in _ 1 (by decide)]
      intro q
      rw [if_pos q] at q27
      omega
    have zo : (rwO (rB S 1) k) = 0 := if_pos z0
    rw [zo]
    refine sx_iconst (p1 := 31) dX12_readsWalker_30 rfl ?_
    exact sx_zret dX12_readsWalker_31 rfl (by omega) (sx_ri (by rfl) (by rw [if_neg (by decide), show 4 * (k : Int) + ((0 : Nat) : Int) = 4 * (k : Int) by omega]))
