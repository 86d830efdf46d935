/-- row and helmets are in order -/
def okW (S : St) (b : Nat) : Prop := (∀ a : Nat, (a : Int) < S.1 33 → 0 ≤ S.2 52 a ∧ S.2 52 a < S.1 33) ∧ S.1 35 = (b : Int) ∧ b < 64
theorem mul_d {a b g : Int} (ha : 0 ≤ a ∧ a ≤ 6) (hb : 0 ≤ b ∧ b ≤ 6) (hg : 0 ≤ g ∧ g ≤ 99) : -594 ≤ (b - a) * g ∧ (b - a) * g ≤ 594 ∧ (b - a) * g = b * g - a * g := by
  have h1 := mul_b ha hg
  have h2 := mul_b hb hg
  rw [Int.sub_mul]
  omega
def rHel (S : St) (b : Nat) (j : Nat) : Int := bitZ b (S.2 52 j).toNat
/-- the harm by one of the row -/
def rBy (V : Vw) (b i j g hel : Int) : Int := if mApart V i j = 1 then 0 else mFeet V (mMore V b) ((j - i) * g) (1 + V.1 3) hel
theorem rBy_b {V : Vw} (hV : okV V) (b i j g hel : Int) : 0 ≤ rBy V b i j g hel ∧ rBy V b i j g hel ≤ 4096 := by
  have := mFeet_b hV (mMore V b) ((j - i) * g) (1 + V.1 3) hel
  unfold rBy
  split <;> omega
def sT (V : Vw) (k : Nat) (hel : Int) (p : Nat) : Int := if 0 < V.2 1 p then V.1 7 * mHit V p (mPl V k) hel else 0
def sH (V : Vw) (s hel : Int) (k : Nat) : Int := if V.1 6 ≤ s + k then sumN (V.1 0).toNat (sT V k hel) else 0
theorem sT_b {V : Vw} (hV : okV V) (k : Nat) (hel : Int) {p : Nat} (hp : p ≤ 16) : 0 ≤ sT V k hel p ∧ sT V k hel p ≤ 256 := by
  have h1 := hV.2.2.2.2.2.2.2.1
  have h2 := mul_b h1 (mHit_b hV (fr := p) (to := mPl V k) (hel := hel) (by omega))
  unfold sT
  split <;> omega
theorem sT_s {V : Vw} (k : Nat) (hel : Int) : ∀ n : Nat, sumN n (sT V k hel) = V.1 7 * sumN n (mAboveT V (mPl V k) hel)
  | 0 => by simp [sumN]
  | n + 1 => by
    rw [sumN, sumN, sT_s k hel n, Int.mul_add]
    unfold sT mAboveT
    split
    · rfl
    · simp
/-- the minutes of sun, gathered by part -/
theorem sH_sun {V : Vw} (hV : okV V) (num gap hel : Int) : sumN (V.1 0 * (1 + V.1 3)).toNat (sH V (V.1 5 + num * gap) hel) = mSun V num gap hel := by
  have h0 := hV.1
  have h3 := hV.2.2.2.1
  have hq : ∀ k : Nat, (k : Int) < V.1 0 * (1 + V.1 3) → sH V (V.1 5 + num * gap) hel k = if V.1 6 ≤ V.1 5 + num * gap + k then V.1 7 * mAbove V ((k : Int) / (1 + V.1 3)) hel else 0 := by
    intro k hk
    unfold sH
    split
    · rw [sT_s]
      unfold mAbove
      have e : mPl V k = (k : Int) / (1 + V.1 3) := by
        unfold mPl
        rw [if_neg (by omega), if_pos]
        exact Int.ediv_lt_of_lt_mul (by omega) hk
      rw [e]
    · rfl
  have key : ∀ n : Nat, (n : Int) ≤ V.1 0 → sumN (n * (1 + V.1 3).toNat) (sH V (V.1 5 + num * gap) hel) = sumN n (mSunT V num gap hel) := by
    intro n
    induction n with
    | zero =>
      intro _
      rw [Nat.zero_mul]
      rfl
    | succ n ih =>
      intro hn
      have i1 := ih (by omega)
      rcases (show V.1 3 = 0 ∨ V.1 3 = 1 by omega) with z | z
      · have e : (1 + V.1 3).toNat = 1 := by omega
        rw [e] at i1 ⊢
        rw [Nat.mul_one] at i1 ⊢
        rw [sumN, sumN, i1, hq n (by rw [z]; omega)]
        unfold mSunT mSunny
        rw [z]
        generalize hA : V.1 5 + num * gap = A
        split
        · rw [show max 0 (min (1 + 0) (A + ((n : Int) + 1) * (1 + 0) - V.1 6)) = 1 by omega, show (n : Int) / (1 + 0) = n by omega]
          simp
        · rw [show max 0 (min (1 + 0) (A + ((n : Int) + 1) * (1 + 0) - V.1 6)) = 0 by omega]
          simp
      · have e : (1 + V.1 3).toNat = 2 := by omega
        rw [e] at i1 ⊢
        rw [show (n + 1) * 2 = n * 2 + 1 + 1 by omega, sumN, sumN, sumN, i1, hq (n * 2) (by rw [z]; omega), hq (n * 2 + 1) (by rw [z]; omega)]
        unfold mSunT mSunny
        rw [z]
        generalize hA : V.1 5 + num * gap = A
        rw [show ((n * 2 : Nat) : Int) / (1 + 1) = n by omega, show ((n * 2 + 1 : Nat) : Int) / (1 + 1) = n by omega]
        by_cases c1 : V.1 6 ≤ A + ((n * 2 : Nat) : Int)
        · rw [if_pos c1, if_pos (by omega), show max 0 (min (1 + 1) (A + ((n : Int) + 1) * (1 + 1) - V.1 6)) = 2 by omega, Int.mul_assoc, Int.two_mul, Int.add_assoc]
        · rw [if_neg c1]
          by_cases c2 : V.1 6 ≤ A + ((n * 2 + 1 : Nat) : Int)
          · rw [if_pos c2, show max 0 (min (1 + 1) (A + ((n : Int) + 1) * (1 + 1) - V.1 6)) = 1 by omega]
            simp
          · rw [if_neg c2, show max 0 (min (1 + 1) (A + ((n : Int) + 1) * (1 + 1) - V.1 6)) = 0 by omega]
            simp
  have h5 := key (V.1 0).toNat (by omega)
  have e : (V.1 0).toNat * (1 + V.1 3).toNat = (V.1 0 * (1 + V.1 3)).toNat := by
    rcases (show V.1 3 = 0 ∨ V.1 3 = 1 by omega) with z | z
    · rw [z]
      simp
    · rw [z, show (1 + 1 : Int).toNat = 2 from rfl]
      omega
  rw [e] at h5
  exact h5
/-- the later walker treads nothing off on the earlier -/
theorem mFeet_neg {V : Vw} (hV : okV V) {more ahead hel : Int} (h : ahead ≤ 0) : mFeet V more ahead (1 + V.1 3) hel = 0 := by
  have h3 := hV.2.2.2.1
  refine sumN_z _ (fun i hi => ?_)
  unfold mFeetT
  rw [mHit_0, Int.mul_zero]
  unfold mPl
  rcases (show V.1 3 = 0 ∨ V.1 3 = 1 by omega) with z | z
  · rw [z]
    split
    · omega
    · split <;> omega
  · rw [z]
    split
    · omega
    · split <;> omega
theorem mApart_d {V : Vw} {i j : Int} : mApart V i j = mApart V 0 (j - i) := by
  unfold mApart
  by_cases c : V.1 3 = 1 ∧ i % 2 ≠ j % 2
  · rw [if_pos c, if_pos ⟨c.1, by omega⟩]
  · rw [if_neg c, if_neg (fun q => c ⟨q.1, by omega⟩)]
theorem mApart_o (V : Vw) (i j : Int) : mApart V i j = 0 ∨ mApart V i j = 1 := by
  unfold mApart
  split <;> simp
/-- to one, by all of the row -/
def rOneT (V : Vw) (ro : Nat → Int) (j : Nat) (g hel : Int) (i : Nat) : Int := if i = j then 0 else rBy V (ro i) i j g hel
theorem rOneT_b {V : Vw} (hV : okV V) (ro : Nat → Int) (j : Nat) (g hel : Int) (i : Nat) : 0 ≤ rOneT V ro j g hel i ∧ rOneT V ro j g hel i ≤ 4096 := by
  have := rBy_b hV (ro i) i j g hel
  unfold rOneT
  split <;> omega
theorem sumN_cut {f : Nat → Int} {j : Nat} : ∀ n : Nat, j ≤ n → (∀ i, j ≤ i → i < n → f i = 0) → sumN n f = sumN j f
  | 0, h, _ => by rw [show j = 0 by omega]
  | n + 1, h, hz => by
    by_cases e : j = n + 1
    · rw [e]
    · rw [sumN, hz n (by omega) (by omega), sumN_cut n (by omega) (fun i h1 h2 => hz i h1 (by omega))]
      omega
theorem rOne_at {V : Vw} (hV : okV V) {ro : Nat → Int} {j : Nat} {g hel : Int} (hg : 0 ≤ g) (hj : (j : Int) < V.1 1) (hr : ∀ a : Nat, (a : Int) < V.1 1 → 0 ≤ ro a ∧ ro a < V.1 1) : mSun V j g hel + sumN (V.1 1).toNat (rOneT V ro j g hel) = hAt V g ro j hel := by
  have h1 := hV.2.1
  have e : sumN (V.1 1).toNat (rOneT V ro j g hel) = sumN j (fun a => feR V g (ro a) ((j : Int) - (a : Int)) hel) := by
    rw [sumN_cut (j := j) (V.1 1).toNat (by omega)]
    · refine sumN_congr j (fun i hi => ?_)
      unfold rOneT rBy feR
      rw [if_neg (by omega), mApart_d]
      have hri := hr i (by omega)
      rcases mApart_o V 0 ((j : Int) - (i : Int)) with z | z
      · rw [if_neg (by omega), if_pos ⟨hri, z⟩]
      · rw [if_pos z, if_neg (by omega)]
    · intro i h5 h6
      unfold rOneT
      split
      · rfl
      · unfold rBy
        split
        · rfl
        · refine mFeet_neg hV ?_
          have h7 : ((j : Int) - (i : Int)) * g ≤ 0 * g := Int.mul_le_mul_of_nonneg_right (by omega) hg
          omega
  rw [e]
  rfl
set_option maxRecDepth 20000 in
theorem c_X12_isPart {X : sx_X} {S : St} {i : Int} (hV : okV (mV S)) (hi : -2147483648 ≤ i ∧ i ≤ 2147483647) : Ct X yX12_isPart cX12_isPart 2 (some .boolean) 1 0 0 [.ref 39, vI i] (hp S) (sx_is (some (vI (if 0 ≤ i ∧ i < (mV S).1 0 then 1 else 0))) (hp (S))) := by
  have b0 : 0 ≤ S.1 32 ∧ S.1 32 ≤ 16 := hV.1
  have c0 : 0 ≤ (mV S).1 0 ∧ (mV S).1 0 ≤ 16 := hV.1
  have b1 : 0 ≤ S.1 33 ∧ S.1 33 ≤ 6 := hV.2.1
  have c1 : 0 ≤ (mV S).1 1 ∧ (mV S).1 1 ≤ 6 := hV.2.1
  have b2 : 0 ≤ S.1 34 ∧ S.1 34 ≤ 99 := hV.2.2.1
  have c2 : 0 ≤ (mV S).1 2 ∧ (mV S).1 2 ≤ 99 := hV.2.2.1
  have b3 : 0 ≤ S.2 51 1 ∧ S.2 51 1 ≤ 1 := hV.2.2.2.1
  have c3 : 0 ≤ (mV S).1 3 ∧ (mV S).1 3 ≤ 1 := hV.2.2.2.1
  have b4 : 0 ≤ S.2 51 2 ∧ S.2 51 2 ≤ 16 := hV.2.2.2.2.1
  have c4 : 0 ≤ (mV S).1 4 ∧ (mV S).1 4 ≤ 16 := hV.2.2.2.2.1
  have b5 : 0 ≤ S.2 51 3 ∧ S.2 51 3 ≤ 999 := hV.2.2.2.2.2.1
  have c5 : 0 ≤ (mV S).1 5 ∧ (mV S).1 5 ≤ 999 := hV.2.2.2.2.2.1
  have b6 : 0 ≤ S.2 51 4 ∧ S.2 51 4 ≤ 1999 := hV.2.2.2.2.2.2.1
  have c6 : 0 ≤ (mV S).1 6 ∧ (mV S).1 6 ≤ 1999 := hV.2.2.2.2.2.2.1
  have b7 : 0 ≤ S.2 51 5 ∧ S.2 51 5 ≤ 16 := hV.2.2.2.2.2.2.2.1
  have c7 : 0 ≤ (mV S).1 7 ∧ (mV S).1 7 ≤ 16 := hV.2.2.2.2.2.2.2.1
  have bK : ∀ q, 0 ≤ rK S q ∧ rK S q ≤ 3 := hV.2.2.2.2.2.2.2.2.1
  have bL : ∀ q, 0 ≤ rL S q ∧ rL S q ≤ 9 := hV.2.2.2.2.2.2.2.2.2.1
  have bW : ∀ q, 0 ≤ rW S q ∧ rW S q ≤ 9 := hV.2.2.2.2.2.2.2.2.2.2.1
  have bS : ∀ q, 0 ≤ rS S q ∧ rS S q ≤ 9 := hV.2.2.2.2.2.2.2.2.2.2.2.1
  have bH : ∀ q, 0 ≤ rH S q ∧ rH S q ≤ 1 := hV.2.2.2.2.2.2.2.2.2.2.2.2
  refine Ct.of false [some (.ref 39), some (vI i)] (plainFor_of_name (by decide)) (fun h => by cases h) (Nat.le_of_ble_eq_true rfl) (fun _ => rfl) sx_isl ?_
  refine sx_iload_n (p1 := 1) dX12_isPart_0 rfl rfl ?_
  refine sx_i2l (p1 := 2) dX12_isPart_1 rfl (by omega) ?_
  refine sx_lconst (y := 0) (p1 := 3) dX12_isPart_2 rfl (by decide) ?_
  refine sx_aload_n (p1 := 4) dX12_isPart_3 rfl rfl ?_
  refine sx_get (v := vI (S.1 32)) (p1 := 7) dX12_isPart_4 rfl fl_X12_95 (hp_c39 _) rfl ?_
  refine sx_iconst (p1 := 8) dX12_isPart_7 rfl ?_
  refine sx_isub (p1 := 9) dX12_isPart_8 rfl ?_
  refine sx_i2l (p1 := 10) dX12_isPart_9 rfl (by omega) ?_
  refine sx_callSr (p1 := 13) (As := [_, _, _]) (k1 := 0) (n1 := 0) dX12_isPart_10 rfl rfl (c_X12_in (by omega) (by omega) (by omega)) mt_X12_in ml_X12_58 (Nat.le_of_ble_eq_true rfl) rfl (Nat.le_of_ble_eq_true rfl) rfl rfl (Nat.le_of_ble_eq_true rfl) (Nat.le_of_ble_eq_true rfl) ?_
  exact sx_zret dX12_isPart_13 rfl (by split <;> omega) (sx_ri (by show _ = if 0 ≤ i ∧ i < S.1 32 then (1 : Int) else 0; (repeat' split) <;> omega) (by rfl))
set_option maxRecDepth 20000 in
theorem c_X12_isWalker {X : sx_X} {S : St} {i : Int} (hV : okV (mV S)) (hi : -2147483648 ≤ i ∧ i ≤ 2147483647) : Ct X yX12_isWalker cX12_isWalker 2 (some .boolean) 1 0 0 [.ref 39, vI i] (hp S) (sx_is (some (vI (if 0 ≤ i ∧ i < (mV S).1 1 then 1 else 0))) (hp (S))) := by
  have b0 : 0 ≤ S.1 32 ∧ S.1 32 ≤ 16 := hV.1
  have c0 : 0 ≤ (mV S).1 0 ∧ (mV S).1 0 ≤ 16 := hV.1
  have b1 : 0 ≤ S.1 33 ∧ S.1 33 ≤ 6 := hV.2.1
  have c1 : 0 ≤ (mV S).1 1 ∧ (mV S).1 1 ≤ 6 := hV.2.1
  have b2 : 0 ≤ S.1 34 ∧ S.1 34 ≤ 99 := hV.2.2.1
  have c2 : 0 ≤ (mV S).1 2 ∧ (mV S).1 2 ≤ 99 := hV.2.2.1
  have b3 : 0 ≤ S.2 51 1 ∧ S.2 51 1 ≤ 1 := hV.2.2.2.1
  have c3 : 0 ≤ (mV S).1 3 ∧ (mV S).1 3 ≤ 1 := hV.2.2.2.1
  have b4 : 0 ≤ S.2 51 2 ∧ S.2 51 2 ≤ 16 := hV.2.2.2.2.1
  have c4 : 0 ≤ (mV S).1 4 ∧ (mV S).1 4 ≤ 16 := hV.2.2.2.2.1
  have b5 : 0 ≤ S.2 51 3 ∧ S.2 51 3 ≤ 999 := hV.2.2.2.2.2.1
  have c5 : 0 ≤ (mV S).1 5 ∧ (mV S).1 5 ≤ 999 := hV.2.2.2.2.2.1
  have b6 : 0 ≤ S.2 51 4 ∧ S.2 51 4 ≤ 1999 := hV.2.2.2.2.2.2.1
  have c6 : 0 ≤ (mV S).1 6 ∧ (mV S).1 6 ≤ 1999 := hV.2.2.2.2.2.2.1
  have b7 : 0 ≤ S.2 51 5 ∧ S.2 51 5 ≤ 16 := hV.2.2.2.2.2.2.2.1
  have c7 : 0 ≤ (mV S).1 7 ∧ (mV S).1 7 ≤ 16 := hV.2.2.2.2.2.2.2.1
  have bK : ∀ q, 0 ≤ rK S q ∧ rK S q ≤ 3 := hV.2.2.2.2.2.2.2.2.1
  have bL : ∀ q, 0 ≤ rL S q ∧ rL S q ≤ 9 := hV.2.2.2.2.2.2.2.2.2.1
  have bW : ∀ q, 0 ≤ rW S q ∧ rW S q ≤ 9 := hV.2.2.2.2.2.2.2.2.2.2.1
  have bS : ∀ q, 0 ≤ rS S q ∧ rS S q ≤ 9 := hV.2.2.2.2.2.2.2.2.2.2.2.1
  have bH : ∀ q, 0 ≤ rH S q ∧ rH S q ≤ 1 := hV.2.2.2.2.2.2.2.2.2.2.2.2
  refine Ct.of false [some (.ref 39), some (vI i)] (plainFor_of_name (by decide)) (fun h => by cases h) (Nat.le_of_ble_eq_true rfl) (fun _ => rfl) sx_isl ?_
  refine sx_iload_n (p1 := 1) dX12_isWalker_0 rfl rfl ?_
  refine sx_i2l (p1 := 2) dX12_isWalker_1 rfl (by omega) ?_
  refine sx_lconst (y := 0) (p1 := 3) dX12_isWalker_2 rfl (by decide) ?_
  refine sx_aload_n (p1 := 4) dX12_isWalker_3 rfl rfl ?_
  refine sx_get (v := vI (S.1 33)) (p1 := 7) dX12_isWalker_4 rfl fl_X12_106 (hp_c39 _) rfl ?_
  refine sx_iconst (p1 := 8) dX12_isWalker_7 rfl ?_
  refine sx_isub (p1 := 9) dX12_isWalker_8 rfl ?_
  refine sx_i2l (p1 := 10) dX12_isWalker_9 rfl (by omega) ?_
  refine sx_callSr (p1 := 13) (As := [_, _, _]) (k1 := 0) (n1 := 0) dX12_isWalker_10 rfl rfl (c_X12_in (by omega) (by omega) (by omega)) mt_X12_in ml_X12_58 (Nat.le_of_ble_eq_true rfl) rfl (Nat.le_of_ble_eq_true rfl) rfl rfl (Nat.le_of_ble_eq_true rfl) (Nat.le_of_ble_eq_true rfl) ?_
  exact sx_zret dX12_isWalker_13 rfl (by split <;> omega) (sx_ri (by show _ = if 0 ≤ i ∧ i < S.1 33 then (1 : Int) else 0; (repeat' split) <;> omega) (by rfl))
set_option maxRecDepth 20000 in
theorem c_X12_oddsBy {X : sx_X} {S : St} {i j k : Int} (hV : okV (mV S)) (hi : 0 ≤ i ∧ i ≤ 9) (hj : 0 ≤ j ∧ j ≤ 9) (hk : 0 ≤ k ∧ k ≤ 9) : Ct X yX12_oddsBy cX12_oddsBy 4 (some .int) 1 0 0 [.ref 39, vI i, vI j, vI k] (hp S) (sx_is (some (vI (min (max (i + j / 3 - k / 3) 0) 16))) (hp (S))) := by
  have b0 : 0 ≤ S.1 32 ∧ S.1 32 ≤ 16 := hV.1
  have c0 : 0 ≤ (mV S).1 0 ∧ (mV S).1 0 ≤ 16 := hV.1
  have b1 : 0 ≤ S.1 33 ∧ S.1 33 ≤ 6 := hV.2.1
  have c1 : 0 ≤ (mV S).1 1 ∧ (mV S).1 1 ≤ 6 := hV.2.1
  have b2 : 0 ≤ S.1 34 ∧ S.1 34 ≤ 99 := hV.2.2.1
  have c2 : 0 ≤ (mV S).1 2 ∧ (mV S).1 2 ≤ 99 := hV.2.2.1
  have b3 : 0 ≤ S.2 51 1 ∧ S.2 51 1 ≤ 1 := hV.2.2.2.1
  have c3 : 0 ≤ (mV S).1 3 ∧ (mV S).1 3 ≤ 1 := hV.2.2.2.1
  have b4 : 0 ≤ S.2 51 2 ∧ S.2 51 2 ≤ 16 := hV.2.2.2.2.1
  have c4 : 0 ≤ (mV S).1 4 ∧ (mV S).1 4 ≤ 16 := hV.2.2.2.2.1
  have b5 : 0 ≤ S.2 51 3 ∧ S.2 51 3 ≤ 999 := hV.2.2.2.2.2.1
  have c5 : 0 ≤ (mV S).1 5 ∧ (mV S).1 5 ≤ 999 := hV.2.2.2.2.2.1
  have b6 : 0 ≤ S.2 51 4 ∧ S.2 51 4 ≤ 1999 := hV.2.2.2.2.2.2.1
  have c6 : 0 ≤ (mV S).1 6 ∧ (mV S).1 6 ≤ 1999 := hV.2.2.2.2.2.2.1
  have b7 : 0 ≤ S.2 51 5 ∧ S.2 51 5 ≤ 16 := hV.2.2.2.2.2.2.2.1
  have c7 : 0 ≤ (mV S).1 7 ∧ (mV S).1 7 ≤ 16 := hV.2.2.2.2.2.2.2.1
  have bK : ∀ q, 0 ≤ rK S q ∧ rK S q ≤ 3 := hV.2.2.2.2.2.2.2.2.1
  have bL : ∀ q, 0 ≤ rL S q ∧ rL S q ≤ 9 := hV.2.2.2.2.2.2.2.2.2.1
  have bW : ∀ q, 0 ≤ rW S q ∧ rW S q ≤ 9 := hV.2.2.2.2.2.2.2.2.2.2.1
  have bS : ∀ q, 0 ≤ rS S q ∧ rS S q ≤ 9 := hV.2.2.2.2.2.2.2.2.2.2.2.1
  have bH : ∀ q, 0 ≤ rH S q ∧ rH S q ≤ 1 := hV.2.2.2.2.2.2.2.2.2.2.2.2
  refine Ct.of false [some (.ref 39), some (vI i), some (vI j), some (vI k)] (plainFor_of_name (by decide)) (fun h => by cases h) (Nat.le_of_ble_eq_true rfl) (fun _ => rfl) sx_isl ?_
  refine sx_iload_n (p1 := 1) dX12_oddsBy_0 rfl rfl ?_
  refine sx_iload_n (p1 := 2) dX12_oddsBy_1 rfl rfl ?_
  refine sx_iconst (p1 := 3) dX12_oddsBy_2 rfl ?_
  refine sx_idiv (p1 := 4) dX12_oddsBy_3 rfl (by omega) (by omega) ?_
  refine sx_iadd (p1 := 5) dX12_oddsBy_4 rfl ?_
  refine sx_iload_n (p1 := 6) dX12_oddsBy_5 rfl rfl ?_
  refine sx_iconst (p1 := 7) dX12_oddsBy_6 rfl ?_
  refine sx_idiv (p1 := 8) dX12_oddsBy_7 rfl (by omega) (by omega) ?_
  refine sx_isub (p1 := 9) dX12_oddsBy_8 rfl ?_
  refine sx_iconst (p1 := 10) dX12_oddsBy_9 rfl ?_
  refine sx_callSr (p1 := 13) (As := [_, _]) (k1 := 0) (n1 := 0) dX12_oddsBy_10 rfl rfl (c_X12_greater (by omega) (by omega)) mt_X12_greater ml_X12_160 (Nat.le_of_ble_eq_true rfl) rfl (Nat.le_of_ble_eq_true rfl) rfl rfl (Nat.le_of_ble_eq_true rfl) (Nat.le_of_ble_eq_true rfl) ?_
  refine sx_bipush (p1 := 15) dX12_oddsBy_13 rfl (by decide) ?_
  refine sx_callSr (p1 := 18) (As := [_, _]) (k1 := 0) (n1 := 0) dX12_oddsBy_15 rfl rfl (c_X12_lesser (by omega) (by omega)) mt_X12_lesser ml_X12_163 (Nat.le_of_ble_eq_true rfl) rfl (Nat.le_of_ble_eq_true rfl) rfl rfl (Nat.le_of_ble_eq_true rfl) (Nat.le_of_ble_eq_true rfl) ?_
  exact sx_iret dX12_oddsBy_18 rfl (sx_ri (by first | rfl | omega | ((repeat' split) <;> omega)) (by rfl))
set_option maxRecDepth 20000 in
theorem c_X12_placeOf {X : sx_X} {S : St} {i j : Int} (hV : okV (mV S)) (hi : 0 ≤ i ∧ i ≤ 6) (hj : -1000 ≤ j ∧ j ≤ 5000) : Ct X yX12_placeOf cX12_placeOf 4 (some .int) 1 0 0 [.ref 39, vI i, vI j] (hp S) (sx_is (some (vI (mPl (mV S) (j - S.2 51 3 - i * S.1 34)))) (hp (S))) := by
  have b0 : 0 ≤ S.1 32 ∧ S.1 32 ≤ 16 := hV.1
  have c0 : 0 ≤ (mV S).1 0 ∧ (mV S).1 0 ≤ 16 := hV.1
  have b1 : 0 ≤ S.1 33 ∧ S.1 33 ≤ 6 := hV.2.1
  have c1 : 0 ≤ (mV S).1 1 ∧ (mV S).1 1 ≤ 6 := hV.2.1
  have b2 : 0 ≤ S.1 34 ∧ S.1 34 ≤ 99 := hV.2.2.1
  have c2 : 0 ≤ (mV S).1 2 ∧ (mV S).1 2 ≤ 99 := hV.2.2.1
  have b3 : 0 ≤ S.2 51 1 ∧ S.2 51 1 ≤ 1 := hV.2.2.2.1
  have c3 : 0 ≤ (mV S).1 3 ∧ (mV S).1 3 ≤ 1 := hV.2.2.2.1
  have b4 : 0 ≤ S.2 51 2 ∧ S.2 51 2 ≤ 16 := hV.2.2.2.2.1
  have c4 : 0 ≤ (mV S).1 4 ∧ (mV S).1 4 ≤ 16 := hV.2.2.2.2.1
  have b5 : 0 ≤ S.2 51 3 ∧ S.2 51 3 ≤ 999 := hV.2.2.2.2.2.1
  have c5 : 0 ≤ (mV S).1 5 ∧ (mV S).1 5 ≤ 999 := hV.2.2.2.2.2.1
  have b6 : 0 ≤ S.2 51 4 ∧ S.2 51 4 ≤ 1999 := hV.2.2.2.2.2.2.1
  have c6 : 0 ≤ (mV S).1 6 ∧ (mV S).1 6 ≤ 1999 := hV.2.2.2.2.2.2.1
  have b7 : 0 ≤ S.2 51 5 ∧ S.2 51 5 ≤ 16 := hV.2.2.2.2.2.2.2.1
  have c7 : 0 ≤ (mV S).1 7 ∧ (mV S).1 7 ≤ 16 := hV.2.2.2.2.2.2.2.1
  have bK : ∀ q, 0 ≤ rK S q ∧ rK S q ≤ 3 := hV.2.2.2.2.2.2.2.2.1
  have bL : ∀ q, 0 ≤ rL S q ∧ rL S q ≤ 9 := hV.2.2.2.2.2.2.2.2.2.1
  have bW : ∀ q, 0 ≤ rW S q ∧ rW S q ≤ 9 := hV.2.2.2.2.2.2.2.2.2.2.1
  have bS : ∀ q, 0 ≤ rS S q ∧ rS S q ≤ 9 := hV.2.2.2.2.2.2.2.2.2.2.2.1
  have bH : ∀ q, 0 ≤ rH S q ∧ rH S q ≤ 1 := hV.2.2.2.2.2.2.2.2.2.2.2.2
  have hm := mul_b hi b2
  have hd : ∀ x : Int, 0 ≤ x → x ≤ 6000 → 0 ≤ x / (1 + S.2 51 1) ∧ x / (1 + S.2 51 1) ≤ 6000 := by
    intro x h1 h2
    rcases (show S.2 51 1 = 0 ∨ S.2 51 1 = 1 by omega) with z | z <;> rw [z] <;> omega
  refine Ct.of false [some (.ref 39), some (vI i), some (vI j), none] (plainFor_of_name (by decide)) (fun h => by cases h) (Nat.le_of_ble_eq_true rfl) (fun _ => rfl) sx_isl ?_
  refine sx_iload_n (p1 := 1) dX12_placeOf_0 rfl rfl ?_
  refine sx_aload_n (p1 := 2) dX12_placeOf_1 rfl rfl ?_
  refine sx_iload_n (p1 := 3) dX12_placeOf_2 rfl rfl ?_
  refine sx_callVr (p1 := 6) (As := [_]) (k1 := 0) (n1 := 0) dX12_placeOf_3 rfl rfl (c_X12_startOf) mt_X12_startOf ml_X12_149 (hp_c39 _) rfl rfl (Nat.le_of_ble_eq_true rfl) rfl (Nat.le_of_ble_eq_true rfl) rfl rfl (Nat.le_of_ble_eq_true rfl) (Nat.le_of_ble_eq_true rfl) ?_
  refine sx_isub (p1 := 7) dX12_placeOf_6 rfl ?_
  refine sx_istore_n (lo1 := [some _, some _, some _, some _]) (p1 := 8) dX12_placeOf_7 rfl (by decide) rfl ?_
  refine sx_iload_n (p1 := 9) dX12_placeOf_8 rfl rfl ?_
  refine sx_if_lt (p1 := 12) (tg := 34) dX12_placeOf_9 rfl rfl (by omega) (fun q9 => ?_) (fun q9 => ?_)
  · refine sx_iconst (p1 := 35) dX12_placeOf_34 rfl ?_
    exact sx_iret dX12_placeOf_35 rfl (sx_ri (by clear hd; rw [mPl_m]; rcases (show S.2 51 1 = 0 ∨ S.2 51 1 = 1 by omega) with z | z <;> simp only [z] at * <;> (repeat' split) <;> omega) (by rfl))
  · have hd1 := hd (j - (S.2 51 3 + i * S.1 34)) (by omega) (by omega)
    refine sx_iload_n (p1 := 13) dX12_placeOf_12 rfl rfl ?_
    refine sx_aload_n (p1 := 14) dX12_placeOf_13 rfl rfl ?_
    refine sx_callVr (p1 := 17) (As := []) (k1 := 0) (n1 := 0) dX12_placeOf_14 rfl rfl (c_X12_pace) mt_X12_pace ml_X12_152 (hp_c39 _) rfl rfl (Nat.le_of_ble_eq_true rfl) rfl (Nat.le_of_ble_eq_true rfl) rfl rfl (Nat.le_of_ble_eq_true rfl) (Nat.le_of_ble_eq_true rfl) ?_
    refine sx_idiv (p1 := 18) dX12_placeOf_17 rfl (by omega) (by omega) ?_
    refine sx_aload_n (p1 := 19) dX12_placeOf_18 rfl rfl ?_
    refine sx_get (v := vI (S.1 32)) (p1 := 22) dX12_placeOf_19 rfl fl_X12_95 (hp_c39 _) rfl ?_
    refine sx_icmp_ge (p1 := 25) (tg := 34) dX12_placeOf_22 rfl rfl (by omega) (by omega) (fun q22 => ?_) (fun q22 => ?_)
    · refine sx_iconst (p1 := 35) dX12_placeOf_34 rfl ?_
      exact sx_iret dX12_placeOf_35 rfl (sx_ri (by clear hd; rw [mPl_m]; rcases (show S.2 51 1 = 0 ∨ S.2 51 1 = 1 by omega) with z | z <;> simp only [z] at * <;> (repeat' split) <;> omega) (by rfl))
    · refine sx_iload_n (p1 := 26) dX12_placeOf_25 rfl rfl ?_
      refine sx_aload_n (p1 := 27) dX12_placeOf_26 rfl rfl ?_
      refine sx_callVr (p1 := 30) (As := []) (k1 := 0) (n1 := 0) dX12_placeOf_27 rfl rfl (c_X12_pace) mt_X12_pace ml_X12_152 (hp_c39 _) rfl rfl (Nat.le_of_ble_eq_true rfl) rfl (Nat.le_of_ble_eq_true rfl) rfl rfl (Nat.le_of_ble_eq_true rfl) (Nat.le_of_ble_eq_true rfl) ?_
      refine sx_idiv (p1 := 31) dX12_placeOf_30 rfl (by omega) (by omega) ?_
      refine sx_goto (p1 := 35) (tg := 35) dX12_placeOf_31 rfl rfl ?_
      exact sx_iret dX12_placeOf_35 rfl (sx_ri (by clear hd; rw [mPl_m]; rcases (show S.2 51 1 = 0 ∨ S.2 51 1 = 1 by omega) with z | z <;> simp only [z] at * <;> (repeat' split) <;> omega) (by rfl))
set_option maxRecDepth 20000 in
theorem c_X12_hitsOf {X : sx_X} {S : St} {i j k : Int} (hV : okV (mV S)) (hi : 0 ≤ i ∧ i ≤ 15) (hj : 0 ≤ j ∧ j < S.1 32) (hk : 0 ≤ k ∧ k ≤ 1) : Ct X yX12_hitsOf cX12_hitsOf 6 (some .int) 1 0 0 [.ref 39, vI i, vI j, vI k] (hp S) (sx_is (some (vI (mHit (mV S) i j k))) (hp (S))) := by
  have b0 : 0 ≤ S.1 32 ∧ S.1 32 ≤ 16 := hV.1
  have c0 : 0 ≤ (mV S).1 0 ∧ (mV S).1 0 ≤ 16 := hV.1
  have b1 : 0 ≤ S.1 33 ∧ S.1 33 ≤ 6 := hV.2.1
  have c1 : 0 ≤ (mV S).1 1 ∧ (mV S).1 1 ≤ 6 := hV.2.1
  have b2 : 0 ≤ S.1 34 ∧ S.1 34 ≤ 99 := hV.2.2.1
  have c2 : 0 ≤ (mV S).1 2 ∧ (mV S).1 2 ≤ 99 := hV.2.2.1
  have b3 : 0 ≤ S.2 51 1 ∧ S.2 51 1 ≤ 1 := hV.2.2.2.1
  have c3 : 0 ≤ (mV S).1 3 ∧ (mV S).1 3 ≤ 1 := hV.2.2.2.1
  have b4 : 0 ≤ S.2 51 2 ∧ S.2 51 2 ≤ 16 := hV.2.2.2.2.1
  have c4 : 0 ≤ (mV S).1 4 ∧ (mV S).1 4 ≤ 16 := hV.2.2.2.2.1
  have b5 : 0 ≤ S.2 51 3 ∧ S.2 51 3 ≤ 999 := hV.2.2.2.2.2.1
  have c5 : 0 ≤ (mV S).1 5 ∧ (mV S).1 5 ≤ 999 := hV.2.2.2.2.2.1
  have b6 : 0 ≤ S.2 51 4 ∧ S.2 51 4 ≤ 1999 := hV.2.2.2.2.2.2.1
  have c6 : 0 ≤ (mV S).1 6 ∧ (mV S).1 6 ≤ 1999 := hV.2.2.2.2.2.2.1
  have b7 : 0 ≤ S.2 51 5 ∧ S.2 51 5 ≤ 16 := hV.2.2.2.2.2.2.2.1
  have c7 : 0 ≤ (mV S).1 7 ∧ (mV S).1 7 ≤ 16 := hV.2.2.2.2.2.2.2.1
  have bK : ∀ q, 0 ≤ rK S q ∧ rK S q ≤ 3 := hV.2.2.2.2.2.2.2.2.1
  have bL : ∀ q, 0 ≤ rL S q ∧ rL S q ≤ 9 := hV.2.2.2.2.2.2.2.2.2.1
  have bW : ∀ q, 0 ≤ rW S q ∧ rW S q ≤ 9 := hV.2.2.2.2.2.2.2.2.2.2.1
  have bS : ∀ q, 0 ≤ rS S q ∧ rS S q ≤ 9 := hV.2.2.2.2.2.2.2.2.2.2.2.1
  have bH : ∀ q, 0 ≤ rH S q ∧ rH S q ≤ 1 := hV.2.2.2.2.2.2.2.2.2.2.2.2
  have h1 := bK j
  have h2 : rK S j = S.2 46 j.toNat := if_pos hj
  refine Ct.of false [some (.ref 39), some (vI i), some (vI j), some (vI k), none, none] (plainFor_of_name (by decide)) (fun h => by cases h) (Nat.le_of_ble_eq_true rfl) (fun _ => rfl) sx_isl ?_
  refine sx_iload_n (p1 := 1) dX12_hitsOf_0 rfl rfl ?_
  refine sx_iload_n (p1 := 2) dX12_hitsOf_1 rfl rfl ?_
  refine sx_isub (p1 := 3) dX12_hitsOf_2 rfl ?_
  refine sx_istore (lo1 := [some _, some _, some _, some _, some _, none]) (p1 := 5) dX12_hitsOf_3 rfl (by decide) rfl ?_
  refine sx_iload (p1 := 7) dX12_hitsOf_5 rfl rfl ?_
  refine sx_if_le (p1 := 10) (tg := 20) dX12_hitsOf_7 rfl rfl (by omega) (fun q7 => ?_) (fun q7 => ?_)
  · refine sx_iconst (p1 := 21) dX12_hitsOf_20 rfl ?_
    exact sx_iret dX12_hitsOf_21 rfl (sx_ri (by rw [mHit_m]; (repeat' split) <;> omega) (by rfl))
  · refine sx_aload_n (p1 := 11) dX12_hitsOf_10 rfl rfl ?_
    refine sx_get (p1 := 14) dX12_hitsOf_11 rfl fl_X12_28 (hp_c39 _) rfl ?_
    refine sx_iload_n (p1 := 15) dX12_hitsOf_14 rfl rfl ?_
    refine sx_iald (g := S.2 46) (p1 := 16) dX12_hitsOf_15 rfl (hp_c46 _) (by omega) (by decide) ?_
    refine sx_iconst (p1 := 17) dX12_hitsOf_16 rfl ?_
    refine sx_icmp_ne (p1 := 20) (tg := 22) dX12_hitsOf_17 rfl rfl (by omega) (by omega) (fun q17 => ?_) (fun q17 => ?_)
    · refine sx_aload_n (p1 := 23) dX12_hitsOf_22 rfl rfl ?_
      refine sx_get (p1 := 26) dX12_hitsOf_23 rfl fl_X12_28 (hp_c39 _) rfl ?_
      refine sx_iload_n (p1 := 27) dX12_hitsOf_26 rfl rfl ?_
      refine sx_iald (g := S.2 46) (p1 := 28) dX12_hitsOf_27 rfl (hp_c46 _) (by omega) (by decide) ?_
      refine sx_iconst (p1 := 29) dX12_hitsOf_28 rfl ?_
      refine sx_icmp_ne (p1 := 32) (tg := 39) dX12_hitsOf_29 rfl rfl (by omega) (by omega) (fun q29 => ?_) (fun q29 => ?_)
      · refine sx_iload (p1 := 41) dX12_hitsOf_39 rfl rfl ?_
        refine sx_bipush (p1 := 43) dX12_hitsOf_41 rfl (by decide) ?_
        refine sx_callSr (p1 := 46) (As := [_, _]) (k1 := 0) (n1 := 0) dX12_hitsOf_43 rfl rfl (c_X12_lesser (by omega) (by omega)) mt_X12_lesser ml_X12_163 (Nat.le_of_ble_eq_true rfl) rfl (Nat.le_of_ble_eq_true rfl) rfl rfl (Nat.le_of_ble_eq_true rfl) (Nat.le_of_ble_eq_true rfl) ?_
        refine sx_istore (lo1 := [some _, some _, some _, some _, some _, some _]) (p1 := 48) dX12_hitsOf_46 rfl (by decide) rfl ?_
        refine sx_iload (p1 := 50) dX12_hitsOf_48 rfl rfl ?_
        refine sx_aload_n (p1 := 51) dX12_hitsOf_50 rfl rfl ?_
        refine sx_get (p1 := 54) dX12_hitsOf_51 rfl fl_X12_44 (hp_c39 _) rfl ?_
        refine sx_iconst (p1 := 55) dX12_hitsOf_54 rfl ?_
        refine sx_iald (g := S.2 51) (p1 := 56) dX12_hitsOf_55 rfl (hp_c51 _) (by omega) (by decide) ?_
        rw [show Int.toNat 2 = 2 from rfl]
        refine sx_icmp_le (p1 := 59) (tg := 66) dX12_hitsOf_56 rfl rfl (by omega) (by omega) (fun q56 => ?_) (fun q56 => ?_)
        · refine sx_iload (p1 := 68) dX12_hitsOf_66 rfl rfl ?_
          refine sx_istore (lo1 := [some _, some _, some _, some _, some _, some _]) (p1 := 70) dX12_hitsOf_68 rfl (by decide) rfl ?_
          refine sx_iload_n (p1 := 71) dX12_hitsOf_70 rfl rfl ?_
          refine sx_if_eq (p1 := 74) (tg := 81) dX12_hitsOf_71 rfl rfl (by omega) (fun q71 => ?_) (fun q71 => ?_)
          · refine sx_iload (p1 := 83) dX12_hitsOf_81 rfl rfl ?_
            exact sx_iret dX12_hitsOf_83 rfl (sx_ri (by rw [mHit_m]; (repeat' split) <;> omega) (by rfl))
          · refine sx_iload (p1 := 76) dX12_hitsOf_74 rfl rfl ?_
            refine sx_iconst (p1 := 77) dX12_hitsOf_76 rfl ?_
            refine sx_idiv (p1 := 78) dX12_hitsOf_77 rfl (by omega) (by omega) ?_
            refine sx_goto (p1 := 83) (tg := 83) dX12_hitsOf_78 rfl rfl ?_
            exact sx_iret dX12_hitsOf_83 rfl (sx_ri (by rw [mHit_m]; (repeat' split) <;> omega) (by rfl))
        · refine sx_iload (p1 := 61) dX12_hitsOf_59 rfl rfl ?_
          refine sx_iconst (p1 := 62) dX12_hitsOf_61 rfl ?_
          refine sx_idiv (p1 := 63) dX12_hitsOf_62 rfl (by omega) (by omega) ?_
          refine sx_goto (p1 := 68) (tg := 68) dX12_hitsOf_63 rfl rfl ?_
          refine sx_istore (lo1 := [some _, some _, some _, some _, some _, some _]) (p1 := 70) dX12_hitsOf_68 rfl (by decide) rfl ?_
          refine sx_iload_n (p1 := 71) dX12_hitsOf_70 rfl rfl ?_
          refine sx_if_eq (p1 := 74) (tg := 81) dX12_hitsOf_71 rfl rfl (by omega) (fun q71 => ?_) (fun q71 => ?_)
          · refine sx_iload (p1 := 83) dX12_hitsOf_81 rfl rfl ?_
            exact sx_iret dX12_hitsOf_83 rfl (sx_ri (by rw [mHit_m]; (repeat' split) <;> omega) (by rfl))
          · refine sx_iload (p1 := 76) dX12_hitsOf_74 rfl rfl ?_
            refine sx_iconst (p1 := 77) dX12_hitsOf_76 rfl ?_
            refine sx_idiv (p1 := 78) dX12_hitsOf_77 rfl (by omega) (by omega) ?_
            refine sx_goto (p1 := 83) (tg := 83) dX12_hitsOf_78 rfl rfl ?_
            exact sx_iret dX12_hitsOf_83 rfl (sx_ri (by rw [mHit_m]; (repeat' split) <;> omega) (by rfl))
      · refine sx_iconst (p1 := 33) dX12_hitsOf_32 rfl ?_
        refine sx_iload (p1 := 35) dX12_hitsOf_33 rfl rfl ?_
        refine sx_imul (p1 := 36) dX12_hitsOf_35 rfl ?_
        refine sx_goto (p1 := 41) (tg := 41) dX12_hitsOf_36 rfl rfl ?_
        refine sx_bipush (p1 := 43) dX12_hitsOf_41 rfl (by decide) ?_
        refine sx_callSr (p1 := 46) (As := [_, _]) (k1 := 0) (n1 := 0) dX12_hitsOf_43 rfl rfl (c_X12_lesser (by omega) (by omega)) mt_X12_lesser ml_X12_163 (Nat.le_of_ble_eq_true rfl) rfl (Nat.le_of_ble_eq_true rfl) rfl rfl (Nat.le_of_ble_eq_true rfl) (Nat.le_of_ble_eq_true rfl) ?_
        refine sx_istore (lo1 := [some _, some _, some _, some _, some _, some _]) (p1 := 48) dX12_hitsOf_46 rfl (by decide) rfl ?_
        refine sx_iload (p1 := 50) dX12_hitsOf_48 rfl rfl ?_
        refine sx_aload_n (p1 := 51) dX12_hitsOf_50 rfl rfl ?_
        refine sx_get (p1 := 54) dX12_hitsOf_51 rfl fl_X12_44 (hp_c39 _) rfl ?_
        refine sx_iconst (p1 := 55) dX12_hitsOf_54 rfl ?_
        refine sx_iald (g := S.2 51) (p1 := 56) dX12_hitsOf_55 rfl (hp_c51 _) (by omega) (by decide) ?_
        rw [show Int.toNat 2 = 2 from rfl]
        refine sx_icmp_le (p1 := 59) (tg := 66) dX12_hitsOf_56 rfl rfl (by omega) (by omega) (fun q56 => ?_) (fun q56 => ?_)
        · refine sx_iload (p1 := 68) dX12_hitsOf_66 rfl rfl ?_
          refine sx_istore (lo1 := [some _, some _, some _, some _, some _, some _]) (p1 := 70) dX12_hitsOf_68 rfl (by decide) rfl ?_
          refine sx_iload_n (p1 := 71) dX12_hitsOf_70 rfl rfl ?_
          refine sx_if_eq (p1 := 74) (tg := 81) dX12_hitsOf_71 rfl rfl (by omega) (fun q71 => ?_) (fun q71 => ?_)
          · refine sx_iload (p1 := 83) dX12_hitsOf_81 rfl rfl ?_
            exact sx_iret dX12_hitsOf_83 rfl (sx_ri (by rw [mHit_m]; (repeat' split) <;> omega) (by rfl))
          · refine sx_iload (p1 := 76) dX12_hitsOf_74 rfl rfl ?_
            refine sx_iconst (p1 := 77) dX12_hitsOf_76 rfl ?_
            refine sx_idiv (p1 := 78) dX12_hitsOf_77 rfl (by omega) (by omega) ?_
            refine sx_goto (p1 := 83) (tg := 83) dX12_hitsOf_78 rfl rfl ?_
            exact sx_iret dX12_hitsOf_83 rfl (sx_ri (by rw [mHit_m]; (repeat' split) <;> omega) (by rfl))
        · refine sx_iload (p1 := 61) dX12_hitsOf_59 rfl rfl ?_
          refine sx_iconst (p1 := 62) dX12_hitsOf_61 rfl ?_
          refine sx_idiv (p1 := 63) dX12_hitsOf_62 rfl (by omega) (by omega) ?_
          refine sx_goto (p1 := 68) (tg := 68) dX12_hitsOf_63 rfl rfl ?_
          refine sx_istore (lo1 := [some _, some _, some _, some _, some _, some _]) (p1 := 70) dX12_hitsOf_68 rfl (by decide) rfl ?_
          refine sx_iload_n (p1 := 71) dX12_hitsOf_70 rfl rfl ?_
          refine sx_if_eq (p1 := 74) (tg := 81) dX12_hitsOf_71 rfl rfl (by omega) (fun q71 => ?_) (fun q71 => ?_)
          · refine sx_iload (p1 := 83) dX12_hitsOf_81 rfl rfl ?_
            exact sx_iret dX12_hitsOf_83 rfl (sx_ri (by rw [mHit_m]; (repeat' split) <;> omega) (by rfl))
          · refine sx_iload (p1 := 76) dX12_hitsOf_74 rfl rfl ?_
            refine sx_iconst (p1 := 77) dX12_hitsOf_76 rfl ?_
            refine sx_idiv (p1 := 78) dX12_hitsOf_77 rfl (by omega) (by omega) ?_
            refine sx_goto (p1 := 83) (tg := 83) dX12_hitsOf_78 rfl rfl ?_
            exact sx_iret dX12_hitsOf_83 rfl (sx_ri (by rw [mHit_m]; (repeat' split) <;> omega) (by rfl))
    · refine sx_iconst (p1 := 21) dX12_hitsOf_20 rfl ?_
      exact sx_iret dX12_hitsOf_21 rfl (sx_ri (by rw [mHit_m]; (repeat' split) <;> omega) (by rfl))
set_option maxRecDepth 20000 in
theorem c_X12_treadsOf {X : sx_X} {S : St} {i j : Int} (hV : okV (mV S)) (hi : 0 ≤ i ∧ i < S.1 33) (hj : 0 ≤ j ∧ j < S.1 32) : Ct X yX12_treadsOf cX12_treadsOf 3 (some .int) 2 0 0 [.ref 39, vI i, vI j] (hp S) (sx_is (some (vI (mOdds ((mV S).2 1 j) (mMore (mV S) i)))) (hp (S))) := by
  have b0 : 0 ≤ S.1 32 ∧ S.1 32 ≤ 16 := hV.1
  have c0 : 0 ≤ (mV S).1 0 ∧ (mV S).1 0 ≤ 16 := hV.1
  have b1 : 0 ≤ S.1 33 ∧ S.1 33 ≤ 6 := hV.2.1
  have c1 : 0 ≤ (mV S).1 1 ∧ (mV S).1 1 ≤ 6 := hV.2.1
  have b2 : 0 ≤ S.1 34 ∧ S.1 34 ≤ 99 := hV.2.2.1
  have c2 : 0 ≤ (mV S).1 2 ∧ (mV S).1 2 ≤ 99 := hV.2.2.1
  have b3 : 0 ≤ S.2 51 1 ∧ S.2 51 1 ≤ 1 := hV.2.2.2.1
  have c3 : 0 ≤ (mV S).1 3 ∧ (mV S).1 3 ≤ 1 := hV.2.2.2.1
  have b4 : 0 ≤ S.2 51 2 ∧ S.2 51 2 ≤ 16 := hV.2.2.2.2.1
  have c4 : 0 ≤ (mV S).1 4 ∧ (mV S).1 4 ≤ 16 := hV.2.2.2.2.1
  have b5 : 0 ≤ S.2 51 3 ∧ S.2 51 3 ≤ 999 := hV.2.2.2.2.2.1
  have c5 : 0 ≤ (mV S).1 5 ∧ (mV S).1 5 ≤ 999 := hV.2.2.2.2.2.1
  have b6 : 0 ≤ S.2 51 4 ∧ S.2 51 4 ≤ 1999 := hV.2.2.2.2.2.2.1
  have c6 : 0 ≤ (mV S).1 6 ∧ (mV S).1 6 ≤ 1999 := hV.2.2.2.2.2.2.1
  have b7 : 0 ≤ S.2 51 5 ∧ S.2 51 5 ≤ 16 := hV.2.2.2.2.2.2.2.1
  have c7 : 0 ≤ (mV S).1 7 ∧ (mV S).1 7 ≤ 16 := hV.2.2.2.2.2.2.2.1
  have bK : ∀ q, 0 ≤ rK S q ∧ rK S q ≤ 3 := hV.2.2.2.2.2.2.2.2.1
  have bL : ∀ q, 0 ≤ rL S q ∧ rL S q ≤ 9 := hV.2.2.2.2.2.2.2.2.2.1
  have bW : ∀ q, 0 ≤ rW S q ∧ rW S q ≤ 9 := hV.2.2.2.2.2.2.2.2.2.2.1
  have bS : ∀ q, 0 ≤ rS S q ∧ rS S q ≤ 9 := hV.2.2.2.2.2.2.2.2.2.2.2.1
  have bH : ∀ q, 0 ≤ rH S q ∧ rH S q ≤ 1 := hV.2.2.2.2.2.2.2.2.2.2.2.2
  have h1 : rL S j = S.2 47 j.toNat := if_pos hj
  have h2 : rW S i = S.2 48 i.toNat := if_pos hi
  have h3 : rS S i = S.2 49 i.toNat := if_pos hi
  have h4 := bL j
  have h5 := bW i
  have h6 := bS i
  refine Ct.of false [some (.ref 39), some (vI i), some (vI j)] (plainFor_of_name (by decide)) (fun h => by cases h) (Nat.le_of_ble_eq_true rfl) (fun _ => rfl) sx_isl ?_
  refine sx_aload_n (p1 := 1) dX12_treadsOf_0 rfl rfl ?_
  refine sx_get (p1 := 4) dX12_treadsOf_1 rfl fl_X12_31 (hp_c39 _) rfl ?_
  refine sx_iload_n (p1 := 5) dX12_treadsOf_4 rfl rfl ?_
  refine sx_iald (g := S.2 47) (p1 := 6) dX12_treadsOf_5 rfl (hp_c47 _) (by omega) (by decide) ?_
  refine sx_if_ne (p1 := 9) (tg := 13) dX12_treadsOf_6 rfl rfl (by omega) (fun q6 => ?_) (fun q6 => ?_)
  · refine sx_aload_n (p1 := 14) dX12_treadsOf_13 rfl rfl ?_
    refine sx_aload_n (p1 := 15) dX12_treadsOf_14 rfl rfl ?_
    refine sx_get (p1 := 18) dX12_treadsOf_15 rfl fl_X12_31 (hp_c39 _) rfl ?_
    refine sx_iload_n (p1 := 19) dX12_treadsOf_18 rfl rfl ?_
    refine sx_iald (g := S.2 47) (p1 := 20) dX12_treadsOf_19 rfl (hp_c47 _) (by omega) (by decide) ?_
    refine sx_aload_n (p1 := 21) dX12_treadsOf_20 rfl rfl ?_
    refine sx_get (p1 := 24) dX12_treadsOf_21 rfl fl_X12_34 (hp_c39 _) rfl ?_
    refine sx_iload_n (p1 := 25) dX12_treadsOf_24 rfl rfl ?_
    refine sx_iald (g := S.2 48) (p1 := 26) dX12_treadsOf_25 rfl (hp_c48 _) (by omega) (by decide) ?_
    refine sx_aload_n (p1 := 27) dX12_treadsOf_26 rfl rfl ?_
    refine sx_get (p1 := 30) dX12_treadsOf_27 rfl fl_X12_37 (hp_c39 _) rfl ?_
    refine sx_iload_n (p1 := 31) dX12_treadsOf_30 rfl rfl ?_
    refine sx_iald (g := S.2 49) (p1 := 32) dX12_treadsOf_31 rfl (hp_c49 _) (by omega) (by decide) ?_
    refine sx_callVr (p1 := 35) (As := [_, _, _]) (k1 := 0) (n1 := 0) dX12_treadsOf_32 rfl rfl (c_X12_oddsBy hV (by omega) (by omega) (by omega)) mt_X12_oddsBy ml_X12_166 (hp_c39 _) rfl rfl (Nat.le_of_ble_eq_true rfl) rfl (Nat.le_of_ble_eq_true rfl) rfl rfl (Nat.le_of_ble_eq_true rfl) (Nat.le_of_ble_eq_true rfl) ?_
    exact sx_iret dX12_treadsOf_35 rfl (sx_ri (by show _ = mOdds (rL S j) (rW S i / 3 - rS S i / 3); unfold mOdds; split <;> omega) (by rfl))
  · refine sx_iconst (p1 := 10) dX12_treadsOf_9 rfl ?_
    refine sx_goto (p1 := 35) (tg := 35) dX12_treadsOf_10 rfl rfl ?_
    exact sx_iret dX12_treadsOf_35 rfl (sx_ri (by show _ = mOdds (rL S j) (rW S i / 3 - rS S i / 3); unfold mOdds; split <;> omega) (by rfl))
set_option maxRecDepth 20000 in
theorem c_X12_hitsWho {X : sx_X} {S : St} {b j : Nat} {fr mi : Int} (hV : okV (mV S)) (hW : okW S b) (hfr : 0 ≤ fr ∧ fr ≤ 15) (hj : (j : Int) < S.1 33) (hmi : -1000 ≤ mi ∧ mi ≤ 5000) : Ct X yX12_hitsWho cX12_hitsWho 5 (some .int) 2 0 0 [.ref 39, vI fr, vI (j : Int), vI mi] (hp S) (sx_is (some (vI (mHit (mV S) fr (mPl (mV S) (mi - S.2 51 3 - (j : Int) * S.1 34)) (rHel S b j)))) (hp S)) := by
  have b0 : 0 ≤ S.1 32 ∧ S.1 32 ≤ 16 := hV.1
  have c0 : 0 ≤ (mV S).1 0 ∧ (mV S).1 0 ≤ 16 := hV.1
  have b1 : 0 ≤ S.1 33 ∧ S.1 33 ≤ 6 := hV.2.1
  have c1 : 0 ≤ (mV S).1 1 ∧ (mV S).1 1 ≤ 6 := hV.2.1
  have b2 : 0 ≤ S.1 34 ∧ S.1 34 ≤ 99 := hV.2.2.1
  have c2 : 0 ≤ (mV S).1 2 ∧ (mV S).1 2 ≤ 99 := hV.2.2.1
  have b3 : 0 ≤ S.2 51 1 ∧ S.2 51 1 ≤ 1 := hV.2.2.2.1
  have c3 : 0 ≤ (mV S).1 3 ∧ (mV S).1 3 ≤ 1 := hV.2.2.2.1
  have b4 : 0 ≤ S.2 51 2 ∧ S.2 51 2 ≤ 16 := hV.2.2.2.2.1
  have c4 : 0 ≤ (mV S).1 4 ∧ (mV S).1 4 ≤ 16 := hV.2.2.2.2.1
  have b5 : 0 ≤ S.2 51 3 ∧ S.2 51 3 ≤ 999 := hV.2.2.2.2.2.1
  have c5 : 0 ≤ (mV S).1 5 ∧ (mV S).1 5 ≤ 999 := hV.2.2.2.2.2.1
  have b6 : 0 ≤ S.2 51 4 ∧ S.2 51 4 ≤ 1999 := hV.2.2.2.2.2.2.1
  have c6 : 0 ≤ (mV S).1 6 ∧ (mV S).1 6 ≤ 1999 := hV.2.2.2.2.2.2.1
  have b7 : 0 ≤ S.2 51 5 ∧ S.2 51 5 ≤ 16 := hV.2.2.2.2.2.2.2.1
  have c7 : 0 ≤ (mV S).1 7 ∧ (mV S).1 7 ≤ 16 := hV.2.2.2.2.2.2.2.1
  have bK : ∀ q, 0 ≤ rK S q ∧ rK S q ≤ 3 := hV.2.2.2.2.2.2.2.2.1
  have bL : ∀ q, 0 ≤ rL S q ∧ rL S q ≤ 9 := hV.2.2.2.2.2.2.2.2.2.1
  have bW : ∀ q, 0 ≤ rW S q ∧ rW S q ≤ 9 := hV.2.2.2.2.2.2.2.2.2.2.1
  have bS : ∀ q, 0 ≤ rS S q ∧ rS S q ≤ 9 := hV.2.2.2.2.2.2.2.2.2.2.2.1
  have bH : ∀ q, 0 ≤ rH S q ∧ rH S q ≤ 1 := hV.2.2.2.2.2.2.2.2.2.2.2.2
  obtain ⟨hP, hb, h64⟩ := hW
  have hr := hP j hj
  have hpl := mPl_b hV (mi - S.2 51 3 - (j : Int) * S.1 34)
  have hpl2 : (mPl (mV S) (mi - S.2 51 3 - (j : Int) * S.1 34)) < S.1 32 ∨ (mPl (mV S) (mi - S.2 51 3 - (j : Int) * S.1 34)) = -1 := by
    rw [mPl_m]
    (repeat' split) <;> omega
  have hbz := bitZ_b b (S.2 52 j).toNat
  refine Ct.of false [some (.ref 39), some (vI fr), some (vI (j : Int)), some (vI mi), none] (plainFor_of_name (by decide)) (fun h => by cases h) (Nat.le_of_ble_eq_true rfl) (fun _ => rfl) sx_isl ?_
  refine sx_aload_n (p1 := 1) dX12_hitsWho_0 rfl rfl ?_
  refine sx_iload_n (p1 := 2) dX12_hitsWho_1 rfl rfl ?_
  refine sx_iload_n (p1 := 3) dX12_hitsWho_2 rfl rfl ?_
  refine sx_callVr (p1 := 6) (As := [_, _]) (k1 := 0) (n1 := 0) dX12_hitsWho_3 rfl rfl (c_X12_placeOf hV (by omega) (by omega)) mt_X12_placeOf ml_X12_157 (hp_c39 _) rfl rfl (Nat.le_of_ble_eq_true rfl) rfl (Nat.le_of_ble_eq_true rfl) rfl rfl (Nat.le_of_ble_eq_true rfl) (Nat.le_of_ble_eq_true rfl) ?_
  refine sx_istore (lo1 := [some _, some _, some _, some _, some _]) (p1 := 8) dX12_hitsWho_6 rfl (by decide) rfl ?_
  refine sx_iload (p1 := 10) dX12_hitsWho_8 rfl rfl ?_
  refine sx_iconst (p1 := 11) dX12_hitsWho_10 rfl ?_
  refine sx_icmp_ne (p1 := 14) (tg := 18) dX12_hitsWho_11 rfl rfl (by omega) (by omega) (fun q11 => ?_) (fun q11 => ?_)
  · refine sx_aload_n (p1 := 19) dX12_hitsWho_18 rfl rfl ?_
    refine sx_iload_n (p1 := 20) dX12_hitsWho_19 rfl rfl ?_
    refine sx_iload (p1 := 22) dX12_hitsWho_20 rfl rfl ?_
    refine sx_aload_n (p1 := 23) dX12_hitsWho_22 rfl rfl ?_
    refine sx_get (v := vI (S.1 35)) (p1 := 26) dX12_hitsWho_23 rfl fl_X12_143 (hp_c39 _) rfl ?_
    refine sx_aload_n (p1 := 27) dX12_hitsWho_26 rfl rfl ?_
    refine sx_get (p1 := 30) dX12_hitsWho_27 rfl fl_X12_47 (hp_c39 _) rfl ?_
    refine sx_iload_n (p1 := 31) dX12_hitsWho_30 rfl rfl ?_
    refine sx_iald (g := S.2 52) (p1 := 32) dX12_hitsWho_31 rfl (hp_c52 _) (by omega) (by decide) ?_
    rw [Int.toNat_natCast]
    rw [hb, show S.2 52 j = (((S.2 52 j).toNat : Nat) : Int) by omega]
    refine sx_callSr (p1 := 35) (As := [_, _]) (k1 := 0) (n1 := 0) dX12_hitsWho_32 rfl rfl (c_X12_isIn h64 (by omega)) mt_X12_isIn ml_X12_176 (Nat.le_of_ble_eq_true rfl) rfl (Nat.le_of_ble_eq_true rfl) rfl rfl (Nat.le_of_ble_eq_true rfl) (Nat.le_of_ble_eq_true rfl) ?_
    refine sx_callVr (p1 := 38) (As := [_, _, _]) (k1 := 0) (n1 := 0) dX12_hitsWho_35 rfl rfl (c_X12_hitsOf hV hfr (by omega) (by omega)) mt_X12_hitsOf ml_X12_172 (hp_c39 _) rfl rfl (Nat.le_of_ble_eq_true rfl) rfl (Nat.le_of_ble_eq_true rfl) rfl rfl (Nat.le_of_ble_eq_true rfl) (Nat.le_of_ble_eq_true rfl) ?_
    exact sx_iret dX12_hitsWho_38 rfl (sx_ri (by first | rfl | exact (mHit_0 (Or.inr (by omega))).symm | (unfold rHel; rw [Int.toNat_natCast])) (by rfl))
  · refine sx_iconst (p1 := 15) dX12_hitsWho_14 rfl ?_
    refine sx_goto (p1 := 38) (tg := 38) dX12_hitsWho_15 rfl rfl ?_
    exact sx_iret dX12_hitsWho_38 rfl (sx_ri (by first | rfl | exact (mHit_0 (Or.inr (by omega))).symm | (unfold rHel; rw [Int.toNat_natCast])) (by rfl))
set_option maxRecDepth 20000 in
theorem c_X12_harmBy {X : sx_X} {S : St} {b ii jj : Nat} (hV : okV (mV S)) (hW : okW S b) (hii : (ii : Int) < S.1 33) (hjj : (jj : Int) < S.1 33) : Ct X yX12_harmBy cX12_harmBy 5 (some .int) 3 0 0 [.ref 39, vI (ii : Int), vI (jj : Int)] (hp S) (sx_is (some (vI (rBy (mV S) (S.2 52 ii) ii jj (S.1 34) (rHel S b jj)))) (hp S)) := by
  have b0 : 0 ≤ S.1 32 ∧ S.1 32 ≤ 16 := hV.1
  have c0 : 0 ≤ (mV S).1 0 ∧ (mV S).1 0 ≤ 16 := hV.1
  have b1 : 0 ≤ S.1 33 ∧ S.1 33 ≤ 6 := hV.2.1
  have c1 : 0 ≤ (mV S).1 1 ∧ (mV S).1 1 ≤ 6 := hV.2.1
  have b2 : 0 ≤ S.1 34 ∧ S.1 34 ≤ 99 := hV.2.2.1
  have c2 : 0 ≤ (mV S).1 2 ∧ (mV S).1 2 ≤ 99 := hV.2.2.1
  have b3 : 0 ≤ S.2 51 1 ∧ S.2 51 1 ≤ 1 := hV.2.2.2.1
  have c3 : 0 ≤ (mV S).1 3 ∧ (mV S).1 3 ≤ 1 := hV.2.2.2.1
  have b4 : 0 ≤ S.2 51 2 ∧ S.2 51 2 ≤ 16 := hV.2.2.2.2.1
  have c4 : 0 ≤ (mV S).1 4 ∧ (mV S).1 4 ≤ 16 := hV.2.2.2.2.1
  have b5 : 0 ≤ S.2 51 3 ∧ S.2 51 3 ≤ 999 := hV.2.2.2.2.2.1
  have c5 : 0 ≤ (mV S).1 5 ∧ (mV S).1 5 ≤ 999 := hV.2.2.2.2.2.1
  have b6 : 0 ≤ S.2 51 4 ∧ S.2 51 4 ≤ 1999 := hV.2.2.2.2.2.2.1
  have c6 : 0 ≤ (mV S).1 6 ∧ (mV S).1 6 ≤ 1999 := hV.2.2.2.2.2.2.1
  have b7 : 0 ≤ S.2 51 5 ∧ S.2 51 5 ≤ 16 := hV.2.2.2.2.2.2.2.1
  have c7 : 0 ≤ (mV S).1 7 ∧ (mV S).1 7 ≤ 16 := hV.2.2.2.2.2.2.2.1
  have bK : ∀ q, 0 ≤ rK S q ∧ rK S q ≤ 3 := hV.2.2.2.2.2.2.2.2.1
  have bL : ∀ q, 0 ≤ rL S q ∧ rL S q ≤ 9 := hV.2.2.2.2.2.2.2.2.2.1
  have bW : ∀ q, 0 ≤ rW S q ∧ rW S q ≤ 9 := hV.2.2.2.2.2.2.2.2.2.2.1
  have bS : ∀ q, 0 ≤ rS S q ∧ rS S q ≤ 9 := hV.2.2.2.2.2.2.2.2.2.2.2.1
  have bH : ∀ q, 0 ≤ rH S q ∧ rH S q ≤ 1 := hV.2.2.2.2.2.2.2.2.2.2.2.2
  obtain ⟨hP, hb, h64⟩ := hW
  have hr := hP ii hii
  have hW : okW S b := ⟨hP, hb, h64⟩
  have d1 := mul_d (a := (ii : Int)) (b := (jj : Int)) (by omega) (by omega) b2
  have d2 := mul_b (show 0 ≤ (ii : Int) ∧ (ii : Int) ≤ 6 by omega) b2
  have ap := mApart_o (mV S) ii jj
  rcases ap with az | az
  · have er : rBy (mV S) (S.2 52 ii) ii jj (S.1 34) (rHel S b jj) = sumN (S.1 32).toNat (mFeetT (mV S) (mMore (mV S) (S.2 52 ii)) (((jj : Int) - (ii : Int)) * S.1 34) (1 + S.2 51 1) (rHel S b jj)) := if_neg (by omega)
    rw [er]
    have key : ∀ (n i : Nat), i + n = (S.1 32).toNat → Rn X RX12 false cX12_harmBy 5 3 0 0 (some .int) 5 [some (.ref 39), some (vI (ii : Int)), some (vI (jj : Int)), some (vI (sumN i (mFeetT (mV S) (mMore (mV S) (S.2 52 ii)) (((jj : Int) - (ii : Int)) * S.1 34) (1 + S.2 51 1) (rHel S b jj)))), some (vI (i : Int))] [] (hp S) 0 0 (sx_is (some (vI (sumN (S.1 32).toNat (mFeetT (mV S) (mMore (mV S) (S.2 52 ii)) (((jj : Int) - (ii : Int)) * S.1 34) (1 + S.2 51 1) (rHel S b jj))))) (hp S)) := by
      intro n
      induction n with
      | zero =>
        intro i hi 
        rw [Nat.add_zero] at hi
        subst hi
        refine sx_iload (p1 := 7) dX12_harmBy_5 rfl rfl ?_
        refine sx_aload_n (p1 := 8) dX12_harmBy_7 rfl rfl ?_
        refine sx_get (v := vI (S.1 32)) (p1 := 11) dX12_harmBy_8 rfl fl_X12_95 (hp_c39 _) rfl ?_
        refine sx_icmp_ge (p1 := 14) (tg := 65) dX12_harmBy_11 rfl rfl (by omega) (by omega) (fun q11 => ?_) (fun q11 => absurd q11 (by omega))
        refine sx_iload_n (p1 := 66) dX12_harmBy_65 rfl rfl ?_
        exact sx_iret dX12_harmBy_66 rfl (sx_ri (by rfl) (by rfl))
      | succ n ih =>
        intro i hi 
        have l1 := mOdds_b ((mV S).2 1 (i : Int)) (mMore (mV S) (S.2 52 ii))
        have p0 := mul_b (show 0 ≤ (i : Int) ∧ (i : Int) ≤ 16 by omega) (show 0 ≤ 1 + S.2 51 1 ∧ 1 + S.2 51 1 ≤ 2 by omega)
        have p1 : S.2 51 3 + (ii : Int) * S.1 34 + (i : Int) * (1 + S.2 51 1) - S.2 51 3 - (jj : Int) * S.1 34 = (i : Int) * (1 + S.2 51 1) - ((jj : Int) - (ii : Int)) * S.1 34 := by omega
        refine sx_iload (p1 := 7) dX12_harmBy_5 rfl rfl ?_
        refine sx_aload_n (p1 := 8) dX12_harmBy_7 rfl rfl ?_
        refine sx_get (v := vI (S.1 32)) (p1 := 11) dX12_harmBy_8 rfl fl_X12_95 (hp_c39 _) rfl ?_
        refine sx_icmp_ge (p1 := 14) (tg := 65) dX12_harmBy_11 rfl rfl (by omega) (by omega) (fun q11 => absurd q11 (by omega)) (fun q11 => ?_)
        refine sx_aload_n (p1 := 15) dX12_harmBy_14 rfl rfl ?_
        refine sx_iload_n (p1 := 16) dX12_harmBy_15 rfl rfl ?_
        refine sx_iload_n (p1 := 17) dX12_harmBy_16 rfl rfl ?_
        refine sx_callVr (p1 := 20) (As := [_, _]) (k1 := 0) (n1 := 0) dX12_harmBy_17 rfl rfl (c_X12_isAside b3 (by omega) (by omega)) mt_X12_isAside ml_X12_180 (hp_c39 _) rfl rfl (Nat.le_of_ble_eq_true rfl) rfl (Nat.le_of_ble_eq_true rfl) rfl rfl (Nat.le_of_ble_eq_true rfl) (Nat.le_of_ble_eq_true rfl) ?_
        refine sx_if_ne (p1 := 23) (tg := 65) dX12_harmBy_20 rfl rfl (by omega) (fun q20 => absurd q20 (by omega)) (fun q20 => ?_)
        refine sx_iload_n (p1 := 24) dX12_harmBy_23 rfl rfl ?_
        refine sx_aload_n (p1 := 25) dX12_harmBy_24 rfl rfl ?_
        refine sx_aload_n (p1 := 26) dX12_harmBy_25 rfl rfl ?_
        refine sx_get (p1 := 29) dX12_harmBy_26 rfl fl_X12_47 (hp_c39 _) rfl ?_
        refine sx_iload_n (p1 := 30) dX12_harmBy_29 rfl rfl ?_
        refine sx_iald (g := S.2 52) (p1 := 31) dX12_harmBy_30 rfl (hp_c52 _) (by omega) (by decide) ?_
        rw [Int.toNat_natCast]
        refine sx_iload (p1 := 33) dX12_harmBy_31 rfl rfl ?_
        refine sx_callVr (p1 := 36) (As := [_, _]) (k1 := 0) (n1 := 0) dX12_harmBy_33 rfl rfl (c_X12_treadsOf hV (by omega) (by omega)) mt_X12_treadsOf ml_X12_169 (hp_c39 _) rfl rfl (Nat.le_of_ble_eq_true rfl) rfl (Nat.le_of_ble_eq_true rfl) rfl rfl (Nat.le_of_ble_eq_true rfl) (Nat.le_of_ble_eq_true rfl) ?_
        refine sx_aload_n (p1 := 37) dX12_harmBy_36 rfl rfl ?_
        refine sx_iload (p1 := 39) dX12_harmBy_37 rfl rfl ?_
        refine sx_iload_n (p1 := 40) dX12_harmBy_39 rfl rfl ?_
        refine sx_aload_n (p1 := 41) dX12_harmBy_40 rfl rfl ?_
        refine sx_iload_n (p1 := 42) dX12_harmBy_41 rfl rfl ?_
        refine sx_callVr (p1 := 45) (As := [_]) (k1 := 0) (n1 := 0) dX12_harmBy_42 rfl rfl (c_X12_startOf) mt_X12_startOf ml_X12_149 (hp_c39 _) rfl rfl (Nat.le_of_ble_eq_true rfl) rfl (Nat.le_of_ble_eq_true rfl) rfl rfl (Nat.le_of_ble_eq_true rfl) (Nat.le_of_ble_eq_true rfl) ?_
        refine sx_iload (p1 := 47) dX12_harmBy_45 rfl rfl ?_
        refine sx_aload_n (p1 := 48) dX12_harmBy_47 rfl rfl ?_
        refine sx_callVr (p1 := 51) (As := []) (k1 := 0) (n1 := 0) dX12_harmBy_48 rfl rfl (c_X12_pace) mt_X12_pace ml_X12_152 (hp_c39 _) rfl rfl (Nat.le_of_ble_eq_true rfl) rfl (Nat.le_of_ble_eq_true rfl) rfl rfl (Nat.le_of_ble_eq_true rfl) (Nat.le_of_ble_eq_true rfl) ?_
        refine sx_imul (p1 := 52) dX12_harmBy_51 rfl ?_
        refine sx_iadd (p1 := 53) dX12_harmBy_52 rfl ?_
        refine sx_callVr (p1 := 56) (As := [_, _, _]) (k1 := 0) (n1 := 0) dX12_harmBy_53 rfl rfl (c_X12_hitsWho hV hW (by omega) (by omega) (by omega)) mt_X12_hitsWho ml_X12_183 (hp_c39 _) rfl rfl (Nat.le_of_ble_eq_true rfl) rfl (Nat.le_of_ble_eq_true rfl) rfl rfl (Nat.le_of_ble_eq_true rfl) (Nat.le_of_ble_eq_true rfl) ?_
        rw [p1]
        refine sx_imul (p1 := 57) dX12_harmBy_56 rfl ?_
        refine sx_iadd (p1 := 58) dX12_harmBy_57 rfl ?_
        refine sx_istore_n (lo1 := [some _, some _, some _, some _, some _]) (p1 := 59) dX12_harmBy_58 rfl (by decide) rfl ?_
        refine sx_iinc (lo1 := [some _, some _, some _, some _, some _]) (p1 := 62) dX12_harmBy_59 rfl (by decide) rfl rfl ?_
        refine sx_goto (p1 := 5) (tg := 5) dX12_harmBy_62 rfl rfl ?_
        exact ih (i + 1) (by omega)
    refine Ct.of false [some (.ref 39), some (vI (ii : Int)), some (vI (jj : Int)), none, none] (plainFor_of_name (by decide)) (fun h => by cases h) (Nat.le_of_ble_eq_true rfl) (fun _ => rfl) sx_isl ?_
    refine sx_iconst (p1 := 1) dX12_harmBy_0 rfl ?_
    refine sx_istore_n (lo1 := [some _, some _, some _, some _, none]) (p1 := 2) dX12_harmBy_1 rfl (by decide) rfl ?_
    refine sx_iconst (p1 := 3) dX12_harmBy_2 rfl ?_
    refine sx_istore (lo1 := [some _, some _, some _, some _, some _]) (p1 := 5) dX12_harmBy_3 rfl (by decide) rfl ?_
    exact key _ 0 (Nat.zero_add _)
  · have er : rBy (mV S) (S.2 52 ii) ii jj (S.1 34) (rHel S b jj) = 0 := if_pos az
    rw [er]
    refine Ct.of false [some (.ref 39), some (vI (ii : Int)), some (vI (jj : Int)), none, none] (plainFor_of_name (by decide)) (fun h => by cases h) (Nat.le_of_ble_eq_true rfl) (fun _ => rfl) sx_isl ?_
    refine sx_iconst (p1 := 1) dX12_harmBy_0 rfl ?_
    refine sx_istore_n (lo1 := [some _, some _, some _, some _, none]) (p1 := 2) dX12_harmBy_1 rfl (by decide) rfl ?_
    refine sx_iconst (p1 := 3) dX12_harmBy_2 rfl ?_
    refine sx_istore (lo1 := [some _, some _, some _, some _, some _]) (p1 := 5) dX12_harmBy_3 rfl (by decide) rfl ?_
    refine sx_iload (p1 := 7) dX12_harmBy_5 rfl rfl ?_
    refine sx_aload_n (p1 := 8) dX12_harmBy_7 rfl rfl ?_
    refine sx_get (v := vI (S.1 32)) (p1 := 11) dX12_harmBy_8 rfl fl_X12_95 (hp_c39 _) rfl ?_
    refine sx_icmp_ge (p1 := 14) (tg := 65) dX12_harmBy_11 rfl rfl (by omega) (by omega) (fun q11 => ?_) (fun q11 => ?_)
    · refine sx_iload_n (p1 := 66) dX12_harmBy_65 rfl rfl ?_
      exact sx_iret dX12_harmBy_66 rfl (sx_ri (by rfl) (by rfl))
    · refine sx_aload_n (p1 := 15) dX12_harmBy_14 rfl rfl ?_
      refine sx_iload_n (p1 := 16) dX12_harmBy_15 rfl rfl ?_
      refine sx_iload_n (p1 := 17) dX12_harmBy_16 rfl rfl ?_
      refine sx_callVr (p1 := 20) (As := [_, _]) (k1 := 0) (n1 := 0) dX12_harmBy_17 rfl rfl (c_X12_isAside b3 (by omega) (by omega)) mt_X12_isAside ml_X12_180 (hp_c39 _) rfl rfl (Nat.le_of_ble_eq_true rfl) rfl (Nat.le_of_ble_eq_true rfl) rfl rfl (Nat.le_of_ble_eq_true rfl) (Nat.le_of_ble_eq_true rfl) ?_
      refine sx_if_ne (p1 := 23) (tg := 65) dX12_harmBy_20 rfl rfl (by omega) (fun q20 => ?_) (fun q20 => absurd q20 (by omega))
      refine sx_iload_n (p1 := 66) dX12_harmBy_65 rfl rfl ?_
      exact sx_iret dX12_harmBy_66 rfl (sx_ri (by rfl) (by rfl))
set_option maxRecDepth 20000 in
theorem c_X12_sunOf {X : sx_X} {S : St} {b jj : Nat} (hV : okV (mV S)) (hW : okW S b) (hjj : (jj : Int) < S.1 33) : Ct X yX12_sunOf cX12_sunOf 5 (some .int) 3 0 0 [.ref 39, vI (jj : Int)] (hp S) (sx_is (some (vI (mSun (mV S) jj (S.1 34) (rHel S b jj)))) (hp S)) := by
  have b0 : 0 ≤ S.1 32 ∧ S.1 32 ≤ 16 := hV.1
  have c0 : 0 ≤ (mV S).1 0 ∧ (mV S).1 0 ≤ 16 := hV.1
  have b1 : 0 ≤ S.1 33 ∧ S.1 33 ≤ 6 := hV.2.1
  have c1 : 0 ≤ (mV S).1 1 ∧ (mV S).1 1 ≤ 6 := hV.2.1
  have b2 : 0 ≤ S.1 34 ∧ S.1 34 ≤ 99 := hV.2.2.1
  have c2 : 0 ≤ (mV S).1 2 ∧ (mV S).1 2 ≤ 99 := hV.2.2.1
  have b3 : 0 ≤ S.2 51 1 ∧ S.2 51 1 ≤ 1 := hV.2.2.2.1
  have c3 : 0 ≤ (mV S).1 3 ∧ (mV S).1 3 ≤ 1 := hV.2.2.2.1
  have b4 : 0 ≤ S.2 51 2 ∧ S.2 51 2 ≤ 16 := hV.2.2.2.2.1
  have c4 : 0 ≤ (mV S).1 4 ∧ (mV S).1 4 ≤ 16 := hV.2.2.2.2.1
  have b5 : 0 ≤ S.2 51 3 ∧ S.2 51 3 ≤ 999 := hV.2.2.2.2.2.1
  have c5 : 0 ≤ (mV S).1 5 ∧ (mV S).1 5 ≤ 999 := hV.2.2.2.2.2.1
  have b6 : 0 ≤ S.2 51 4 ∧ S.2 51 4 ≤ 1999 := hV.2.2.2.2.2.2.1
  have c6 : 0 ≤ (mV S).1 6 ∧ (mV S).1 6 ≤ 1999 := hV.2.2.2.2.2.2.1
  have b7 : 0 ≤ S.2 51 5 ∧ S.2 51 5 ≤ 16 := hV.2.2.2.2.2.2.2.1
  have c7 : 0 ≤ (mV S).1 7 ∧ (mV S).1 7 ≤ 16 := hV.2.2.2.2.2.2.2.1
  have bK : ∀ q, 0 ≤ rK S q ∧ rK S q ≤ 3 := hV.2.2.2.2.2.2.2.2.1
  have bL : ∀ q, 0 ≤ rL S q ∧ rL S q ≤ 9 := hV.2.2.2.2.2.2.2.2.2.1
  have bW : ∀ q, 0 ≤ rW S q ∧ rW S q ≤ 9 := hV.2.2.2.2.2.2.2.2.2.2.1
  have bS : ∀ q, 0 ≤ rS S q ∧ rS S q ≤ 9 := hV.2.2.2.2.2.2.2.2.2.2.2.1
  have bH : ∀ q, 0 ≤ rH S q ∧ rH S q ≤ 1 := hV.2.2.2.2.2.2.2.2.2.2.2.2
  have d2 := mul_b (show 0 ≤ (jj : Int) ∧ (jj : Int) ≤ 6 by omega) b2
  have d3 := mul_b b0 (show 0 ≤ 1 + S.2 51 1 ∧ 1 + S.2 51 1 ≤ 2 by omega)
  have er : mSun (mV S) jj (S.1 34) (rHel S b jj) = sumN (S.1 32 * (1 + S.2 51 1)).toNat (sH (mV S) (S.2 51 3 + (jj : Int) * S.1 34) (rHel S b jj)) := (sH_sun hV jj (S.1 34) (rHel S b jj)).symm
  rw [er]
  have inner : ∀ (k : Nat), (k : Int) < S.1 32 * (1 + S.2 51 1) → S.2 51 4 ≤ (S.2 51 3 + (jj : Int) * S.1 34) + (k : Int) → Rn X RX12 false cX12_sunOf 5 3 0 0 (some .int) 17 [some (.ref 39), some (vI (jj : Int)), some (vI (sumN (k + 1) (sH (mV S) (S.2 51 3 + (jj : Int) * S.1 34) (rHel S b jj)))), some (vI ((S.2 51 3 + (jj : Int) * S.1 34) + (k : Int) + 1)), none] [] (hp S) 0 0 (sx_is (some (vI (sumN (S.1 32 * (1 + S.2 51 1)).toNat (sH (mV S) (S.2 51 3 + (jj : Int) * S.1 34) (rHel S b jj))))) (hp S)) → Rn X RX12 false cX12_sunOf 5 3 0 0 (some .int) 39 [some (.ref 39), some (vI (jj : Int)), some (vI (sumN k (sH (mV S) (S.2 51 3 + (jj : Int) * S.1 34) (rHel S b jj)))), some (vI ((S.2 51 3 + (jj : Int) * S.1 34) + (k : Int))), some (vI 0)] [] (hp S) 0 0 (sx_is (some (vI (sumN (S.1 32 * (1 + S.2 51 1)).toNat (sH (mV S) (S.2 51 3 + (jj : Int) * S.1 34) (rHel S b jj))))) (hp S)) := by
    intro k hk hu K
    have e1 : sumN (k + 1) (sH (mV S) (S.2 51 3 + (jj : Int) * S.1 34) (rHel S b jj)) = sumN k (sH (mV S) (S.2 51 3 + (jj : Int) * S.1 34) (rHel S b jj)) + sumN (S.1 32).toNat (sT (mV S) k (rHel S b jj)) := by
      rw [sumN, show (sH (mV S) (S.2 51 3 + (jj : Int) * S.1 34) (rHel S b jj)) k = sumN (S.1 32).toNat (sT (mV S) k (rHel S b jj)) from if_pos hu]
    rw [e1] at K
    have key : ∀ (n i : Nat), i + n = (S.1 32).toNat → Rn X RX12 false cX12_sunOf 5 3 0 0 (some .int) 39 [some (.ref 39), some (vI (jj : Int)), some (vI (sumN k (sH (mV S) (S.2 51 3 + (jj : Int) * S.1 34) (rHel S b jj)) + sumN i (sT (mV S) k (rHel S b jj)))), some (vI ((S.2 51 3 + (jj : Int) * S.1 34) + (k : Int))), some (vI (i : Int))] [] (hp S) 0 0 (sx_is (some (vI (sumN (S.1 32 * (1 + S.2 51 1)).toNat (sH (mV S) (S.2 51 3 + (jj : Int) * S.1 34) (rHel S b jj))))) (hp S)) := by
      intro n
      induction n with
      | zero =>
        intro i hi 
        rw [Nat.add_zero] at hi
        subst hi
        refine sx_iload (p1 := 41) dX12_sunOf_39 rfl rfl ?_
        refine sx_aload_n (p1 := 42) dX12_sunOf_41 rfl rfl ?_
        refine sx_get (v := vI (S.1 32)) (p1 := 45) dX12_sunOf_42 rfl fl_X12_95 (hp_c39 _) rfl ?_
        refine sx_icmp_ge (p1 := 48) (tg := 86) dX12_sunOf_45 rfl rfl (by omega) (by omega) (fun q45 => ?_) (fun q45 => absurd q45 (by omega))
        refine sx_iinc (lo1 := [some _, some _, some _, some _, some _]) (p1 := 89) dX12_sunOf_86 rfl (by decide) rfl rfl ?_
        refine sx_goto (p1 := 17) (tg := 17) dX12_sunOf_89 rfl rfl ?_
        refine sx_drop [true, true, true, true, false] (lo1 := [some _, some _, some _, some _, none]) rfl ?_
        exact K
      | succ n ih =>
        intro i hi 
        have l1 : rL S (i : Int) = S.2 47 i := (if_pos (by omega)).trans (by rw [Int.toNat_natCast])
        have l2 := bL (i : Int)
        have p1 : (S.2 51 3 + (jj : Int) * S.1 34) + (k : Int) - S.2 51 3 - (jj : Int) * S.1 34 = (k : Int) := by omega
        have h3 := sT_b hV k (rHel S b jj) (p := i) (by omega)
        refine sx_iload (p1 := 41) dX12_sunOf_39 rfl rfl ?_
        refine sx_aload_n (p1 := 42) dX12_sunOf_41 rfl rfl ?_
        refine sx_get (v := vI (S.1 32)) (p1 := 45) dX12_sunOf_42 rfl fl_X12_95 (hp_c39 _) rfl ?_
        refine sx_icmp_ge (p1 := 48) (tg := 86) dX12_sunOf_45 rfl rfl (by omega) (by omega) (fun q45 => absurd q45 (by omega)) (fun q45 => ?_)
        refine sx_iload_n (p1 := 49) dX12_sunOf_48 rfl rfl ?_
        refine sx_aload_n (p1 := 50) dX12_sunOf_49 rfl rfl ?_
        refine sx_get (p1 := 53) dX12_sunOf_50 rfl fl_X12_31 (hp_c39 _) rfl ?_
        refine sx_iload (p1 := 55) dX12_sunOf_53 rfl rfl ?_
        refine sx_iald (g := S.2 47) (p1 := 56) dX12_sunOf_55 rfl (hp_c47 _) (by omega) (by decide) ?_
        rw [Int.toNat_natCast]
        refine sx_if_le (p1 := 59) (tg := 77) dX12_sunOf_56 rfl rfl (by omega) (fun q56 => ?_) (fun q56 => ?_)
        · have e2 : (sT (mV S) k (rHel S b jj)) i = 0 := if_neg (by show ¬ 0 < rL S i; omega)
          refine sx_iconst (p1 := 78) dX12_sunOf_77 rfl ?_
          refine sx_iadd (p1 := 79) dX12_sunOf_78 rfl ?_
          refine sx_istore_n (lo1 := [some _, some _, some _, some _, some _]) (p1 := 80) dX12_sunOf_79 rfl (by decide) rfl ?_
          refine sx_iinc (lo1 := [some _, some _, some _, some _, some _]) (p1 := 83) dX12_sunOf_80 rfl (by decide) rfl rfl ?_
          refine sx_goto (p1 := 39) (tg := 39) dX12_sunOf_83 rfl rfl ?_
          have h9 := ih (i + 1) (by omega)
          rw [sumN, e2, ← Int.add_assoc] at h9
          exact h9
        · have e2 : (sT (mV S) k (rHel S b jj)) i = S.2 51 5 * mHit (mV S) i (mPl (mV S) k) (rHel S b jj) := if_pos (by show 0 < rL S i; omega)
          refine sx_aload_n (p1 := 60) dX12_sunOf_59 rfl rfl ?_
          refine sx_get (p1 := 63) dX12_sunOf_60 rfl fl_X12_44 (hp_c39 _) rfl ?_
          refine sx_iconst (p1 := 64) dX12_sunOf_63 rfl ?_
          refine sx_iald (g := S.2 51) (p1 := 65) dX12_sunOf_64 rfl (hp_c51 _) (by omega) (by decide) ?_
          rw [show Int.toNat 5 = 5 from rfl]
          refine sx_aload_n (p1 := 66) dX12_sunOf_65 rfl rfl ?_
          refine sx_iload (p1 := 68) dX12_sunOf_66 rfl rfl ?_
          refine sx_iload_n (p1 := 69) dX12_sunOf_68 rfl rfl ?_
          refine sx_iload_n (p1 := 70) dX12_sunOf_69 rfl rfl ?_
          refine sx_callVr (p1 := 73) (As := [_, _, _]) (k1 := 0) (n1 := 0) dX12_sunOf_70 rfl rfl (c_X12_hitsWho hV hW (by omega) (by omega) (by omega)) mt_X12_hitsWho ml_X12_183 (hp_c39 _) rfl rfl (Nat.le_of_ble_eq_true rfl) rfl (Nat.le_of_ble_eq_true rfl) rfl rfl (Nat.le_of_ble_eq_true rfl) (Nat.le_of_ble_eq_true rfl) ?_
          rw [p1]
          refine sx_imul (p1 := 74) dX12_sunOf_73 rfl ?_
          refine sx_goto (p1 := 78) (tg := 78) dX12_sunOf_74 rfl rfl ?_
          refine sx_iadd (p1 := 79) dX12_sunOf_78 rfl ?_
          refine sx_istore_n (lo1 := [some _, some _, some _, some _, some _]) (p1 := 80) dX12_sunOf_79 rfl (by decide) rfl ?_
          refine sx_iinc (lo1 := [some _, some _, some _, some _, some _]) (p1 := 83) dX12_sunOf_80 rfl (by decide) rfl rfl ?_
          refine sx_goto (p1 := 39) (tg := 39) dX12_sunOf_83 rfl rfl ?_
          have h9 := ih (i + 1) (by omega)
          rw [sumN, e2, ← Int.add_assoc] at h9
          exact h9
    have h9 := key _ 0 (Nat.zero_add _)
    rw [show sumN 0 (sT (mV S) k (rHel S b jj)) = 0 from rfl, Int.add_zero] at h9
    exact h9
  have outer : ∀ (n i : Nat), i + n = (S.1 32 * (1 + S.2 51 1)).toNat → S.2 51 4 ≤ (S.2 51 3 + (jj : Int) * S.1 34) + (i : Int) → Rn X RX12 false cX12_sunOf 5 3 0 0 (some .int) 17 [some (.ref 39), some (vI (jj : Int)), some (vI (sumN i (sH (mV S) (S.2 51 3 + (jj : Int) * S.1 34) (rHel S b jj)))), some (vI ((S.2 51 3 + (jj : Int) * S.1 34) + (i : Int))), none] [] (hp S) 0 0 (sx_is (some (vI (sumN (S.1 32 * (1 + S.2 51 1)).toNat (sH (mV S) (S.2 51 3 + (jj : Int) * S.1 34) (rHel S b jj))))) (hp S)) := by
    intro n
    induction n with
    | zero =>
      intro i hi hu
      rw [Nat.add_zero] at hi
      subst hi
      refine sx_iload_n (p1 := 18) dX12_sunOf_17 rfl rfl ?_
      refine sx_aload_n (p1 := 19) dX12_sunOf_18 rfl rfl ?_
      refine sx_iload_n (p1 := 20) dX12_sunOf_19 rfl rfl ?_
      refine sx_callVr (p1 := 23) (As := [_]) (k1 := 0) (n1 := 0) dX12_sunOf_20 rfl rfl (c_X12_startOf) mt_X12_startOf ml_X12_149 (hp_c39 _) rfl rfl (Nat.le_of_ble_eq_true rfl) rfl (Nat.le_of_ble_eq_true rfl) rfl rfl (Nat.le_of_ble_eq_true rfl) (Nat.le_of_ble_eq_true rfl) ?_
      refine sx_aload_n (p1 := 24) dX12_sunOf_23 rfl rfl ?_
      refine sx_get (v := vI (S.1 32)) (p1 := 27) dX12_sunOf_24 rfl fl_X12_95 (hp_c39 _) rfl ?_
      refine sx_aload_n (p1 := 28) dX12_sunOf_27 rfl rfl ?_
      refine sx_callVr (p1 := 31) (As := []) (k1 := 0) (n1 := 0) dX12_sunOf_28 rfl rfl (c_X12_pace) mt_X12_pace ml_X12_152 (hp_c39 _) rfl rfl (Nat.le_of_ble_eq_true rfl) rfl (Nat.le_of_ble_eq_true rfl) rfl rfl (Nat.le_of_ble_eq_true rfl) (Nat.le_of_ble_eq_true rfl) ?_
      refine sx_imul (p1 := 32) dX12_sunOf_31 rfl ?_
      refine sx_iadd (p1 := 33) dX12_sunOf_32 rfl ?_
      refine sx_icmp_ge (p1 := 36) (tg := 92) dX12_sunOf_33 rfl rfl (by omega) (by omega) (fun q33 => ?_) (fun q33 => absurd q33 (by omega))
      refine sx_iload_n (p1 := 93) dX12_sunOf_92 rfl rfl ?_
      exact sx_iret dX12_sunOf_93 rfl (sx_ri (by rfl) (by rfl))
    | succ n ih =>
      intro i hi hu
      refine sx_iload_n (p1 := 18) dX12_sunOf_17 rfl rfl ?_
      refine sx_aload_n (p1 := 19) dX12_sunOf_18 rfl rfl ?_
      refine sx_iload_n (p1 := 20) dX12_sunOf_19 rfl rfl ?_
      refine sx_callVr (p1 := 23) (As := [_]) (k1 := 0) (n1 := 0) dX12_sunOf_20 rfl rfl (c_X12_startOf) mt_X12_startOf ml_X12_149 (hp_c39 _) rfl rfl (Nat.le_of_ble_eq_true rfl) rfl (Nat.le_of_ble_eq_true rfl) rfl rfl (Nat.le_of_ble_eq_true rfl) (Nat.le_of_ble_eq_true rfl) ?_
      refine sx_aload_n (p1 := 24) dX12_sunOf_23 rfl rfl ?_
      refine sx_get (v := vI (S.1 32)) (p1 := 27) dX12_sunOf_24 rfl fl_X12_95 (hp_c39 _) rfl ?_
      refine sx_aload_n (p1 := 28) dX12_sunOf_27 rfl rfl ?_
      refine sx_callVr (p1 := 31) (As := []) (k1 := 0) (n1 := 0) dX12_sunOf_28 rfl rfl (c_X12_pace) mt_X12_pace ml_X12_152 (hp_c39 _) rfl rfl (Nat.le_of_ble_eq_true rfl) rfl (Nat.le_of_ble_eq_true rfl) rfl rfl (Nat.le_of_ble_eq_true rfl) (Nat.le_of_ble_eq_true rfl) ?_
      refine sx_imul (p1 := 32) dX12_sunOf_31 rfl ?_
      refine sx_iadd (p1 := 33) dX12_sunOf_32 rfl ?_
      refine sx_icmp_ge (p1 := 36) (tg := 92) dX12_sunOf_33 rfl rfl (by omega) (by omega) (fun q33 => absurd q33 (by omega)) (fun q33 => ?_)
      refine sx_iconst (p1 := 37) dX12_sunOf_36 rfl ?_
      refine sx_istore (lo1 := [some _, some _, some _, some _, some _]) (p1 := 39) dX12_sunOf_37 rfl (by decide) rfl ?_
      refine inner i (by omega) hu ?_
      have h9 := ih (i + 1) (by omega) (by omega)
      rw [show (S.2 51 3 + (jj : Int) * S.1 34) + ((i + 1 : Nat) : Int) = (S.2 51 3 + (jj : Int) * S.1 34) + (i : Int) + 1 by omega] at h9
      exact h9
  have zz : ∀ n : Nat, (∀ k : Nat, k < n → (S.2 51 3 + (jj : Int) * S.1 34) + (k : Int) < S.2 51 4) → sumN n (sH (mV S) (S.2 51 3 + (jj : Int) * S.1 34) (rHel S b jj)) = 0 := fun n hn => sumN_z n (fun k hk => if_neg (by
    have := hn k hk
    show ¬ S.2 51 4 ≤ (S.2 51 3 + (jj : Int) * S.1 34) + (k : Int)
    omega))
  refine Ct.of false [some (.ref 39), some (vI (jj : Int)), none, none, none] (plainFor_of_name (by decide)) (fun h => by cases h) (Nat.le_of_ble_eq_true rfl) (fun _ => rfl) sx_isl ?_
  refine sx_iconst (p1 := 1) dX12_sunOf_0 rfl ?_
  refine sx_istore_n (lo1 := [some _, some _, some _, none, none]) (p1 := 2) dX12_sunOf_1 rfl (by decide) rfl ?_
  refine sx_aload_n (p1 := 3) dX12_sunOf_2 rfl rfl ?_
  refine sx_get (p1 := 6) dX12_sunOf_3 rfl fl_X12_44 (hp_c39 _) rfl ?_
  refine sx_iconst (p1 := 7) dX12_sunOf_6 rfl ?_
  refine sx_iald (g := S.2 51) (p1 := 8) dX12_sunOf_7 rfl (hp_c51 _) (by omega) (by decide) ?_
  rw [show Int.toNat 4 = 4 from rfl]
  refine sx_aload_n (p1 := 9) dX12_sunOf_8 rfl rfl ?_
  refine sx_iload_n (p1 := 10) dX12_sunOf_9 rfl rfl ?_
  refine sx_callVr (p1 := 13) (As := [_]) (k1 := 0) (n1 := 0) dX12_sunOf_10 rfl rfl (c_X12_startOf) mt_X12_startOf ml_X12_149 (hp_c39 _) rfl rfl (Nat.le_of_ble_eq_true rfl) rfl (Nat.le_of_ble_eq_true rfl) rfl rfl (Nat.le_of_ble_eq_true rfl) (Nat.le_of_ble_eq_true rfl) ?_
  refine sx_callSr (p1 := 16) (As := [_, _]) (k1 := 0) (n1 := 0) dX12_sunOf_13 rfl rfl (c_X12_greater (by omega) (by omega)) mt_X12_greater ml_X12_160 (Nat.le_of_ble_eq_true rfl) rfl (Nat.le_of_ble_eq_true rfl) rfl rfl (Nat.le_of_ble_eq_true rfl) (Nat.le_of_ble_eq_true rfl) ?_
  refine sx_istore_n (lo1 := [some _, some _, some _, some _, none]) (p1 := 17) dX12_sunOf_16 rfl (by decide) rfl ?_
  by_cases hc : (max (S.2 51 4) ((S.2 51 3 + (jj : Int) * S.1 34))) - (S.2 51 3 + (jj : Int) * S.1 34) ≤ S.1 32 * (1 + S.2 51 1)
  · have h9 := outer ((S.1 32 * (1 + S.2 51 1)).toNat - ((max (S.2 51 4) ((S.2 51 3 + (jj : Int) * S.1 34))) - (S.2 51 3 + (jj : Int) * S.1 34)).toNat) ((max (S.2 51 4) ((S.2 51 3 + (jj : Int) * S.1 34))) - (S.2 51 3 + (jj : Int) * S.1 34)).toNat (by omega) (by omega)
    rw [zz ((max (S.2 51 4) ((S.2 51 3 + (jj : Int) * S.1 34))) - (S.2 51 3 + (jj : Int) * S.1 34)).toNat (fun k hk => by omega), show (S.2 51 3 + (jj : Int) * S.1 34) + ((((max (S.2 51 4) ((S.2 51 3 + (jj : Int) * S.1 34))) - (S.2 51 3 + (jj : Int) * S.1 34)).toNat : Nat) : Int) = (max (S.2 51 4) ((S.2 51 3 + (jj : Int) * S.1 34))) by omega] at h9
    exact h9
  · have h8 := zz (S.1 32 * (1 + S.2 51 1)).toNat (fun k hk => by omega)
    rw [h8]
    refine sx_iload_n (p1 := 18) dX12_sunOf_17 rfl rfl ?_
    refine sx_aload_n (p1 := 19) dX12_sunOf_18 rfl rfl ?_
    refine sx_iload_n (p1 := 20) dX12_sunOf_19 rfl rfl ?_
    refine sx_callVr (p1 := 23) (As := [_]) (k1 := 0) (n1 := 0) dX12_sunOf_20 rfl rfl (c_X12_startOf) mt_X12_startOf ml_X12_149 (hp_c39 _) rfl rfl (Nat.le_of_ble_eq_true rfl) rfl (Nat.le_of_ble_eq_true rfl) rfl rfl (Nat.le_of_ble_eq_true rfl) (Nat.le_of_ble_eq_true rfl) ?_
    refine sx_aload_n (p1 := 24) dX12_sunOf_23 rfl rfl ?_
    refine sx_get (v := vI (S.1 32)) (p1 := 27) dX12_sunOf_24 rfl fl_X12_95 (hp_c39 _) rfl ?_
    refine sx_aload_n (p1 := 28) dX12_sunOf_27 rfl rfl ?_
    refine sx_callVr (p1 := 31) (As := []) (k1 := 0) (n1 := 0) dX12_sunOf_28 rfl rfl (c_X12_pace) mt_X12_pace ml_X12_152 (hp_c39 _) rfl rfl (Nat.le_of_ble_eq_true rfl) rfl (Nat.le_of_ble_eq_true rfl) rfl rfl (Nat.le_of_ble_eq_true rfl) (Nat.le_of_ble_eq_true rfl) ?_
    refine sx_imul (p1 := 32) dX12_sunOf_31 rfl ?_
    refine sx_iadd (p1 := 33) dX12_sunOf_32 rfl ?_
    refine sx_icmp_ge (p1 := 36) (tg := 92) dX12_sunOf_33 rfl rfl (by omega) (by omega) (fun q33 => ?_) (fun q33 => absurd q33 (by omega))
    refine sx_iload_n (p1 := 93) dX12_sunOf_92 rfl rfl ?_
    exact sx_iret dX12_sunOf_93 rfl (sx_ri (by rfl) (by rfl))
set_option maxRecDepth 20000 in
theorem c_X12_toOne {X : sx_X} {S : St} {b jj : Nat} (hV : okV (mV S)) (hW : okW S b) (hjj : (jj : Int) < S.1 33) : Ct X yX12_toOne cX12_toOne 4 (some .int) 4 0 0 [.ref 39, vI (jj : Int)] (hp S) (sx_is (some (vI (hAt (mV S) (S.1 34) (S.2 52) jj (rHel S b jj)))) (hp S)) := by
  have b0 : 0 ≤ S.1 32 ∧ S.1 32 ≤ 16 := hV.1
  have c0 : 0 ≤ (mV S).1 0 ∧ (mV S).1 0 ≤ 16 := hV.1
  have b1 : 0 ≤ S.1 33 ∧ S.1 33 ≤ 6 := hV.2.1
  have c1 : 0 ≤ (mV S).1 1 ∧ (mV S).1 1 ≤ 6 := hV.2.1
  have b2 : 0 ≤ S.1 34 ∧ S.1 34 ≤ 99 := hV.2.2.1
  have c2 : 0 ≤ (mV S).1 2 ∧ (mV S).1 2 ≤ 99 := hV.2.2.1
  have b3 : 0 ≤ S.2 51 1 ∧ S.2 51 1 ≤ 1 := hV.2.2.2.1
  have c3 : 0 ≤ (mV S).1 3 ∧ (mV S).1 3 ≤ 1 := hV.2.2.2.1
  have b4 : 0 ≤ S.2 51 2 ∧ S.2 51 2 ≤ 16 := hV.2.2.2.2.1
  have c4 : 0 ≤ (mV S).1 4 ∧ (mV S).1 4 ≤ 16 := hV.2.2.2.2.1
  have b5 : 0 ≤ S.2 51 3 ∧ S.2 51 3 ≤ 999 := hV.2.2.2.2.2.1
  have c5 : 0 ≤ (mV S).1 5 ∧ (mV S).1 5 ≤ 999 := hV.2.2.2.2.2.1
  have b6 : 0 ≤ S.2 51 4 ∧ S.2 51 4 ≤ 1999 := hV.2.2.2.2.2.2.1
  have c6 : 0 ≤ (mV S).1 6 ∧ (mV S).1 6 ≤ 1999 := hV.2.2.2.2.2.2.1
  have b7 : 0 ≤ S.2 51 5 ∧ S.2 51 5 ≤ 16 := hV.2.2.2.2.2.2.2.1
  have c7 : 0 ≤ (mV S).1 7 ∧ (mV S).1 7 ≤ 16 := hV.2.2.2.2.2.2.2.1
  have bK : ∀ q, 0 ≤ rK S q ∧ rK S q ≤ 3 := hV.2.2.2.2.2.2.2.2.1
  have bL : ∀ q, 0 ≤ rL S q ∧ rL S q ≤ 9 := hV.2.2.2.2.2.2.2.2.2.1
  have bW : ∀ q, 0 ≤ rW S q ∧ rW S q ≤ 9 := hV.2.2.2.2.2.2.2.2.2.2.1
  have bS : ∀ q, 0 ≤ rS S q ∧ rS S q ≤ 9 := hV.2.2.2.2.2.2.2.2.2.2.2.1
  have bH : ∀ q, 0 ≤ rH S q ∧ rH S q ≤ 1 := hV.2.2.2.2.2.2.2.2.2.2.2.2
  have er : hAt (mV S) (S.1 34) (S.2 52) jj (rHel S b jj) = mSun (mV S) jj (S.1 34) (rHel S b jj) + sumN (S.1 33).toNat (rOneT (mV S) (S.2 52) jj (S.1 34) (rHel S b jj)) := (rOne_at hV b2.1 hjj hW.1).symm
  rw [er]
  have s1 := mSun_b hV jj (S.1 34) (rHel S b jj)
  have key : ∀ (n i : Nat), i + n = (S.1 33).toNat → Rn X RX12 false cX12_toOne 4 4 0 0 (some .int) 8 [some (.ref 39), some (vI (jj : Int)), some (vI (mSun (mV S) jj (S.1 34) (rHel S b jj) + sumN i (rOneT (mV S) (S.2 52) jj (S.1 34) (rHel S b jj)))), some (vI (i : Int))] [] (hp S) 0 0 (sx_is (some (vI (mSun (mV S) jj (S.1 34) (rHel S b jj) + sumN (S.1 33).toNat (rOneT (mV S) (S.2 52) jj (S.1 34) (rHel S b jj))))) (hp S)) := by
    intro n
    induction n with
    | zero =>
      intro i hi 
      rw [Nat.add_zero] at hi
      subst hi
      refine sx_iload_n (p1 := 9) dX12_toOne_8 rfl rfl ?_
      refine sx_aload_n (p1 := 10) dX12_toOne_9 rfl rfl ?_
      refine sx_get (v := vI (S.1 33)) (p1 := 13) dX12_toOne_10 rfl fl_X12_106 (hp_c39 _) rfl ?_
      refine sx_icmp_ge (p1 := 16) (tg := 40) dX12_toOne_13 rfl rfl (by omega) (by omega) (fun q13 => ?_) (fun q13 => absurd q13 (by omega))
      refine sx_iload_n (p1 := 41) dX12_toOne_40 rfl rfl ?_
      exact sx_iret dX12_toOne_41 rfl (sx_ri (by rfl) (by rfl))
    | succ n ih =>
      intro i hi 
      refine sx_iload_n (p1 := 9) dX12_toOne_8 rfl rfl ?_
      refine sx_aload_n (p1 := 10) dX12_toOne_9 rfl rfl ?_
      refine sx_get (v := vI (S.1 33)) (p1 := 13) dX12_toOne_10 rfl fl_X12_106 (hp_c39 _) rfl ?_
      refine sx_icmp_ge (p1 := 16) (tg := 40) dX12_toOne_13 rfl rfl (by omega) (by omega) (fun q13 => absurd q13 (by omega)) (fun q13 => ?_)
      refine sx_iload_n (p1 := 17) dX12_toOne_16 rfl rfl ?_
      refine sx_iload_n (p1 := 18) dX12_toOne_17 rfl rfl ?_
      refine sx_iload_n (p1 := 19) dX12_toOne_18 rfl rfl ?_
      refine sx_icmp_ne (p1 := 22) (tg := 26) dX12_toOne_19 rfl rfl (by omega) (by omega) (fun q19 => ?_) (fun q19 => ?_)
      · have e2 : (rOneT (mV S) (S.2 52) jj (S.1 34) (rHel S b jj)) i = rBy (mV S) (S.2 52 i) i jj (S.1 34) (rHel S b jj) := if_neg (by omega)
        refine sx_aload_n (p1 := 27) dX12_toOne_26 rfl rfl ?_
        refine sx_iload_n (p1 := 28) dX12_toOne_27 rfl rfl ?_
        refine sx_iload_n (p1 := 29) dX12_toOne_28 rfl rfl ?_
        refine sx_callVr (p1 := 32) (As := [_, _]) (k1 := 0) (n1 := 0) dX12_toOne_29 rfl rfl (c_X12_harmBy hV hW (by omega) hjj) mt_X12_harmBy ml_X12_189 (hp_c39 _) rfl rfl (Nat.le_of_ble_eq_true rfl) rfl (Nat.le_of_ble_eq_true rfl) rfl rfl (Nat.le_of_ble_eq_true rfl) (Nat.le_of_ble_eq_true rfl) ?_
        refine sx_iadd (p1 := 33) dX12_toOne_32 rfl ?_
        refine sx_istore_n (lo1 := [some _, some _, some _, some _]) (p1 := 34) dX12_toOne_33 rfl (by decide) rfl ?_
        refine sx_iinc (lo1 := [some _, some _, some _, some _]) (p1 := 37) dX12_toOne_34 rfl (by decide) rfl rfl ?_
        refine sx_goto (p1 := 8) (tg := 8) dX12_toOne_37 rfl rfl ?_
        have h9 := ih (i + 1) (by omega)
        rw [sumN, e2, ← Int.add_assoc] at h9
        exact h9
      · have e2 : (rOneT (mV S) (S.2 52) jj (S.1 34) (rHel S b jj)) i = 0 := if_pos (by omega)
        refine sx_iconst (p1 := 23) dX12_toOne_22 rfl ?_
        refine sx_goto (p1 := 32) (tg := 32) dX12_toOne_23 rfl rfl ?_
        refine sx_iadd (p1 := 33) dX12_toOne_32 rfl ?_
        refine sx_istore_n (lo1 := [some _, some _, some _, some _]) (p1 := 34) dX12_toOne_33 rfl (by decide) rfl ?_
        refine sx_iinc (lo1 := [some _, some _, some _, some _]) (p1 := 37) dX12_toOne_34 rfl (by decide) rfl rfl ?_
        refine sx_goto (p1 := 8) (tg := 8) dX12_toOne_37 rfl rfl ?_
        have h9 := ih (i + 1) (by omega)
        rw [sumN, e2, ← Int.add_assoc] at h9
        exact h9
  refine Ct.of false [some (.ref 39), some (vI (jj : Int)), none, none] (plainFor_of_name (by decide)) (fun h => by cases h) (Nat.le_of_ble_eq_true rfl) (fun _ => rfl) sx_isl ?_
  refine sx_aload_n (p1 := 1) dX12_toOne_0 rfl rfl ?_
  refine sx_iload_n (p1 := 2) dX12_toOne_1 rfl rfl ?_
  refine sx_callVr (p1 := 5) (As := [_]) (k1 := 0) (n1 := 0) dX12_toOne_2 rfl rfl (c_X12_sunOf hV hW hjj) mt_X12_sunOf ml_X12_186 (hp_c39 _) rfl rfl (Nat.le_of_ble_eq_true rfl) rfl (Nat.le_of_ble_eq_true rfl) rfl rfl (Nat.le_of_ble_eq_true rfl) (Nat.le_of_ble_eq_true rfl) ?_
  refine sx_istore_n (lo1 := [some _, some _, some _, none]) (p1 := 6) dX12_toOne_5 rfl (by decide) rfl ?_
  refine sx_iconst (p1 := 7) dX12_toOne_6 rfl ?_
  refine sx_istore_n (lo1 := [some _, some _, some _, some _]) (p1 := 8) dX12_toOne_7 rfl (by decide) rfl ?_
  have h9 := key _ 0 (Nat.zero_add _)
  rw [show sumN 0 (rOneT (mV S) (S.2 52) jj (S.1 34) (rHel S b jj)) = 0 from rfl, Int.add_zero] at h9
  exact h9
def rAllT (S : St) (b j : Nat) : Int := hAt (mV S) (S.1 34) (S.2 52) j (rHel S b j)
def rAll (S : St) (b : Nat) : Int := sumN (S.1 33).toNat (rAllT S b)
theorem rAll_b {S : St} (hV : okV (mV S)) (b : Nat) : 0 ≤ rAll S b ∧ rAll S b ≤ 1200000 := by
  have h1 : 0 ≤ S.1 33 ∧ S.1 33 ≤ 6 := hV.2.1
  have h := sumN_le (f := rAllT S b) (b := 200000) (S.1 33).toNat (fun i hi => hAt_b hV _ _ (by omega) _)
  unfold rAll
  omega
set_option maxRecDepth 20000 in
theorem c_X12_toAll {X : sx_X} {S : St} {b : Nat} (hV : okV (mV S)) (hW : okW S b)  : Ct X yX12_toAll cX12_toAll 3 (some .int) 5 0 0 [.ref 39] (hp S) (sx_is (some (vI (rAll S b))) (hp S)) := by
  have b0 : 0 ≤ S.1 32 ∧ S.1 32 ≤ 16 := hV.1
  have c0 : 0 ≤ (mV S).1 0 ∧ (mV S).1 0 ≤ 16 := hV.1
  have b1 : 0 ≤ S.1 33 ∧ S.1 33 ≤ 6 := hV.2.1
  have c1 : 0 ≤ (mV S).1 1 ∧ (mV S).1 1 ≤ 6 := hV.2.1
  have b2 : 0 ≤ S.1 34 ∧ S.1 34 ≤ 99 := hV.2.2.1
  have c2 : 0 ≤ (mV S).1 2 ∧ (mV S).1 2 ≤ 99 := hV.2.2.1
  have b3 : 0 ≤ S.2 51 1 ∧ S.2 51 1 ≤ 1 := hV.2.2.2.1
  have c3 : 0 ≤ (mV S).1 3 ∧ (mV S).1 3 ≤ 1 := hV.2.2.2.1
  have b4 : 0 ≤ S.2 51 2 ∧ S.2 51 2 ≤ 16 := hV.2.2.2.2.1
  have c4 : 0 ≤ (mV S).1 4 ∧ (mV S).1 4 ≤ 16 := hV.2.2.2.2.1
  have b5 : 0 ≤ S.2 51 3 ∧ S.2 51 3 ≤ 999 := hV.2.2.2.2.2.1
  have c5 : 0 ≤ (mV S).1 5 ∧ (mV S).1 5 ≤ 999 := hV.2.2.2.2.2.1
  have b6 : 0 ≤ S.2 51 4 ∧ S.2 51 4 ≤ 1999 := hV.2.2.2.2.2.2.1
  have c6 : 0 ≤ (mV S).1 6 ∧ (mV S).1 6 ≤ 1999 := hV.2.2.2.2.2.2.1
  have b7 : 0 ≤ S.2 51 5 ∧ S.2 51 5 ≤ 16 := hV.2.2.2.2.2.2.2.1
  have c7 : 0 ≤ (mV S).1 7 ∧ (mV S).1 7 ≤ 16 := hV.2.2.2.2.2.2.2.1
  have bK : ∀ q, 0 ≤ rK S q ∧ rK S q ≤ 3 := hV.2.2.2.2.2.2.2.2.1
  have bL : ∀ q, 0 ≤ rL S q ∧ rL S q ≤ 9 := hV.2.2.2.2.2.2.2.2.2.1
  have bW : ∀ q, 0 ≤ rW S q ∧ rW S q ≤ 9 := hV.2.2.2.2.2.2.2.2.2.2.1
  have bS : ∀ q, 0 ≤ rS S q ∧ rS S q ≤ 9 := hV.2.2.2.2.2.2.2.2.2.2.2.1
  have bH : ∀ q, 0 ≤ rH S q ∧ rH S q ≤ 1 := hV.2.2.2.2.2.2.2.2.2.2.2.2
  have key : ∀ (n i : Nat), i + n = (S.1 33).toNat → Rn X RX12 false cX12_toAll 3 5 0 0 (some .int) 4 [some (.ref 39), some (vI (sumN i (rAllT S b))), some (vI (i : Int))] [] (hp S) 0 0 (sx_is (some (vI (rAll S b))) (hp S)) := by
    intro n
    induction n with
    | zero =>
      intro i hi 
      rw [Nat.add_zero] at hi
      subst hi
      refine sx_iload_n (p1 := 5) dX12_toAll_4 rfl rfl ?_
      refine sx_aload_n (p1 := 6) dX12_toAll_5 rfl rfl ?_
      refine sx_get (v := vI (S.1 33)) (p1 := 9) dX12_toAll_6 rfl fl_X12_106 (hp_c39 _) rfl ?_
      refine sx_icmp_ge (p1 := 12) (tg := 26) dX12_toAll_9 rfl rfl (by omega) (by omega) (fun q9 => ?_) (fun q9 => absurd q9 (by omega))
      refine sx_iload_n (p1 := 27) dX12_toAll_26 rfl rfl ?_
      exact sx_iret dX12_toAll_27 rfl (sx_ri (by rfl) (by rfl))
    | succ n ih =>
      intro i hi 
      refine sx_iload_n (p1 := 5) dX12_toAll_4 rfl rfl ?_
      refine sx_aload_n (p1 := 6) dX12_toAll_5 rfl rfl ?_
      refine sx_get (v := vI (S.1 33)) (p1 := 9) dX12_toAll_6 rfl fl_X12_106 (hp_c39 _) rfl ?_
      refine sx_icmp_ge (p1 := 12) (tg := 26) dX12_toAll_9 rfl rfl (by omega) (by omega) (fun q9 => absurd q9 (by omega)) (fun q9 => ?_)
      refine sx_iload_n (p1 := 13) dX12_toAll_12 rfl rfl ?_
      refine sx_aload_n (p1 := 14) dX12_toAll_13 rfl rfl ?_
      refine sx_iload_n (p1 := 15) dX12_toAll_14 rfl rfl ?_
      refine sx_callVr (p1 := 18) (As := [_]) (k1 := 0) (n1 := 0) dX12_toAll_15 rfl rfl (c_X12_toOne hV hW (by omega)) mt_X12_toOne ml_X12_192 (hp_c39 _) rfl rfl (Nat.le_of_ble_eq_true rfl) rfl (Nat.le_of_ble_eq_true rfl) rfl rfl (Nat.le_of_ble_eq_true rfl) (Nat.le_of_ble_eq_true rfl) ?_
      refine sx_iadd (p1 := 19) dX12_toAll_18 rfl ?_
      refine sx_istore_n (lo1 := [some _, some _, some _]) (p1 := 20) dX12_toAll_19 rfl (by decide) rfl ?_
      refine sx_iinc (lo1 := [some _, some _, some _]) (p1 := 23) dX12_toAll_20 rfl (by decide) rfl rfl ?_
      refine sx_goto (p1 := 4) (tg := 4) dX12_toAll_23 rfl rfl ?_
      exact ih (i + 1) (by omega)
  refine Ct.of false [some (.ref 39), none, none] (plainFor_of_name (by decide)) (fun h => by cases h) (Nat.le_of_ble_eq_true rfl) (fun _ => rfl) sx_isl ?_
  refine sx_iconst (p1 := 1) dX12_toAll_0 rfl ?_
  refine sx_istore_n (lo1 := [some _, some _, none]) (p1 := 2) dX12_toAll_1 rfl (by decide) rfl ?_
  refine sx_iconst (p1 := 3) dX12_toAll_2 rfl ?_
  refine sx_istore_n (lo1 := [some _, some _, some _]) (p1 := 4) dX12_toAll_3 rfl (by decide) rfl ?_
  exact key _ 0 (Nat.zero_add _)
set_option maxRecDepth 20000 in
theorem c_X12_takes {X : sx_X} {S : St} (hV : okV (mV S))  : Ct X yX12_takes cX12_takes 1 (some .int) 1 0 0 [.ref 39] (hp S) (sx_is (some (vI (mTakes (mV S)))) (hp (S))) := by
  have b0 : 0 ≤ S.1 32 ∧ S.1 32 ≤ 16 := hV.1
  have c0 : 0 ≤ (mV S).1 0 ∧ (mV S).1 0 ≤ 16 := hV.1
  have b1 : 0 ≤ S.1 33 ∧ S.1 33 ≤ 6 := hV.2.1
  have c1 : 0 ≤ (mV S).1 1 ∧ (mV S).1 1 ≤ 6 := hV.2.1
  have b2 : 0 ≤ S.1 34 ∧ S.1 34 ≤ 99 := hV.2.2.1
  have c2 : 0 ≤ (mV S).1 2 ∧ (mV S).1 2 ≤ 99 := hV.2.2.1
  have b3 : 0 ≤ S.2 51 1 ∧ S.2 51 1 ≤ 1 := hV.2.2.2.1
  have c3 : 0 ≤ (mV S).1 3 ∧ (mV S).1 3 ≤ 1 := hV.2.2.2.1
  have b4 : 0 ≤ S.2 51 2 ∧ S.2 51 2 ≤ 16 := hV.2.2.2.2.1
  have c4 : 0 ≤ (mV S).1 4 ∧ (mV S).1 4 ≤ 16 := hV.2.2.2.2.1
  have b5 : 0 ≤ S.2 51 3 ∧ S.2 51 3 ≤ 999 := hV.2.2.2.2.2.1
  have c5 : 0 ≤ (mV S).1 5 ∧ (mV S).1 5 ≤ 999 := hV.2.2.2.2.2.1
  have b6 : 0 ≤ S.2 51 4 ∧ S.2 51 4 ≤ 1999 := hV.2.2.2.2.2.2.1
  have c6 : 0 ≤ (mV S).1 6 ∧ (mV S).1 6 ≤ 1999 := hV.2.2.2.2.2.2.1
  have b7 : 0 ≤ S.2 51 5 ∧ S.2 51 5 ≤ 16 := hV.2.2.2.2.2.2.2.1
  have c7 : 0 ≤ (mV S).1 7 ∧ (mV S).1 7 ≤ 16 := hV.2.2.2.2.2.2.2.1
  have bK : ∀ q, 0 ≤ rK S q ∧ rK S q ≤ 3 := hV.2.2.2.2.2.2.2.2.1
  have bL : ∀ q, 0 ≤ rL S q ∧ rL S q ≤ 9 := hV.2.2.2.2.2.2.2.2.2.1
  have bW : ∀ q, 0 ≤ rW S q ∧ rW S q ≤ 9 := hV.2.2.2.2.2.2.2.2.2.2.1
  have bS : ∀ q, 0 ≤ rS S q ∧ rS S q ≤ 9 := hV.2.2.2.2.2.2.2.2.2.2.2.1
  have bH : ∀ q, 0 ≤ rH S q ∧ rH S q ≤ 1 := hV.2.2.2.2.2.2.2.2.2.2.2.2
  refine Ct.of false [some (.ref 39)] (plainFor_of_name (by decide)) (fun h => by cases h) (Nat.le_of_ble_eq_true rfl) (fun _ => rfl) sx_isl ?_
  refine sx_aload_n (p1 := 1) dX12_takes_0 rfl rfl ?_
  refine sx_get (v := vI (S.1 33)) (p1 := 4) dX12_takes_1 rfl fl_X12_106 (hp_c39 _) rfl ?_
  refine sx_if_eq (p1 := 7) (tg := 14) dX12_takes_4 rfl rfl (by omega) (fun q4 => ?_) (fun q4 => ?_)
  · refine sx_iconst (p1 := 15) dX12_takes_14 rfl ?_
    refine sx_goto (p1 := 39) (tg := 39) dX12_takes_15 rfl rfl ?_
    exact sx_iret dX12_takes_39 rfl (sx_ri (by rw [mTakes_m]; split <;> omega) (by rfl))
  · refine sx_aload_n (p1 := 8) dX12_takes_7 rfl rfl ?_
    refine sx_get (v := vI (S.1 32)) (p1 := 11) dX12_takes_8 rfl fl_X12_95 (hp_c39 _) rfl ?_
    refine sx_if_ne (p1 := 14) (tg := 18) dX12_takes_11 rfl rfl (by omega) (fun q11 => ?_) (fun q11 => ?_)
    · refine sx_aload_n (p1 := 19) dX12_takes_18 rfl rfl ?_
      refine sx_get (v := vI (S.1 33)) (p1 := 22) dX12_takes_19 rfl fl_X12_106 (hp_c39 _) rfl ?_
      refine sx_iconst (p1 := 23) dX12_takes_22 rfl ?_
      refine sx_isub (p1 := 24) dX12_takes_23 rfl ?_
      refine sx_aload_n (p1 := 25) dX12_takes_24 rfl rfl ?_
      refine sx_get (v := vI (S.1 34)) (p1 := 28) dX12_takes_25 rfl fl_X12_137 (hp_c39 _) rfl ?_
      refine sx_imul (p1 := 29) dX12_takes_28 rfl ?_
      refine sx_aload_n (p1 := 30) dX12_takes_29 rfl rfl ?_
      refine sx_get (v := vI (S.1 32)) (p1 := 33) dX12_takes_30 rfl fl_X12_95 (hp_c39 _) rfl ?_
      refine sx_aload_n (p1 := 34) dX12_takes_33 rfl rfl ?_
      refine sx_callVr (p1 := 37) (As := []) (k1 := 0) (n1 := 0) dX12_takes_34 rfl rfl (c_X12_pace) mt_X12_pace ml_X12_152 (hp_c39 _) rfl rfl (Nat.le_of_ble_eq_true rfl) rfl (Nat.le_of_ble_eq_true rfl) rfl rfl (Nat.le_of_ble_eq_true rfl) (Nat.le_of_ble_eq_true rfl) ?_
      refine sx_imul (p1 := 38) dX12_takes_37 rfl ?_
      refine sx_iadd (p1 := 39) dX12_takes_38 rfl ?_
      exact sx_iret dX12_takes_39 rfl (sx_ri (by rw [mTakes_m]; split <;> omega) (by rfl))
    · refine sx_iconst (p1 := 15) dX12_takes_14 rfl ?_
      refine sx_goto (p1 := 39) (tg := 39) dX12_takes_15 rfl rfl ?_
      exact sx_iret dX12_takes_39 rfl (sx_ri (by rw [mTakes_m]; split <;> omega) (by rfl))
set_option maxRecDepth 20000 in
theorem c_X12_endsNow {X : sx_X} {S : St} (hV : okV (mV S))  : Ct X yX12_endsNow cX12_endsNow 1 (some .int) 2 0 0 [.ref 39] (hp S) (sx_is (some (vI (aEnds (mV S)))) (hp (S))) := by
  have b0 : 0 ≤ S.1 32 ∧ S.1 32 ≤ 16 := hV.1
  have c0 : 0 ≤ (mV S).1 0 ∧ (mV S).1 0 ≤ 16 := hV.1
  have b1 : 0 ≤ S.1 33 ∧ S.1 33 ≤ 6 := hV.2.1
  have c1 : 0 ≤ (mV S).1 1 ∧ (mV S).1 1 ≤ 6 := hV.2.1
  have b2 : 0 ≤ S.1 34 ∧ S.1 34 ≤ 99 := hV.2.2.1
  have c2 : 0 ≤ (mV S).1 2 ∧ (mV S).1 2 ≤ 99 := hV.2.2.1
  have b3 : 0 ≤ S.2 51 1 ∧ S.2 51 1 ≤ 1 := hV.2.2.2.1
  have c3 : 0 ≤ (mV S).1 3 ∧ (mV S).1 3 ≤ 1 := hV.2.2.2.1
  have b4 : 0 ≤ S.2 51 2 ∧ S.2 51 2 ≤ 16 := hV.2.2.2.2.1
  have c4 : 0 ≤ (mV S).1 4 ∧ (mV S).1 4 ≤ 16 := hV.2.2.2.2.1
  have b5 : 0 ≤ S.2 51 3 ∧ S.2 51 3 ≤ 999 := hV.2.2.2.2.2.1
  have c5 : 0 ≤ (mV S).1 5 ∧ (mV S).1 5 ≤ 999 := hV.2.2.2.2.2.1
  have b6 : 0 ≤ S.2 51 4 ∧ S.2 51 4 ≤ 1999 := hV.2.2.2.2.2.2.1
  have c6 : 0 ≤ (mV S).1 6 ∧ (mV S).1 6 ≤ 1999 := hV.2.2.2.2.2.2.1
  have b7 : 0 ≤ S.2 51 5 ∧ S.2 51 5 ≤ 16 := hV.2.2.2.2.2.2.2.1
  have c7 : 0 ≤ (mV S).1 7 ∧ (mV S).1 7 ≤ 16 := hV.2.2.2.2.2.2.2.1
  have bK : ∀ q, 0 ≤ rK S q ∧ rK S q ≤ 3 := hV.2.2.2.2.2.2.2.2.1
  have bL : ∀ q, 0 ≤ rL S q ∧ rL S q ≤ 9 := hV.2.2.2.2.2.2.2.2.2.1
  have bW : ∀ q, 0 ≤ rW S q ∧ rW S q ≤ 9 := hV.2.2.2.2.2.2.2.2.2.2.1
  have bS : ∀ q, 0 ≤ rS S q ∧ rS S q ≤ 9 := hV.2.2.2.2.2.2.2.2.2.2.2.1
  have bH : ∀ q, 0 ≤ rH S q ∧ rH S q ≤ 1 := hV.2.2.2.2.2.2.2.2.2.2.2.2
  refine Ct.of false [some (.ref 39)] (plainFor_of_name (by decide)) (fun h => by cases h) (Nat.le_of_ble_eq_true rfl) (fun _ => rfl) sx_isl ?_
  refine sx_aload_n (p1 := 1) dX12_endsNow_0 rfl rfl ?_
  refine sx_get (p1 := 4) dX12_endsNow_1 rfl fl_X12_44 (hp_c39 _) rfl ?_
  refine sx_iconst (p1 := 5) dX12_endsNow_4 rfl ?_
  refine sx_iald (g := S.2 51) (p1 := 6) dX12_endsNow_5 rfl (hp_c51 _) (by omega) (by decide) ?_
  rw [show Int.toNat 3 = 3 from rfl]
  refine sx_aload_n (p1 := 7) dX12_endsNow_6 rfl rfl ?_
  refine sx_callVr (p1 := 10) (As := []) (k1 := 0) (n1 := 0) dX12_endsNow_7 rfl rfl (c_X12_takes hV) mt_X12_takes ml_X12_208 (hp_c39 _) rfl rfl (Nat.le_of_ble_eq_true rfl) rfl (Nat.le_of_ble_eq_true rfl) rfl rfl (Nat.le_of_ble_eq_true rfl) (Nat.le_of_ble_eq_true rfl) ?_
  refine sx_iadd (p1 := 11) dX12_endsNow_10 rfl ?_
  exact sx_iret dX12_endsNow_11 rfl (sx_ri (by rfl) (by rfl))
set_option maxRecDepth 20000 in
theorem c_X12_latestNow {X : sx_X} {S : St} (hV : okV (mV S))  : Ct X yX12_latestNow cX12_latestNow 2 (some .int) 2 0 0 [.ref 39] (hp S) (sx_is (some (vI (aLatest (mV S)))) (hp (S))) := by
  have b0 : 0 ≤ S.1 32 ∧ S.1 32 ≤ 16 := hV.1
  have c0 : 0 ≤ (mV S).1 0 ∧ (mV S).1 0 ≤ 16 := hV.1
  have b1 : 0 ≤ S.1 33 ∧ S.1 33 ≤ 6 := hV.2.1
  have c1 : 0 ≤ (mV S).1 1 ∧ (mV S).1 1 ≤ 6 := hV.2.1
  have b2 : 0 ≤ S.1 34 ∧ S.1 34 ≤ 99 := hV.2.2.1
  have c2 : 0 ≤ (mV S).1 2 ∧ (mV S).1 2 ≤ 99 := hV.2.2.1
  have b3 : 0 ≤ S.2 51 1 ∧ S.2 51 1 ≤ 1 := hV.2.2.2.1
  have c3 : 0 ≤ (mV S).1 3 ∧ (mV S).1 3 ≤ 1 := hV.2.2.2.1
  have b4 : 0 ≤ S.2 51 2 ∧ S.2 51 2 ≤ 16 := hV.2.2.2.2.1
  have c4 : 0 ≤ (mV S).1 4 ∧ (mV S).1 4 ≤ 16 := hV.2.2.2.2.1
  have b5 : 0 ≤ S.2 51 3 ∧ S.2 51 3 ≤ 999 := hV.2.2.2.2.2.1
  have c5 : 0 ≤ (mV S).1 5 ∧ (mV S).1 5 ≤ 999 := hV.2.2.2.2.2.1
  have b6 : 0 ≤ S.2 51 4 ∧ S.2 51 4 ≤ 1999 := hV.2.2.2.2.2.2.1
  have c6 : 0 ≤ (mV S).1 6 ∧ (mV S).1 6 ≤ 1999 := hV.2.2.2.2.2.2.1
  have b7 : 0 ≤ S.2 51 5 ∧ S.2 51 5 ≤ 16 := hV.2.2.2.2.2.2.2.1
  have c7 : 0 ≤ (mV S).1 7 ∧ (mV S).1 7 ≤ 16 := hV.2.2.2.2.2.2.2.1
  have bK : ∀ q, 0 ≤ rK S q ∧ rK S q ≤ 3 := hV.2.2.2.2.2.2.2.2.1
  have bL : ∀ q, 0 ≤ rL S q ∧ rL S q ≤ 9 := hV.2.2.2.2.2.2.2.2.2.1
  have bW : ∀ q, 0 ≤ rW S q ∧ rW S q ≤ 9 := hV.2.2.2.2.2.2.2.2.2.2.1
  have bS : ∀ q, 0 ≤ rS S q ∧ rS S q ≤ 9 := hV.2.2.2.2.2.2.2.2.2.2.2.1
  have bH : ∀ q, 0 ≤ rH S q ∧ rH S q ≤ 1 := hV.2.2.2.2.2.2.2.2.2.2.2.2
  have z1 := mTakes_b hV
  refine Ct.of false [some (.ref 39), none] (plainFor_of_name (by decide)) (fun h => by cases h) (Nat.le_of_ble_eq_true rfl) (fun _ => rfl) sx_isl ?_
  refine sx_aload_n (p1 := 1) dX12_latestNow_0 rfl rfl ?_
  refine sx_get (p1 := 4) dX12_latestNow_1 rfl fl_X12_44 (hp_c39 _) rfl ?_
  refine sx_iconst (p1 := 5) dX12_latestNow_4 rfl ?_
  refine sx_iald (g := S.2 51) (p1 := 6) dX12_latestNow_5 rfl (hp_c51 _) (by omega) (by decide) ?_
  rw [show Int.toNat 4 = 4 from rfl]
  refine sx_aload_n (p1 := 7) dX12_latestNow_6 rfl rfl ?_
  refine sx_callVr (p1 := 10) (As := []) (k1 := 0) (n1 := 0) dX12_latestNow_7 rfl rfl (c_X12_takes hV) mt_X12_takes ml_X12_208 (hp_c39 _) rfl rfl (Nat.le_of_ble_eq_true rfl) rfl (Nat.le_of_ble_eq_true rfl) rfl rfl (Nat.le_of_ble_eq_true rfl) (Nat.le_of_ble_eq_true rfl) ?_
  refine sx_isub (p1 := 11) dX12_latestNow_10 rfl ?_
  refine sx_sipush (p1 := 14) dX12_latestNow_11 rfl (by decide) ?_
  refine sx_callSr (p1 := 17) (As := [_, _]) (k1 := 0) (n1 := 0) dX12_latestNow_14 rfl rfl (c_X12_lesser (by omega) (by omega)) mt_X12_lesser ml_X12_163 (Nat.le_of_ble_eq_true rfl) rfl (Nat.le_of_ble_eq_true rfl) rfl rfl (Nat.le_of_ble_eq_true rfl) (Nat.le_of_ble_eq_true rfl) ?_
  refine sx_istore_n (lo1 := [some _, some _]) (p1 := 18) dX12_latestNow_17 rfl (by decide) rfl ?_
  refine sx_iload_n (p1 := 19) dX12_latestNow_18 rfl rfl ?_
  refine sx_if_ge (p1 := 22) (tg := 26) dX12_latestNow_19 rfl rfl (by omega) (fun q19 => ?_) (fun q19 => ?_)
  · refine sx_iload_n (p1 := 27) dX12_latestNow_26 rfl rfl ?_
    exact sx_iret dX12_latestNow_27 rfl (sx_ri (by show _ = if S.2 51 4 - mTakes (mV S) < 0 then -1 else min 999 (S.2 51 4 - mTakes (mV S)); (repeat' split) <;> omega) (by rfl))
  · refine sx_iconst (p1 := 23) dX12_latestNow_22 rfl ?_
    refine sx_goto (p1 := 27) (tg := 27) dX12_latestNow_23 rfl rfl ?_
    exact sx_iret dX12_latestNow_27 rfl (sx_ri (by show _ = if S.2 51 4 - mTakes (mV S) < 0 then -1 else min 999 (S.2 51 4 - mTakes (mV S)); (repeat' split) <;> omega) (by rfl))
set_option maxRecDepth 20000 in
theorem c_X12_comesInto {X : sx_X} {S : St} {i j k : Int} (hV : okV (mV S)) (hi : 0 ≤ i ∧ i ≤ 6) (hj : 0 ≤ j ∧ j ≤ 16) (hk : -2147483648 ≤ k ∧ k ≤ 2147483647) : Ct X yX12_comesInto cX12_comesInto 4 (some .boolean) 1 0 0 [.ref 39, vI i, vI j, vI k] (hp S) (sx_is (some (vI (if k = S.2 51 3 + i * S.1 34 + j * (1 + S.2 51 1) then 1 else 0))) (hp (S))) := by
  have b0 : 0 ≤ S.1 32 ∧ S.1 32 ≤ 16 := hV.1
  have c0 : 0 ≤ (mV S).1 0 ∧ (mV S).1 0 ≤ 16 := hV.1
  have b1 : 0 ≤ S.1 33 ∧ S.1 33 ≤ 6 := hV.2.1
  have c1 : 0 ≤ (mV S).1 1 ∧ (mV S).1 1 ≤ 6 := hV.2.1
  have b2 : 0 ≤ S.1 34 ∧ S.1 34 ≤ 99 := hV.2.2.1
  have c2 : 0 ≤ (mV S).1 2 ∧ (mV S).1 2 ≤ 99 := hV.2.2.1
  have b3 : 0 ≤ S.2 51 1 ∧ S.2 51 1 ≤ 1 := hV.2.2.2.1
  have c3 : 0 ≤ (mV S).1 3 ∧ (mV S).1 3 ≤ 1 := hV.2.2.2.1
  have b4 : 0 ≤ S.2 51 2 ∧ S.2 51 2 ≤ 16 := hV.2.2.2.2.1
  have c4 : 0 ≤ (mV S).1 4 ∧ (mV S).1 4 ≤ 16 := hV.2.2.2.2.1
  have b5 : 0 ≤ S.2 51 3 ∧ S.2 51 3 ≤ 999 := hV.2.2.2.2.2.1
  have c5 : 0 ≤ (mV S).1 5 ∧ (mV S).1 5 ≤ 999 := hV.2.2.2.2.2.1
  have b6 : 0 ≤ S.2 51 4 ∧ S.2 51 4 ≤ 1999 := hV.2.2.2.2.2.2.1
  have c6 : 0 ≤ (mV S).1 6 ∧ (mV S).1 6 ≤ 1999 := hV.2.2.2.2.2.2.1
  have b7 : 0 ≤ S.2 51 5 ∧ S.2 51 5 ≤ 16 := hV.2.2.2.2.2.2.2.1
  have c7 : 0 ≤ (mV S).1 7 ∧ (mV S).1 7 ≤ 16 := hV.2.2.2.2.2.2.2.1
  have bK : ∀ q, 0 ≤ rK S q ∧ rK S q ≤ 3 := hV.2.2.2.2.2.2.2.2.1
  have bL : ∀ q, 0 ≤ rL S q ∧ rL S q ≤ 9 := hV.2.2.2.2.2.2.2.2.2.1
  have bW : ∀ q, 0 ≤ rW S q ∧ rW S q ≤ 9 := hV.2.2.2.2.2.2.2.2.2.2.1
  have bS : ∀ q, 0 ≤ rS S q ∧ rS S q ≤ 9 := hV.2.2.2.2.2.2.2.2.2.2.2.1
  have bH : ∀ q, 0 ≤ rH S q ∧ rH S q ≤ 1 := hV.2.2.2.2.2.2.2.2.2.2.2.2
  have hm := mul_b hi b2
  have hm2 := mul_b hj (show 0 ≤ 1 + S.2 51 1 ∧ 1 + S.2 51 1 ≤ 2 by omega)
  refine Ct.of false [some (.ref 39), some (vI i), some (vI j), some (vI k)] (plainFor_of_name (by decide)) (fun h => by cases h) (Nat.le_of_ble_eq_true rfl) (fun _ => rfl) sx_isl ?_
  refine sx_iload_n (p1 := 1) dX12_comesInto_0 rfl rfl ?_
  refine sx_aload_n (p1 := 2) dX12_comesInto_1 rfl rfl ?_
  refine sx_iload_n (p1 := 3) dX12_comesInto_2 rfl rfl ?_
  refine sx_callVr (p1 := 6) (As := [_]) (k1 := 0) (n1 := 0) dX12_comesInto_3 rfl rfl (c_X12_startOf) mt_X12_startOf ml_X12_149 (hp_c39 _) rfl rfl (Nat.le_of_ble_eq_true rfl) rfl (Nat.le_of_ble_eq_true rfl) rfl rfl (Nat.le_of_ble_eq_true rfl) (Nat.le_of_ble_eq_true rfl) ?_
  refine sx_iload_n (p1 := 7) dX12_comesInto_6 rfl rfl ?_
  refine sx_aload_n (p1 := 8) dX12_comesInto_7 rfl rfl ?_
  refine sx_callVr (p1 := 11) (As := []) (k1 := 0) (n1 := 0) dX12_comesInto_8 rfl rfl (c_X12_pace) mt_X12_pace ml_X12_152 (hp_c39 _) rfl rfl (Nat.le_of_ble_eq_true rfl) rfl (Nat.le_of_ble_eq_true rfl) rfl rfl (Nat.le_of_ble_eq_true rfl) (Nat.le_of_ble_eq_true rfl) ?_
  refine sx_imul (p1 := 12) dX12_comesInto_11 rfl ?_
  refine sx_iadd (p1 := 13) dX12_comesInto_12 rfl ?_
  refine sx_icmp_ne (p1 := 16) (tg := 20) dX12_comesInto_13 rfl rfl (by omega) (by omega) (fun q13 => ?_) (fun q13 => ?_)
  · refine sx_iconst (p1 := 21) dX12_comesInto_20 rfl ?_
    exact sx_zret dX12_comesInto_21 rfl (by omega) (sx_ri (by simp; omega) (by rfl))
  · refine sx_iconst (p1 := 17) dX12_comesInto_16 rfl ?_
    refine sx_goto (p1 := 21) (tg := 21) dX12_comesInto_17 rfl rfl ?_
    exact sx_zret dX12_comesInto_21 rfl (by omega) (sx_ri (by simp; omega) (by rfl))
