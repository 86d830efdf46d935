theorem mTo_hAt {V : Vw} {ro : Nat → Int} {t : Nat} {hel g : Int} (ht : (t : Int) ≤ V.1 1) (hr : ∀ a, a < t → ro a = (a : Int)) : hAt V g ro t hel = mTo V t hel g := by
  unfold hAt mTo
  rw [Int.toNat_natCast]
  refine congrArg (fun x => mSun V t g hel + x) (sumN_congr t (fun a ha => ?_))
  unfold feR mBy
  rw [hr a ha, mApart_d (i := (a : Int))]
  rcases mApart_o V 0 ((t : Int) - (a : Int)) with z | z
  · rw [if_pos ⟨by omega, z⟩, if_neg (by omega)]
  · rw [if_neg (by omega), if_pos z]
theorem hAt_g (S : St) (x g : Int) (ro : Nat → Int) (f : Nat) (hel : Int) : hAt (mV (si S 34 x)) g ro f hel = hAt (mV S) g ro f hel := rfl
theorem okV_g {S : St} {g : Int} (h : okV (mV S)) (hg : 0 ≤ g ∧ g ≤ 99) : okV (mV (si S 34 g)) := ⟨h.1, h.2.1, hg, h.2.2.2⟩
theorem all_gap {S : St} {b : Nat} (hQ : okQ S b) (g : Int) : rAll (si S 34 g) b = mAll (mV S) g := by
  have h1 : 0 ≤ S.1 33 ∧ S.1 33 ≤ 6 := hQ.1.2.1
  show sumN (S.1 33).toNat (rAllT (si S 34 g) b) = sumN (S.1 33).toNat _
  refine sumN_congr _ (fun j hj => ?_)
  show hAt (mV (si S 34 g)) g (S.2 52) j (rHel S b j) = mTo (mV S) j ((mV S).2 4 j) g
  rw [hAt_g, rHel_q hQ (by omega), mTo_hAt (by show (j : Int) ≤ S.1 33; omega) (fun a ha => hQ.2.1 a (by omega))]
theorem all_now {S : St} {b : Nat} (hQ : okQ S b) : rAll S b = mAll (mV S) (S.1 34) := by
  have h := all_gap hQ (S.1 34)
  rw [show si S 34 (S.1 34) = S from by
    refine Prod.ext ?_ rfl
    funext k
    simp only [si, sx_u]
    split
    · subst_vars
      rfl
    · rfl] at h
  exact h
theorem one_now {S : St} {b : Nat} (hQ : okQ S b) {j : Nat} (hj : (j : Int) < S.1 33) : hAt (mV S) (S.1 34) (S.2 52) j (rHel S b j) = mTo (mV S) j ((mV S).2 4 j) (S.1 34) := by
  have h1 : 0 ≤ S.1 33 ∧ S.1 33 ≤ 6 := hQ.1.2.1
  rw [rHel_q hQ hj, mTo_hAt (by show (j : Int) ≤ S.1 33; omega) (fun a ha => hQ.2.1 a (by omega))]
theorem all_helm {S : St} {b : Nat} (hQ : okQ S b) (c : Nat) (T : St) (hT : mV T = mV S) (h34 : T.1 34 = S.1 34) (h52 : T.2 52 = S.2 52) : rAll T c = mHelm (mV S) (S.1 34) c := by
  have h1 : 0 ≤ S.1 33 ∧ S.1 33 ≤ 6 := hQ.1.2.1
  have h33 : T.1 33 = S.1 33 := congrArg (fun V : Vw => V.1 1) hT
  unfold rAll
  rw [h33]
  show sumN (S.1 33).toNat (rAllT T c) = sumN (S.1 33).toNat _
  refine sumN_congr _ (fun j hj => ?_)
  unfold rAllT rHel mHelmT
  rw [hT, h34, h52, hQ.2.1 j (by omega), Int.toNat_natCast]
  exact mTo_hAt (by show (j : Int) ≤ S.1 33; omega) (fun a ha => hQ.2.1 a (by omega))
theorem plF_to {T S : St} {b : Nat} (hQ : okQ S b) (h1 : ∀ k, k ≠ 34 → k ≠ 35 → T.1 k = S.1 k) (h2 : ∀ k, k ≠ 52 → T.2 k = S.2 k) (h3 : ∀ j, 6 ≤ j → T.2 52 j = S.2 52 j) : plF T = S := by
  refine Prod.ext ?_ ?_
  · funext k
    show sx_u (sx_u T.1 34 (T.2 51 0)) 35 (hbF (T.2 50) (T.1 33).toNat : Nat) k = S.1 k
    rw [h2 51 (by decide), h2 50 (by decide), h1 33 (by decide) (by decide), ← hQ.2.2.1, ← hQ.2.2.2.1, ← hQ.2.2.2.2.1]
    simp only [sx_u]
    by_cases c1 : k = 35
    · rw [if_pos c1, c1]
    · rw [if_neg c1]
      by_cases c2 : k = 34
      · rw [if_pos c2, c2]
      · rw [if_neg c2]
        exact h1 k c2 c1
  · funext k
    show sx_u T.2 52 (wrF (T.2 52) (fun i => (i : Int)) 6) k = S.2 k
    simp only [sx_u]
    by_cases c1 : k = 52
    · rw [if_pos c1, c1]
      funext j
      unfold wrF
      by_cases c2 : j < 6
      · rw [if_pos c2]
        exact (hQ.2.1 j c2).symm
      · rw [if_neg c2]
        exact h3 j (by omega)
    · rw [if_neg c1]
      exact h2 k c1
theorem si_back (S : St) (k : Nat) (x y : Int) (h : S.1 k = y) : si (si S k x) k y = S := by
  refine Prod.ext ?_ rfl
  funext j
  simp only [si, sx_u]
  by_cases c : j = k
  · rw [if_pos c, c, h]
  · rw [if_neg c, if_neg c]
/-- the helmets, as the reference looks for them: best, harm, last looked at -/
def fh (V : Vw) (gap k h0 b0 : Int) : Nat → Int × Int × Int
  | 0 => (-1, h0, b0)
  | c + 1 => if (pop6 c : Int) = k then (if (fh V gap k h0 b0 c).1 = -1 ∨ mHelm V gap c < (fh V gap k h0 b0 c).2.1 then ((c : Int), mHelm V gap c, (c : Int)) else ((fh V gap k h0 b0 c).1, (fh V gap k h0 b0 c).2.1, (c : Int))) else fh V gap k h0 b0 c
theorem fh_m {V : Vw} (hV : okV V) (gap k h0 b0 : Int) : ∀ c : Nat, ((fh V gap k h0 b0 c).1 = -1 ∧ (mHb V gap k c).2 = 9223372036854775807) ∨ (0 ≤ (fh V gap k h0 b0 c).1 ∧ (fh V gap k h0 b0 c).1 = (mHb V gap k c).1 ∧ (fh V gap k h0 b0 c).2.1 = (mHb V gap k c).2 ∧ (mHb V gap k c).2 = mHelm V gap (mHb V gap k c).1.toNat)
  | 0 => Or.inl ⟨rfl, rfl⟩
  | c + 1 => by
    have ih := fh_m hV gap k h0 b0 c
    have hb := mHelm_b hV gap c
    rw [fh, mHb]
    by_cases e : (pop6 c : Int) = k
    · rw [if_pos e]
      rcases ih with ⟨i1, i2⟩ | ⟨i0, i1, i2, i3⟩
      · rw [if_pos (Or.inl i1), if_pos ⟨e, by omega⟩]
        exact Or.inr ⟨by show 0 ≤ (c : Int); omega, rfl, rfl, by show mHelm V gap c = mHelm V gap ((c : Int)).toNat; rw [Int.toNat_natCast]⟩
      · by_cases l : mHelm V gap c < (mHb V gap k c).2
        · rw [if_pos (Or.inr (by omega)), if_pos ⟨e, l⟩]
          exact Or.inr ⟨by show 0 ≤ (c : Int); omega, rfl, rfl, by show mHelm V gap c = mHelm V gap ((c : Int)).toNat; rw [Int.toNat_natCast]⟩
        · rw [if_neg (by omega), if_neg (fun q => l q.2)]
          exact Or.inr ⟨i0, i1, i2, i3⟩
    · rw [if_neg e, if_neg (fun q => e q.1)]
      exact ih
theorem mHb_some {V : Vw} (hV : okV V) (gap k : Int) {c' : Nat} (hp : (pop6 c' : Int) = k) : ∀ c : Nat, c' < c → (mHb V gap k c).2 ≤ 1200000
  | 0, h => by omega
  | c + 1, h => by
    have hb := mHelm_b hV gap c
    rw [mHb]
    by_cases e : c' = c
    · subst e
      split
      · show mHelm V gap c' ≤ _
        omega
      · rename_i q
        have : ¬ mHelm V gap c' < (mHb V gap k c').2 := fun z => q ⟨hp, z⟩
        omega
    · have ih := mHb_some hV gap k hp c (by omega)
      split
      · show mHelm V gap c ≤ _
        omega
      · exact ih
theorem pop_ex : ∀ W : Nat, W < 7 → ∀ k : Nat, k ≤ W → pop6 (2 ^ k - 1) = k ∧ 2 ^ k - 1 < 2 ^ W := by decide +kernel
/-- the reference finds the same helmets -/
theorem fh_end {V : Vw} (hV : okV V) {gap k : Int} (h0 b0 : Int) (hk : 0 ≤ k ∧ k ≤ V.1 1) : (fh V gap k h0 b0 (2 ^ (V.1 1).toNat)).1 = (mHb V gap k (2 ^ (V.1 1).toNat)).1 ∧ (fh V gap k h0 b0 (2 ^ (V.1 1).toNat)).2.1 = mHelm V gap (mHb V gap k (2 ^ (V.1 1).toNat)).1.toNat := by
  have h1 := hV.2.1
  have h2 := pop_ex (V.1 1).toNat (by omega) k.toNat (by omega)
  have h3 := mHb_some hV gap k (c' := 2 ^ k.toNat - 1) (by omega) (2 ^ (V.1 1).toNat) h2.2
  rcases fh_m hV gap k h0 b0 (2 ^ (V.1 1).toNat) with ⟨i1, i2⟩ | ⟨i0, i1, i2, i3⟩
  · omega
  · exact ⟨i1, i2.trans i3⟩
def hS3 (S : St) (x : Int × Int × Int) : St := si (si S 35 x.2.2) 36 x.2.1
theorem hS3_a (S : St) (x : Int × Int × Int) (y z u : Int) : si (si (hS3 S x) 35 y) 36 z = hS3 S (u, z, y) := by
  refine Prod.ext ?_ rfl
  funext b
  simp only [hS3, si, sx_u]
  by_cases h1 : b = 36
  · simp [h1]
  · by_cases h2 : b = 35 <;> simp [h1, h2]
theorem hS3_0 (S : St) (u : Int) : hS3 S (u, S.1 36, S.1 35) = S := by
  refine Prod.ext ?_ rfl
  funext b
  simp only [hS3, si, sx_u]
  by_cases h1 : b = 36
  · simp [h1]
  · by_cases h2 : b = 35 <;> simp [h1, h2]
theorem fh_r {V : Vw} (hV : okV V) (gap k h0 b0 : Int) (h : -2147483648 ≤ h0 ∧ h0 ≤ 2147483647) : ∀ c : Nat, (-1 ≤ (fh V gap k h0 b0 c).1 ∧ (fh V gap k h0 b0 c).1 ≤ c) ∧ -2147483648 ≤ (fh V gap k h0 b0 c).2.1 ∧ (fh V gap k h0 b0 c).2.1 ≤ 2147483647
  | 0 => by
    simp only [fh]
    omega
  | c + 1 => by
    have ih := fh_r hV gap k h0 b0 h c
    have hb := mHelm_b hV gap c
    rw [fh]
    (repeat' split) <;> (try simp only) <;> omega
set_option maxRecDepth 20000 in
theorem c_X12_byGap {X : sx_X} {S : St} {g : Int} {b : Nat} (hQ : okQ S b) (hg : 0 ≤ g ∧ g ≤ 99) : Ct X yX12_byGap cX12_byGap 3 (some .int) 6 0 0 [.ref 39, vI g] (hp S) (sx_is (some (vI (mAll (mV S) g))) (hp (S))) := by
  have hV := hQ.1
  have hW := okQ_W hQ
  have e := all_gap hQ g
  refine Ct.of false [some (.ref 39), some (vI g), none] (plainFor_of_name (by decide)) (fun h => by cases h) (Nat.le_of_ble_eq_true rfl) (fun _ => rfl) sx_isl ?_
  refine sx_aload_n (p1 := 1) dX12_byGap_0 rfl rfl ?_
  refine sx_iload_n (p1 := 2) dX12_byGap_1 rfl rfl ?_
  refine sx_put (p1 := 5) dX12_byGap_2 rfl fl_X12_137 (hp_c39 _) (Nat.le_of_ble_eq_true rfl) (fun _ => rfl) (fun _ => rfl) (hp_s34 _ _) ?_
  refine sx_aload_n (p1 := 6) dX12_byGap_5 rfl rfl ?_
  refine sx_callVr (p1 := 9) (As := []) (k1 := 0) (n1 := 0) dX12_byGap_6 rfl rfl (c_X12_toAll (S := si S 34 g) (b := b) (okV_g hV hg) hW) mt_X12_toAll ml_X12_205 (hp_c39 _) rfl rfl (Nat.le_of_ble_eq_true rfl) rfl (Nat.le_of_ble_eq_true rfl) rfl rfl (Nat.le_of_ble_eq_true rfl) (Nat.le_of_ble_eq_true rfl) ?_
  rw [e]
  refine sx_istore_n (lo1 := [some _, some _, some _]) (p1 := 10) dX12_byGap_9 rfl (by decide) rfl ?_
  refine sx_aload_n (p1 := 11) dX12_byGap_10 rfl rfl ?_
  refine sx_aload_n (p1 := 12) dX12_byGap_11 rfl rfl ?_
  refine sx_get (p1 := 15) dX12_byGap_12 rfl fl_X12_44 (hp_c39 _) rfl ?_
  refine sx_iconst (p1 := 16) dX12_byGap_15 rfl ?_
  refine sx_iald (g := S.2 51) (p1 := 17) dX12_byGap_16 rfl (hp_c51 _) (by omega) (by decide) ?_
  rw [show Int.toNat 0 = 0 from rfl]
  refine sx_put (p1 := 20) dX12_byGap_17 rfl fl_X12_137 (hp_c39 _) (Nat.le_of_ble_eq_true rfl) (fun _ => rfl) (fun _ => rfl) (hp_s34 _ _) ?_
  refine sx_iload_n (p1 := 21) dX12_byGap_20 rfl rfl ?_
  exact sx_iret dX12_byGap_21 rfl (sx_ri (by rfl) (by exact si_back S 34 g _ hQ.2.2.1))
set_option maxRecDepth 20000 in
theorem c_X12_gapOf {X : sx_X} {S : St} {b : Nat} {mo : Int} (hQ : okQ S b) (hmo : 0 ≤ mo ∧ mo ≤ 99) : Ct X yX12_gapOf cX12_gapOf 6 (some .int) 7 0 0 [.ref 39, vI mo] (hp S) (sx_is (some (vI (mGb (mV S) mo.toNat).1)) (hp S)) := by
  have hV := hQ.1
  have key : ∀ (n i : Nat), i + n = mo.toNat → Rn X RX12 false cX12_gapOf 6 7 0 0 (some .int) 11 [some (.ref 39), some (vI mo), some (vI (mGb (mV S) i).1), some (vI (mGb (mV S) i).2), some (vI ((i : Int) + 1)), none] [] (hp S) 0 0 (sx_is (some (vI (mGb (mV S) mo.toNat).1)) (hp S)) := by
    intro n
    induction n with
    | zero =>
      intro i hi 
      rw [Nat.add_zero] at hi
      subst hi
      refine sx_iload (p1 := 13) dX12_gapOf_11 rfl rfl ?_
      refine sx_iload_n (p1 := 14) dX12_gapOf_13 rfl rfl ?_
      refine sx_icmp_gt (p1 := 17) (tg := 51) dX12_gapOf_14 rfl rfl (by omega) (by omega) (fun q14 => ?_) (fun q14 => absurd q14 (by omega))
      refine sx_iload_n (p1 := 52) dX12_gapOf_51 rfl rfl ?_
      exact sx_iret dX12_gapOf_52 rfl (sx_ri (by first | rfl | omega) (by rfl))
    | succ n ih =>
      intro i hi 
      have m1 := mGb_b hV i
      have m2 := mAll_b hV ((i : Int) + 1)
      refine sx_iload (p1 := 13) dX12_gapOf_11 rfl rfl ?_
      refine sx_iload_n (p1 := 14) dX12_gapOf_13 rfl rfl ?_
      refine sx_icmp_gt (p1 := 17) (tg := 51) dX12_gapOf_14 rfl rfl (by omega) (by omega) (fun q14 => absurd q14 (by omega)) (fun q14 => ?_)
      refine sx_aload_n (p1 := 18) dX12_gapOf_17 rfl rfl ?_
      refine sx_iload (p1 := 20) dX12_gapOf_18 rfl rfl ?_
      refine sx_callVr (p1 := 23) (As := [_]) (k1 := 0) (n1 := 0) dX12_gapOf_20 rfl rfl (c_X12_byGap hQ (by omega)) mt_X12_byGap ml_X12_219 (hp_c39 _) rfl rfl (Nat.le_of_ble_eq_true rfl) rfl (Nat.le_of_ble_eq_true rfl) rfl rfl (Nat.le_of_ble_eq_true rfl) (Nat.le_of_ble_eq_true rfl) ?_
      refine sx_istore (lo1 := [some _, some _, some _, some _, some _, some _]) (p1 := 25) dX12_gapOf_23 rfl (by decide) rfl ?_
      refine sx_iload (p1 := 27) dX12_gapOf_25 rfl rfl ?_
      refine sx_iload_n (p1 := 28) dX12_gapOf_27 rfl rfl ?_
      refine sx_icmp_ge (p1 := 31) (tg := 36) dX12_gapOf_28 rfl rfl (by omega) (by omega) (fun q28 => ?_) (fun q28 => ?_)
      · have zq4 : (mGb (mV S) (i + 1)) = (mGb (mV S) i) := if_neg (by omega)
        have zq5 : min (mAll (mV S) ((i : Int) + 1)) (mGb (mV S) i).2 = (mGb (mV S) (i + 1)).2 := by rw [zq4]; omega
        refine sx_iload_n (p1 := 37) dX12_gapOf_36 rfl rfl ?_
        refine sx_istore_n (lo1 := [some _, some _, some _, some _, some _, some _]) (p1 := 38) dX12_gapOf_37 rfl (by decide) rfl ?_
        refine sx_iload (p1 := 40) dX12_gapOf_38 rfl rfl ?_
        refine sx_iload_n (p1 := 41) dX12_gapOf_40 rfl rfl ?_
        refine sx_callSr (p1 := 44) (As := [_, _]) (k1 := 0) (n1 := 0) dX12_gapOf_41 rfl rfl (c_X12_lesser (by omega) (by omega)) mt_X12_lesser ml_X12_163 (Nat.le_of_ble_eq_true rfl) rfl (Nat.le_of_ble_eq_true rfl) rfl rfl (Nat.le_of_ble_eq_true rfl) (Nat.le_of_ble_eq_true rfl) ?_
        rw [zq5]
        refine sx_istore_n (lo1 := [some _, some _, some _, some _, some _, some _]) (p1 := 45) dX12_gapOf_44 rfl (by decide) rfl ?_
        refine sx_iinc (lo1 := [some _, some _, some _, some _, some _, some _]) (p1 := 48) dX12_gapOf_45 rfl (by decide) rfl rfl ?_
        refine sx_goto (p1 := 11) (tg := 11) dX12_gapOf_48 rfl rfl ?_
        refine sx_drop [true, true, true, true, true, false] (lo1 := [some _, some _, some _, some _, some _, none]) rfl ?_
        have h9 := ih (i + 1) (by omega)
        rw [show (mGb (mV S) (i + 1)).1 = _ from congrArg Prod.fst zq4] at h9
        exact h9
      · have zq4 : (mGb (mV S) (i + 1)) = ((i : Int) + 1, mAll (mV S) ((i : Int) + 1)) := if_pos (by omega)
        have zq5 : min (mAll (mV S) ((i : Int) + 1)) (mGb (mV S) i).2 = (mGb (mV S) (i + 1)).2 := by rw [zq4]; show _ = mAll (mV S) ((i : Int) + 1); omega
        refine sx_iload (p1 := 33) dX12_gapOf_31 rfl rfl ?_
        refine sx_goto (p1 := 37) (tg := 37) dX12_gapOf_33 rfl rfl ?_
        refine sx_istore_n (lo1 := [some _, some _, some _, some _, some _, some _]) (p1 := 38) dX12_gapOf_37 rfl (by decide) rfl ?_
        refine sx_iload (p1 := 40) dX12_gapOf_38 rfl rfl ?_
        refine sx_iload_n (p1 := 41) dX12_gapOf_40 rfl rfl ?_
        refine sx_callSr (p1 := 44) (As := [_, _]) (k1 := 0) (n1 := 0) dX12_gapOf_41 rfl rfl (c_X12_lesser (by omega) (by omega)) mt_X12_lesser ml_X12_163 (Nat.le_of_ble_eq_true rfl) rfl (Nat.le_of_ble_eq_true rfl) rfl rfl (Nat.le_of_ble_eq_true rfl) (Nat.le_of_ble_eq_true rfl) ?_
        rw [zq5]
        refine sx_istore_n (lo1 := [some _, some _, some _, some _, some _, some _]) (p1 := 45) dX12_gapOf_44 rfl (by decide) rfl ?_
        refine sx_iinc (lo1 := [some _, some _, some _, some _, some _, some _]) (p1 := 48) dX12_gapOf_45 rfl (by decide) rfl rfl ?_
        refine sx_goto (p1 := 11) (tg := 11) dX12_gapOf_48 rfl rfl ?_
        refine sx_drop [true, true, true, true, true, false] (lo1 := [some _, some _, some _, some _, some _, none]) rfl ?_
        have h9 := ih (i + 1) (by omega)
        rw [show (mGb (mV S) (i + 1)).1 = _ from congrArg Prod.fst zq4] at h9
        exact h9
  refine Ct.of false [some (.ref 39), some (vI mo), none, none, none, none] (plainFor_of_name (by decide)) (fun h => by cases h) (Nat.le_of_ble_eq_true rfl) (fun _ => rfl) sx_isl ?_
  refine sx_iconst (p1 := 1) dX12_gapOf_0 rfl ?_
  refine sx_istore_n (lo1 := [some _, some _, some _, none, none, none]) (p1 := 2) dX12_gapOf_1 rfl (by decide) rfl ?_
  refine sx_aload_n (p1 := 3) dX12_gapOf_2 rfl rfl ?_
  refine sx_iconst (p1 := 4) dX12_gapOf_3 rfl ?_
  refine sx_callVr (p1 := 7) (As := [_]) (k1 := 0) (n1 := 0) dX12_gapOf_4 rfl rfl (c_X12_byGap hQ (by omega)) mt_X12_byGap ml_X12_219 (hp_c39 _) rfl rfl (Nat.le_of_ble_eq_true rfl) rfl (Nat.le_of_ble_eq_true rfl) rfl rfl (Nat.le_of_ble_eq_true rfl) (Nat.le_of_ble_eq_true rfl) ?_
  refine sx_istore_n (lo1 := [some _, some _, some _, some _, none, none]) (p1 := 8) dX12_gapOf_7 rfl (by decide) rfl ?_
  refine sx_iconst (p1 := 9) dX12_gapOf_8 rfl ?_
  refine sx_istore (lo1 := [some _, some _, some _, some _, some _, none]) (p1 := 11) dX12_gapOf_9 rfl (by decide) rfl ?_
  exact key _ 0 (Nat.zero_add _)
set_option maxRecDepth 20000 in
theorem c_X12_findHelmets {X : sx_X} {S : St} {b : Nat} {k : Int} (hQ : okQ S b) (h36 : -2147483648 ≤ S.1 36 ∧ S.1 36 ≤ 2147483647) (hk : -2147483648 ≤ k ∧ k ≤ 2147483647) : Ct X yX12_findHelmets cX12_findHelmets 6 (some .int) 6 0 0 [.ref 39, vI k] (hp S) (sx_is (some (vI (fh (mV S) (S.1 34) k (S.1 36) (S.1 35) (2 ^ (S.1 33).toNat)).1)) (hp (si S 36 (fh (mV S) (S.1 34) k (S.1 36) (S.1 35) (2 ^ (S.1 33).toNat)).2.1))) := by
  have hV := hQ.1
  have b1 : 0 ≤ S.1 33 ∧ S.1 33 ≤ 6 := hV.2.1
  have p1 := pow_b b1
  have p2 := shl_I b1
  have key : ∀ (n i : Nat), i + n = 2 ^ (S.1 33).toNat → Rn X RX12 false cX12_findHelmets 6 6 0 0 (some .int) 4 [some (.ref 39), some (vI k), some (vI (fh (mV S) (S.1 34) k (S.1 36) (S.1 35) i).1), some (vI (i : Int)), none, none] [] (hp (hS3 S (fh (mV S) (S.1 34) k (S.1 36) (S.1 35) i))) 0 0 (sx_is (some (vI (fh (mV S) (S.1 34) k (S.1 36) (S.1 35) (2 ^ (S.1 33).toNat)).1)) (hp (si S 36 (fh (mV S) (S.1 34) k (S.1 36) (S.1 35) (2 ^ (S.1 33).toNat)).2.1))) := by
    intro n
    induction n with
    | zero =>
      intro i hi 
      rw [Nat.add_zero] at hi
      subst hi
      refine sx_iload_n (p1 := 5) dX12_findHelmets_4 rfl rfl ?_
      refine sx_iconst (p1 := 6) dX12_findHelmets_5 rfl ?_
      refine sx_aload_n (p1 := 7) dX12_findHelmets_6 rfl rfl ?_
      refine sx_get (v := vI (S.1 33)) (p1 := 10) dX12_findHelmets_7 rfl fl_X12_106 (hp_c39 _) rfl ?_
      refine sx_ishl (p1 := 11) dX12_findHelmets_10 rfl ?_
      rw [show sx_shl 1 (S.1 33) = _ from p2]
      refine sx_icmp_ge (p1 := 14) (tg := 89) dX12_findHelmets_11 rfl rfl (by omega) (by omega) (fun q11 => ?_) (fun q11 => absurd q11 (by omega))
      refine sx_aload_n (p1 := 90) dX12_findHelmets_89 rfl rfl ?_
      refine sx_callVn (p1 := 93) (As := []) (k1 := 0) (n1 := 0) dX12_findHelmets_90 rfl rfl (c_X12_plain (S := hS3 S (fh (mV S) (S.1 34) k (S.1 36) (S.1 35) (2 ^ (S.1 33).toNat))) b1 hQ.2.2.2.2.2) mt_X12_plain ml_X12_146 (hp_c39 _) rfl rfl (Nat.le_of_ble_eq_true rfl) rfl (Nat.le_of_ble_eq_true rfl) rfl rfl (Nat.le_of_ble_eq_true rfl) (Nat.le_of_ble_eq_true rfl) ?_
      refine sx_iload_n (p1 := 94) dX12_findHelmets_93 rfl rfl ?_
      exact sx_iret dX12_findHelmets_94 rfl (sx_ri (by rfl) (by exact plF_to (b := b) (S := si S 36 (fh (mV S) (S.1 34) k (S.1 36) (S.1 35) (2 ^ (S.1 33).toNat)).2.1) hQ (fun k _ h => by simp [hS3, si, sx_u, h]) (fun _ _ => rfl) (fun _ _ => rfl)))
    | succ n ih =>
      intro i hi 
      have hb : i < 64 := by omega
      have e1 := fh_r hV (S.1 34) k (S.1 36) (S.1 35) h36 i
      have e2 := mHelm_b hV (S.1 34) i
      have e3 : pop6 i ≤ 6 := by unfold pop6; omega
      have e5 := all_helm hQ i (si (hS3 S (fh (mV S) (S.1 34) k (S.1 36) (S.1 35) i)) 35 (i : Int)) rfl rfl rfl
      refine sx_iload_n (p1 := 5) dX12_findHelmets_4 rfl rfl ?_
      refine sx_iconst (p1 := 6) dX12_findHelmets_5 rfl ?_
      refine sx_aload_n (p1 := 7) dX12_findHelmets_6 rfl rfl ?_
      refine sx_get (v := vI (S.1 33)) (p1 := 10) dX12_findHelmets_7 rfl fl_X12_106 (hp_c39 _) rfl ?_
      refine sx_ishl (p1 := 11) dX12_findHelmets_10 rfl ?_
      rw [show sx_shl 1 (S.1 33) = _ from p2]
      refine sx_icmp_ge (p1 := 14) (tg := 89) dX12_findHelmets_11 rfl rfl (by omega) (by omega) (fun q11 => absurd q11 (by omega)) (fun q11 => ?_)
      refine sx_iload_n (p1 := 15) dX12_findHelmets_14 rfl rfl ?_
      refine sx_callSr (p1 := 18) (As := [_]) (k1 := 0) (n1 := 0) dX12_findHelmets_15 rfl rfl (c_X12_ones hb) mt_X12_ones ml_X12_232 (Nat.le_of_ble_eq_true rfl) rfl (Nat.le_of_ble_eq_true rfl) rfl rfl (Nat.le_of_ble_eq_true rfl) (Nat.le_of_ble_eq_true rfl) ?_
      refine sx_iload_n (p1 := 19) dX12_findHelmets_18 rfl rfl ?_
      refine sx_icmp_ne (p1 := 22) (tg := 83) dX12_findHelmets_19 rfl rfl (by omega) (by omega) (fun q19 => ?_) (fun q19 => ?_)
      · have zq4 : (fh (mV S) (S.1 34) k (S.1 36) (S.1 35) (i + 1)) = (fh (mV S) (S.1 34) k (S.1 36) (S.1 35) i) := if_neg q19
        try rw [hS3_a S _ _ _ ((fh (mV S) (S.1 34) k (S.1 36) (S.1 35) (i + 1))).1]
        refine sx_iinc (lo1 := [some _, some _, some _, some _, none, none]) (p1 := 86) dX12_findHelmets_83 rfl (by decide) rfl rfl ?_
        refine sx_goto (p1 := 4) (tg := 4) dX12_findHelmets_86 rfl rfl ?_
        have h9 := ih (i + 1) (by omega)
        rw [zq4] at h9
        exact h9
      · refine sx_aload_n (p1 := 23) dX12_findHelmets_22 rfl rfl ?_
        refine sx_iload_n (p1 := 24) dX12_findHelmets_23 rfl rfl ?_
        refine sx_put (p1 := 27) dX12_findHelmets_24 rfl fl_X12_143 (hp_c39 _) (Nat.le_of_ble_eq_true rfl) (fun _ => rfl) (fun _ => rfl) (hp_s35 _ _) ?_
        refine sx_aload_n (p1 := 28) dX12_findHelmets_27 rfl rfl ?_
        refine sx_callVr (p1 := 31) (As := []) (k1 := 0) (n1 := 0) dX12_findHelmets_28 rfl rfl (c_X12_toAll (S := si (hS3 S (fh (mV S) (S.1 34) k (S.1 36) (S.1 35) i)) 35 (i : Int)) (b := i) hV ⟨(okQ_W hQ).1, rfl, hb⟩) mt_X12_toAll ml_X12_205 (hp_c39 _) rfl rfl (Nat.le_of_ble_eq_true rfl) rfl (Nat.le_of_ble_eq_true rfl) rfl rfl (Nat.le_of_ble_eq_true rfl) (Nat.le_of_ble_eq_true rfl) ?_
        rw [e5]
        refine sx_istore (lo1 := [some _, some _, some _, some _, some _, none]) (p1 := 33) dX12_findHelmets_31 rfl (by decide) rfl ?_
        refine sx_iload_n (p1 := 34) dX12_findHelmets_33 rfl rfl ?_
        refine sx_iconst (p1 := 35) dX12_findHelmets_34 rfl ?_
        refine sx_icmp_eq (p1 := 38) (tg := 47) dX12_findHelmets_35 rfl rfl (by omega) (by omega) (fun q35 => ?_) (fun q35 => ?_)
        · have zq4 : (fh (mV S) (S.1 34) k (S.1 36) (S.1 35) (i + 1)) = ((i : Int), mHelm (mV S) (S.1 34) i, (i : Int)) := (if_pos q19).trans (if_pos (Or.inl q35))
          refine sx_iconst (p1 := 48) dX12_findHelmets_47 rfl ?_
          refine sx_goto (p1 := 52) (tg := 52) dX12_findHelmets_48 rfl rfl ?_
          refine sx_istore (lo1 := [some _, some _, some _, some _, some _, some _]) (p1 := 54) dX12_findHelmets_52 rfl (by decide) rfl ?_
          refine sx_iload (p1 := 56) dX12_findHelmets_54 rfl rfl ?_
          refine sx_if_eq (p1 := 59) (tg := 63) dX12_findHelmets_56 rfl rfl (by omega) (fun q56 => absurd q56 (by omega)) (fun q56 => ?_)
          refine sx_iload_n (p1 := 60) dX12_findHelmets_59 rfl rfl ?_
          refine sx_goto (p1 := 64) (tg := 64) dX12_findHelmets_60 rfl rfl ?_
          refine sx_istore_n (lo1 := [some _, some _, some _, some _, some _, some _]) (p1 := 65) dX12_findHelmets_64 rfl (by decide) rfl ?_
          refine sx_aload_n (p1 := 66) dX12_findHelmets_65 rfl rfl ?_
          refine sx_iload (p1 := 68) dX12_findHelmets_66 rfl rfl ?_
          refine sx_if_eq (p1 := 71) (tg := 76) dX12_findHelmets_68 rfl rfl (by omega) (fun q68 => absurd q68 (by omega)) (fun q68 => ?_)
          refine sx_iload (p1 := 73) dX12_findHelmets_71 rfl rfl ?_
          refine sx_goto (p1 := 80) (tg := 80) dX12_findHelmets_73 rfl rfl ?_
          refine sx_put (p1 := 83) dX12_findHelmets_80 rfl fl_X12_235 (hp_c39 _) (Nat.le_of_ble_eq_true rfl) (fun _ => rfl) (fun _ => rfl) (hp_s36 _ _) ?_
          try rw [hS3_a S _ _ _ ((fh (mV S) (S.1 34) k (S.1 36) (S.1 35) (i + 1))).1]
          refine sx_iinc (lo1 := [some _, some _, some _, some _, some _, some _]) (p1 := 86) dX12_findHelmets_83 rfl (by decide) rfl rfl ?_
          refine sx_goto (p1 := 4) (tg := 4) dX12_findHelmets_86 rfl rfl ?_
          refine sx_drop [true, true, true, true, false, false] (lo1 := [some _, some _, some _, some _, none, none]) rfl ?_
          have h9 := ih (i + 1) (by omega)
          rw [zq4] at h9
          exact h9
        · refine sx_iload (p1 := 40) dX12_findHelmets_38 rfl rfl ?_
          refine sx_aload_n (p1 := 41) dX12_findHelmets_40 rfl rfl ?_
          refine sx_get (v := vI (fh (mV S) (S.1 34) k (S.1 36) (S.1 35) i).2.1) (p1 := 44) dX12_findHelmets_41 rfl fl_X12_235 (hp_c39 _) rfl ?_
          refine sx_icmp_ge (p1 := 47) (tg := 51) dX12_findHelmets_44 rfl rfl (by omega) (by omega) (fun q44 => ?_) (fun q44 => ?_)
          · have zq4 : (fh (mV S) (S.1 34) k (S.1 36) (S.1 35) (i + 1)) = ((fh (mV S) (S.1 34) k (S.1 36) (S.1 35) i).1, (fh (mV S) (S.1 34) k (S.1 36) (S.1 35) i).2.1, (i : Int)) := (if_pos q19).trans (if_neg (by omega))
            refine sx_iconst (p1 := 52) dX12_findHelmets_51 rfl ?_
            refine sx_istore (lo1 := [some _, some _, some _, some _, some _, some _]) (p1 := 54) dX12_findHelmets_52 rfl (by decide) rfl ?_
            refine sx_iload (p1 := 56) dX12_findHelmets_54 rfl rfl ?_
            refine sx_if_eq (p1 := 59) (tg := 63) dX12_findHelmets_56 rfl rfl (by omega) (fun q56 => ?_) (fun q56 => absurd q56 (by omega))
            refine sx_iload_n (p1 := 64) dX12_findHelmets_63 rfl rfl ?_
            refine sx_istore_n (lo1 := [some _, some _, some _, some _, some _, some _]) (p1 := 65) dX12_findHelmets_64 rfl (by decide) rfl ?_
            refine sx_aload_n (p1 := 66) dX12_findHelmets_65 rfl rfl ?_
            refine sx_iload (p1 := 68) dX12_findHelmets_66 rfl rfl ?_
            refine sx_if_eq (p1 := 71) (tg := 76) dX12_findHelmets_68 rfl rfl (by omega) (fun q68 => ?_) (fun q68 => absurd q68 (by omega))
            refine sx_aload_n (p1 := 77) dX12_findHelmets_76 rfl rfl ?_
            refine sx_get (v := vI (fh (mV S) (S.1 34) k (S.1 36) (S.1 35) i).2.1) (p1 := 80) dX12_findHelmets_77 rfl fl_X12_235 (hp_c39 _) rfl ?_
            refine sx_put (p1 := 83) dX12_findHelmets_80 rfl fl_X12_235 (hp_c39 _) (Nat.le_of_ble_eq_true rfl) (fun _ => rfl) (fun _ => rfl) (hp_s36 _ _) ?_
            try rw [hS3_a S _ _ _ ((fh (mV S) (S.1 34) k (S.1 36) (S.1 35) (i + 1))).1]
            refine sx_iinc (lo1 := [some _, some _, some _, some _, some _, some _]) (p1 := 86) dX12_findHelmets_83 rfl (by decide) rfl rfl ?_
            refine sx_goto (p1 := 4) (tg := 4) dX12_findHelmets_86 rfl rfl ?_
            refine sx_drop [true, true, true, true, false, false] (lo1 := [some _, some _, some _, some _, none, none]) rfl ?_
            have h9 := ih (i + 1) (by omega)
            rw [zq4] at h9
            exact h9
          · have zq4 : (fh (mV S) (S.1 34) k (S.1 36) (S.1 35) (i + 1)) = ((i : Int), mHelm (mV S) (S.1 34) i, (i : Int)) := (if_pos q19).trans (if_pos (Or.inr (by omega)))
            refine sx_iconst (p1 := 48) dX12_findHelmets_47 rfl ?_
            refine sx_goto (p1 := 52) (tg := 52) dX12_findHelmets_48 rfl rfl ?_
            refine sx_istore (lo1 := [some _, some _, some _, some _, some _, some _]) (p1 := 54) dX12_findHelmets_52 rfl (by decide) rfl ?_
            refine sx_iload (p1 := 56) dX12_findHelmets_54 rfl rfl ?_
            refine sx_if_eq (p1 := 59) (tg := 63) dX12_findHelmets_56 rfl rfl (by omega) (fun q56 => absurd q56 (by omega)) (fun q56 => ?_)
            refine sx_iload_n (p1 := 60) dX12_findHelmets_59 rfl rfl ?_
            refine sx_goto (p1 := 64) (tg := 64) dX12_findHelmets_60 rfl rfl ?_
            refine sx_istore_n (lo1 := [some _, some _, some _, some _, some _, some _]) (p1 := 65) dX12_findHelmets_64 rfl (by decide) rfl ?_
            refine sx_aload_n (p1 := 66) dX12_findHelmets_65 rfl rfl ?_
            refine sx_iload (p1 := 68) dX12_findHelmets_66 rfl rfl ?_
            refine sx_if_eq (p1 := 71) (tg := 76) dX12_findHelmets_68 rfl rfl (by omega) (fun q68 => absurd q68 (by omega)) (fun q68 => ?_)
            refine sx_iload (p1 := 73) dX12_findHelmets_71 rfl rfl ?_
            refine sx_goto (p1 := 80) (tg := 80) dX12_findHelmets_73 rfl rfl ?_
            refine sx_put (p1 := 83) dX12_findHelmets_80 rfl fl_X12_235 (hp_c39 _) (Nat.le_of_ble_eq_true rfl) (fun _ => rfl) (fun _ => rfl) (hp_s36 _ _) ?_
            try rw [hS3_a S _ _ _ ((fh (mV S) (S.1 34) k (S.1 36) (S.1 35) (i + 1))).1]
            refine sx_iinc (lo1 := [some _, some _, some _, some _, some _, some _]) (p1 := 86) dX12_findHelmets_83 rfl (by decide) rfl rfl ?_
            refine sx_goto (p1 := 4) (tg := 4) dX12_findHelmets_86 rfl rfl ?_
            refine sx_drop [true, true, true, true, false, false] (lo1 := [some _, some _, some _, some _, none, none]) rfl ?_
            have h9 := ih (i + 1) (by omega)
            rw [zq4] at h9
            exact h9
  refine Ct.of false [some (.ref 39), some (vI k), none, none, none, none] (plainFor_of_name (by decide)) (fun h => by cases h) (Nat.le_of_ble_eq_true rfl) (fun _ => rfl) sx_isl ?_
  refine sx_iconst (p1 := 1) dX12_findHelmets_0 rfl ?_
  refine sx_istore_n (lo1 := [some _, some _, some _, none, none, none]) (p1 := 2) dX12_findHelmets_1 rfl (by decide) rfl ?_
  refine sx_iconst (p1 := 3) dX12_findHelmets_2 rfl ?_
  refine sx_istore_n (lo1 := [some _, some _, some _, some _, none, none]) (p1 := 4) dX12_findHelmets_3 rfl (by decide) rfl ?_
  have h9 := key _ 0 (Nat.zero_add _)
  rw [show hS3 S (fh (mV S) (S.1 34) k (S.1 36) (S.1 35) 0) = S from hS3_0 S _] at h9
  exact h9
set_option maxRecDepth 20000 in
theorem c_X12_tellsHelmets {X : sx_X} {S : St} {i k : Int} (h6 : 0 ≤ S.1 36 ∧ S.1 36 ≤ 2147483647) (hk : 0 ≤ k ∧ k ≤ 2) (hi : -2147483648 ≤ i ∧ i ≤ 2147483647) : Ct X yX12_tellsHelmets cX12_tellsHelmets 3 (some .long) 1 0 0 [.ref 39, vI i, vI k] (hp S) (sx_is (some (vJ (if k = 0 then i else mFrac (S.1 36) 256 (k - 1)))) (hp (S))) := by
  refine Ct.of false [some (.ref 39), some (vI i), some (vI k)] (plainFor_of_name (by decide)) (fun h => by cases h) (Nat.le_of_ble_eq_true rfl) (fun _ => rfl) sx_isl ?_
  refine sx_iload_n (p1 := 1) dX12_tellsHelmets_0 rfl rfl ?_
  refine sx_if_ne (p1 := 4) (tg := 9) dX12_tellsHelmets_1 rfl rfl (by omega) (fun q1 => ?_) (fun q1 => ?_)
  · refine sx_aload_n (p1 := 10) dX12_tellsHelmets_9 rfl rfl ?_
    refine sx_get (p1 := 13) dX12_tellsHelmets_10 rfl fl_X12_235 (hp_c39 _) rfl ?_
    refine sx_i2l (p1 := 14) dX12_tellsHelmets_13 rfl (by omega) ?_
    refine sx_ldc2 (z := 256) (p1 := 17) dX12_tellsHelmets_14 rfl kc_X12_195 (by decide) ?_
    refine sx_iload_n (p1 := 18) dX12_tellsHelmets_17 rfl rfl ?_
    refine sx_iconst (p1 := 19) dX12_tellsHelmets_18 rfl ?_
    refine sx_isub (p1 := 20) dX12_tellsHelmets_19 rfl ?_
    refine sx_callSr (p1 := 23) (As := [_, _, _]) (k1 := 0) (n1 := 0) dX12_tellsHelmets_20 rfl rfl (c_X12_part (by omega) (by omega) (by omega)) mt_X12_part ml_X12_197 (Nat.le_of_ble_eq_true rfl) rfl (Nat.le_of_ble_eq_true rfl) rfl rfl (Nat.le_of_ble_eq_true rfl) (Nat.le_of_ble_eq_true rfl) ?_
    exact sx_lret dX12_tellsHelmets_23 rfl (sx_rj (by first | (rw [if_pos (by omega)]; done) | (rw [if_neg (by omega)]; done)) (by rfl))
  · refine sx_iload_n (p1 := 5) dX12_tellsHelmets_4 rfl rfl ?_
    refine sx_i2l (p1 := 6) dX12_tellsHelmets_5 rfl (by omega) ?_
    refine sx_goto (p1 := 23) (tg := 23) dX12_tellsHelmets_6 rfl rfl ?_
    exact sx_lret dX12_tellsHelmets_23 rfl (sx_rj (by first | (rw [if_pos (by omega)]; done) | (rw [if_neg (by omega)]; done)) (by rfl))
