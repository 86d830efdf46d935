def rUp (V : Vw) (g : Int) (W : Nat) (f : Nat → Int) (x : Int × (Nat → Int)) (l : List Nat) : Int × (Nat → Int) := if x.1 = -1 ∨ tot V g (rowL l) W < x.1 then (tot V g (rowL l) W, wrF x.2 (rwM W f l) W) else x
/-- the reference and the class pick the same row -/
def oRel (W : Nat) (x y : Int × (Nat → Int)) : Prop := (x.1 = -1 ∧ y.1 = 9223372036854775807) ∨ (0 ≤ x.1 ∧ x.1 = y.1 ∧ cutW W x.2 = y.2)
theorem oRel_s {V : Vw} (hV : okV V) (g : Int) {W : Nat} (hW : W ≤ 6) (f : Nat → Int) {x y : Int × (Nat → Int)} (h : oRel W x y) (l : List Nat) : 0 ≤ (rUp V g W f x l).1 ∧ (rUp V g W f x l).1 = (oUp V g W y l).1 ∧ cutW W (rUp V g W f x l).2 = (oUp V g W y l).2 := by
  have hb := tot_b hV g (rowL l) hW
  have hc : cutW W (wrF x.2 (rwM W f l) W) = cutW W (rowL l) := cutW_x (fun i hi => by
    unfold wrF
    rw [if_pos hi, rwM_at hi])
  unfold rUp oUp
  rcases h with ⟨h1, h2⟩ | ⟨h0, h1, h2⟩
  · rw [if_pos (Or.inl h1), if_pos (by omega)]
    exact ⟨hb.1, rfl, hc⟩
  · by_cases c : tot V g (rowL l) W < y.1
    · rw [if_pos (Or.inr (by omega)), if_pos c]
      exact ⟨hb.1, rfl, hc⟩
    · rw [if_neg (by omega), if_neg c]
      exact ⟨h0, h1, h2⟩
theorem oRel_f {V : Vw} (hV : okV V) (g : Int) {W : Nat} (hW : W ≤ 6) (f : Nat → Int) : ∀ (L : List (List Nat)) (x y : Int × (Nat → Int)), oRel W x y → oRel W (L.foldl (rUp V g W f) x) (L.foldl (oUp V g W) y)
  | [], _, _, h => h
  | l :: L, x, y, h => by
    rw [List.foldl_cons, List.foldl_cons]
    exact oRel_f hV g hW f L _ _ (Or.inr (oRel_s hV g hW f h l))
theorem oRel_2 {V : Vw} (hV : okV V) (g : Int) {W : Nat} (hW : W ≤ 6) (f : Nat → Int) : ∀ (L : List (List Nat)) (x y : Int × (Nat → Int)), (0 ≤ x.1 ∧ x.1 = y.1 ∧ cutW W x.2 = y.2) → 0 ≤ (L.foldl (rUp V g W f) x).1 ∧ (L.foldl (rUp V g W f) x).1 = (L.foldl (oUp V g W) y).1 ∧ cutW W (L.foldl (rUp V g W f) x).2 = (L.foldl (oUp V g W) y).2
  | [], _, _, h => h
  | l :: L, x, y, h => by
    rw [List.foldl_cons, List.foldl_cons]
    exact oRel_2 hV g hW f L _ _ (oRel_s hV g hW f (Or.inr h) l)
/-- what the reference's search leaves after c codes -/
def rO (S : St) (W c : Nat) : Int × (Nat → Int) := ((lv W W 0).take c).foldl (rUp (mV S) (S.1 34) W (S.2 52)) (-1, S.2 53)
theorem rO_s {S : St} {W c : Nat} {l : List Nat} (h : (lv W W 0)[c]? = some l) : rO S W (c + 1) = rUp (mV S) (S.1 34) W (S.2 52) (rO S W c) l := by
  unfold rO
  rw [List.take_add_one, h, Option.toList_some, List.foldl_append]
  rfl
theorem rO_b {S : St} (hV : okV (mV S)) {W : Nat} (hW : W ≤ 6) (c : Nat) : -1 ≤ (rO S W c).1 ∧ (rO S W c).1 ≤ 1200000 := by
  have key : ∀ (L : List (List Nat)) (x : Int × (Nat → Int)), (-1 ≤ x.1 ∧ x.1 ≤ 1200000) → -1 ≤ (L.foldl (rUp (mV S) (S.1 34) W (S.2 52)) x).1 ∧ (L.foldl (rUp (mV S) (S.1 34) W (S.2 52)) x).1 ≤ 1200000 := by
    intro L
    induction L with
    | nil => exact fun x h => h
    | cons l L ih =>
      intro x h
      rw [List.foldl_cons]
      refine ih _ ?_
      have hb := tot_b hV (S.1 34) (rowL l) hW
      unfold rUp
      split
      · show -1 ≤ tot (mV S) (S.1 34) (rowL l) W ∧ _
        omega
      · exact h
  exact key _ _ (by show -1 ≤ (-1 : Int) ∧ (-1 : Int) ≤ 1200000; omega)
/-- it is what the class's search leaves -/
theorem rO_end {S : St} (hV : okV (mV S)) {W : Nat} (hW : S.1 33 = (W : Int)) (y : Nat → Int) : 0 ≤ (rO S W (fc (W - 1))).1 ∧ (rO S W (fc (W - 1))).1 = (oB (mV S) (S.1 34) (9223372036854775807, y)).1 ∧ cutW W (rO S W (fc (W - 1))).2 = (oB (mV S) (S.1 34) (9223372036854775807, y)).2 := by
  have h6 : 0 ≤ S.1 33 ∧ S.1 33 ≤ 6 := hV.2.1
  have e : ((mV S).1 1).toNat = W := by
    have : (mV S).1 1 = S.1 33 := rfl
    omega
  have h1 := lv_hd W (by omega)
  unfold oB rO
  rw [e, List.take_of_length_le (by rw [lv_len (by omega)]; exact Nat.le_refl _)]
  generalize lv W W 0 = Lr at h1
  cases Lr with
  | nil => exact absurd rfl h1
  | cons l Lr =>
    rw [List.foldl_cons, List.foldl_cons]
    exact oRel_2 hV (S.1 34) (by omega) (S.2 52) Lr _ _ (oRel_s hV (S.1 34) (by omega) (S.2 52) (Or.inl ⟨rfl, rfl⟩) l)
theorem bit_q {S : St} {b : Nat} (h : okQ S b) {q : Nat} (hq : (q : Int) < S.1 33) : bitZ b q = (mV S).2 4 q := by
  have h1 : 0 ≤ S.1 33 ∧ S.1 33 ≤ 6 := h.1.2.1
  rw [h.2.2.2.1, hbF_bit _ h.2.2.2.2.2, if_pos (by omega)]
  show _ = rH S q
  unfold rH
  rw [if_pos (by omega), Int.toNat_natCast]
def oQ (S : St) (W : Nat) (l : List Nat) (f : Nat → Int) : St := uS (sA S 53 f) W l
theorem all_row {S : St} {b : Nat} (hQ : okQ S b) {W : Nat} (hW : S.1 33 = (W : Int)) {l : List Nat} (hl : ∀ a, a < W → 0 ≤ rowL l a ∧ rowL l a < W) (f : Nat → Int) : rAll (oQ S W l f) b = tot (mV S) (S.1 34) (rowL l) W := by
  show sumN (S.1 33).toNat (rAllT (oQ S W l f) b) = sumN W (hRow (mV S) (S.1 34) (rowL l))
  rw [hW, Int.toNat_natCast]
  refine sumN_congr W (fun j hj => ?_)
  have h1 := hl j hj
  rw [← hRow_x (ro := rwM W (S.2 52) l) (fun a ha => rwM_at (by omega))]
  show hAt (mV S) (S.1 34) (rwM W (S.2 52) l) j (bitZ b (rwM W (S.2 52) l j).toNat) = hAt (mV S) (S.1 34) (rwM W (S.2 52) l) j ((mV S).2 4 (rwM W (S.2 52) l j))
  rw [bit_q hQ (by rw [rwM_at hj]; omega), rwM_at hj, Int.toNat_of_nonneg h1.1]
theorem oQ_w {S : St} {b : Nat} (hQ : okQ S b) {W : Nat} (hW : S.1 33 = (W : Int)) {l : List Nat} (hl : ∀ a, a < W → 0 ≤ rowL l a ∧ rowL l a < W) (f : Nat → Int) : okW (oQ S W l f) b := by
  refine ⟨fun a ha => ?_, hQ.2.2.2.2.1, okQ_64 hQ⟩
  have ha' : (a : Int) < S.1 33 := ha
  show 0 ≤ rwM W (S.2 52) l a ∧ rwM W (S.2 52) l a < S.1 33
  rw [rwM_at (by omega), hW]
  exact hl a (by omega)
theorem oQ_s (S : St) (W : Nat) (l : List Nat) (f : Nat → Int) (i : Nat) (x : Int) : sa (oQ S W l f) 53 i x = oQ S W l (sx_u f i x) := by
  refine Prod.ext rfl ?_
  funext b
  simp only [oQ, uS, sa, sA, sx_u]
  by_cases h1 : b = 53
  · subst h1
    simp
  · by_cases h2 : b = 52 <;> simp [h1, h2]
theorem oQ_0 {S : St} {b : Nat} (hQ : okQ S b) {W : Nat} (hW : S.1 33 = (W : Int)) : oQ S W (List.range W) (S.2 53) = S := by
  have h6 : 0 ≤ S.1 33 ∧ S.1 33 ≤ 6 := hQ.1.2.1
  refine Prod.ext rfl ?_
  funext k
  show sx_u (sx_u S.2 53 (S.2 53)) 52 (rwM W (S.2 52) (List.range W)) k = S.2 k
  simp only [sx_u]
  by_cases c1 : k = 52
  · rw [if_pos c1, c1]
    funext a
    unfold rwM
    by_cases c : a < W
    · rw [if_pos c, hQ.2.1 a (by omega)]
      unfold rowL
      rw [List.getD_eq_getElem?_getD, List.getElem?_range c]
      rfl
    · rw [if_neg c]
  · rw [if_neg c1]
    by_cases c2 : k = 53
    · rw [if_pos c2, c2]
    · rw [if_neg c2]
theorem oQ_p {S : St} {b : Nat} (hQ : okQ S b) {W : Nat} (hW : S.1 33 = (W : Int)) (l : List Nat) (f : Nat → Int) : plF (oQ S W l f) = sA S 53 f := by
  have h6 : 0 ≤ S.1 33 ∧ S.1 33 ≤ 6 := hQ.1.2.1
  refine plF_to (b := b) (S := sA S 53 f) hQ (fun _ _ _ => rfl) (fun k h => by simp [oQ, uS, sA, sx_u, h]) (fun j hj => ?_)
  show rwM W (S.2 52) l j = S.2 52 j
  exact if_neg (by omega)
theorem row_100 {l : List Nat} {W : Nat} (hl : l.length = W) (hW : W ≤ 6) (h : ∀ a, a < W → 0 ≤ rowL l a ∧ rowL l a < W) : ∀ i, l.getD i 0 ≤ 100 := by
  intro i
  by_cases c : i < W
  · have := h i c
    unfold rowL at this
    omega
  · rw [List.getD_eq_getElem?_getD, List.getElem?_eq_none (by omega)]
    decide
theorem rng_ok (W : Nat) : ∀ a, a < W → 0 ≤ rowL (List.range W) a ∧ rowL (List.range W) a < W := by
  intro a ha
  unfold rowL
  rw [List.getD_eq_getElem?_getD, List.getElem?_range ha]
  show 0 ≤ (a : Int) ∧ (a : Int) < W
  omega
set_option maxRecDepth 20000 in
theorem c_X12_findOrder {X : sx_X} {S : St} {b W : Nat} (hQ : okQ S b) (hW : S.1 33 = (W : Int))  : Ct X yX12_findOrder cX12_findOrder 6 (some .int) 6 0 0 [.ref 39] (hp S) (sx_is (some (vI (rO S W (fc (W - 1))).1)) (hp (sA S 53 (rO S W (fc (W - 1))).2))) := by
  have hV := hQ.1
  have h6 : 0 ≤ S.1 33 ∧ S.1 33 ≤ 6 := hV.2.1
  have hN := fc_b W (by omega)
  have copy : ∀ (c : Nat) (x y : Int) (l : List Nat) (f : Nat → Int), Rn X RX12 false cX12_findOrder 6 6 0 0 (some .int) 88 [some (.ref 39), some (vI ((fc (W - 1)) : Nat)), some (vI x), some (vI (c : Int)), none, none] [] (hp (oQ S W l (wrF f (rwM W (S.2 52) l) W))) 0 0 (sx_is (some (vI (rO S W (fc (W - 1))).1)) (hp (sA S 53 (rO S W (fc (W - 1))).2))) → Rn X RX12 false cX12_findOrder 6 6 0 0 (some .int) 59 [some (.ref 39), some (vI ((fc (W - 1)) : Nat)), some (vI x), some (vI (c : Int)), some (vI y), some (vI 0)] [] (hp (oQ S W l f)) 0 0 (sx_is (some (vI (rO S W (fc (W - 1))).1)) (hp (sA S 53 (rO S W (fc (W - 1))).2))) := by
    intro c x y l f K
    have key : ∀ (n i : Nat), i + n = W → Rn X RX12 false cX12_findOrder 6 6 0 0 (some .int) 59 [some (.ref 39), some (vI ((fc (W - 1)) : Nat)), some (vI x), some (vI (c : Int)), some (vI y), some (vI (i : Int))] [] (hp (oQ S W l (wrF f (rwM W (S.2 52) l) i))) 0 0 (sx_is (some (vI (rO S W (fc (W - 1))).1)) (hp (sA S 53 (rO S W (fc (W - 1))).2))) := by
      intro n
      induction n with
      | zero =>
        intro i hi 
        rw [Nat.add_zero] at hi
        subst hi
        refine sx_iload (p1 := 61) dX12_findOrder_59 rfl rfl ?_
        refine sx_aload_n (p1 := 62) dX12_findOrder_61 rfl rfl ?_
        refine sx_get (v := vI (S.1 33)) (p1 := 65) dX12_findOrder_62 rfl fl_X12_106 (hp_c39 _) rfl ?_
        rw [hW]
        refine sx_icmp_ge (p1 := 68) (tg := 88) dX12_findOrder_65 rfl rfl (by omega) (by omega) (fun q65 => ?_) (fun q65 => absurd q65 (by omega))
        refine sx_drop [true, true, true, true, false, false] (lo1 := [some _, some _, some _, some _, none, none]) rfl ?_
        exact K
      | succ n ih =>
        intro i hi 
        refine sx_iload (p1 := 61) dX12_findOrder_59 rfl rfl ?_
        refine sx_aload_n (p1 := 62) dX12_findOrder_61 rfl rfl ?_
        refine sx_get (v := vI (S.1 33)) (p1 := 65) dX12_findOrder_62 rfl fl_X12_106 (hp_c39 _) rfl ?_
        rw [hW]
        refine sx_icmp_ge (p1 := 68) (tg := 88) dX12_findOrder_65 rfl rfl (by omega) (by omega) (fun q65 => absurd q65 (by omega)) (fun q65 => ?_)
        refine sx_aload_n (p1 := 69) dX12_findOrder_68 rfl rfl ?_
        refine sx_get (p1 := 72) dX12_findOrder_69 rfl fl_X12_50 (hp_c39 _) rfl ?_
        refine sx_iload (p1 := 74) dX12_findOrder_72 rfl rfl ?_
        refine sx_aload_n (p1 := 75) dX12_findOrder_74 rfl rfl ?_
        refine sx_get (p1 := 78) dX12_findOrder_75 rfl fl_X12_47 (hp_c39 _) rfl ?_
        refine sx_iload (p1 := 80) dX12_findOrder_78 rfl rfl ?_
        refine sx_iald (g := (rwM W (S.2 52) l)) (p1 := 81) dX12_findOrder_80 rfl (hp_c52 _) (by omega) (by decide) ?_
        rw [Int.toNat_natCast]
        refine sx_iast (p1 := 82) dX12_findOrder_81 rfl (hp_c53 _) (by omega) (by decide) (hp_a53 _ (i) _) ?_
        rw [oQ_s, wrF_s f (rwM W (S.2 52) l) i rfl]
        refine sx_iinc (lo1 := [some _, some _, some _, some _, some _, some _]) (p1 := 85) dX12_findOrder_82 rfl (by decide) rfl rfl ?_
        refine sx_goto (p1 := 59) (tg := 59) dX12_findOrder_85 rfl rfl ?_
        exact ih (i + 1) (by omega)
    have h9 := key W 0 (Nat.zero_add _)
    rw [wrF_0] at h9
    exact h9
  have main : ∀ (n c : Nat) (l : List Nat), c + n = (fc (W - 1)) → l.length = W → (∀ i, l.getD i 0 ≤ 100) → Rn X RX12 false cX12_findOrder 6 6 0 0 (some .int) 26 [some (.ref 39), some (vI ((fc (W - 1)) : Nat)), some (vI (rO S W c).1), some (vI (c : Int)), none, none] [] (hp (oQ S W l (rO S W c).2)) 0 0 (sx_is (some (vI (rO S W (fc (W - 1))).1)) (hp (sA S 53 (rO S W (fc (W - 1))).2))) := by
    intro n
    induction n with
    | zero =>
      intro c l hc hl hM
      rw [Nat.add_zero] at hc
      subst hc
      have rb0 := rO_b hV (W := W) (by omega) (fc (W - 1))
      refine sx_iload_n (p1 := 27) dX12_findOrder_26 rfl rfl ?_
      refine sx_iload_n (p1 := 28) dX12_findOrder_27 rfl rfl ?_
      refine sx_icmp_ge (p1 := 31) (tg := 94) dX12_findOrder_28 rfl rfl (by omega) (by omega) (fun q28 => ?_) (fun q28 => absurd q28 (by omega))
      refine sx_aload_n (p1 := 95) dX12_findOrder_94 rfl rfl ?_
      refine sx_callVn (p1 := 98) (As := []) (k1 := 0) (n1 := 0) dX12_findOrder_95 rfl rfl (c_X12_plain (S := oQ S W l (rO S W (fc (W - 1))).2) h6 hQ.2.2.2.2.2) mt_X12_plain ml_X12_146 (hp_c39 _) rfl rfl (Nat.le_of_ble_eq_true rfl) rfl (Nat.le_of_ble_eq_true rfl) rfl rfl (Nat.le_of_ble_eq_true rfl) (Nat.le_of_ble_eq_true rfl) ?_
      refine sx_iload_n (p1 := 99) dX12_findOrder_98 rfl rfl ?_
      exact sx_iret dX12_findOrder_99 rfl (sx_ri (by rfl) (by exact oQ_p hQ hW l _))
    | succ n ih =>
      intro c l hc hl hM
      have ha := unf_at (W := W) (code := c) (l := l) (by omega) (by omega) hl
      have ho := lv_ok (W := W) (by omega) (List.mem_of_getElem? ha)
      have hs := rO_s (S := S) ha
      have h1 := row_100 ho.1 (by omega) ho.2
      have rb := rO_b hV (W := W) (by omega) c
      have e5 := all_row hQ hW ho.2 (rO S W c).2
      have tb := tot_b hV (S.1 34) (rowL (unf W c l)) (n := W) (by omega)
      refine sx_iload_n (p1 := 27) dX12_findOrder_26 rfl rfl ?_
      refine sx_iload_n (p1 := 28) dX12_findOrder_27 rfl rfl ?_
      refine sx_icmp_ge (p1 := 31) (tg := 94) dX12_findOrder_28 rfl rfl (by omega) (by omega) (fun q28 => absurd q28 (by omega)) (fun q28 => ?_)
      refine sx_aload_n (p1 := 32) dX12_findOrder_31 rfl rfl ?_
      refine sx_iload_n (p1 := 33) dX12_findOrder_32 rfl rfl ?_
      refine sx_callVn (p1 := 36) (As := [_]) (k1 := 0) (n1 := 0) dX12_findOrder_33 rfl rfl (c_X12_unfolds (S := sA S 53 (rO S W c).2) (l0 := l) hW (by omega) (by omega) hl hM) mt_X12_unfolds ml_X12_225 (hp_c39 _) rfl rfl (Nat.le_of_ble_eq_true rfl) rfl (Nat.le_of_ble_eq_true rfl) rfl rfl (Nat.le_of_ble_eq_true rfl) (Nat.le_of_ble_eq_true rfl) ?_
      rw [show uS (sA S 53 (rO S W c).2) W (unf W c l) = oQ S W (unf W c l) (rO S W c).2 from rfl]
      refine sx_aload_n (p1 := 37) dX12_findOrder_36 rfl rfl ?_
      refine sx_callVr (p1 := 40) (As := []) (k1 := 0) (n1 := 0) dX12_findOrder_37 rfl rfl (c_X12_toAll (S := oQ S W (unf W c l) (rO S W c).2) (b := b) hV (oQ_w hQ hW ho.2 _)) mt_X12_toAll ml_X12_205 (hp_c39 _) rfl rfl (Nat.le_of_ble_eq_true rfl) rfl (Nat.le_of_ble_eq_true rfl) rfl rfl (Nat.le_of_ble_eq_true rfl) (Nat.le_of_ble_eq_true rfl) ?_
      rw [e5]
      refine sx_istore (lo1 := [some _, some _, some _, some _, some _, none]) (p1 := 42) dX12_findOrder_40 rfl (by decide) rfl ?_
      refine sx_iload_n (p1 := 43) dX12_findOrder_42 rfl rfl ?_
      refine sx_iconst (p1 := 44) dX12_findOrder_43 rfl ?_
      refine sx_icmp_eq (p1 := 47) (tg := 53) dX12_findOrder_44 rfl rfl (by omega) (by omega) (fun q44 => ?_) (fun q44 => ?_)
      · have zq : (rO S W (c + 1)) = (tot (mV S) (S.1 34) (rowL (unf W c l)) W, wrF (rO S W c).2 (rwM W (S.2 52) (unf W c l)) W) := hs.trans (if_pos (Or.inl q44))
        refine sx_iload (p1 := 55) dX12_findOrder_53 rfl rfl ?_
        refine sx_istore_n (lo1 := [some _, some _, some _, some _, some _, none]) (p1 := 56) dX12_findOrder_55 rfl (by decide) rfl ?_
        refine sx_iconst (p1 := 57) dX12_findOrder_56 rfl ?_
        refine sx_istore (lo1 := [some _, some _, some _, some _, some _, some _]) (p1 := 59) dX12_findOrder_57 rfl (by decide) rfl ?_
        have h9 := ih (c + 1) (unf W c l) (by omega) ho.1 h1
        rw [zq] at h9
        refine copy c _ _ (unf W c l) _ ?_
        refine sx_iinc (lo1 := [some _, some _, some _, some _, none, none]) (p1 := 91) dX12_findOrder_88 rfl (by decide) rfl rfl ?_
        refine sx_goto (p1 := 26) (tg := 26) dX12_findOrder_91 rfl rfl ?_
        exact h9
      · refine sx_iload (p1 := 49) dX12_findOrder_47 rfl rfl ?_
        refine sx_iload_n (p1 := 50) dX12_findOrder_49 rfl rfl ?_
        refine sx_icmp_ge (p1 := 53) (tg := 88) dX12_findOrder_50 rfl rfl (by omega) (by omega) (fun q50 => ?_) (fun q50 => ?_)
        · have zq : (rO S W (c + 1)) = (rO S W c) := hs.trans (if_neg (by omega))
          refine sx_drop [true, true, true, true, false, false] (lo1 := [some _, some _, some _, some _, none, none]) rfl ?_
          have h9 := ih (c + 1) (unf W c l) (by omega) ho.1 h1
          rw [zq] at h9
          refine sx_iinc (lo1 := [some _, some _, some _, some _, none, none]) (p1 := 91) dX12_findOrder_88 rfl (by decide) rfl rfl ?_
          refine sx_goto (p1 := 26) (tg := 26) dX12_findOrder_91 rfl rfl ?_
          exact h9
        · have zq : (rO S W (c + 1)) = (tot (mV S) (S.1 34) (rowL (unf W c l)) W, wrF (rO S W c).2 (rwM W (S.2 52) (unf W c l)) W) := hs.trans (if_pos (Or.inr q50))
          refine sx_iload (p1 := 55) dX12_findOrder_53 rfl rfl ?_
          refine sx_istore_n (lo1 := [some _, some _, some _, some _, some _, none]) (p1 := 56) dX12_findOrder_55 rfl (by decide) rfl ?_
          refine sx_iconst (p1 := 57) dX12_findOrder_56 rfl ?_
          refine sx_istore (lo1 := [some _, some _, some _, some _, some _, some _]) (p1 := 59) dX12_findOrder_57 rfl (by decide) rfl ?_
          have h9 := ih (c + 1) (unf W c l) (by omega) ho.1 h1
          rw [zq] at h9
          refine copy c _ _ (unf W c l) _ ?_
          refine sx_iinc (lo1 := [some _, some _, some _, some _, none, none]) (p1 := 91) dX12_findOrder_88 rfl (by decide) rfl rfl ?_
          refine sx_goto (p1 := 26) (tg := 26) dX12_findOrder_91 rfl rfl ?_
          exact h9
  have count : ∀ (n i : Nat), i + n = W - 1 → Rn X RX12 false cX12_findOrder 6 6 0 0 (some .int) 4 [some (.ref 39), some (vI (fc i : Nat)), some (vI ((i : Int) + 2)), none, none, none] [] (hp S) 0 0 (sx_is (some (vI (rO S W (fc (W - 1))).1)) (hp (sA S 53 (rO S W (fc (W - 1))).2))) := by
    intro n
    induction n with
    | zero =>
      intro i hi
      rw [Nat.add_zero] at hi
      subst hi
      refine sx_iload_n (p1 := 5) dX12_findOrder_4 rfl rfl ?_
      refine sx_aload_n (p1 := 6) dX12_findOrder_5 rfl rfl ?_
      refine sx_get (p1 := 9) dX12_findOrder_6 rfl fl_X12_106 (hp_c39 _) rfl ?_
      rw [hW]
      refine sx_icmp_gt (p1 := 12) (tg := 22) dX12_findOrder_9 rfl rfl (by omega) (by omega) (fun q9 => ?_) (fun q9 => absurd q9 (by omega))
      refine sx_iconst (p1 := 23) dX12_findOrder_22 rfl ?_
      refine sx_istore_n (lo1 := [some _, some _, some _, none, none, none]) (p1 := 24) dX12_findOrder_23 rfl (by decide) rfl ?_
      refine sx_iconst (p1 := 25) dX12_findOrder_24 rfl ?_
      refine sx_istore_n (lo1 := [some _, some _, some _, some _, none, none]) (p1 := 26) dX12_findOrder_25 rfl (by decide) rfl ?_
      have h9 := main _ 0 (List.range W) (Nat.zero_add _) (by simp) (row_100 (by simp) (by omega) (rng_ok W))
      rw [show oQ S W (List.range W) (rO S W 0).2 = S from oQ_0 hQ hW] at h9
      exact h9
    | succ n ih =>
      intro i hi
      have f1 : ((fc i : Nat) : Int) * ((i : Int) + 2) = ((fc (i + 1) : Nat) : Int) := by
        show ((fc i : Nat) : Int) * ((i + 2 : Nat) : Int) = ((fc i * (i + 2) : Nat) : Int)
        rw [Int.natCast_mul]
      refine sx_iload_n (p1 := 5) dX12_findOrder_4 rfl rfl ?_
      refine sx_aload_n (p1 := 6) dX12_findOrder_5 rfl rfl ?_
      refine sx_get (p1 := 9) dX12_findOrder_6 rfl fl_X12_106 (hp_c39 _) rfl ?_
      rw [hW]
      refine sx_icmp_gt (p1 := 12) (tg := 22) dX12_findOrder_9 rfl rfl (by omega) (by omega) (fun q9 => absurd q9 (by omega)) (fun q9 => ?_)
      refine sx_iload_n (p1 := 13) dX12_findOrder_12 rfl rfl ?_
      refine sx_iload_n (p1 := 14) dX12_findOrder_13 rfl rfl ?_
      refine sx_imul (p1 := 15) dX12_findOrder_14 rfl ?_
      rw [f1]
      refine sx_istore_n (lo1 := [some _, some _, some _, none, none, none]) (p1 := 16) dX12_findOrder_15 rfl (by decide) rfl ?_
      refine sx_iinc (lo1 := [some _, some _, some _, none, none, none]) (p1 := 19) dX12_findOrder_16 rfl (by decide) rfl rfl ?_
      refine sx_goto (p1 := 4) (tg := 4) dX12_findOrder_19 rfl rfl ?_
      have h9 := ih (i + 1) (by omega)
      rw [show ((i + 1 : Nat) : Int) + 2 = (i : Int) + 2 + 1 by omega] at h9
      exact h9
  refine Ct.of false [some (.ref 39), none, none, none, none, none] (plainFor_of_name (by decide)) (fun h => by cases h) (Nat.le_of_ble_eq_true rfl) (fun _ => rfl) sx_isl ?_
  refine sx_iconst (p1 := 1) dX12_findOrder_0 rfl ?_
  refine sx_istore_n (lo1 := [some _, some _, none, none, none, none]) (p1 := 2) dX12_findOrder_1 rfl (by decide) rfl ?_
  refine sx_iconst (p1 := 3) dX12_findOrder_2 rfl ?_
  refine sx_istore_n (lo1 := [some _, some _, some _, none, none, none]) (p1 := 4) dX12_findOrder_3 rfl (by decide) rfl ?_
  exact count _ 0 (Nat.zero_add _)
