/-- rows -/
def hRow (V : Vw) (gap : Int) (ro : Nat → Int) (k : Nat) : Int := hAt V gap ro k (V.2 4 (ro k))
def tot (V : Vw) (gap : Int) (ro : Nat → Int) (n : Nat) : Int := sumN n (hRow V gap ro)
theorem hRow_x {V : Vw} {gap : Int} {ro ro' : Nat → Int} {k : Nat} (h : ∀ a, a ≤ k → ro a = ro' a) : hRow V gap ro k = hRow V gap ro' k := by
  unfold hRow hAt
  rw [h k (by omega), sumN_congr k (fun a ha => by rw [h a (by omega)])]
theorem tot_x {V : Vw} {gap : Int} {ro ro' : Nat → Int} {n : Nat} (h : ∀ a, a < n → ro a = ro' a) : tot V gap ro n = tot V gap ro' n :=
  sumN_congr n (fun i hi => hRow_x (fun a ha => h a (by omega)))
theorem hRow_b {V : Vw} (hV : okV V) (gap : Int) (ro : Nat → Int) {k : Nat} (hk : k ≤ 6) : 0 ≤ hRow V gap ro k ∧ hRow V gap ro k ≤ 200000 := hAt_b hV gap ro hk _
theorem tot_m {V : Vw} (hV : okV V) (gap : Int) (ro : Nat → Int) {f : Nat} : ∀ n : Nat, f ≤ n → n ≤ 6 → tot V gap ro f ≤ tot V gap ro n
  | 0, h, _ => by
    rw [show f = 0 by omega]
    exact Int.le_refl _
  | n + 1, h, h6 => by
    by_cases e : f = n + 1
    · rw [e]
      exact Int.le_refl _
    · have ih := tot_m hV gap ro (f := f) n (by omega) (by omega)
      have hb := hRow_b hV gap ro (k := n) (by omega)
      show tot V gap ro f ≤ tot V gap ro n + hRow V gap ro n
      omega
theorem tot_b {V : Vw} (hV : okV V) (gap : Int) (ro : Nat → Int) {n : Nat} (hn : n ≤ 6) : 0 ≤ tot V gap ro n ∧ tot V gap ro n ≤ 1200000 := by
  have h := sumN_le (f := hRow V gap ro) (b := 200000) n (fun i hi => hRow_b hV gap ro (by omega))
  unfold tot
  omega
def rowL (l : List Nat) (i : Nat) : Int := ((l.getD i 0 : Nat) : Int)
def cutW (W : Nat) (f : Nat → Int) (i : Nat) : Int := if i < W then f i else 0
theorem cutW_x {W : Nat} {f g : Nat → Int} (h : ∀ i, i < W → f i = g i) : cutW W f = cutW W g := by
  funext i
  unfold cutW
  split
  · exact h i (by assumption)
  · rfl
def oUp (V : Vw) (gap : Int) (W : Nat) (x : Int × (Nat → Int)) (l : List Nat) : Int × (Nat → Int) := if tot V gap (rowL l) W < x.1 then (tot V gap (rowL l) W, cutW W (rowL l)) else x
def lvG (W : Nat) (F : Nat → List (List Nat)) (u : Nat) (w : Nat) : List (List Nat) := if u / 2 ^ w % 2 = 1 then [] else (F (u ||| 2 ^ w)).map (fun s => w :: s)
/-- the ends of the rows, in rising order -/
def lv (W : Nat) : Nat → Nat → List (List Nat)
  | 0, _ => [[]]
  | r + 1, u => (List.range W).flatMap (lvG W (lv W r) u)
theorem rowL_pre {pre s : List Nat} {i : Nat} (h : i < pre.length) : rowL (pre ++ s) i = rowL pre i := by
  unfold rowL
  rw [List.getD_eq_getElem?_getD, List.getD_eq_getElem?_getD, List.getElem?_append_left h]
theorem rowL_end {pre : List Nat} {x : Nat} : rowL (pre ++ [x]) pre.length = (x : Int) := by
  unfold rowL
  rw [List.getD_eq_getElem?_getD, List.getElem?_append_right (Nat.le_refl _)]
  simp
theorem oUp_same {V : Vw} {gap : Int} {W : Nat} {x : Int × (Nat → Int)} : ∀ L : List (List Nat), (∀ l, l ∈ L → x.1 ≤ tot V gap (rowL l) W) → L.foldl (oUp V gap W) x = x
  | [], _ => rfl
  | l :: L, h => by
    have h1 := h l (List.mem_cons_self ..)
    rw [List.foldl_cons, show oUp V gap W x l = x from if_neg (by omega)]
    exact oUp_same L (fun l hl => h l (List.mem_cons_of_mem _ hl))
theorem oUp_le {V : Vw} {gap : Int} {W : Nat} : ∀ (L : List (List Nat)) (x : Int × (Nat → Int)), (L.foldl (oUp V gap W) x).1 ≤ x.1
  | [], x => Int.le_refl _
  | l :: L, x => by
    have h := oUp_le (V := V) (gap := gap) (W := W) L (oUp V gap W x l)
    rw [List.foldl_cons]
    have h2 : (oUp V gap W x l).1 ≤ x.1 := by
      unfold oUp
      split
      · show tot V gap (rowL l) W ≤ x.1
        omega
      · exact Int.le_refl _
    omega
theorem oUp_hd {V : Vw} {gap : Int} {W : Nat} (l : List Nat) (L : List (List Nat)) (x : Int × (Nat → Int)) : ((l :: L).foldl (oUp V gap W) x).1 ≤ tot V gap (rowL l) W := by
  have h := oUp_le (V := V) (gap := gap) (W := W) L (oUp V gap W x l)
  rw [List.foldl_cons]
  have h2 : (oUp V gap W x l).1 ≤ tot V gap (rowL l) W := by
    unfold oUp
    split
    · exact Int.le_refl _
    · omega
  omega
theorem bit_u (u w : Nat) : (bitZ u w = 0) ↔ ¬ (u / 2 ^ w % 2 = 1) := by
  unfold bitZ
  omega
/-- the search is a walk through all the rows -/
theorem oEx_lv {V : Vw} (hV : okV V) (gap : Int) {W : Nat} (hW : V.1 1 = W) : ∀ (r f u : Nat) (pre : List Nat) (h : Int) (t : OT), f + r = W → pre.length = f → (∀ a, a < f → t.1 a = rowL pre a) → h = tot V gap (rowL pre) f →
    (∀ a, a < f → (oEx V gap r f u h t).1 a = t.1 a) ∧ ((oEx V gap r f u h t).2.1, cutW W (oEx V gap r f u h t).2.2) = ((lv W r u).map (fun s => pre ++ s)).foldl (oUp V gap W) (t.2.1, cutW W t.2.2)
  | 0, f, u, pre, h, t, hf, hp, ht, hh => by
    have h6 := hV.2.1
    rw [oEx, show (lv W 0 u).map (fun s => pre ++ s) = [pre] from by simp [lv], List.foldl_cons, List.foldl_nil]
    rw [show f = W by omega] at hh ht ⊢
    by_cases c : t.2.1 ≤ h
    · rw [if_pos c]
      refine ⟨fun _ _ => rfl, ?_⟩
      unfold oUp
      rw [if_neg (by rw [← hh]; show ¬ h < t.2.1; omega)]
    · rw [if_neg c]
      refine ⟨fun _ _ => rfl, ?_⟩
      unfold oUp
      rw [if_pos (by rw [← hh]; show h < t.2.1; omega), ← hh]
      refine congrArg (fun z => (h, z)) (cutW_x (fun i hi => ?_))
      show va_cpy t.1 t.2.2 0 0 6 i = _
      unfold va_cpy
      rw [if_pos (by omega), show 0 + (i - 0) = i by omega]
      exact ht i hi
  | r + 1, f, u, pre, h, t, hf, hp, ht, hh => by
    have h6 := hV.2.1
    rw [oEx]
    by_cases c : t.2.1 ≤ h
    · rw [if_pos c]
      refine ⟨fun _ _ => rfl, (oUp_same _ (fun l hl => ?_)).symm⟩
      obtain ⟨s, _, rfl⟩ := List.mem_map.1 hl
      show t.2.1 ≤ _
      have h1 := tot_m hV gap (rowL (pre ++ s)) (f := f) W (by omega) (by omega)
      rw [tot_x (ro' := rowL pre) (fun a ha => rowL_pre (by omega)), ← hh] at h1
      omega
    · rw [if_neg c]
      have key : ∀ n : Nat, n ≤ W → (∀ a, a < f → (eaN n (oG V gap r f u h) t).1 a = t.1 a) ∧ ((eaN n (oG V gap r f u h) t).2.1, cutW W (eaN n (oG V gap r f u h) t).2.2) = (((List.range n).flatMap (lvG W (lv W r) u)).map (fun s => pre ++ s)).foldl (oUp V gap W) (t.2.1, cutW W t.2.2) := by
        intro n
        induction n with
        | zero => exact fun _ => ⟨fun _ _ => rfl, rfl⟩
        | succ n ih =>
          intro hn
          have ih1 := ih (by omega)
          generalize hE : eaN n (oG V gap r f u h) t = t1 at ih1
          rw [show eaN (n + 1) (oG V gap r f u h) t = oG V gap r f u h n t1 from by rw [← hE]; rfl]
          rw [List.range_succ, List.flatMap_append, List.map_append, List.foldl_append, ← ih1.2]
          rw [show List.flatMap (lvG W (lv W r) u) [n] = lvG W (lv W r) u n from by simp [List.flatMap_cons]]
          unfold oG lvG
          by_cases b : bitZ u n = 0
          · rw [if_pos b, if_neg ((bit_u u n).1 b)]
            have hx : ∀ a, a < f + 1 → sx_u t1.1 f n a = rowL (pre ++ [n]) a := by
              intro a ha
              unfold sx_u
              by_cases e : a = f
              · rw [if_pos e, e, ← hp, rowL_end]
              · rw [if_neg e, ih1.1 a (by omega), ht a (by omega), rowL_pre (by omega)]
            have hr : hRow V gap (rowL (pre ++ [n])) f = hAt V gap (sx_u t1.1 f n) f (V.2 4 n) := by
              rw [← hRow_x (ro := sx_u t1.1 f n) (fun a ha => hx a (by omega))]
              unfold hRow
              rw [show sx_u t1.1 f n f = (n : Int) from by simp [sx_u]]
            have ih2 := oEx_lv hV gap hW r (f + 1) (u ||| 2 ^ n) (pre ++ [n]) (h + hAt V gap (sx_u t1.1 f n) f (V.2 4 n)) (sx_u t1.1 f n, t1.2) (by omega) (by simp [hp]) hx (by
              show _ = tot V gap (rowL (pre ++ [n])) f + hRow V gap (rowL (pre ++ [n])) f
              rw [hr, hh, tot_x (ro := rowL (pre ++ [n])) (ro' := rowL pre) (fun a ha => rowL_pre (by omega))])
            refine ⟨fun a ha => ?_, ?_⟩
            · rw [ih2.1 a (by omega)]
              show sx_u t1.1 f n a = _
              unfold sx_u
              rw [if_neg (by omega), ih1.1 a ha]
            · rw [ih2.2, List.map_map]
              have e : ((fun s => pre ++ s) ∘ fun s => n :: s) = fun s => pre ++ [n] ++ s := by
                funext s
                simp
              rw [e]
          · rw [if_neg b, if_pos (Decidable.byContradiction (fun q => b ((bit_u u n).2 q)))]
            exact ⟨ih1.1, rfl⟩
      rw [hW, Int.toNat_natCast]
      exact key W (Nat.le_refl _)
/-- the best of all rows: how much, and which -/
def oB (V : Vw) (gap : Int) (x : Int × (Nat → Int)) : Int × (Nat → Int) := (lv (V.1 1).toNat (V.1 1).toNat 0).foldl (oUp V gap (V.1 1).toNat) x
theorem oR_lv {S : St} (hV : okV (cV S)) : ((oR S).2.1, cutW (S.1 4).toNat (oR S).2.2) = oB (cV S) (S.1 6) (9223372036854775807, cutW (S.1 4).toNat (S.2 21)) := by
  have h6 := hV.2.1
  have e : (cV S).1 1 = ((S.1 4).toNat : Int) := by
    have : (cV S).1 1 = S.1 4 := rfl
    omega
  have h := (oEx_lv hV (S.1 6) e (S.1 4).toNat 0 0 [] 0 (S.2 20, 9223372036854775807, S.2 21) (by omega) rfl (fun a ha => by omega) rfl).2
  rw [show (fun s => ([] : List Nat) ++ s) = id from rfl, List.map_id] at h
  exact h
theorem lv_hd : ∀ W : Nat, W < 7 → (lv W W 0).length ≠ 0 := by decide +kernel
theorem oB_b {V : Vw} (hV : okV V) (gap : Int) (x : Int × (Nat → Int)) : (oB V gap x).1 ≤ 1200000 := by
  have h6 := hV.2.1
  have h1 := lv_hd (V.1 1).toNat (by omega)
  unfold oB
  generalize lv (V.1 1).toNat (V.1 1).toNat 0 = L at h1
  cases L with
  | nil => exact absurd rfl h1
  | cons l L =>
    have h2 := oUp_hd (V := V) (gap := gap) (W := (V.1 1).toNat) l L x
    have h3 := tot_b hV gap (rowL l) (n := (V.1 1).toNat) (by omega)
    omega
theorem oR_b {S : St} (hV : okV (cV S)) (hR : ∀ a, 0 ≤ S.2 20 a ∧ S.2 20 a ≤ 5) : 0 ≤ (oR S).2.1 ∧ (oR S).2.1 ≤ 1200000 := by
  have h1 := (oR_ok hV hR).2.1
  have h2 := congrArg Prod.fst (oR_lv hV)
  have h3 := oB_b hV (S.1 6) (9223372036854775807, cutW (S.1 4).toNat (S.2 21))
  have h4 : (oR S).2.1 = (oB (cV S) (S.1 6) (9223372036854775807, cutW (S.1 4).toNat (S.2 21))).1 := h2
  omega
