/-- a code unfolds to a row -/
def u1 (W : Nat) : Nat → Nat → List Nat → List Nat
  | 0, _, l => l
  | n + 1, rest, l => u1 W n (rest / (W - n)) (l.set n (rest % (W - n)))
def u2 (W k : Nat) : Nat → List Nat → List Nat
  | 0, l => l
  | n + 1, l => u2 W k n (l.set (W - 1 - n) (l.getD (W - 1 - n) 0 + if l.getD k 0 ≤ l.getD (W - 1 - n) 0 then 1 else 0))
def u3 (W : Nat) : Nat → List Nat → List Nat
  | 0, l => l
  | n + 1, l => u3 W n (u2 W n (W - 1 - n) l)
def unf (W code : Nat) (l : List Nat) : List Nat := u3 W W (u1 W W code l)
def fc : Nat → Nat
  | 0 => 1
  | n + 1 => fc n * (n + 2)
theorem unf_lv : ∀ W : Nat, W < 7 → (List.range (fc (W - 1))).map (fun c => unf W c (List.replicate W 0)) = lv W W 0 := by decide +kernel
theorem fc_b : ∀ W : Nat, W < 7 → fc (W - 1) ≤ 720 := by decide +kernel
theorem lv_all : ∀ W : Nat, W < 7 → (lv W W 0).all (fun l => l.length == W && l.all (fun x => decide (x < W))) = true := by decide +kernel
theorem u1_len (W : Nat) : ∀ (n rest : Nat) (l : List Nat), (u1 W n rest l).length = l.length
  | 0, _, _ => rfl
  | n + 1, rest, l => by rw [u1, u1_len W n, List.length_set]
theorem u1_eq (W : Nat) : ∀ (n rest : Nat) (l l' : List Nat), l.length = l'.length → (∀ i, n ≤ i → l[i]? = l'[i]?) → u1 W n rest l = u1 W n rest l'
  | 0, _, l, l', _, h => List.ext_getElem? (fun i => h i (by omega))
  | n + 1, rest, l, l', hl, h => by
    rw [u1, u1]
    refine u1_eq W n _ _ _ (by simp [hl]) (fun i hi => ?_)
    by_cases e : n = i
    · subst e
      rw [List.getElem?_set, List.getElem?_set, if_pos rfl, if_pos rfl, hl]
    · rw [List.getElem?_set_ne e, List.getElem?_set_ne e]
      exact h i (by omega)
theorem unf_eq {W code : Nat} {l : List Nat} (h : l.length = W) : unf W code l = unf W code (List.replicate W 0) := by
  unfold unf
  rw [u1_eq W W code l (List.replicate W 0) (by simp [h]) (fun i hi => by
    rw [List.getElem?_eq_none (by omega), List.getElem?_eq_none (by simp; omega)])]
/-- the code's row is the row of that number -/
theorem unf_at {W code : Nat} {l : List Nat} (hW : W < 7) (hc : code < fc (W - 1)) (h : l.length = W) : (lv W W 0)[code]? = some (unf W code l) := by
  rw [← unf_lv W hW, List.getElem?_map, List.getElem?_range hc, unf_eq h]
  rfl
theorem lv_len {W : Nat} (hW : W < 7) : (lv W W 0).length = fc (W - 1) := by
  rw [← unf_lv W hW]
  simp
theorem lv_ok {W : Nat} (hW : W < 7) {l : List Nat} (h : l ∈ lv W W 0) : l.length = W ∧ ∀ a, a < W → 0 ≤ rowL l a ∧ rowL l a < W := by
  have h1 := List.all_eq_true.1 (lv_all W hW) l h
  simp only [Bool.and_eq_true, beq_iff_eq, List.all_eq_true, decide_eq_true_eq] at h1
  refine ⟨h1.1, fun a ha => ?_⟩
  unfold rowL
  have h2 := h1.2 (l.getD a 0) (by
    rw [List.getD_eq_getElem?_getD, List.getElem?_eq_getElem (by omega), Option.getD_some]
    exact List.getElem_mem ..)
  omega
/-- a row whose first W are a list -/
def rwM (W : Nat) (f : Nat → Int) (l : List Nat) (a : Nat) : Int := if a < W then rowL l a else f a
theorem rwM_s {W : Nat} {f : Nat → Int} {l : List Nat} {k x : Nat} (hl : l.length = W) (hk : k < W) : sx_u (rwM W f l) k (x : Int) = rwM W f (l.set k x) := by
  funext a
  unfold sx_u rwM rowL
  by_cases e : a = k
  · subst e
    rw [if_pos rfl, if_pos hk, List.getD_eq_getElem?_getD, List.getElem?_set_self (by omega)]
    rfl
  · rw [if_neg e]
    by_cases c : a < W
    · rw [if_pos c, if_pos c, List.getD_eq_getElem?_getD, List.getD_eq_getElem?_getD, List.getElem?_set_ne (by omega)]
    · rw [if_neg c, if_neg c]
theorem rwM_at {W : Nat} {f : Nat → Int} {l : List Nat} {a : Nat} (h : a < W) : rwM W f l a = rowL l a := if_pos h
def uS (S : St) (W : Nat) (l : List Nat) : St := sA S 52 (rwM W (S.2 52) l)
theorem uS_s {S : St} {W : Nat} {l : List Nat} {k x : Nat} (hl : l.length = W) (hk : k < W) : sa (uS S W l) 52 k (x : Int) = uS S W (l.set k x) := by
  unfold uS
  rw [sa_sA, rwM_s hl hk]
theorem u2_len (W k : Nat) : ∀ (n : Nat) (l : List Nat), (u2 W k n l).length = l.length
  | 0, _ => rfl
  | n + 1, l => by rw [u2, u2_len W k n, List.length_set]
theorem set_b {l : List Nat} {k x M : Nat} (h : ∀ i, l.getD i 0 ≤ M) (hx : x ≤ M + 1) : ∀ i, (l.set k x).getD i 0 ≤ M + 1 := by
  intro i
  have := h i
  rw [List.getD_eq_getElem?_getD] at this ⊢
  by_cases e : k = i
  · subst e
    rw [List.getElem?_set]
    simp only [if_pos]
    split
    · exact hx
    · simp
  · rw [List.getElem?_set_ne e]
    omega
theorem u2_b (W k : Nat) : ∀ (n : Nat) (l : List Nat) (M : Nat), (∀ i, l.getD i 0 ≤ M) → ∀ i, (u2 W k n l).getD i 0 ≤ M + n
  | 0, l, M, h => h
  | n + 1, l, M, h => by
    rw [u2]
    intro i
    have h1 := h (W - 1 - n)
    have := u2_b W k n _ (M + 1) (set_b (k := W - 1 - n) (x := l.getD (W - 1 - n) 0 + if l.getD k 0 ≤ l.getD (W - 1 - n) 0 then 1 else 0) h (by split <;> omega)) i
    omega
theorem set_c {l : List Nat} {k x M : Nat} (h : ∀ i, l.getD i 0 ≤ M) (hx : x ≤ M) : ∀ i, (l.set k x).getD i 0 ≤ M := by
  intro i
  have := h i
  rw [List.getD_eq_getElem?_getD] at this ⊢
  by_cases e : k = i
  · subst e
    rw [List.getElem?_set]
    simp only [if_pos]
    split
    · exact hx
    · simp
  · rw [List.getElem?_set_ne e]
    exact this
set_option maxRecDepth 20000 in
theorem c_X12_unfolds {X : sx_X} {S : St} {W code : Nat} {l0 : List Nat} (hW : S.1 33 = (W : Int)) (h6 : W ≤ 6) (hc : code ≤ 1000) (hl0 : l0.length = W) (hM0 : ∀ i, l0.getD i 0 ≤ 100) : Ct X yX12_unfolds cX12_unfolds 5 none 0 0 0 [.ref 39, vI (code : Int)] (hp (uS S W l0)) (sx_is none (hp (uS S W (unf W code l0)))) := by
  have inner : ∀ (Q9 : Option Value → sx_H → Prop) (k : Nat), k < W → ∀ (rest : Int) (n : Nat) (l : List Nat) (M : Nat), n ≤ W - 1 - k → l.length = W → (∀ i, l.getD i 0 ≤ M) → M + n ≤ 1000 → Rn X RX12 false cX12_unfolds 5 0 0 0 none 49 [some (.ref 39), some (vI (code : Int)), some (vI rest), some (vI ((k : Int) - 1)), none] [] (hp (uS S W (u2 W k n l))) 0 0 (Q9) → Rn X RX12 false cX12_unfolds 5 0 0 0 none 58 [some (.ref 39), some (vI (code : Int)), some (vI rest), some (vI (k : Int)), some (vI ((W : Int) - (n : Int)))] [] (hp (uS S W l)) 0 0 (Q9) := by
    intro Q9 k hk rest n
    induction n with
    | zero =>
      intro l M hn hl hM hm K
      refine sx_iload (p1 := 60) dX12_unfolds_58 rfl rfl ?_
      refine sx_aload_n (p1 := 61) dX12_unfolds_60 rfl rfl ?_
      refine sx_get (v := vI (S.1 33)) (p1 := 64) dX12_unfolds_61 rfl fl_X12_106 (hp_c39 _) rfl ?_
      rw [hW]
      refine sx_icmp_ge (p1 := 67) (tg := 104) dX12_unfolds_64 rfl rfl (by omega) (by omega) (fun q64 => ?_) (fun q64 => absurd q64 (by omega))
      refine sx_iinc (lo1 := [some _, some _, some _, some _, some _]) (p1 := 107) dX12_unfolds_104 rfl (by decide) rfl rfl ?_
      refine sx_goto (p1 := 49) (tg := 49) dX12_unfolds_107 rfl rfl ?_
      refine sx_drop [true, true, true, true, false] (lo1 := [some _, some _, some _, some _, none]) rfl ?_
      exact K
    | succ n ih =>
      intro l M hn hl hM hm K
      have j1 : (W : Int) - ((n + 1 : Nat) : Int) = ((W - 1 - n : Nat) : Int) := by omega
      have g1 := hM (W - 1 - n)
      have g2 := hM k
      have r1 : rwM W (S.2 52) l (W - 1 - n) = ((l.getD (W - 1 - n) 0 : Nat) : Int) := rwM_at (by omega)
      have r2 : rwM W (S.2 52) l k = ((l.getD k 0 : Nat) : Int) := rwM_at hk
      rw [j1]
      refine sx_iload (p1 := 60) dX12_unfolds_58 rfl rfl ?_
      refine sx_aload_n (p1 := 61) dX12_unfolds_60 rfl rfl ?_
      refine sx_get (v := vI (S.1 33)) (p1 := 64) dX12_unfolds_61 rfl fl_X12_106 (hp_c39 _) rfl ?_
      rw [hW]
      refine sx_icmp_ge (p1 := 67) (tg := 104) dX12_unfolds_64 rfl rfl (by omega) (by omega) (fun q64 => absurd q64 (by omega)) (fun q64 => ?_)
      refine sx_aload_n (p1 := 68) dX12_unfolds_67 rfl rfl ?_
      refine sx_get (p1 := 71) dX12_unfolds_68 rfl fl_X12_47 (hp_c39 _) rfl ?_
      refine sx_iload (p1 := 73) dX12_unfolds_71 rfl rfl ?_
      refine sx_dup2 (p1 := 74) dX12_unfolds_73 rfl rfl rfl ?_
      refine sx_iald (g := rwM W (S.2 52) l) (p1 := 75) dX12_unfolds_74 rfl (hp_c52 _) (by omega) (by decide) ?_
      rw [Int.toNat_natCast]
      rw [r1]
      refine sx_aload_n (p1 := 76) dX12_unfolds_75 rfl rfl ?_
      refine sx_get (p1 := 79) dX12_unfolds_76 rfl fl_X12_47 (hp_c39 _) rfl ?_
      refine sx_iload (p1 := 81) dX12_unfolds_79 rfl rfl ?_
      refine sx_iald (g := rwM W (S.2 52) l) (p1 := 82) dX12_unfolds_81 rfl (hp_c52 _) (by omega) (by decide) ?_
      rw [Int.toNat_natCast]
      rw [r1]
      refine sx_aload_n (p1 := 83) dX12_unfolds_82 rfl rfl ?_
      refine sx_get (p1 := 86) dX12_unfolds_83 rfl fl_X12_47 (hp_c39 _) rfl ?_
      refine sx_iload_n (p1 := 87) dX12_unfolds_86 rfl rfl ?_
      refine sx_iald (g := rwM W (S.2 52) l) (p1 := 88) dX12_unfolds_87 rfl (hp_c52 _) (by omega) (by decide) ?_
      rw [Int.toNat_natCast]
      rw [r2]
      refine sx_icmp_lt (p1 := 91) (tg := 95) dX12_unfolds_88 rfl rfl (by omega) (by omega) (fun q88 => ?_) (fun q88 => ?_)
      · have zu : u2 W k (n + 1) l = u2 W k n (l.set (W - 1 - n) (l.getD (W - 1 - n) 0 + 0)) := by
          rw [u2, if_neg (by omega)]
        rw [zu] at K
        refine sx_iconst (p1 := 96) dX12_unfolds_95 rfl ?_
        refine sx_iadd (p1 := 97) dX12_unfolds_96 rfl ?_
        refine sx_iast (p1 := 98) dX12_unfolds_97 rfl (hp_c52 _) (by omega) (by decide) (hp_a52 _ _ _) ?_
        refine sx_iinc (lo1 := [some _, some _, some _, some _, some _]) (p1 := 101) dX12_unfolds_98 rfl (by decide) rfl rfl ?_
        refine sx_goto (p1 := 58) (tg := 58) dX12_unfolds_101 rfl rfl ?_
        first
        | (have zs := uS_s (S := S) (W := W) (l := l) (k := W - 1 - n) (x := l.getD (W - 1 - n) 0 + 0) hl (by omega); have h9 := ih (l.set (W - 1 - n) (l.getD (W - 1 - n) 0 + 0)) (M + 1) (by omega) (by simp [hl]) (set_b hM (by omega)) (by omega) K; rw [← zs] at h9; rw [show (W : Int) - (n : Int) = ((W - 1 - n : Nat) : Int) + 1 by omega] at h9; exact h9)
        | (have zs := uS_s (S := S) (W := W) (l := l) (k := W - 1 - n) (x := l.getD (W - 1 - n) 0 + 1) hl (by omega); have h9 := ih (l.set (W - 1 - n) (l.getD (W - 1 - n) 0 + 1)) (M + 1) (by omega) (by simp [hl]) (set_b hM (by omega)) (by omega) K; rw [← zs] at h9; rw [show (W : Int) - (n : Int) = ((W - 1 - n : Nat) : Int) + 1 by omega] at h9; exact h9)
      · have zu : u2 W k (n + 1) l = u2 W k n (l.set (W - 1 - n) (l.getD (W - 1 - n) 0 + 1)) := by
          rw [u2, if_pos (by omega)]
        rw [zu] at K
        refine sx_iconst (p1 := 92) dX12_unfolds_91 rfl ?_
        refine sx_goto (p1 := 96) (tg := 96) dX12_unfolds_92 rfl rfl ?_
        refine sx_iadd (p1 := 97) dX12_unfolds_96 rfl ?_
        refine sx_iast (p1 := 98) dX12_unfolds_97 rfl (hp_c52 _) (by omega) (by decide) (hp_a52 _ _ _) ?_
        refine sx_iinc (lo1 := [some _, some _, some _, some _, some _]) (p1 := 101) dX12_unfolds_98 rfl (by decide) rfl rfl ?_
        refine sx_goto (p1 := 58) (tg := 58) dX12_unfolds_101 rfl rfl ?_
        first
        | (have zs := uS_s (S := S) (W := W) (l := l) (k := W - 1 - n) (x := l.getD (W - 1 - n) 0 + 0) hl (by omega); have h9 := ih (l.set (W - 1 - n) (l.getD (W - 1 - n) 0 + 0)) (M + 1) (by omega) (by simp [hl]) (set_b hM (by omega)) (by omega) K; rw [← zs] at h9; rw [show (W : Int) - (n : Int) = ((W - 1 - n : Nat) : Int) + 1 by omega] at h9; exact h9)
        | (have zs := uS_s (S := S) (W := W) (l := l) (k := W - 1 - n) (x := l.getD (W - 1 - n) 0 + 1) hl (by omega); have h9 := ih (l.set (W - 1 - n) (l.getD (W - 1 - n) 0 + 1)) (M + 1) (by omega) (by simp [hl]) (set_b hM (by omega)) (by omega) K; rw [← zs] at h9; rw [show (W : Int) - (n : Int) = ((W - 1 - n : Nat) : Int) + 1 by omega] at h9; exact h9)
  have outer : ∀ (n : Nat) (rest : Int) (l : List Nat) (M : Nat), n ≤ W → l.length = W → (∀ i, l.getD i 0 ≤ M) → M + 6 * n ≤ 1000 → Rn X RX12 false cX12_unfolds 5 0 0 0 none 49 [some (.ref 39), some (vI (code : Int)), some (vI rest), some (vI ((n : Int) - 1)), none] [] (hp (uS S W l)) 0 0 (sx_is none (hp (uS S W (u3 W n l)))) := by
    intro n
    induction n with
    | zero =>
      intro rest l M hn hl hM hm
      refine sx_iload_n (p1 := 50) dX12_unfolds_49 rfl rfl ?_
      refine sx_if_lt (p1 := 53) (tg := 110) dX12_unfolds_50 rfl rfl (by omega) (fun q50 => ?_) (fun q50 => absurd q50 (by omega))
      exact sx_vret dX12_unfolds_110 rfl (sx_rv (by rfl))
    | succ n ih =>
      intro rest l M hn hl hM hm
      rw [show ((n + 1 : Nat) : Int) - 1 = (n : Int) by omega]
      refine sx_iload_n (p1 := 50) dX12_unfolds_49 rfl rfl ?_
      refine sx_if_lt (p1 := 53) (tg := 110) dX12_unfolds_50 rfl rfl (by omega) (fun q50 => absurd q50 (by omega)) (fun q50 => ?_)
      refine sx_iload_n (p1 := 54) dX12_unfolds_53 rfl rfl ?_
      refine sx_iconst (p1 := 55) dX12_unfolds_54 rfl ?_
      refine sx_iadd (p1 := 56) dX12_unfolds_55 rfl ?_
      refine sx_istore (lo1 := [some _, some _, some _, some _, some _]) (p1 := 58) dX12_unfolds_56 rfl (by decide) rfl ?_
      have h9 := inner _ n (by omega) rest (W - 1 - n) l M (Nat.le_refl _) hl hM (by omega) (ih rest (u2 W n (W - 1 - n) l) (M + (W - 1 - n)) (by omega) (by rw [u2_len, hl]) (u2_b W n _ l M hM) (by omega))
      rw [show (W : Int) - ((W - 1 - n : Nat) : Int) = (n : Int) + 1 by omega] at h9
      exact h9
  have first_ : ∀ (n rest : Nat) (l : List Nat), n ≤ W → rest ≤ 1000 → l.length = W → (∀ i, l.getD i 0 ≤ 100) → unf W code l0 = u3 W W (u1 W n rest l) → Rn X RX12 false cX12_unfolds 5 0 0 0 none 9 [some (.ref 39), some (vI (code : Int)), some (vI (rest : Int)), some (vI ((n : Int) - 1)), none] [] (hp (uS S W l)) 0 0 (sx_is none (hp (uS S W (unf W code l0)))) := by
    intro n
    induction n with
    | zero =>
      intro rest l hn hr hl hM he
      rw [he]
      refine sx_iload_n (p1 := 10) dX12_unfolds_9 rfl rfl ?_
      refine sx_if_lt (p1 := 13) (tg := 42) dX12_unfolds_10 rfl rfl (by omega) (fun q10 => ?_) (fun q10 => absurd q10 (by omega))
      refine sx_aload_n (p1 := 43) dX12_unfolds_42 rfl rfl ?_
      refine sx_get (v := vI (S.1 33)) (p1 := 46) dX12_unfolds_43 rfl fl_X12_106 (hp_c39 _) rfl ?_
      refine sx_iconst (p1 := 47) dX12_unfolds_46 rfl ?_
      rw [hW]
      refine sx_isub (p1 := 48) dX12_unfolds_47 rfl ?_
      refine sx_istore_n (lo1 := [some _, some _, some _, some _, none]) (p1 := 49) dX12_unfolds_48 rfl (by decide) rfl ?_
      exact outer W _ l 100 (Nat.le_refl _) hl hM (by omega)
    | succ n ih =>
      intro rest l hn hr hl hM he
      rw [show ((n + 1 : Nat) : Int) - 1 = (n : Int) by omega]
      have d1 : (W : Int) - (n : Int) = ((W - n : Nat) : Int) := by omega
      have d2 : (rest : Int) % ((W - n : Nat) : Int) = ((rest % (W - n) : Nat) : Int) := rfl
      have d3 : (rest : Int) / ((W - n : Nat) : Int) = ((rest / (W - n) : Nat) : Int) := rfl
      have d4 := Nat.mod_lt rest (show 0 < W - n by omega)
      have d5 := Nat.div_le_self rest (W - n)
      have zs := uS_s (S := S) (W := W) (l := l) (k := n) (x := rest % (W - n)) hl (by omega)
      refine sx_iload_n (p1 := 10) dX12_unfolds_9 rfl rfl ?_
      refine sx_if_lt (p1 := 13) (tg := 42) dX12_unfolds_10 rfl rfl (by omega) (fun q10 => absurd q10 (by omega)) (fun q10 => ?_)
      refine sx_aload_n (p1 := 14) dX12_unfolds_13 rfl rfl ?_
      refine sx_get (p1 := 17) dX12_unfolds_14 rfl fl_X12_47 (hp_c39 _) rfl ?_
      refine sx_iload_n (p1 := 18) dX12_unfolds_17 rfl rfl ?_
      refine sx_iload_n (p1 := 19) dX12_unfolds_18 rfl rfl ?_
      refine sx_aload_n (p1 := 20) dX12_unfolds_19 rfl rfl ?_
      refine sx_get (v := vI (S.1 33)) (p1 := 23) dX12_unfolds_20 rfl fl_X12_106 (hp_c39 _) rfl ?_
      refine sx_iload_n (p1 := 24) dX12_unfolds_23 rfl rfl ?_
      refine sx_isub (p1 := 25) dX12_unfolds_24 rfl ?_
      rw [hW, d1]
      refine sx_irem (p1 := 26) dX12_unfolds_25 rfl (by omega) (by omega) ?_
      rw [d2]
      refine sx_iast (p1 := 27) dX12_unfolds_26 rfl (hp_c52 _) (by omega) (by decide) (hp_a52 _ _ _) ?_
      rw [Int.toNat_natCast, zs]
      refine sx_iload_n (p1 := 28) dX12_unfolds_27 rfl rfl ?_
      refine sx_aload_n (p1 := 29) dX12_unfolds_28 rfl rfl ?_
      refine sx_get (v := vI (S.1 33)) (p1 := 32) dX12_unfolds_29 rfl fl_X12_106 (hp_c39 _) rfl ?_
      refine sx_iload_n (p1 := 33) dX12_unfolds_32 rfl rfl ?_
      refine sx_isub (p1 := 34) dX12_unfolds_33 rfl ?_
      rw [hW, d1]
      refine sx_idiv (p1 := 35) dX12_unfolds_34 rfl (by omega) (by omega) ?_
      rw [d3]
      refine sx_istore_n (lo1 := [some _, some _, some _, some _, none]) (p1 := 36) dX12_unfolds_35 rfl (by decide) rfl ?_
      refine sx_iinc (lo1 := [some _, some _, some _, some _, none]) (p1 := 39) dX12_unfolds_36 rfl (by decide) rfl rfl ?_
      refine sx_goto (p1 := 9) (tg := 9) dX12_unfolds_39 rfl rfl ?_
      exact ih _ _ (by omega) (by omega) (by simp [hl]) (set_c hM (by omega)) he
  refine Ct.of false [some (.ref 39), some (vI (code : Int)), none, none, none] (plainFor_of_name (by decide)) (fun h => by cases h) (Nat.le_of_ble_eq_true rfl) (fun _ => rfl) sx_isl ?_
  refine sx_iload_n (p1 := 1) dX12_unfolds_0 rfl rfl ?_
  refine sx_istore_n (lo1 := [some _, some _, some _, none, none]) (p1 := 2) dX12_unfolds_1 rfl (by decide) rfl ?_
  refine sx_aload_n (p1 := 3) dX12_unfolds_2 rfl rfl ?_
  refine sx_get (v := vI (S.1 33)) (p1 := 6) dX12_unfolds_3 rfl fl_X12_106 (hp_c39 _) rfl ?_
  refine sx_iconst (p1 := 7) dX12_unfolds_6 rfl ?_
  rw [hW]
  refine sx_isub (p1 := 8) dX12_unfolds_7 rfl ?_
  refine sx_istore_n (lo1 := [some _, some _, some _, some _, none]) (p1 := 9) dX12_unfolds_8 rfl (by decide) rfl ?_
  exact first_ W code l0 (Nat.le_refl _) hc hl0 hM0 rfl
