/-- what walker b, so many places ahead, does to one -/
def feR (V : Vw) (gap b pl hel : Int) : Int := if (0 ≤ b ∧ b < V.1 1) ∧ mApart V 0 pl = 0 then mFeet V (mMore V b) (pl * gap) (1 + V.1 3) hel else 0
theorem feR_b {V : Vw} (hV : okV V) (gap b pl hel : Int) : 0 ≤ feR V gap b pl hel ∧ feR V gap b pl hel ≤ 4096 := by
  have := mFeet_b hV (mMore V b) (pl * gap) (1 + V.1 3) hel
  unfold feR
  split <;> omega
def suZ (V : Vw) (gap : Int) (j : Nat) : Int := mSun V ((j / 2 : Nat) : Int) gap ((j % 2 : Nat) : Int)
def feZ (V : Vw) (gap : Int) (j : Nat) : Int := feR V gap ((j / 12 : Nat) : Int) ((j / 2 % 6 : Nat) : Int) ((j % 2 : Nat) : Int)
/-- to the one that goes as number f of a row, by the sun and by those ahead -/
def hAt (V : Vw) (gap : Int) (ro : Nat → Int) (f : Nat) (hel : Int) : Int := mSun V f gap hel + sumN f (fun a => feR V gap (ro a) ((f : Int) - (a : Int)) hel)
theorem hAt_b {V : Vw} (hV : okV V) (gap : Int) (ro : Nat → Int) {f : Nat} (hf : f ≤ 6) (hel : Int) : 0 ≤ hAt V gap ro f hel ∧ hAt V gap ro f hel ≤ 200000 := by
  have h1 := mSun_b hV f gap hel
  have h2 := sumN_le (f := fun a : Nat => feR V gap (ro a) ((f : Int) - (a : Int)) hel) (b := 4096) f (fun i _ => feR_b hV _ _ _ _)
  unfold hAt
  omega
/-- row, least, best -/
abbrev OT : Type := (Nat → Int) × Int × (Nat → Int)
def oS (S : St) (t : OT) : St := si (sA (sA S 20 t.1) 21 t.2.2) 12 t.2.1
theorem oS_0 (S : St) (x : Int) : si S 12 x = oS S (S.2 20, x, S.2 21) := by
  refine Prod.ext rfl ?_
  funext b
  simp only [oS, si, sA, sx_u]
  by_cases h1 : b = 21
  · subst h1
    simp
  · by_cases h2 : b = 20
    · subst h2
      simp
    · simp [h1, h2]
theorem oS_r (S : St) (t : OT) (i : Nat) (x : Int) : sa (oS S t) 20 i x = oS S (sx_u t.1 i x, t.2) := by
  refine Prod.ext rfl ?_
  funext b
  simp only [oS, si, sA, sa, sx_u]
  by_cases h1 : b = 20
  · subst h1
    simp
  · by_cases h2 : b = 21
    · subst h2
      simp
    · simp [h1, h2]
theorem oS_b (S : St) (t : OT) (x : Int) (f : Nat → Int) : sA (si (oS S t) 12 x) 21 f = oS S (t.1, x, f) := by
  refine Prod.ext ?_ ?_
  · funext b
    simp only [oS, si, sA, sx_u]
    by_cases h1 : b = 12 <;> simp [h1]
  · funext b
    simp only [oS, si, sA, sx_u]
    by_cases h1 : b = 21 <;> simp [h1]
def eaN : Nat → (Nat → OT → OT) → OT → OT
  | 0, _, t => t
  | n + 1, g, t => g n (eaN n g t)
def oEx (V : Vw) (gap : Int) : Nat → Nat → Nat → Int → OT → OT
  | 0, _, _, h, t => if t.2.1 ≤ h then t else (t.1, h, va_cpy t.1 t.2.2 0 0 6)
  | r + 1, f, u, h, t => if t.2.1 ≤ h then t else eaN (V.1 1).toNat (fun w t => if bitZ u w = 0 then oEx V gap r (f + 1) (u ||| 2 ^ w) (h + hAt V gap (sx_u t.1 f w) f (V.2 4 w)) (sx_u t.1 f w, t.2) else t) t
def oG (V : Vw) (gap : Int) (r f u : Nat) (h : Int) (w : Nat) (t : OT) : OT := if bitZ u w = 0 then oEx V gap r (f + 1) (u ||| 2 ^ w) (h + hAt V gap (sx_u t.1 f w) f (V.2 4 w)) (sx_u t.1 f w, t.2) else t
def okO (t : OT) : Prop := (∀ a, 0 ≤ t.1 a ∧ t.1 a ≤ 5) ∧ 0 ≤ t.2.1 ∧ t.2.1 ≤ 9223372036854775807
theorem eaN_ok {g : Nat → OT → OT} : ∀ (n : Nat) (t : OT), (∀ w t, w < n → okO t → okO (g w t)) → okO t → okO (eaN n g t)
  | 0, _, _, h => h
  | n + 1, t, hg, h => hg n _ (by omega) (eaN_ok n t (fun w t hw => hg w t (by omega)) h)
theorem oEx_ok {V : Vw} (hV : okV V) (gap : Int) : ∀ (r f u : Nat) (h : Int) (t : OT), f + r ≤ 6 → (0 ≤ h ∧ h ≤ (f : Int) * 200000) → okO t → okO (oEx V gap r f u h t)
  | 0, f, u, h, t, hf, hh, ht => by
    rw [oEx]
    split
    · exact ht
    · exact ⟨ht.1, by show 0 ≤ h; omega, by show h ≤ _; omega⟩
  | r + 1, f, u, h, t, hf, hh, ht => by
    rw [oEx]
    split
    · exact ht
    · refine eaN_ok _ _ (fun w t hw h1 => ?_) ht
      have h5 := hV.2.1
      have h6 := hAt_b hV gap (sx_u t.1 f w) (f := f) (by omega) (V.2 4 w)
      show okO (if _ then _ else _)
      split
      · refine oEx_ok hV gap r (f + 1) _ _ _ (by omega) (by omega) ⟨fun a => ?_, h1.2⟩
        show 0 ≤ sx_u t.1 f w a ∧ sx_u t.1 f w a ≤ 5
        unfold sx_u
        split
        · omega
        · exact h1.1 a
      · exact h1
theorem or_ok : ∀ u : Nat, u < 64 → ∀ w : Nat, w < 6 → sx_or u (sx_shl 1 w) = ((u ||| 2 ^ w : Nat) : Int) ∧ u ||| 2 ^ w < 64 := by decide +kernel
/-- the rows of suns and of feet are right -/
def okU (S : St) : Prop := (∀ j, j < 12 → S.2 19 j = suZ (cV S) (S.1 6) j) ∧ ∀ j, j < 72 → S.2 18 j = feZ (cV S) (S.1 6) j
def oP (S : St) : St := sA (sA S 19 (wrF (S.2 19) (suZ (cV S) (S.1 6)) 12)) 18 (wrF (S.2 18) (feZ (cV S) (S.1 6)) 72)
theorem oP_ok (S : St) : okU (oP S) := by
  refine ⟨fun j hj => ?_, fun j hj => ?_⟩
  · show wrF (S.2 19) (suZ (cV S) (S.1 6)) 12 j = suZ (cV S) (S.1 6) j
    unfold wrF
    rw [if_pos hj]
  · show wrF (S.2 18) (feZ (cV S) (S.1 6)) 72 j = feZ (cV S) (S.1 6) j
    unfold wrF
    rw [if_pos hj]
theorem sA_18 (S : St) (f : Nat → Int) : sA (sA S 19 f) 18 (S.2 18) = sA S 19 f := sA_self (sA S 19 f) 18
set_option maxRecDepth 20000 in
theorem c_X3_prepare {X : sx_X} {S : St} (hV : okV (cV S)) (hF : okF S) : Ct X yX3_prepare cX3_prepare 6 none 3 0 0 [.ref 17] (hp S) (sx_is none (hp (oP S))) := by
  have b0 : 0 ≤ S.1 2 ∧ S.1 2 ≤ 16 := hV.1
  have b1 : 0 ≤ S.1 4 ∧ S.1 4 ≤ 6 := hV.2.1
  have b2 : 0 ≤ S.1 6 ∧ S.1 6 ≤ 99 := hV.2.2.1
  have b3 : 0 ≤ S.1 7 ∧ S.1 7 ≤ 1 := hV.2.2.2.1
  have b4 : 0 ≤ S.1 8 ∧ S.1 8 ≤ 16 := hV.2.2.2.2.1
  have b5 : 0 ≤ S.1 9 ∧ S.1 9 ≤ 999 := hV.2.2.2.2.2.1
  have b6 : 0 ≤ S.1 10 ∧ S.1 10 ≤ 1999 := hV.2.2.2.2.2.2.1
  have b7 : 0 ≤ S.1 11 ∧ S.1 11 ≤ 16 := hV.2.2.2.2.2.2.2.1
  have bK : ∀ q, 0 ≤ gK S q ∧ gK S q ≤ 3 := hV.2.2.2.2.2.2.2.2.1
  have bL : ∀ q, 0 ≤ gL S q ∧ gL S q ≤ 9 := hV.2.2.2.2.2.2.2.2.2.1
  have bW : ∀ q, 0 ≤ pW S q ∧ pW S q ≤ 9 := hV.2.2.2.2.2.2.2.2.2.2.1
  have bS : ∀ q, 0 ≤ pS S q ∧ pS S q ≤ 9 := hV.2.2.2.2.2.2.2.2.2.2.2.1
  have bH : ∀ q, 0 ≤ pH S q ∧ pH S q ≤ 1 := hV.2.2.2.2.2.2.2.2.2.2.2.2
  have c0 : 0 ≤ (cV S).1 0 ∧ (cV S).1 0 ≤ 16 := b0
  have c1 : 0 ≤ (cV S).1 1 ∧ (cV S).1 1 ≤ 6 := b1
  have c2 : 0 ≤ (cV S).1 2 ∧ (cV S).1 2 ≤ 99 := b2
  have c3 : 0 ≤ (cV S).1 3 ∧ (cV S).1 3 ≤ 1 := b3
  have c4 : 0 ≤ (cV S).1 4 ∧ (cV S).1 4 ≤ 16 := b4
  have c5 : 0 ≤ (cV S).1 5 ∧ (cV S).1 5 ≤ 999 := b5
  have c6 : 0 ≤ (cV S).1 6 ∧ (cV S).1 6 ≤ 1999 := b6
  have c7 : 0 ≤ (cV S).1 7 ∧ (cV S).1 7 ≤ 16 := b7
  have feet : ∀ (n i : Nat), i + n = 72 → Rn X RX3 false cX3_prepare 6 3 0 0 none 45 [some (.ref 17), some (vI (i : Int)), none, none, none, none] [] (hp (sA (sA S 19 (wrF (S.2 19) (suZ (cV S) (S.1 6)) 12)) 18 (wrF (S.2 18) (feZ (cV S) (S.1 6)) i))) 0 0 (sx_is none (hp (oP S))) := by
    intro n
    induction n with
    | zero =>
      intro i hi 
      rw [Nat.add_zero] at hi
      subst hi
      refine sx_iload_n (p1 := 46) dX3_prepare_45 rfl rfl ?_
      refine sx_aload_n (p1 := 47) dX3_prepare_46 rfl rfl ?_
      refine sx_get (p1 := 50) dX3_prepare_47 rfl fl_X3_9 (hp_c17 _) rfl ?_
      refine sx_alen (p1 := 51) dX3_prepare_50 rfl (hp_c18 _) (fun _ => rfl) ?_
      refine sx_icmp_ge (p1 := 54) (tg := 155) dX3_prepare_51 rfl rfl (by omega) (by omega) (fun q51 => ?_) (fun q51 => absurd q51 (by omega))
      exact sx_vret dX3_prepare_155 rfl (sx_rv (by rfl))
    | succ n ih =>
      intro i hi 
      have e1 : 0 ≤ (i : Int) / 12 ∧ (i : Int) / 12 ≤ 5 := by omega
      have e2 : 0 ≤ (i : Int) / 2 % 6 ∧ (i : Int) / 2 % 6 ≤ 5 := by omega
      have e3 := mul_b e2 b2
      have e4 := mMore_b hV ((i : Int) / 12)
      have e5 : mApart (cV S) 0 ((i : Int) / 2 % 6) = 0 ∨ mApart (cV S) 0 ((i : Int) / 2 % 6) = 1 := by unfold mApart; split <;> omega
      refine sx_iload_n (p1 := 46) dX3_prepare_45 rfl rfl ?_
      refine sx_aload_n (p1 := 47) dX3_prepare_46 rfl rfl ?_
      refine sx_get (p1 := 50) dX3_prepare_47 rfl fl_X3_9 (hp_c17 _) rfl ?_
      refine sx_alen (p1 := 51) dX3_prepare_50 rfl (hp_c18 _) (fun _ => rfl) ?_
      refine sx_icmp_ge (p1 := 54) (tg := 155) dX3_prepare_51 rfl rfl (by omega) (by omega) (fun q51 => absurd q51 (by omega)) (fun q51 => ?_)
      refine sx_iload_n (p1 := 55) dX3_prepare_54 rfl rfl ?_
      refine sx_bipush (p1 := 57) dX3_prepare_55 rfl (by decide) ?_
      refine sx_idiv (p1 := 58) dX3_prepare_57 rfl (by omega) (by omega) ?_
      refine sx_istore_n (lo1 := [some _, some _, some _, none, none, none]) (p1 := 59) dX3_prepare_58 rfl (by decide) rfl ?_
      refine sx_iload_n (p1 := 60) dX3_prepare_59 rfl rfl ?_
      refine sx_iconst (p1 := 61) dX3_prepare_60 rfl ?_
      refine sx_idiv (p1 := 62) dX3_prepare_61 rfl (by omega) (by omega) ?_
      refine sx_bipush (p1 := 64) dX3_prepare_62 rfl (by decide) ?_
      refine sx_irem (p1 := 65) dX3_prepare_64 rfl (by omega) (by omega) ?_
      refine sx_istore_n (lo1 := [some _, some _, some _, some _, none, none]) (p1 := 66) dX3_prepare_65 rfl (by decide) rfl ?_
      refine sx_aload_n (p1 := 67) dX3_prepare_66 rfl rfl ?_
      refine sx_get (p1 := 70) dX3_prepare_67 rfl fl_X3_25 (hp_c17 _) rfl ?_
      refine sx_iload_n (p1 := 71) dX3_prepare_70 rfl rfl ?_
      refine sx_callVr (p1 := 74) (As := [_]) (k1 := 0) (n1 := 0) dX3_prepare_71 rfl rfl (v_X5_has (V := cV S) rfl hV (by omega)) mt_X5_has ml_X3_50 (hp_c10 _) rfl rfl (Nat.le_of_ble_eq_true rfl) rfl (Nat.le_of_ble_eq_true rfl) rfl rfl (Nat.le_of_ble_eq_true rfl) (Nat.le_of_ble_eq_true rfl) ?_
      refine sx_if_eq (p1 := 77) (tg := 93) dX3_prepare_74 rfl rfl (by split <;> omega) (fun q74 => ?_) (fun q74 => ?_)
      · have zq : (0 : Int) = feZ (cV S) (S.1 6) i := (if_neg (fun q => by
          have q8 : 0 ≤ (i : Int) / 12 ∧ (i : Int) / 12 < (cV S).1 1 := q.1
          rw [if_pos q8] at q74
          omega)).symm
        refine sx_iconst (p1 := 94) dX3_prepare_93 rfl ?_
        refine sx_istore (lo1 := [some _, some _, some _, some _, some _, none]) (p1 := 96) dX3_prepare_94 rfl (by decide) rfl ?_
        refine sx_iload_n (p1 := 97) dX3_prepare_96 rfl rfl ?_
        refine sx_aload_n (p1 := 98) dX3_prepare_97 rfl rfl ?_
        refine sx_get (p1 := 101) dX3_prepare_98 rfl fl_X3_29 (hp_c17 _) rfl ?_
        refine sx_get (v := vI (S.1 6)) (p1 := 104) dX3_prepare_101 rfl fl_X3_56 (hp_c14 _) rfl ?_
        refine sx_imul (p1 := 105) dX3_prepare_104 rfl ?_
        refine sx_istore (lo1 := [some _, some _, some _, some _, some _, some _]) (p1 := 107) dX3_prepare_105 rfl (by decide) rfl ?_
        refine sx_aload_n (p1 := 108) dX3_prepare_107 rfl rfl ?_
        refine sx_get (p1 := 111) dX3_prepare_108 rfl fl_X3_9 (hp_c17 _) rfl ?_
        refine sx_iload_n (p1 := 112) dX3_prepare_111 rfl rfl ?_
        refine sx_iload (p1 := 114) dX3_prepare_112 rfl rfl ?_
        refine sx_if_eq (p1 := 117) (tg := 147) dX3_prepare_114 rfl rfl (by omega) (fun q114 => ?_) (fun q114 => absurd q114 (by omega))
        refine sx_lconst (y := 0) (p1 := 148) dX3_prepare_147 rfl (by decide) ?_
        refine sx_last (p1 := 149) dX3_prepare_148 rfl (hp_c18 _) (by omega) (by decide) (hp_a18 _ (i) _) ?_
        refine sx_iinc (lo1 := [some _, some _, some _, some _, some _, some _]) (p1 := 152) dX3_prepare_149 rfl (by decide) rfl rfl ?_
        refine sx_goto (p1 := 45) (tg := 45) dX3_prepare_152 rfl rfl ?_
        refine sx_drop [true, true, false, false, false, false] (lo1 := [some _, some _, none, none, none, none]) rfl ?_
        have h9 := ih (i + 1) (by omega)
        rw [← wrF_s _ _ i zq, ← sa_sA] at h9
        exact h9
      · have zq7 : (0 ≤ (i : Int) / 12 ∧ (i : Int) / 12 < (cV S).1 1) := Decidable.byContradiction (fun q => by rw [if_neg q] at q74; exact q74 rfl)
        refine sx_aload_n (p1 := 78) dX3_prepare_77 rfl rfl ?_
        refine sx_get (p1 := 81) dX3_prepare_78 rfl fl_X3_33 (hp_c17 _) rfl ?_
        refine sx_iconst (p1 := 82) dX3_prepare_81 rfl ?_
        refine sx_iload_n (p1 := 83) dX3_prepare_82 rfl rfl ?_
        refine sx_callVr (p1 := 86) (As := [_, _]) (k1 := 0) (n1 := 0) dX3_prepare_83 rfl rfl (v_X8_areApart (V := cV S) rfl hV (by omega) (by omega)) mt_X8_areApart ml_X3_68 (hp_c15 _) rfl rfl (Nat.le_of_ble_eq_true rfl) rfl (Nat.le_of_ble_eq_true rfl) rfl rfl (Nat.le_of_ble_eq_true rfl) (Nat.le_of_ble_eq_true rfl) ?_
        refine sx_if_ne (p1 := 89) (tg := 93) dX3_prepare_86 rfl rfl (by omega) (fun q86 => ?_) (fun q86 => ?_)
        · have zq : (0 : Int) = feZ (cV S) (S.1 6) i := (if_neg (fun q => q86 q.2)).symm
          refine sx_iconst (p1 := 94) dX3_prepare_93 rfl ?_
          refine sx_istore (lo1 := [some _, some _, some _, some _, some _, none]) (p1 := 96) dX3_prepare_94 rfl (by decide) rfl ?_
          refine sx_iload_n (p1 := 97) dX3_prepare_96 rfl rfl ?_
          refine sx_aload_n (p1 := 98) dX3_prepare_97 rfl rfl ?_
          refine sx_get (p1 := 101) dX3_prepare_98 rfl fl_X3_29 (hp_c17 _) rfl ?_
          refine sx_get (v := vI (S.1 6)) (p1 := 104) dX3_prepare_101 rfl fl_X3_56 (hp_c14 _) rfl ?_
          refine sx_imul (p1 := 105) dX3_prepare_104 rfl ?_
          refine sx_istore (lo1 := [some _, some _, some _, some _, some _, some _]) (p1 := 107) dX3_prepare_105 rfl (by decide) rfl ?_
          refine sx_aload_n (p1 := 108) dX3_prepare_107 rfl rfl ?_
          refine sx_get (p1 := 111) dX3_prepare_108 rfl fl_X3_9 (hp_c17 _) rfl ?_
          refine sx_iload_n (p1 := 112) dX3_prepare_111 rfl rfl ?_
          refine sx_iload (p1 := 114) dX3_prepare_112 rfl rfl ?_
          refine sx_if_eq (p1 := 117) (tg := 147) dX3_prepare_114 rfl rfl (by omega) (fun q114 => ?_) (fun q114 => absurd q114 (by omega))
          refine sx_lconst (y := 0) (p1 := 148) dX3_prepare_147 rfl (by decide) ?_
          refine sx_last (p1 := 149) dX3_prepare_148 rfl (hp_c18 _) (by omega) (by decide) (hp_a18 _ (i) _) ?_
          refine sx_iinc (lo1 := [some _, some _, some _, some _, some _, some _]) (p1 := 152) dX3_prepare_149 rfl (by decide) rfl rfl ?_
          refine sx_goto (p1 := 45) (tg := 45) dX3_prepare_152 rfl rfl ?_
          refine sx_drop [true, true, false, false, false, false] (lo1 := [some _, some _, none, none, none, none]) rfl ?_
          have h9 := ih (i + 1) (by omega)
          rw [← wrF_s _ _ i zq, ← sa_sA] at h9
          exact h9
        · have zq : mFeet (cV S) (mMore (cV S) ((i : Int) / 12)) ((i : Int) / 2 % 6 * S.1 6) (1 + (cV S).1 3) ((i : Int) % 2) = feZ (cV S) (S.1 6) i := (if_pos ⟨zq7, q86⟩).symm
          refine sx_iconst (p1 := 90) dX3_prepare_89 rfl ?_
          refine sx_goto (p1 := 94) (tg := 94) dX3_prepare_90 rfl rfl ?_
          refine sx_istore (lo1 := [some _, some _, some _, some _, some _, none]) (p1 := 96) dX3_prepare_94 rfl (by decide) rfl ?_
          refine sx_iload_n (p1 := 97) dX3_prepare_96 rfl rfl ?_
          refine sx_aload_n (p1 := 98) dX3_prepare_97 rfl rfl ?_
          refine sx_get (p1 := 101) dX3_prepare_98 rfl fl_X3_29 (hp_c17 _) rfl ?_
          refine sx_get (v := vI (S.1 6)) (p1 := 104) dX3_prepare_101 rfl fl_X3_56 (hp_c14 _) rfl ?_
          refine sx_imul (p1 := 105) dX3_prepare_104 rfl ?_
          refine sx_istore (lo1 := [some _, some _, some _, some _, some _, some _]) (p1 := 107) dX3_prepare_105 rfl (by decide) rfl ?_
          refine sx_aload_n (p1 := 108) dX3_prepare_107 rfl rfl ?_
          refine sx_get (p1 := 111) dX3_prepare_108 rfl fl_X3_9 (hp_c17 _) rfl ?_
          refine sx_iload_n (p1 := 112) dX3_prepare_111 rfl rfl ?_
          refine sx_iload (p1 := 114) dX3_prepare_112 rfl rfl ?_
          refine sx_if_eq (p1 := 117) (tg := 147) dX3_prepare_114 rfl rfl (by omega) (fun q114 => absurd q114 (by omega)) (fun q114 => ?_)
          refine sx_aload_n (p1 := 118) dX3_prepare_117 rfl rfl ?_
          refine sx_get (p1 := 121) dX3_prepare_118 rfl fl_X3_33 (hp_c17 _) rfl ?_
          refine sx_aload_n (p1 := 122) dX3_prepare_121 rfl rfl ?_
          refine sx_get (p1 := 125) dX3_prepare_122 rfl fl_X3_25 (hp_c17 _) rfl ?_
          refine sx_iload_n (p1 := 126) dX3_prepare_125 rfl rfl ?_
          refine sx_callVr (p1 := 129) (As := [_]) (k1 := 0) (n1 := 0) dX3_prepare_126 rfl rfl (v_X5_oddsMore (V := cV S) rfl hV (by omega)) mt_X5_oddsMore ml_X3_72 (hp_c10 _) rfl rfl (Nat.le_of_ble_eq_true rfl) rfl (Nat.le_of_ble_eq_true rfl) rfl rfl (Nat.le_of_ble_eq_true rfl) (Nat.le_of_ble_eq_true rfl) ?_
          refine sx_iload (p1 := 131) dX3_prepare_129 rfl rfl ?_
          refine sx_aload_n (p1 := 132) dX3_prepare_131 rfl rfl ?_
          refine sx_get (p1 := 135) dX3_prepare_132 rfl fl_X3_29 (hp_c17 _) rfl ?_
          refine sx_callVr (p1 := 138) (As := []) (k1 := 0) (n1 := 0) dX3_prepare_135 rfl rfl (v_X6_pace (V := cV S) rfl hV) mt_X6_pace ml_X3_76 (hp_c14 _) rfl rfl (Nat.le_of_ble_eq_true rfl) rfl (Nat.le_of_ble_eq_true rfl) rfl rfl (Nat.le_of_ble_eq_true rfl) (Nat.le_of_ble_eq_true rfl) ?_
          refine sx_iload_n (p1 := 139) dX3_prepare_138 rfl rfl ?_
          refine sx_iconst (p1 := 140) dX3_prepare_139 rfl ?_
          refine sx_irem (p1 := 141) dX3_prepare_140 rfl (by omega) (by omega) ?_
          refine sx_callVr (p1 := 144) (As := [_, _, _, _]) (k1 := 0) (n1 := 0) dX3_prepare_141 rfl rfl (v_X8_byFeet (V := cV S) rfl hV (by omega) (by omega) (by omega) (by omega)) mt_X8_byFeet ml_X3_80 (hp_c15 _) rfl rfl (Nat.le_of_ble_eq_true rfl) rfl (Nat.le_of_ble_eq_true rfl) rfl rfl (Nat.le_of_ble_eq_true rfl) (Nat.le_of_ble_eq_true rfl) ?_
          refine sx_goto (p1 := 148) (tg := 148) dX3_prepare_144 rfl rfl ?_
          refine sx_last (p1 := 149) dX3_prepare_148 rfl (hp_c18 _) (by omega) (by decide) (hp_a18 _ (i) _) ?_
          refine sx_iinc (lo1 := [some _, some _, some _, some _, some _, some _]) (p1 := 152) dX3_prepare_149 rfl (by decide) rfl rfl ?_
          refine sx_goto (p1 := 45) (tg := 45) dX3_prepare_152 rfl rfl ?_
          refine sx_drop [true, true, false, false, false, false] (lo1 := [some _, some _, none, none, none, none]) rfl ?_
          have h9 := ih (i + 1) (by omega)
          rw [← wrF_s _ _ i zq, ← sa_sA] at h9
          exact h9
  have suns : ∀ (n i : Nat), i + n = 12 → Rn X RX3 false cX3_prepare 6 3 0 0 none 2 [some (.ref 17), some (vI (i : Int)), none, none, none, none] [] (hp (sA S 19 (wrF (S.2 19) (suZ (cV S) (S.1 6)) i))) 0 0 (sx_is none (hp (oP S))) := by
    intro n
    induction n with
    | zero =>
      intro i hi 
      rw [Nat.add_zero] at hi
      subst hi
      refine sx_iload_n (p1 := 3) dX3_prepare_2 rfl rfl ?_
      refine sx_aload_n (p1 := 4) dX3_prepare_3 rfl rfl ?_
      refine sx_get (p1 := 7) dX3_prepare_4 rfl fl_X3_15 (hp_c17 _) rfl ?_
      refine sx_alen (p1 := 8) dX3_prepare_7 rfl (hp_c19 _) (fun _ => rfl) ?_
      refine sx_icmp_ge (p1 := 11) (tg := 43) dX3_prepare_8 rfl rfl (by omega) (by omega) (fun q8 => ?_) (fun q8 => absurd q8 (by omega))
      refine sx_iconst (p1 := 44) dX3_prepare_43 rfl ?_
      refine sx_istore_n (lo1 := [some _, some _, none, none, none, none]) (p1 := 45) dX3_prepare_44 rfl (by decide) rfl ?_
      have h9 := feet 72 0 rfl
      rw [wrF_0, sA_18] at h9
      exact h9
    | succ n ih =>
      intro i hi 
      refine sx_iload_n (p1 := 3) dX3_prepare_2 rfl rfl ?_
      refine sx_aload_n (p1 := 4) dX3_prepare_3 rfl rfl ?_
      refine sx_get (p1 := 7) dX3_prepare_4 rfl fl_X3_15 (hp_c17 _) rfl ?_
      refine sx_alen (p1 := 8) dX3_prepare_7 rfl (hp_c19 _) (fun _ => rfl) ?_
      refine sx_icmp_ge (p1 := 11) (tg := 43) dX3_prepare_8 rfl rfl (by omega) (by omega) (fun q8 => absurd q8 (by omega)) (fun q8 => ?_)
      refine sx_aload_n (p1 := 12) dX3_prepare_11 rfl rfl ?_
      refine sx_get (p1 := 15) dX3_prepare_12 rfl fl_X3_15 (hp_c17 _) rfl ?_
      refine sx_iload_n (p1 := 16) dX3_prepare_15 rfl rfl ?_
      refine sx_aload_n (p1 := 17) dX3_prepare_16 rfl rfl ?_
      refine sx_get (p1 := 20) dX3_prepare_17 rfl fl_X3_33 (hp_c17 _) rfl ?_
      refine sx_iload_n (p1 := 21) dX3_prepare_20 rfl rfl ?_
      refine sx_iconst (p1 := 22) dX3_prepare_21 rfl ?_
      refine sx_idiv (p1 := 23) dX3_prepare_22 rfl (by omega) (by omega) ?_
      refine sx_iload_n (p1 := 24) dX3_prepare_23 rfl rfl ?_
      refine sx_iconst (p1 := 25) dX3_prepare_24 rfl ?_
      refine sx_irem (p1 := 26) dX3_prepare_25 rfl (by omega) (by omega) ?_
      refine sx_aload_n (p1 := 27) dX3_prepare_26 rfl rfl ?_
      refine sx_get (p1 := 30) dX3_prepare_27 rfl fl_X3_29 (hp_c17 _) rfl ?_
      refine sx_get (v := vI (S.1 6)) (p1 := 33) dX3_prepare_30 rfl fl_X3_56 (hp_c14 _) rfl ?_
      refine sx_callVr (p1 := 36) (As := [_, _, _]) (k1 := 0) (n1 := 0) dX3_prepare_33 rfl rfl (v_X8_bySun (V := cV S) rfl hV hF (by omega) (by omega) (by omega)) mt_X8_bySun ml_X3_62 (hp_c15 _) rfl rfl (Nat.le_of_ble_eq_true rfl) rfl (Nat.le_of_ble_eq_true rfl) rfl rfl (Nat.le_of_ble_eq_true rfl) (Nat.le_of_ble_eq_true rfl) ?_
      refine sx_last (p1 := 37) dX3_prepare_36 rfl (hp_c19 _) (by omega) (by decide) (hp_a19 _ (i) _) ?_
      refine sx_iinc (lo1 := [some _, some _, none, none, none, none]) (p1 := 40) dX3_prepare_37 rfl (by decide) rfl rfl ?_
      refine sx_goto (p1 := 2) (tg := 2) dX3_prepare_40 rfl rfl ?_
      have h9 := ih (i + 1) (by omega)
      rw [← wrF_s _ _ i rfl, ← sa_sA] at h9
      exact h9
  refine Ct.of false [some (.ref 17), none, none, none, none, none] (plainFor_of_name (by decide)) (fun h => by cases h) (Nat.le_of_ble_eq_true rfl) (fun _ => rfl) sx_isl ?_
  refine sx_iconst (p1 := 1) dX3_prepare_0 rfl ?_
  refine sx_istore_n (lo1 := [some _, some _, none, none, none, none]) (p1 := 2) dX3_prepare_1 rfl (by decide) rfl ?_
  have h9 := suns 12 0 rfl
  rw [wrF_0, sA_self] at h9
  exact h9
set_option maxRecDepth 20000 in
theorem c_X3_harmAt {X : sx_X} {S : St} {fi : Nat} {he : Int} {t : OT} (hV : okV (cV S)) (hU : okU S) (hO : okO t) (hf : fi < 6) (hh : 0 ≤ he ∧ he ≤ 1) : Ct X yX3_harmAt cX3_harmAt 8 (some .long) 0 0 0 [.ref 17, vI (fi : Int), vI he] (hp (oS S t)) (sx_is (some (vJ (hAt (cV S) (S.1 6) t.1 fi he))) (hp (oS S t))) := by
  have b0 : 0 ≤ S.1 2 ∧ S.1 2 ≤ 16 := hV.1
  have b1 : 0 ≤ S.1 4 ∧ S.1 4 ≤ 6 := hV.2.1
  have b2 : 0 ≤ S.1 6 ∧ S.1 6 ≤ 99 := hV.2.2.1
  have b3 : 0 ≤ S.1 7 ∧ S.1 7 ≤ 1 := hV.2.2.2.1
  have b4 : 0 ≤ S.1 8 ∧ S.1 8 ≤ 16 := hV.2.2.2.2.1
  have b5 : 0 ≤ S.1 9 ∧ S.1 9 ≤ 999 := hV.2.2.2.2.2.1
  have b6 : 0 ≤ S.1 10 ∧ S.1 10 ≤ 1999 := hV.2.2.2.2.2.2.1
  have b7 : 0 ≤ S.1 11 ∧ S.1 11 ≤ 16 := hV.2.2.2.2.2.2.2.1
  have bK : ∀ q, 0 ≤ gK S q ∧ gK S q ≤ 3 := hV.2.2.2.2.2.2.2.2.1
  have bL : ∀ q, 0 ≤ gL S q ∧ gL S q ≤ 9 := hV.2.2.2.2.2.2.2.2.2.1
  have bW : ∀ q, 0 ≤ pW S q ∧ pW S q ≤ 9 := hV.2.2.2.2.2.2.2.2.2.2.1
  have bS : ∀ q, 0 ≤ pS S q ∧ pS S q ≤ 9 := hV.2.2.2.2.2.2.2.2.2.2.2.1
  have bH : ∀ q, 0 ≤ pH S q ∧ pH S q ≤ 1 := hV.2.2.2.2.2.2.2.2.2.2.2.2
  have c0 : 0 ≤ (cV S).1 0 ∧ (cV S).1 0 ≤ 16 := b0
  have c1 : 0 ≤ (cV S).1 1 ∧ (cV S).1 1 ≤ 6 := b1
  have c2 : 0 ≤ (cV S).1 2 ∧ (cV S).1 2 ≤ 99 := b2
  have c3 : 0 ≤ (cV S).1 3 ∧ (cV S).1 3 ≤ 1 := b3
  have c4 : 0 ≤ (cV S).1 4 ∧ (cV S).1 4 ≤ 16 := b4
  have c5 : 0 ≤ (cV S).1 5 ∧ (cV S).1 5 ≤ 999 := b5
  have c6 : 0 ≤ (cV S).1 6 ∧ (cV S).1 6 ≤ 1999 := b6
  have c7 : 0 ≤ (cV S).1 7 ∧ (cV S).1 7 ≤ 16 := b7
  have u1 := hU.1 (2 * (fi : Int) + he).toNat (by omega)
  have u2 : suZ (cV S) (S.1 6) (2 * (fi : Int) + he).toNat = mSun (cV S) fi (S.1 6) he := by
    unfold suZ
    rw [show (2 * (fi : Int) + he).toNat / 2 = fi by omega, show (((2 * (fi : Int) + he).toNat % 2 : Nat) : Int) = he by omega]
  rw [u2] at u1
  have u3 := mSun_b hV fi (S.1 6) he
  have key : ∀ (n i : Nat), i + n = fi → Rn X RX3 false cX3_harmAt 8 0 0 0 (some .long) 34 [some (.ref 17), some (vI (fi : Int)), some (vI he), some (vI (2 * (fi : Int) + he)), some (vJ (mSun (cV S) fi (S.1 6) he + sumN i (fun a : Nat => feR (cV S) (S.1 6) (t.1 a) ((fi : Int) - (a : Int)) he))), none, some (vI (i : Int)), none] [] (hp (oS S t)) 0 0 (sx_is (some (vJ (hAt (cV S) (S.1 6) t.1 fi he))) (hp (oS S t))) := by
    intro n
    induction n with
    | zero =>
      intro i hi 
      rw [Nat.add_zero] at hi
      subst hi
      refine sx_iload (p1 := 36) dX3_harmAt_34 rfl rfl ?_
      refine sx_iload_n (p1 := 37) dX3_harmAt_36 rfl rfl ?_
      refine sx_icmp_ge (p1 := 40) (tg := 104) dX3_harmAt_37 rfl rfl (by omega) (by omega) (fun q37 => ?_) (fun q37 => absurd q37 (by omega))
      refine sx_lload (p1 := 106) dX3_harmAt_104 rfl rfl ?_
      exact sx_lret dX3_harmAt_106 rfl (sx_rj (by first | rfl | omega) (by rfl))
    | succ n ih =>
      intro i hi 
      have r1 := hO.1 i
      have x1 : ((t.1 i * 6 + (fi : Int) - (i : Int)) * 2 + he).toNat / 12 = (t.1 i).toNat := by omega
      have x2 : ((t.1 i * 6 + (fi : Int) - (i : Int)) * 2 + he).toNat / 2 % 6 = fi - i := by omega
      have x3 : ((t.1 i * 6 + (fi : Int) - (i : Int)) * 2 + he).toNat % 2 = he.toNat := by omega
      have x4 := hU.2 ((t.1 i * 6 + (fi : Int) - (i : Int)) * 2 + he).toNat (by omega)
      have x5 : feZ (cV S) (S.1 6) ((t.1 i * 6 + (fi : Int) - (i : Int)) * 2 + he).toNat = feR (cV S) (S.1 6) (t.1 i) ((fi : Int) - (i : Int)) he := by
        unfold feZ
        rw [x1, x2, x3, Int.toNat_of_nonneg r1.1, Int.toNat_of_nonneg hh.1, show ((fi - i : Nat) : Int) = (fi : Int) - (i : Int) by omega]
      rw [x5] at x4
      refine sx_iload (p1 := 36) dX3_harmAt_34 rfl rfl ?_
      refine sx_iload_n (p1 := 37) dX3_harmAt_36 rfl rfl ?_
      refine sx_icmp_ge (p1 := 40) (tg := 104) dX3_harmAt_37 rfl rfl (by omega) (by omega) (fun q37 => absurd q37 (by omega)) (fun q37 => ?_)
      refine sx_iload (p1 := 42) dX3_harmAt_40 rfl rfl ?_
      refine sx_aload_n (p1 := 43) dX3_harmAt_42 rfl rfl ?_
      refine sx_get (p1 := 46) dX3_harmAt_43 rfl fl_X3_18 (hp_c17 _) rfl ?_
      refine sx_alen (p1 := 47) dX3_harmAt_46 rfl (hp_c20 _) (fun _ => rfl) ?_
      refine sx_icmp_ge (p1 := 50) (tg := 104) dX3_harmAt_47 rfl rfl (by omega) (by omega) (fun q47 => absurd q47 (by omega)) (fun q47 => ?_)
      refine sx_aload_n (p1 := 51) dX3_harmAt_50 rfl rfl ?_
      refine sx_get (p1 := 54) dX3_harmAt_51 rfl fl_X3_18 (hp_c17 _) rfl ?_
      refine sx_iload (p1 := 56) dX3_harmAt_54 rfl rfl ?_
      refine sx_iald (g := t.1) (p1 := 57) dX3_harmAt_56 rfl (hp_c20 _) (by omega) (by decide) ?_
      rw [Int.toNat_natCast]
      refine sx_bipush (p1 := 59) dX3_harmAt_57 rfl (by decide) ?_
      refine sx_imul (p1 := 60) dX3_harmAt_59 rfl ?_
      refine sx_iload_n (p1 := 61) dX3_harmAt_60 rfl rfl ?_
      refine sx_iadd (p1 := 62) dX3_harmAt_61 rfl ?_
      refine sx_iload (p1 := 64) dX3_harmAt_62 rfl rfl ?_
      refine sx_isub (p1 := 65) dX3_harmAt_64 rfl ?_
      refine sx_iconst (p1 := 66) dX3_harmAt_65 rfl ?_
      refine sx_imul (p1 := 67) dX3_harmAt_66 rfl ?_
      refine sx_iload_n (p1 := 68) dX3_harmAt_67 rfl rfl ?_
      refine sx_iadd (p1 := 69) dX3_harmAt_68 rfl ?_
      refine sx_istore (lo1 := [some _, some _, some _, some _, some _, none, some _, some _]) (p1 := 71) dX3_harmAt_69 rfl (by decide) rfl ?_
      refine sx_iload (p1 := 73) dX3_harmAt_71 rfl rfl ?_
      refine sx_if_lt (p1 := 76) (tg := 98) dX3_harmAt_73 rfl rfl (by omega) (fun q73 => absurd q73 (by omega)) (fun q73 => ?_)
      refine sx_iload (p1 := 78) dX3_harmAt_76 rfl rfl ?_
      refine sx_aload_n (p1 := 79) dX3_harmAt_78 rfl rfl ?_
      refine sx_get (p1 := 82) dX3_harmAt_79 rfl fl_X3_9 (hp_c17 _) rfl ?_
      refine sx_alen (p1 := 83) dX3_harmAt_82 rfl (hp_c18 _) (fun _ => rfl) ?_
      refine sx_icmp_ge (p1 := 86) (tg := 98) dX3_harmAt_83 rfl rfl (by omega) (by omega) (fun q83 => absurd q83 (by omega)) (fun q83 => ?_)
      refine sx_lload (p1 := 88) dX3_harmAt_86 rfl rfl ?_
      refine sx_aload_n (p1 := 89) dX3_harmAt_88 rfl rfl ?_
      refine sx_get (p1 := 92) dX3_harmAt_89 rfl fl_X3_9 (hp_c17 _) rfl ?_
      refine sx_iload (p1 := 94) dX3_harmAt_92 rfl rfl ?_
      refine sx_lald (g := S.2 18) (p1 := 95) dX3_harmAt_94 rfl (hp_c18 _) (by omega) (by decide) ?_
      rw [x4]
      refine sx_ladd (p1 := 96) dX3_harmAt_95 rfl ?_
      refine sx_lstore (lo1 := [some _, some _, some _, some _, some _, none, some _, some _]) (p1 := 98) dX3_harmAt_96 rfl (by decide) rfl ?_
      refine sx_iinc (lo1 := [some _, some _, some _, some _, some _, none, some _, some _]) (p1 := 101) dX3_harmAt_98 rfl (by decide) rfl rfl ?_
      refine sx_goto (p1 := 34) (tg := 34) dX3_harmAt_101 rfl rfl ?_
      refine sx_drop [true, true, true, true, true, false, true, false] (lo1 := [some _, some _, some _, some _, some _, none, some _, none]) rfl ?_
      have h9 := ih (i + 1) (by omega)
      rw [sumN, ← Int.add_assoc] at h9
      exact h9
  refine Ct.of false [some (.ref 17), some (vI (fi : Int)), some (vI he), none, none, none, none, none] (plainFor_of_name (by decide)) (fun h => by cases h) (Nat.le_of_ble_eq_true rfl) (fun _ => rfl) sx_isl ?_
  refine sx_iconst (p1 := 1) dX3_harmAt_0 rfl ?_
  refine sx_iload_n (p1 := 2) dX3_harmAt_1 rfl rfl ?_
  refine sx_imul (p1 := 3) dX3_harmAt_2 rfl ?_
  refine sx_iload_n (p1 := 4) dX3_harmAt_3 rfl rfl ?_
  refine sx_iadd (p1 := 5) dX3_harmAt_4 rfl ?_
  refine sx_istore_n (lo1 := [some _, some _, some _, some _, none, none, none, none]) (p1 := 6) dX3_harmAt_5 rfl (by decide) rfl ?_
  refine sx_iload_n (p1 := 7) dX3_harmAt_6 rfl rfl ?_
  refine sx_if_lt (p1 := 10) (tg := 28) dX3_harmAt_7 rfl rfl (by omega) (fun q7 => absurd q7 (by omega)) (fun q7 => ?_)
  refine sx_iload_n (p1 := 11) dX3_harmAt_10 rfl rfl ?_
  refine sx_aload_n (p1 := 12) dX3_harmAt_11 rfl rfl ?_
  refine sx_get (p1 := 15) dX3_harmAt_12 rfl fl_X3_15 (hp_c17 _) rfl ?_
  refine sx_alen (p1 := 16) dX3_harmAt_15 rfl (hp_c19 _) (fun _ => rfl) ?_
  refine sx_icmp_ge (p1 := 19) (tg := 28) dX3_harmAt_16 rfl rfl (by omega) (by omega) (fun q16 => absurd q16 (by omega)) (fun q16 => ?_)
  refine sx_aload_n (p1 := 20) dX3_harmAt_19 rfl rfl ?_
  refine sx_get (p1 := 23) dX3_harmAt_20 rfl fl_X3_15 (hp_c17 _) rfl ?_
  refine sx_iload_n (p1 := 24) dX3_harmAt_23 rfl rfl ?_
  refine sx_lald (g := S.2 19) (p1 := 25) dX3_harmAt_24 rfl (hp_c19 _) (by omega) (by decide) ?_
  refine sx_goto (p1 := 29) (tg := 29) dX3_harmAt_25 rfl rfl ?_
  rw [u1]
  refine sx_lstore (lo1 := [some _, some _, some _, some _, some _, none, none, none]) (p1 := 31) dX3_harmAt_29 rfl (by decide) rfl ?_
  refine sx_iconst (p1 := 32) dX3_harmAt_31 rfl ?_
  refine sx_istore (lo1 := [some _, some _, some _, some _, some _, none, some _, none]) (p1 := 34) dX3_harmAt_32 rfl (by decide) rfl ?_
  have h9 := key _ 0 (Nat.zero_add _)
  rw [show sumN 0 _ = 0 from rfl, Int.add_zero] at h9
  exact h9
set_option maxRecDepth 20000 in
theorem c_X3_tryEach {X : sx_X} {S : St} {r fi us : Nat} {ha : Int} {t : OT} (hV : okV (cV S)) (hU : okU S) (ih : ∀ (fi us : Nat) (ha : Int) (t : OT), (fi : Int) + (r : Int) = (cV S).1 1 → us < 64 → (0 ≤ ha ∧ ha ≤ (fi : Int) * 200000) → okO t → Ct X yX3_extend cX3_extend 5 none (2 * r + 1) 0 0 [.ref 17, vI (fi : Int), vI (us : Int), vJ ha] (hp (oS S t)) (sx_is none (hp (oS S (oEx (cV S) (S.1 6) r fi us ha t))))) (hf : (fi : Int) + (r : Int) + 1 = (cV S).1 1) (hu : us < 64) (hh : 0 ≤ ha ∧ ha ≤ (fi : Int) * 200000) (hO : okO t) : Ct X yX3_tryEach cX3_tryEach 6 none (2 * r + 2) 0 0 [.ref 17, vI (fi : Int), vI (us : Int), vJ ha] (hp (oS S t)) (sx_is none (hp (oS S (eaN ((cV S).1 1).toNat (oG (cV S) (S.1 6) r fi us ha) t)))) := by
  have b0 : 0 ≤ S.1 2 ∧ S.1 2 ≤ 16 := hV.1
  have b1 : 0 ≤ S.1 4 ∧ S.1 4 ≤ 6 := hV.2.1
  have b2 : 0 ≤ S.1 6 ∧ S.1 6 ≤ 99 := hV.2.2.1
  have b3 : 0 ≤ S.1 7 ∧ S.1 7 ≤ 1 := hV.2.2.2.1
  have b4 : 0 ≤ S.1 8 ∧ S.1 8 ≤ 16 := hV.2.2.2.2.1
  have b5 : 0 ≤ S.1 9 ∧ S.1 9 ≤ 999 := hV.2.2.2.2.2.1
  have b6 : 0 ≤ S.1 10 ∧ S.1 10 ≤ 1999 := hV.2.2.2.2.2.2.1
  have b7 : 0 ≤ S.1 11 ∧ S.1 11 ≤ 16 := hV.2.2.2.2.2.2.2.1
  have bK : ∀ q, 0 ≤ gK S q ∧ gK S q ≤ 3 := hV.2.2.2.2.2.2.2.2.1
  have bL : ∀ q, 0 ≤ gL S q ∧ gL S q ≤ 9 := hV.2.2.2.2.2.2.2.2.2.1
  have bW : ∀ q, 0 ≤ pW S q ∧ pW S q ≤ 9 := hV.2.2.2.2.2.2.2.2.2.2.1
  have bS : ∀ q, 0 ≤ pS S q ∧ pS S q ≤ 9 := hV.2.2.2.2.2.2.2.2.2.2.2.1
  have bH : ∀ q, 0 ≤ pH S q ∧ pH S q ≤ 1 := hV.2.2.2.2.2.2.2.2.2.2.2.2
  have c0 : 0 ≤ (cV S).1 0 ∧ (cV S).1 0 ≤ 16 := b0
  have c1 : 0 ≤ (cV S).1 1 ∧ (cV S).1 1 ≤ 6 := b1
  have c2 : 0 ≤ (cV S).1 2 ∧ (cV S).1 2 ≤ 99 := b2
  have c3 : 0 ≤ (cV S).1 3 ∧ (cV S).1 3 ≤ 1 := b3
  have c4 : 0 ≤ (cV S).1 4 ∧ (cV S).1 4 ≤ 16 := b4
  have c5 : 0 ≤ (cV S).1 5 ∧ (cV S).1 5 ≤ 999 := b5
  have c6 : 0 ≤ (cV S).1 6 ∧ (cV S).1 6 ≤ 1999 := b6
  have c7 : 0 ≤ (cV S).1 7 ∧ (cV S).1 7 ≤ 16 := b7
  have hE : ∀ n : Nat, n ≤ ((cV S).1 1).toNat → okO (eaN n (oG (cV S) (S.1 6) r fi us ha) t) := fun n hn => eaN_ok n t (fun w t hw h1 => by
    have h6 := hAt_b hV (S.1 6) (sx_u t.1 fi w) (f := fi) (by omega) ((cV S).2 4 w)
    show okO (if _ then _ else _)
    split
    · refine oEx_ok hV (S.1 6) r (fi + 1) _ _ _ (by omega) (by omega) ⟨fun a => ?_, h1.2⟩
      show 0 ≤ sx_u t.1 fi w a ∧ sx_u t.1 fi w a ≤ 5
      unfold sx_u
      split
      · omega
      · exact h1.1 a
    · exact h1) hO
  have key : ∀ (n i : Nat), i + n = ((cV S).1 1).toNat → Rn X RX3 false cX3_tryEach 6 (2 * r + 2) 0 0 none 17 [some (.ref 17), some (vI (fi : Int)), some (vI (us : Int)), some (vJ ha), none, some (vI (i : Int))] [] (hp (oS S (eaN i (oG (cV S) (S.1 6) r fi us ha) t))) 0 0 (sx_is none (hp (oS S (eaN ((cV S).1 1).toNat (oG (cV S) (S.1 6) r fi us ha) t)))) := by
    intro n
    induction n with
    | zero =>
      intro i hi 
      rw [Nat.add_zero] at hi
      subst hi
      refine sx_iload (p1 := 19) dX3_tryEach_17 rfl rfl ?_
      refine sx_aload_n (p1 := 20) dX3_tryEach_19 rfl rfl ?_
      refine sx_get (p1 := 23) dX3_tryEach_20 rfl fl_X3_25 (hp_c17 _) rfl ?_
      refine sx_callVr (p1 := 26) (As := []) (k1 := 0) (n1 := 0) dX3_tryEach_23 rfl rfl (v_X5_size (S := oS S (eaN ((cV S).1 1).toNat (oG (cV S) (S.1 6) r fi us ha) t)) (V := cV S) rfl hV) mt_X5_size ml_X3_84 (hp_c10 _) rfl rfl (by omega) rfl (Nat.le_of_ble_eq_true rfl) rfl rfl (Nat.le_of_ble_eq_true rfl) (Nat.le_of_ble_eq_true rfl) ?_
      refine sx_icmp_ge (p1 := 29) (tg := 81) dX3_tryEach_26 rfl rfl (by omega) (by omega) (fun q26 => ?_) (fun q26 => absurd q26 (by omega))
      exact sx_vret dX3_tryEach_81 rfl (sx_rv (by rfl))
    | succ n ih9 =>
      intro i hi 
      have e0 := hE i (by omega)
      have e1 := bit_ok us hu i (by omega)
      have e2 := or_ok us hu i (by omega)
      have e3 := hAt_b hV (S.1 6) ((sx_u (eaN i (oG (cV S) (S.1 6) r fi us ha) t).1 fi i, (eaN i (oG (cV S) (S.1 6) r fi us ha) t).2) : OT).1 (f := fi) (by omega) ((cV S).2 4 (i : Int))
      have e4 := bitZ_b us i
      have e5 : okO (sx_u (eaN i (oG (cV S) (S.1 6) r fi us ha) t).1 fi i, (eaN i (oG (cV S) (S.1 6) r fi us ha) t).2) := ⟨fun a => by
        show 0 ≤ sx_u (eaN i (oG (cV S) (S.1 6) r fi us ha) t).1 fi i a ∧ sx_u (eaN i (oG (cV S) (S.1 6) r fi us ha) t).1 fi i a ≤ 5
        unfold sx_u
        split
        · omega
        · exact e0.1 a, e0.2⟩
      have e6 : 0 ≤ (cV S).2 4 (i : Int) ∧ (cV S).2 4 (i : Int) ≤ 1 := bH _
      refine sx_iload (p1 := 19) dX3_tryEach_17 rfl rfl ?_
      refine sx_aload_n (p1 := 20) dX3_tryEach_19 rfl rfl ?_
      refine sx_get (p1 := 23) dX3_tryEach_20 rfl fl_X3_25 (hp_c17 _) rfl ?_
      refine sx_callVr (p1 := 26) (As := []) (k1 := 0) (n1 := 0) dX3_tryEach_23 rfl rfl (v_X5_size (S := oS S (eaN i (oG (cV S) (S.1 6) r fi us ha) t)) (V := cV S) rfl hV) mt_X5_size ml_X3_84 (hp_c10 _) rfl rfl (by omega) rfl (Nat.le_of_ble_eq_true rfl) rfl rfl (Nat.le_of_ble_eq_true rfl) (Nat.le_of_ble_eq_true rfl) ?_
      refine sx_icmp_ge (p1 := 29) (tg := 81) dX3_tryEach_26 rfl rfl (by omega) (by omega) (fun q26 => absurd q26 (by omega)) (fun q26 => ?_)
      refine sx_iload_n (p1 := 30) dX3_tryEach_29 rfl rfl ?_
      refine sx_iload (p1 := 32) dX3_tryEach_30 rfl rfl ?_
      refine sx_ishr (p1 := 33) dX3_tryEach_32 rfl ?_
      refine sx_iconst (p1 := 34) dX3_tryEach_33 rfl ?_
      refine sx_iand (p1 := 35) dX3_tryEach_34 rfl ?_
      rw [e1]
      refine sx_if_ne (p1 := 38) (tg := 75) dX3_tryEach_35 rfl rfl (by omega) (fun q35 => ?_) (fun q35 => ?_)
      · have zq : (eaN (i + 1) (oG (cV S) (S.1 6) r fi us ha) t) = (eaN i (oG (cV S) (S.1 6) r fi us ha) t) := if_neg q35
        refine sx_iinc (lo1 := [some _, some _, some _, some _, none, some _]) (p1 := 78) dX3_tryEach_75 rfl (by decide) rfl rfl ?_
        refine sx_goto (p1 := 17) (tg := 17) dX3_tryEach_78 rfl rfl ?_
        have h9 := ih9 (i + 1) (by omega)
        rw [zq] at h9
        exact h9
      · have zq : (eaN (i + 1) (oG (cV S) (S.1 6) r fi us ha) t) = oEx (cV S) (S.1 6) r (fi + 1) (us ||| 2 ^ i) (ha + hAt (cV S) (S.1 6) (sx_u (eaN i (oG (cV S) (S.1 6) r fi us ha) t).1 fi i) fi ((cV S).2 4 i)) (sx_u (eaN i (oG (cV S) (S.1 6) r fi us ha) t).1 fi i, (eaN i (oG (cV S) (S.1 6) r fi us ha) t).2) := if_pos q35
        refine sx_aload_n (p1 := 39) dX3_tryEach_38 rfl rfl ?_
        refine sx_get (p1 := 42) dX3_tryEach_39 rfl fl_X3_18 (hp_c17 _) rfl ?_
        refine sx_iload_n (p1 := 43) dX3_tryEach_42 rfl rfl ?_
        refine sx_iload (p1 := 45) dX3_tryEach_43 rfl rfl ?_
        refine sx_iast (p1 := 46) dX3_tryEach_45 rfl (hp_c20 _) (by omega) (by decide) (hp_a20 _ _ _) ?_
        rw [Int.toNat_natCast, oS_r]
        refine sx_aload_n (p1 := 47) dX3_tryEach_46 rfl rfl ?_
        refine sx_iload_n (p1 := 48) dX3_tryEach_47 rfl rfl ?_
        refine sx_iconst (p1 := 49) dX3_tryEach_48 rfl ?_
        refine sx_iadd (p1 := 50) dX3_tryEach_49 rfl ?_
        refine sx_iload_n (p1 := 51) dX3_tryEach_50 rfl rfl ?_
        refine sx_iconst (p1 := 52) dX3_tryEach_51 rfl ?_
        refine sx_iload (p1 := 54) dX3_tryEach_52 rfl rfl ?_
        refine sx_ishl (p1 := 55) dX3_tryEach_54 rfl ?_
        refine sx_ior (p1 := 56) dX3_tryEach_55 rfl ?_
        rw [e2.1]
        refine sx_lload_n (p1 := 57) dX3_tryEach_56 rfl rfl ?_
        refine sx_aload_n (p1 := 58) dX3_tryEach_57 rfl rfl ?_
        refine sx_iload_n (p1 := 59) dX3_tryEach_58 rfl rfl ?_
        refine sx_aload_n (p1 := 60) dX3_tryEach_59 rfl rfl ?_
        refine sx_get (p1 := 63) dX3_tryEach_60 rfl fl_X3_25 (hp_c17 _) rfl ?_
        refine sx_iload (p1 := 65) dX3_tryEach_63 rfl rfl ?_
        refine sx_callVr (p1 := 68) (As := [_]) (k1 := 0) (n1 := 0) dX3_tryEach_65 rfl rfl (v_X5_helmetOf (V := cV S) rfl hV (by omega)) mt_X5_helmetOf ml_X3_96 (hp_c10 _) rfl rfl (by omega) rfl (Nat.le_of_ble_eq_true rfl) rfl rfl (Nat.le_of_ble_eq_true rfl) (Nat.le_of_ble_eq_true rfl) ?_
        refine sx_callVr (p1 := 71) (As := [_, _]) (k1 := 0) (n1 := 0) dX3_tryEach_68 rfl rfl (c_X3_harmAt hV hU e5 (by omega) e6) mt_X3_harmAt ml_X3_99 (hp_c17 _) rfl rfl (by omega) rfl (Nat.le_of_ble_eq_true rfl) rfl rfl (Nat.le_of_ble_eq_true rfl) (Nat.le_of_ble_eq_true rfl) ?_
        refine sx_ladd (p1 := 72) dX3_tryEach_71 rfl ?_
        rw [show ((fi : Int) + 1) = ((fi + 1 : Nat) : Int) by omega]
        refine sx_callVn (p1 := 75) (As := [_, _, _]) (k1 := 0) (n1 := 0) dX3_tryEach_72 rfl rfl (ih (fi + 1) (us ||| 2 ^ i) _ _ (by omega) e2.2 ⟨by omega, by omega⟩ e5) mt_X3_extend ml_X3_46 (hp_c17 _) rfl rfl (by omega) rfl (Nat.le_of_ble_eq_true rfl) rfl rfl (Nat.le_of_ble_eq_true rfl) (Nat.le_of_ble_eq_true rfl) ?_
        refine sx_iinc (lo1 := [some _, some _, some _, some _, none, some _]) (p1 := 78) dX3_tryEach_75 rfl (by decide) rfl rfl ?_
        refine sx_goto (p1 := 17) (tg := 17) dX3_tryEach_78 rfl rfl ?_
        have h9 := ih9 (i + 1) (by omega)
        rw [zq] at h9
        exact h9
  refine Ct.of false [some (.ref 17), some (vI (fi : Int)), some (vI (us : Int)), some (vJ ha), none, none] (plainFor_of_name (by decide)) (fun h => by cases h) (Nat.le_of_ble_eq_true rfl) (fun _ => rfl) sx_isl ?_
  refine sx_iload_n (p1 := 1) dX3_tryEach_0 rfl rfl ?_
  refine sx_if_lt (p1 := 4) (tg := 13) dX3_tryEach_1 rfl rfl (by omega) (fun q1 => absurd q1 (by omega)) (fun q1 => ?_)
  refine sx_iload_n (p1 := 5) dX3_tryEach_4 rfl rfl ?_
  refine sx_aload_n (p1 := 6) dX3_tryEach_5 rfl rfl ?_
  refine sx_get (p1 := 9) dX3_tryEach_6 rfl fl_X3_18 (hp_c17 _) rfl ?_
  refine sx_alen (p1 := 10) dX3_tryEach_9 rfl (hp_c20 _) (fun _ => rfl) ?_
  refine sx_icmp_lt (p1 := 13) (tg := 14) dX3_tryEach_10 rfl rfl (by omega) (by omega) (fun q10 => ?_) (fun q10 => absurd q10 (by omega))
  refine sx_iconst (p1 := 15) dX3_tryEach_14 rfl ?_
  refine sx_istore (lo1 := [some _, some _, some _, some _, none, some _]) (p1 := 17) dX3_tryEach_15 rfl (by decide) rfl ?_
  exact key _ 0 (Nat.zero_add _)
set_option maxRecDepth 20000 in
theorem c_X3_extend {X : sx_X} {S : St} (hV : okV (cV S)) (hU : okU S) : ∀ (r fi us : Nat) (ha : Int) (t : OT), (fi : Int) + (r : Int) = (cV S).1 1 → us < 64 → (0 ≤ ha ∧ ha ≤ (fi : Int) * 200000) → okO t → Ct X yX3_extend cX3_extend 5 none (2 * r + 1) 0 0 [.ref 17, vI (fi : Int), vI (us : Int), vJ ha] (hp (oS S t)) (sx_is none (hp (oS S (oEx (cV S) (S.1 6) r fi us ha t)))) := by
  have b0 : 0 ≤ S.1 2 ∧ S.1 2 ≤ 16 := hV.1
  have b1 : 0 ≤ S.1 4 ∧ S.1 4 ≤ 6 := hV.2.1
  have b2 : 0 ≤ S.1 6 ∧ S.1 6 ≤ 99 := hV.2.2.1
  have b3 : 0 ≤ S.1 7 ∧ S.1 7 ≤ 1 := hV.2.2.2.1
  have b4 : 0 ≤ S.1 8 ∧ S.1 8 ≤ 16 := hV.2.2.2.2.1
  have b5 : 0 ≤ S.1 9 ∧ S.1 9 ≤ 999 := hV.2.2.2.2.2.1
  have b6 : 0 ≤ S.1 10 ∧ S.1 10 ≤ 1999 := hV.2.2.2.2.2.2.1
  have b7 : 0 ≤ S.1 11 ∧ S.1 11 ≤ 16 := hV.2.2.2.2.2.2.2.1
  have bK : ∀ q, 0 ≤ gK S q ∧ gK S q ≤ 3 := hV.2.2.2.2.2.2.2.2.1
  have bL : ∀ q, 0 ≤ gL S q ∧ gL S q ≤ 9 := hV.2.2.2.2.2.2.2.2.2.1
  have bW : ∀ q, 0 ≤ pW S q ∧ pW S q ≤ 9 := hV.2.2.2.2.2.2.2.2.2.2.1
  have bS : ∀ q, 0 ≤ pS S q ∧ pS S q ≤ 9 := hV.2.2.2.2.2.2.2.2.2.2.2.1
  have bH : ∀ q, 0 ≤ pH S q ∧ pH S q ≤ 1 := hV.2.2.2.2.2.2.2.2.2.2.2.2
  have c0 : 0 ≤ (cV S).1 0 ∧ (cV S).1 0 ≤ 16 := b0
  have c1 : 0 ≤ (cV S).1 1 ∧ (cV S).1 1 ≤ 6 := b1
  have c2 : 0 ≤ (cV S).1 2 ∧ (cV S).1 2 ≤ 99 := b2
  have c3 : 0 ≤ (cV S).1 3 ∧ (cV S).1 3 ≤ 1 := b3
  have c4 : 0 ≤ (cV S).1 4 ∧ (cV S).1 4 ≤ 16 := b4
  have c5 : 0 ≤ (cV S).1 5 ∧ (cV S).1 5 ≤ 999 := b5
  have c6 : 0 ≤ (cV S).1 6 ∧ (cV S).1 6 ≤ 1999 := b6
  have c7 : 0 ≤ (cV S).1 7 ∧ (cV S).1 7 ≤ 16 := b7
  intro r
  induction r with
  | zero =>
    intro fi us ha t hf hu hh hO
    have hO2 := hO.2
    refine Ct.of false [some (.ref 17), some (vI (fi : Int)), some (vI (us : Int)), some (vJ ha), none] (plainFor_of_name (by decide)) (fun h => by cases h) (Nat.le_of_ble_eq_true rfl) (fun _ => rfl) sx_isl ?_
    refine sx_lload_n (p1 := 1) dX3_extend_0 rfl rfl ?_
    refine sx_aload_n (p1 := 2) dX3_extend_1 rfl rfl ?_
    refine sx_get (v := vJ t.2.1) (p1 := 5) dX3_extend_2 rfl fl_X3_42 (hp_c17 _) rfl ?_
    refine sx_lcmp_lt (p2 := 0) (p1 := 9) (tg := 10) dX3_extend_5 dX3_extend_6 rfl rfl (by omega) (by omega) (fun q5 => ?_) (fun q5 => ?_)
    · rw [show oEx (cV S) (S.1 6) 0 fi us ha t = (t.1, ha, va_cpy t.1 t.2.2 0 0 6) from if_neg (by omega)]
      refine sx_iload_n (p1 := 11) dX3_extend_10 rfl rfl ?_
      refine sx_aload_n (p1 := 12) dX3_extend_11 rfl rfl ?_
      refine sx_get (p1 := 15) dX3_extend_12 rfl fl_X3_25 (hp_c17 _) rfl ?_
      refine sx_callVr (p1 := 18) (As := []) (k1 := 0) (n1 := 0) dX3_extend_15 rfl rfl (v_X5_size (S := oS S t) (V := cV S) rfl hV) mt_X5_size ml_X3_84 (hp_c10 _) rfl rfl (Nat.le_of_ble_eq_true rfl) rfl (Nat.le_of_ble_eq_true rfl) rfl rfl (Nat.le_of_ble_eq_true rfl) (Nat.le_of_ble_eq_true rfl) ?_
      refine sx_icmp_ge (p1 := 21) (tg := 31) dX3_extend_18 rfl rfl (by omega) (by omega) (fun q18 => ?_) (fun q18 => absurd q18 (by omega))
      refine sx_aload_n (p1 := 32) dX3_extend_31 rfl rfl ?_
      refine sx_lload_n (p1 := 33) dX3_extend_32 rfl rfl ?_
      refine sx_put (p1 := 36) dX3_extend_33 rfl fl_X3_42 (hp_c17 _) (Nat.le_of_ble_eq_true rfl) (fun _ => rfl) (fun _ => rfl) (hp_s12 _ _) ?_
      refine sx_aload_n (p1 := 37) dX3_extend_36 rfl rfl ?_
      refine sx_get (p1 := 40) dX3_extend_37 rfl fl_X3_18 (hp_c17 _) rfl ?_
      refine sx_iconst (p1 := 41) dX3_extend_40 rfl ?_
      refine sx_aload_n (p1 := 42) dX3_extend_41 rfl rfl ?_
      refine sx_get (p1 := 45) dX3_extend_42 rfl fl_X3_22 (hp_c17 _) rfl ?_
      refine sx_iconst (p1 := 46) dX3_extend_45 rfl ?_
      refine sx_aload_n (p1 := 47) dX3_extend_46 rfl rfl ?_
      refine sx_get (p1 := 50) dX3_extend_47 rfl fl_X3_18 (hp_c17 _) rfl ?_
      refine sx_alen (p1 := 51) dX3_extend_50 rfl (hp_c20 _) (fun _ => rfl) ?_
      refine sx_copyi (p1 := 54) dX3_extend_51 rfl ml_X3_90 nat_copy sta_copy in_RJ10 (hp_c20 _) (hp_c21 _) (by decide) (by decide) (by decide) (by decide) (by decide) (Nat.le_of_ble_eq_true rfl) (Nat.le_of_ble_eq_true rfl) (hp_A21 _ _) ?_
      exact sx_vret dX3_extend_54 rfl (sx_rv (by exact oS_b S t ha _))
    · rw [show oEx (cV S) (S.1 6) 0 fi us ha t = t from if_pos (by omega)]
      exact sx_vret dX3_extend_9 rfl (sx_rv (by rfl))
  | succ r ih =>
    intro fi us ha t hf hu hh hO
    have hO2 := hO.2
    refine Ct.of false [some (.ref 17), some (vI (fi : Int)), some (vI (us : Int)), some (vJ ha), none] (plainFor_of_name (by decide)) (fun h => by cases h) (Nat.le_of_ble_eq_true rfl) (fun _ => rfl) sx_isl ?_
    refine sx_lload_n (p1 := 1) dX3_extend_0 rfl rfl ?_
    refine sx_aload_n (p1 := 2) dX3_extend_1 rfl rfl ?_
    refine sx_get (v := vJ t.2.1) (p1 := 5) dX3_extend_2 rfl fl_X3_42 (hp_c17 _) rfl ?_
    refine sx_lcmp_lt (p2 := 0) (p1 := 9) (tg := 10) dX3_extend_5 dX3_extend_6 rfl rfl (by omega) (by omega) (fun q5 => ?_) (fun q5 => ?_)
    · rw [show oEx (cV S) (S.1 6) (r + 1) fi us ha t = (eaN ((cV S).1 1).toNat (oG (cV S) (S.1 6) r fi us ha) t) from if_neg (by omega)]
      refine sx_iload_n (p1 := 11) dX3_extend_10 rfl rfl ?_
      refine sx_aload_n (p1 := 12) dX3_extend_11 rfl rfl ?_
      refine sx_get (p1 := 15) dX3_extend_12 rfl fl_X3_25 (hp_c17 _) rfl ?_
      refine sx_callVr (p1 := 18) (As := []) (k1 := 0) (n1 := 0) dX3_extend_15 rfl rfl (v_X5_size (S := oS S t) (V := cV S) rfl hV) mt_X5_size ml_X3_84 (hp_c10 _) rfl rfl (by omega) rfl (Nat.le_of_ble_eq_true rfl) rfl rfl (Nat.le_of_ble_eq_true rfl) (Nat.le_of_ble_eq_true rfl) ?_
      refine sx_icmp_ge (p1 := 21) (tg := 31) dX3_extend_18 rfl rfl (by omega) (by omega) (fun q18 => absurd q18 (by omega)) (fun q18 => ?_)
      refine sx_aload_n (p1 := 22) dX3_extend_21 rfl rfl ?_
      refine sx_iload_n (p1 := 23) dX3_extend_22 rfl rfl ?_
      refine sx_iload_n (p1 := 24) dX3_extend_23 rfl rfl ?_
      refine sx_lload_n (p1 := 25) dX3_extend_24 rfl rfl ?_
      refine sx_callVn (p1 := 28) (As := [_, _, _]) (k1 := 0) (n1 := 0) dX3_extend_25 rfl rfl (c_X3_tryEach (S := S) hV hU ih (by omega) hu hh hO) mt_X3_tryEach ml_X3_87 (hp_c17 _) rfl rfl (by omega) rfl (Nat.le_of_ble_eq_true rfl) rfl rfl (Nat.le_of_ble_eq_true rfl) (Nat.le_of_ble_eq_true rfl) ?_
      refine sx_goto (p1 := 54) (tg := 54) dX3_extend_28 rfl rfl ?_
      exact sx_vret dX3_extend_54 rfl (sx_rv (by rfl))
    · rw [show oEx (cV S) (S.1 6) (r + 1) fi us ha t = t from if_pos (by omega)]
      exact sx_vret dX3_extend_9 rfl (sx_rv (by rfl))
def oR (S : St) : OT := oEx (cV S) (S.1 6) (S.1 4).toNat 0 0 0 (S.2 20, 9223372036854775807, S.2 21)
set_option maxRecDepth 20000 in
theorem c_X3_search {X : sx_X} {S : St} (hV : okV (cV S)) (hF : okF S) (hR : ∀ a, 0 ≤ S.2 20 a ∧ S.2 20 a ≤ 5) : Ct X yX3_search cX3_search 1 (some .long) 16 0 0 [.ref 17] (hp S) (sx_is (some (vJ (oR S).2.1)) (hp (oS (oP S) (oR S)))) := by
  have b0 : 0 ≤ S.1 2 ∧ S.1 2 ≤ 16 := hV.1
  have b1 : 0 ≤ S.1 4 ∧ S.1 4 ≤ 6 := hV.2.1
  have b2 : 0 ≤ S.1 6 ∧ S.1 6 ≤ 99 := hV.2.2.1
  have b3 : 0 ≤ S.1 7 ∧ S.1 7 ≤ 1 := hV.2.2.2.1
  have b4 : 0 ≤ S.1 8 ∧ S.1 8 ≤ 16 := hV.2.2.2.2.1
  have b5 : 0 ≤ S.1 9 ∧ S.1 9 ≤ 999 := hV.2.2.2.2.2.1
  have b6 : 0 ≤ S.1 10 ∧ S.1 10 ≤ 1999 := hV.2.2.2.2.2.2.1
  have b7 : 0 ≤ S.1 11 ∧ S.1 11 ≤ 16 := hV.2.2.2.2.2.2.2.1
  have bK : ∀ q, 0 ≤ gK S q ∧ gK S q ≤ 3 := hV.2.2.2.2.2.2.2.2.1
  have bL : ∀ q, 0 ≤ gL S q ∧ gL S q ≤ 9 := hV.2.2.2.2.2.2.2.2.2.1
  have bW : ∀ q, 0 ≤ pW S q ∧ pW S q ≤ 9 := hV.2.2.2.2.2.2.2.2.2.2.1
  have bS : ∀ q, 0 ≤ pS S q ∧ pS S q ≤ 9 := hV.2.2.2.2.2.2.2.2.2.2.2.1
  have bH : ∀ q, 0 ≤ pH S q ∧ pH S q ≤ 1 := hV.2.2.2.2.2.2.2.2.2.2.2.2
  have c0 : 0 ≤ (cV S).1 0 ∧ (cV S).1 0 ≤ 16 := b0
  have c1 : 0 ≤ (cV S).1 1 ∧ (cV S).1 1 ≤ 6 := b1
  have c2 : 0 ≤ (cV S).1 2 ∧ (cV S).1 2 ≤ 99 := b2
  have c3 : 0 ≤ (cV S).1 3 ∧ (cV S).1 3 ≤ 1 := b3
  have c4 : 0 ≤ (cV S).1 4 ∧ (cV S).1 4 ≤ 16 := b4
  have c5 : 0 ≤ (cV S).1 5 ∧ (cV S).1 5 ≤ 999 := b5
  have c6 : 0 ≤ (cV S).1 6 ∧ (cV S).1 6 ≤ 1999 := b6
  have c7 : 0 ≤ (cV S).1 7 ∧ (cV S).1 7 ≤ 16 := b7
  have ho : okO (S.2 20, 9223372036854775807, S.2 21) := ⟨hR, by show 0 ≤ (9223372036854775807 : Int); decide, by show (9223372036854775807 : Int) ≤ _; decide⟩
  have hd : 2 * (S.1 4).toNat + 1 + 1 ≤ 16 := by omega
  refine Ct.of false [some (.ref 17)] (plainFor_of_name (by decide)) (fun h => by cases h) (Nat.le_of_ble_eq_true rfl) (fun _ => rfl) sx_isl ?_
  refine sx_aload_n (p1 := 1) dX3_search_0 rfl rfl ?_
  refine sx_callVn (p1 := 4) (As := []) (k1 := 0) (n1 := 0) dX3_search_1 rfl rfl (c_X3_prepare hV hF) mt_X3_prepare ml_X3_37 (hp_c17 _) rfl rfl (Nat.le_of_ble_eq_true rfl) rfl (Nat.le_of_ble_eq_true rfl) rfl rfl (Nat.le_of_ble_eq_true rfl) (Nat.le_of_ble_eq_true rfl) ?_
  refine sx_aload_n (p1 := 5) dX3_search_4 rfl rfl ?_
  refine sx_ldc2 (z := 9223372036854775807) (p1 := 8) dX3_search_5 rfl kc_X3_40 (by decide) ?_
  refine sx_put (p1 := 11) dX3_search_8 rfl fl_X3_42 (hp_c17 _) (Nat.le_of_ble_eq_true rfl) (fun _ => rfl) (fun _ => rfl) (hp_s12 _ _) ?_
  rw [show si (oP S) 12 9223372036854775807 = oS (oP S) (S.2 20, 9223372036854775807, S.2 21) from oS_0 (oP S) _]
  refine sx_aload_n (p1 := 12) dX3_search_11 rfl rfl ?_
  refine sx_iconst (p1 := 13) dX3_search_12 rfl ?_
  refine sx_iconst (p1 := 14) dX3_search_13 rfl ?_
  refine sx_lconst (y := 0) (p1 := 15) dX3_search_14 rfl (by decide) ?_
  refine sx_callVn (p1 := 18) (As := [_, _, _]) (k1 := 0) (n1 := 0) dX3_search_15 rfl rfl (c_X3_extend (S := oP S) hV (oP_ok S) (S.1 4).toNat 0 0 0 (S.2 20, 9223372036854775807, S.2 21) (by show ((0 : Nat) : Int) + ((S.1 4).toNat : Int) = S.1 4; omega) (by decide) (by decide) ho) mt_X3_extend ml_X3_46 (hp_c17 _) rfl rfl hd rfl (Nat.le_of_ble_eq_true rfl) rfl rfl (Nat.le_of_ble_eq_true rfl) (Nat.le_of_ble_eq_true rfl) ?_
  rw [show oEx (cV (oP S)) ((oP S).1 6) (S.1 4).toNat 0 0 0 (S.2 20, 9223372036854775807, S.2 21) = oR S from rfl]
  refine sx_aload_n (p1 := 19) dX3_search_18 rfl rfl ?_
  refine sx_get (v := vJ (oR S).2.1) (p1 := 22) dX3_search_19 rfl fl_X3_42 (hp_c17 _) rfl ?_
  exact sx_lret dX3_search_22 rfl (sx_rj (by rfl) (by rfl))
set_option maxRecDepth 20000 in
theorem k_X3_at {X : sx_X} {S : St} {i : Int} (hV : okV (cV S)) (hi : -2147483648 ≤ i ∧ i ≤ 2147483647) : Ct X yX3_at cX3_at 2 (some .int) 1 0 0 [.ref 17, vI i] (hp S) (sx_is (some (vI (if 0 ≤ i ∧ i < (cV S).1 1 then S.2 21 i.toNat else -1))) (hp (S))) := by
  have b0 : 0 ≤ S.1 2 ∧ S.1 2 ≤ 16 := hV.1
  have b1 : 0 ≤ S.1 4 ∧ S.1 4 ≤ 6 := hV.2.1
  have b2 : 0 ≤ S.1 6 ∧ S.1 6 ≤ 99 := hV.2.2.1
  have b3 : 0 ≤ S.1 7 ∧ S.1 7 ≤ 1 := hV.2.2.2.1
  have b4 : 0 ≤ S.1 8 ∧ S.1 8 ≤ 16 := hV.2.2.2.2.1
  have b5 : 0 ≤ S.1 9 ∧ S.1 9 ≤ 999 := hV.2.2.2.2.2.1
  have b6 : 0 ≤ S.1 10 ∧ S.1 10 ≤ 1999 := hV.2.2.2.2.2.2.1
  have b7 : 0 ≤ S.1 11 ∧ S.1 11 ≤ 16 := hV.2.2.2.2.2.2.2.1
  have bK : ∀ q, 0 ≤ gK S q ∧ gK S q ≤ 3 := hV.2.2.2.2.2.2.2.2.1
  have bL : ∀ q, 0 ≤ gL S q ∧ gL S q ≤ 9 := hV.2.2.2.2.2.2.2.2.2.1
  have bW : ∀ q, 0 ≤ pW S q ∧ pW S q ≤ 9 := hV.2.2.2.2.2.2.2.2.2.2.1
  have bS : ∀ q, 0 ≤ pS S q ∧ pS S q ≤ 9 := hV.2.2.2.2.2.2.2.2.2.2.2.1
  have bH : ∀ q, 0 ≤ pH S q ∧ pH S q ≤ 1 := hV.2.2.2.2.2.2.2.2.2.2.2.2
  have c0 : 0 ≤ (cV S).1 0 ∧ (cV S).1 0 ≤ 16 := b0
  have c1 : 0 ≤ (cV S).1 1 ∧ (cV S).1 1 ≤ 6 := b1
  have c2 : 0 ≤ (cV S).1 2 ∧ (cV S).1 2 ≤ 99 := b2
  have c3 : 0 ≤ (cV S).1 3 ∧ (cV S).1 3 ≤ 1 := b3
  have c4 : 0 ≤ (cV S).1 4 ∧ (cV S).1 4 ≤ 16 := b4
  have c5 : 0 ≤ (cV S).1 5 ∧ (cV S).1 5 ≤ 999 := b5
  have c6 : 0 ≤ (cV S).1 6 ∧ (cV S).1 6 ≤ 1999 := b6
  have c7 : 0 ≤ (cV S).1 7 ∧ (cV S).1 7 ≤ 16 := b7
  refine Ct.of false [some (.ref 17), some (vI i)] (plainFor_of_name (by decide)) (fun h => by cases h) (Nat.le_of_ble_eq_true rfl) (fun _ => rfl) sx_isl ?_
  refine sx_aload_n (p1 := 1) dX3_at_0 rfl rfl ?_
  refine sx_get (p1 := 4) dX3_at_1 rfl fl_X3_25 (hp_c17 _) rfl ?_
  refine sx_iload_n (p1 := 5) dX3_at_4 rfl rfl ?_
  refine sx_callVr (p1 := 8) (As := [_]) (k1 := 0) (n1 := 0) dX3_at_5 rfl rfl (v_X5_has (V := cV S) rfl hV (by omega)) mt_X5_has ml_X3_50 (hp_c10 _) rfl rfl (Nat.le_of_ble_eq_true rfl) rfl (Nat.le_of_ble_eq_true rfl) rfl rfl (Nat.le_of_ble_eq_true rfl) (Nat.le_of_ble_eq_true rfl) ?_
  refine sx_if_eq (p1 := 11) (tg := 29) dX3_at_8 rfl rfl (by omega) (fun q8 => ?_) (fun q8 => ?_)
  · refine sx_iconst (p1 := 30) dX3_at_29 rfl ?_
    exact sx_iret dX3_at_30 rfl (sx_ri (by first | omega | ((repeat' split) <;> first | omega | rfl)) (by rfl))
  · refine sx_iload_n (p1 := 12) dX3_at_11 rfl rfl ?_
    refine sx_aload_n (p1 := 13) dX3_at_12 rfl rfl ?_
    refine sx_get (p1 := 16) dX3_at_13 rfl fl_X3_22 (hp_c17 _) rfl ?_
    refine sx_alen (p1 := 17) dX3_at_16 rfl (hp_c21 _) (fun _ => rfl) ?_
    refine sx_icmp_ge (p1 := 20) (tg := 29) dX3_at_17 rfl rfl (by omega) (by omega) (fun q17 => ?_) (fun q17 => ?_)
    · refine sx_iconst (p1 := 30) dX3_at_29 rfl ?_
      exact sx_iret dX3_at_30 rfl (sx_ri (by first | omega | ((repeat' split) <;> first | omega | rfl)) (by rfl))
    · refine sx_aload_n (p1 := 21) dX3_at_20 rfl rfl ?_
      refine sx_get (p1 := 24) dX3_at_21 rfl fl_X3_22 (hp_c17 _) rfl ?_
      refine sx_iload_n (p1 := 25) dX3_at_24 rfl rfl ?_
      refine sx_iald (g := S.2 21) (p1 := 26) dX3_at_25 rfl (hp_c21 _) (by omega) (by decide) ?_
      refine sx_goto (p1 := 30) (tg := 30) dX3_at_26 rfl rfl ?_
      exact sx_iret dX3_at_30 rfl (sx_ri (by first | omega | ((repeat' split) <;> first | omega | rfl)) (by rfl))
theorem c_X3_at {X : sx_X} {S : St} {V : Vw} {i : Int} (hS : cV S = V) (hV : okV V) (hi : -2147483648 ≤ i ∧ i ≤ 2147483647) : Ct X yX3_at cX3_at 2 (some .int) 1 0 0 [.ref 17, vI i] (hp S) (sx_is (some (vI (if 0 ≤ i ∧ i < V.1 1 then S.2 21 i.toNat else -1))) (hp S)) := by
  subst hS
  exact k_X3_at hV hi
theorem oR_ok {S : St} (hV : okV (cV S)) (hR : ∀ a, 0 ≤ S.2 20 a ∧ S.2 20 a ≤ 5) : okO (oR S) := by
  have h5 := hV.2.1
  exact oEx_ok hV (S.1 6) (S.1 4).toNat 0 0 0 _ (by
    have : (cV S).1 1 = S.1 4 := rfl
    omega) (by decide) ⟨hR, by show 0 ≤ (9223372036854775807 : Int); decide, by show (9223372036854775807 : Int) ≤ _; decide⟩
set_option maxRecDepth 20000 in
theorem c_X11_order {X : sx_X} {S : St} {i : Int} (hC : CI S) (hR : ∀ a, 0 ≤ S.2 20 a ∧ S.2 20 a ≤ 5) (hi : -2147483648 ≤ i ∧ i ≤ 2147483647) : Ct X yX11_order cX11_order 2 (some .int) 17 0 0 [.ref 2, vI i] (hp S) (sx_is (some (vI (if 0 ≤ i ∧ i ≤ 5 then (if i < (cV S).1 1 then (oR S).2.2 i.toNat else -1) else -2))) (hp (if 0 ≤ i ∧ i ≤ 5 then oS (oP S) (oR S) else S))) := by
  obtain ⟨hV, hF, l0, l1, bT, bA, bB, bC, bSh, g3, g5⟩ := hC
  have b0 : 0 ≤ S.1 2 ∧ S.1 2 ≤ 16 := hV.1
  have b1 : 0 ≤ S.1 4 ∧ S.1 4 ≤ 6 := hV.2.1
  have b2 : 0 ≤ S.1 6 ∧ S.1 6 ≤ 99 := hV.2.2.1
  have b3 : 0 ≤ S.1 7 ∧ S.1 7 ≤ 1 := hV.2.2.2.1
  have b4 : 0 ≤ S.1 8 ∧ S.1 8 ≤ 16 := hV.2.2.2.2.1
  have b5 : 0 ≤ S.1 9 ∧ S.1 9 ≤ 999 := hV.2.2.2.2.2.1
  have b6 : 0 ≤ S.1 10 ∧ S.1 10 ≤ 1999 := hV.2.2.2.2.2.2.1
  have b7 : 0 ≤ S.1 11 ∧ S.1 11 ≤ 16 := hV.2.2.2.2.2.2.2.1
  have bK : ∀ q, 0 ≤ gK S q ∧ gK S q ≤ 3 := hV.2.2.2.2.2.2.2.2.1
  have bL : ∀ q, 0 ≤ gL S q ∧ gL S q ≤ 9 := hV.2.2.2.2.2.2.2.2.2.1
  have bW : ∀ q, 0 ≤ pW S q ∧ pW S q ≤ 9 := hV.2.2.2.2.2.2.2.2.2.2.1
  have bS : ∀ q, 0 ≤ pS S q ∧ pS S q ≤ 9 := hV.2.2.2.2.2.2.2.2.2.2.2.1
  have bH : ∀ q, 0 ≤ pH S q ∧ pH S q ≤ 1 := hV.2.2.2.2.2.2.2.2.2.2.2.2
  have c0 : 0 ≤ (cV S).1 0 ∧ (cV S).1 0 ≤ 16 := b0
  have c1 : 0 ≤ (cV S).1 1 ∧ (cV S).1 1 ≤ 6 := b1
  have c2 : 0 ≤ (cV S).1 2 ∧ (cV S).1 2 ≤ 99 := b2
  have c3 : 0 ≤ (cV S).1 3 ∧ (cV S).1 3 ≤ 1 := b3
  have c4 : 0 ≤ (cV S).1 4 ∧ (cV S).1 4 ≤ 16 := b4
  have c5 : 0 ≤ (cV S).1 5 ∧ (cV S).1 5 ≤ 999 := b5
  have c6 : 0 ≤ (cV S).1 6 ∧ (cV S).1 6 ≤ 1999 := b6
  have c7 : 0 ≤ (cV S).1 7 ∧ (cV S).1 7 ≤ 16 := b7
  refine Ct.of false [some (.ref 2), some (vI i)] (plainFor_of_name (by decide)) (fun h => by cases h) (Nat.le_of_ble_eq_true rfl) (fun _ => rfl) sx_isl ?_
  refine sx_iload_n (p1 := 1) dX11_order_0 rfl rfl ?_
  refine sx_iconst (p1 := 2) dX11_order_1 rfl ?_
  refine sx_iconst (p1 := 3) dX11_order_2 rfl ?_
  refine sx_callSr (p1 := 6) (As := [_, _, _]) (k1 := 0) (n1 := 0) dX11_order_3 rfl rfl (c_X11_within (by omega) (by omega) (by omega)) mt_X11_within ml_X11_101 (Nat.le_of_ble_eq_true rfl) rfl (Nat.le_of_ble_eq_true rfl) rfl rfl (Nat.le_of_ble_eq_true rfl) (Nat.le_of_ble_eq_true rfl) ?_
  refine sx_if_ne (p1 := 9) (tg := 12) dX11_order_6 rfl rfl (by omega) (fun q6 => ?_) (fun q6 => ?_)
  · refine sx_aload_n (p1 := 13) dX11_order_12 rfl rfl ?_
    refine sx_get (p1 := 16) dX11_order_13 rfl fl_X11_56 (hp_c2 _) rfl ?_
    refine sx_callVr (p1 := 19) (As := []) (k1 := 0) (n1 := 0) dX11_order_16 rfl rfl (c_X3_search hV hF hR) mt_X3_search ml_X11_209 (hp_c17 _) rfl rfl (Nat.le_of_ble_eq_true rfl) rfl (Nat.le_of_ble_eq_true rfl) rfl rfl (Nat.le_of_ble_eq_true rfl) (Nat.le_of_ble_eq_true rfl) ?_
    refine sx_pop2 (p1 := 20) dX11_order_19 rfl rfl ?_
    refine sx_aload_n (p1 := 21) dX11_order_20 rfl rfl ?_
    refine sx_get (p1 := 24) dX11_order_21 rfl fl_X11_56 (hp_c2 _) rfl ?_
    refine sx_iload_n (p1 := 25) dX11_order_24 rfl rfl ?_
    refine sx_callVr (p1 := 28) (As := [_]) (k1 := 0) (n1 := 0) dX11_order_25 rfl rfl (c_X3_at (S := oS (oP S) (oR S)) (V := cV S) rfl hV (by omega)) mt_X3_at ml_X11_213 (hp_c17 _) rfl rfl (Nat.le_of_ble_eq_true rfl) rfl (Nat.le_of_ble_eq_true rfl) rfl rfl (Nat.le_of_ble_eq_true rfl) (Nat.le_of_ble_eq_true rfl) ?_
    exact sx_iret dX11_order_28 rfl (sx_ri (by rw [if_pos (show 0 ≤ i ∧ i ≤ 5 by omega), show (oS (oP S) (oR S)).2 21 = (oR S).2.2 from rfl]; (repeat' split) <;> first | omega | rfl) (by rw [if_pos (by omega)]))
  · refine sx_bipush (p1 := 11) dX11_order_9 rfl (by decide) ?_
    exact sx_iret dX11_order_11 rfl (sx_ri (by rw [if_neg (by omega)]) (by rw [if_neg (by omega)]))
