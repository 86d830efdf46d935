theorem rw_step {S : St} {F : Int} {i : Nat} (h0 : 0 < S.2 45 1) (hi : (i : Int) ≤ S.2 45 1) (hm : i % 4 ≠ 3) (he : F = wF (rB S 1) (S.2 45 1) ((S.2 45 1).toNat - i) i) : (fitZ (rB S 1) i = 0 → F = i) ∧ (fitZ (rB S 1) i ≠ 0 → ((i + 1 : Nat) : Int) ≤ S.2 45 1 ∧ F = wF (rB S 1) (S.2 45 1) ((S.2 45 1).toNat - (i + 1)) (i + 1)) := by
  refine ⟨fun h => ?_, fun h => ?_⟩
  · by_cases c : (i : Int) < S.2 45 1
    · rw [he, wF_at c h]
    · rw [he, wF_end (by omega), if_neg (by omega)]
      omega
  · have c : (i : Int) < S.2 45 1 := Decidable.byContradiction (fun q => h (fitZ_out (by omega)))
    exact ⟨by omega, by rw [he, wF_go c h]⟩
theorem rw_all {S : St} {k : Nat} (h0 : 0 < S.2 45 1) (hk : 4 * (k : Int) ≤ S.2 45 1) (he : rwF S = wF (rB S 1) (S.2 45 1) ((S.2 45 1).toNat - 4 * k) (4 * k)) :
    (rwO (rB S 1) k = 0 → rwF S = 4 * (k : Int)) ∧ (rwO (rB S 1) k = 1 → rwF S = 4 * (k : Int) + 1) ∧ (rwO (rB S 1) k = 2 → rwF S = 4 * (k : Int) + 2) ∧ (rwO (rB S 1) k = 3 → 4 * (k : Int) + 3 ≤ S.2 45 1 ∧ (4 * (k : Int) + 3 = S.2 45 1 → rwF S = -1) ∧ (4 * (k : Int) + 3 < S.2 45 1 → (rB S 1 (4 * (k : Int) + 3) ≠ 59 → rwF S = 4 * (k : Int) + 3) ∧ (rB S 1 (4 * (k : Int) + 3) = 59 → rwF S = wF (rB S 1) (S.2 45 1) ((S.2 45 1).toNat - 4 * (k + 1)) (4 * (k + 1))))) := by
  have e0 : ((4 * k : Nat) : Int) = 4 * (k : Int) := by omega
  have e1 : ((4 * k + 1 : Nat) : Int) = 4 * (k : Int) + 1 := by omega
  have e2 : ((4 * k + 1 + 1 : Nat) : Int) = 4 * (k : Int) + 2 := by omega
  have e3 : ((4 * k + 1 + 1 + 1 : Nat) : Int) = 4 * (k : Int) + 3 := by omega
  have s0 := rw_step (i := 4 * k) h0 (by omega) (by omega) he
  rw [e0] at s0
  unfold rwO
  by_cases c0 : fitZ (rB S 1) (4 * (k : Int)) = 0
  · rw [if_pos c0]
    exact ⟨fun _ => s0.1 c0, fun q => by omega, fun q => by omega, fun q => by omega⟩
  · rw [if_neg c0]
    have t0 := s0.2 c0
    have s1 := rw_step (i := 4 * k + 1) h0 t0.1 (by omega) t0.2
    rw [e1] at s1
    by_cases c1 : fitZ (rB S 1) (4 * (k : Int) + 1) = 0
    · rw [if_pos c1]
      exact ⟨fun q => by omega, fun _ => s1.1 c1, fun q => by omega, fun q => by omega⟩
    · rw [if_neg c1]
      have t1 := s1.2 c1
      have s2 := rw_step (i := 4 * k + 1 + 1) h0 t1.1 (by omega) t1.2
      rw [e2] at s2
      by_cases c2 : fitZ (rB S 1) (4 * (k : Int) + 2) = 0
      · rw [if_pos c2]
        exact ⟨fun q => by omega, fun q => by omega, fun _ => s2.1 c2, fun q => by omega⟩
      · rw [if_neg c2]
        have t2 := s2.2 c2
        rw [e3] at t2
        refine ⟨fun q => by omega, fun q => by omega, fun q => by omega, fun _ => ⟨t2.1, fun hn => ?_, fun hn => ?_⟩⟩
        · rw [t2.2, wF_end (by omega), if_pos (by omega)]
        · have f3 : fitZ (rB S 1) (4 * (k : Int) + 3) = if rB S 1 (4 * (k : Int) + 3) = 59 then 1 else 0 := (if_neg (by omega)).trans ((if_neg (by omega)).trans (if_neg (by omega)))
          refine ⟨fun hb => ?_, fun hb => ?_⟩
          · rw [t2.2, wF_at (by omega) (by rw [e3, f3, if_neg hb])]
            omega
          · rw [t2.2, wF_go (by omega) (by rw [e3, f3, if_pos hb]; decide), show 4 * (k + 1) = 4 * k + 1 + 1 + 1 + 1 by omega]
theorem rwO_o (B : Int → Int) (k : Nat) : rwO B k = 0 ∨ rwO B k = 1 ∨ rwO B k = 2 ∨ rwO B k = 3 := by
  unfold rwO
  (repeat' split) <;> simp
theorem rwE_f {S : St} {F : Int} {j : Nat} (h : rwF S = F) (h0 : 0 ≤ F) (hj : (F.toNat + 1) / 4 = j) : rwE S = wrS S F 0 j := by
  unfold rwE
  rw [h, if_neg (by omega), hj]
theorem rwE_n {S : St} {k : Nat} (h : rwF S = -1) (hn : S.2 45 1 = 4 * (k : Int) + 3) : rwE S = wrS S (4 * (k : Int) + 3) ((k : Int) + 1) (k + 1) := by
  unfold rwE
  rw [if_pos h, hn, show ((4 * (k : Int) + 3).toNat + 3) / 4 = k + 1 by omega, show ((4 * (k : Int) + 3).toNat + 1) / 4 = k + 1 by omega]
  rfl
theorem w_X12_readsWalker {X : sx_X} {S : St} {k j : Nat} (hY : okY S) (hk : k < 6) (ho : (rwO (rB S 1) k) = j) (hj : j ≠ 3) : Ct X yX12_readsWalker cX12_readsWalker 3 (some .boolean) 1 0 0 [.ref 39] (hp (wrS S (4 * (k : Int)) k k)) (sx_is (some (vI 0)) (hp (wrS S (4 * (k : Int) + (j : Int)) (k : Int) k))) := by
  have h := c_X12_readsWalker (X := X) hY hk
  rw [ho, if_neg hj, if_neg hj] at h
  exact h
theorem y_X12_readsWalker {X : sx_X} {S : St} {k : Nat} (hY : okY S) (hk : k < 6) (ho : (rwO (rB S 1) k) = 3) : Ct X yX12_readsWalker cX12_readsWalker 3 (some .boolean) 1 0 0 [.ref 39] (hp (wrS S (4 * (k : Int)) k k)) (sx_is (some (vI 1)) (hp (wrS S (4 * (k : Int) + 3) ((k : Int) + 1) (k + 1)))) := by
  have h := c_X12_readsWalker (X := X) hY hk
  rw [ho, if_pos rfl, if_pos rfl] at h
  exact h
set_option maxRecDepth 20000 in
theorem c_X12_readsWalkers {X : sx_X} {S : St} (hY : okY S) : Ct X yX12_readsWalkers cX12_readsWalkers 3 (some .int) 2 0 0 [.ref 39] (hp S) (sx_is (some (vI (rwF S))) (hp (rwE S))) := by
  have h45 := hY.2.1
  have key : ∀ (n k : Nat), k + n = 6 → 0 < S.2 45 1 → 4 * (k : Int) ≤ S.2 45 1 → rwF S = wF (rB S 1) (S.2 45 1) ((S.2 45 1).toNat - 4 * k) (4 * k) → Rn X RX12 false cX12_readsWalkers 3 2 0 0 (some .int) 29 [some (.ref 39), none, none] [] (hp (wrS S (4 * (k : Int)) (k : Int) k)) 0 0 (sx_is (some (vI (rwF S))) (hp (rwE S))) := by
    intro n
    induction n with
    | zero =>
      intro k hk h0 h4 he
      omega
    | succ n ih =>
      intro k hk h0 h4 he
      have hA := rw_all h0 h4 he
      have hx := rB_b hY 1 (4 * (k : Int) + 3)
      rcases rwO_o (rB S 1) k with zo | zo | zo | zo
      · have zF := hA.1 zo
        refine sx_aload_n (p1 := 30) dX12_readsWalkers_29 rfl rfl ?_
        refine sx_callVr (p1 := 33) (As := []) (k1 := 0) (n1 := 0) dX12_readsWalkers_30 rfl rfl (w_X12_readsWalker hY (by omega) zo (by decide)) mt_X12_readsWalker ml_X12_109 (hp_c39 _) rfl rfl (Nat.le_of_ble_eq_true rfl) rfl (Nat.le_of_ble_eq_true rfl) rfl rfl (Nat.le_of_ble_eq_true rfl) (Nat.le_of_ble_eq_true rfl) ?_
        refine sx_istore_n (lo1 := [some _, none, some _]) (p1 := 34) dX12_readsWalkers_33 rfl (by decide) rfl ?_
        refine sx_iload_n (p1 := 35) dX12_readsWalkers_34 rfl rfl ?_
        refine sx_if_eq (p1 := 38) (tg := 55) dX12_readsWalkers_35 rfl rfl (by omega) (fun q35 => ?_) (fun q35 => absurd q35 (by omega))
        refine sx_iconst (p1 := 56) dX12_readsWalkers_55 rfl ?_
        refine sx_istore_n (lo1 := [some _, some _, some _]) (p1 := 57) dX12_readsWalkers_56 rfl (by decide) rfl ?_
        refine sx_iload_n (p1 := 58) dX12_readsWalkers_57 rfl rfl ?_
        refine sx_if_eq (p1 := 61) (tg := 75) dX12_readsWalkers_58 rfl rfl (by omega) (fun q58 => ?_) (fun q58 => absurd q58 (by omega))
        refine sx_aload_n (p1 := 76) dX12_readsWalkers_75 rfl rfl ?_
        refine sx_iconst (p1 := 77) dX12_readsWalkers_76 rfl ?_
        refine sx_put (p1 := 80) dX12_readsWalkers_77 rfl fl_X12_106 (hp_c39 _) (Nat.le_of_ble_eq_true rfl) (fun _ => rfl) (fun _ => rfl) (hp_s33 _ _) ?_
        rw [wrS_k]
        refine sx_aload_n (p1 := 81) dX12_readsWalkers_80 rfl rfl ?_
        refine sx_get (v := vI (4 * (k : Int) + ((0 : Nat) : Int))) (p1 := 84) dX12_readsWalkers_81 rfl fl_X12_92 (hp_c39 _) rfl ?_
        exact sx_iret dX12_readsWalkers_84 rfl (sx_ri (by rw [zF]; first | rfl | omega) (by rw [rwE_f (j := k) zF (by omega) (by omega)]; rw [show 4 * (k : Int) + ((0 : Nat) : Int) = 4 * (k : Int) by omega]))
      · have zF := hA.2.1 zo
        refine sx_aload_n (p1 := 30) dX12_readsWalkers_29 rfl rfl ?_
        refine sx_callVr (p1 := 33) (As := []) (k1 := 0) (n1 := 0) dX12_readsWalkers_30 rfl rfl (w_X12_readsWalker hY (by omega) zo (by decide)) mt_X12_readsWalker ml_X12_109 (hp_c39 _) rfl rfl (Nat.le_of_ble_eq_true rfl) rfl (Nat.le_of_ble_eq_true rfl) rfl rfl (Nat.le_of_ble_eq_true rfl) (Nat.le_of_ble_eq_true rfl) ?_
        refine sx_istore_n (lo1 := [some _, none, some _]) (p1 := 34) dX12_readsWalkers_33 rfl (by decide) rfl ?_
        refine sx_iload_n (p1 := 35) dX12_readsWalkers_34 rfl rfl ?_
        refine sx_if_eq (p1 := 38) (tg := 55) dX12_readsWalkers_35 rfl rfl (by omega) (fun q35 => ?_) (fun q35 => absurd q35 (by omega))
        refine sx_iconst (p1 := 56) dX12_readsWalkers_55 rfl ?_
        refine sx_istore_n (lo1 := [some _, some _, some _]) (p1 := 57) dX12_readsWalkers_56 rfl (by decide) rfl ?_
        refine sx_iload_n (p1 := 58) dX12_readsWalkers_57 rfl rfl ?_
        refine sx_if_eq (p1 := 61) (tg := 75) dX12_readsWalkers_58 rfl rfl (by omega) (fun q58 => ?_) (fun q58 => absurd q58 (by omega))
        refine sx_aload_n (p1 := 76) dX12_readsWalkers_75 rfl rfl ?_
        refine sx_iconst (p1 := 77) dX12_readsWalkers_76 rfl ?_
        refine sx_put (p1 := 80) dX12_readsWalkers_77 rfl fl_X12_106 (hp_c39 _) (Nat.le_of_ble_eq_true rfl) (fun _ => rfl) (fun _ => rfl) (hp_s33 _ _) ?_
        rw [wrS_k]
        refine sx_aload_n (p1 := 81) dX12_readsWalkers_80 rfl rfl ?_
        refine sx_get (v := vI (4 * (k : Int) + ((1 : Nat) : Int))) (p1 := 84) dX12_readsWalkers_81 rfl fl_X12_92 (hp_c39 _) rfl ?_
        exact sx_iret dX12_readsWalkers_84 rfl (sx_ri (by rw [zF]; first | rfl | omega) (by rw [rwE_f (j := k) zF (by omega) (by omega)]; rfl))
      · have zF := hA.2.2.1 zo
        refine sx_aload_n (p1 := 30) dX12_readsWalkers_29 rfl rfl ?_
        refine sx_callVr (p1 := 33) (As := []) (k1 := 0) (n1 := 0) dX12_readsWalkers_30 rfl rfl (w_X12_readsWalker hY (by omega) zo (by decide)) mt_X12_readsWalker ml_X12_109 (hp_c39 _) rfl rfl (Nat.le_of_ble_eq_true rfl) rfl (Nat.le_of_ble_eq_true rfl) rfl rfl (Nat.le_of_ble_eq_true rfl) (Nat.le_of_ble_eq_true rfl) ?_
        refine sx_istore_n (lo1 := [some _, none, some _]) (p1 := 34) dX12_readsWalkers_33 rfl (by decide) rfl ?_
        refine sx_iload_n (p1 := 35) dX12_readsWalkers_34 rfl rfl ?_
        refine sx_if_eq (p1 := 38) (tg := 55) dX12_readsWalkers_35 rfl rfl (by omega) (fun q35 => ?_) (fun q35 => absurd q35 (by omega))
        refine sx_iconst (p1 := 56) dX12_readsWalkers_55 rfl ?_
        refine sx_istore_n (lo1 := [some _, some _, some _]) (p1 := 57) dX12_readsWalkers_56 rfl (by decide) rfl ?_
        refine sx_iload_n (p1 := 58) dX12_readsWalkers_57 rfl rfl ?_
        refine sx_if_eq (p1 := 61) (tg := 75) dX12_readsWalkers_58 rfl rfl (by omega) (fun q58 => ?_) (fun q58 => absurd q58 (by omega))
        refine sx_aload_n (p1 := 76) dX12_readsWalkers_75 rfl rfl ?_
        refine sx_iconst (p1 := 77) dX12_readsWalkers_76 rfl ?_
        refine sx_put (p1 := 80) dX12_readsWalkers_77 rfl fl_X12_106 (hp_c39 _) (Nat.le_of_ble_eq_true rfl) (fun _ => rfl) (fun _ => rfl) (hp_s33 _ _) ?_
        rw [wrS_k]
        refine sx_aload_n (p1 := 81) dX12_readsWalkers_80 rfl rfl ?_
        refine sx_get (v := vI (4 * (k : Int) + ((2 : Nat) : Int))) (p1 := 84) dX12_readsWalkers_81 rfl fl_X12_92 (hp_c39 _) rfl ?_
        exact sx_iret dX12_readsWalkers_84 rfl (sx_ri (by rw [zF]; first | rfl | omega) (by rw [rwE_f (j := k) zF (by omega) (by omega)]; rfl))
      · have zF := hA.2.2.2 zo
        refine sx_aload_n (p1 := 30) dX12_readsWalkers_29 rfl rfl ?_
        refine sx_callVr (p1 := 33) (As := []) (k1 := 0) (n1 := 0) dX12_readsWalkers_30 rfl rfl (y_X12_readsWalker hY (by omega) zo) mt_X12_readsWalker ml_X12_109 (hp_c39 _) rfl rfl (Nat.le_of_ble_eq_true rfl) rfl (Nat.le_of_ble_eq_true rfl) rfl rfl (Nat.le_of_ble_eq_true rfl) (Nat.le_of_ble_eq_true rfl) ?_
        refine sx_istore_n (lo1 := [some _, none, some _]) (p1 := 34) dX12_readsWalkers_33 rfl (by decide) rfl ?_
        refine sx_iload_n (p1 := 35) dX12_readsWalkers_34 rfl rfl ?_
        refine sx_if_eq (p1 := 38) (tg := 55) dX12_readsWalkers_35 rfl rfl (by omega) (fun q35 => absurd q35 (by omega)) (fun q35 => ?_)
        refine sx_aload_n (p1 := 39) dX12_readsWalkers_38 rfl rfl ?_
        refine sx_get (v := vI (4 * (k : Int) + 3)) (p1 := 42) dX12_readsWalkers_39 rfl fl_X12_92 (hp_c39 _) rfl ?_
        refine sx_aload_n (p1 := 43) dX12_readsWalkers_42 rfl rfl ?_
        refine sx_get (p1 := 46) dX12_readsWalkers_43 rfl fl_X12_25 (hp_c39 _) rfl ?_
        refine sx_iconst (p1 := 47) dX12_readsWalkers_46 rfl ?_
        refine sx_iald (g := S.2 45) (p1 := 48) dX12_readsWalkers_47 rfl (hp_c45 _) (by omega) (by decide) ?_
        rw [show Int.toNat 1 = 1 from rfl]
        refine sx_icmp_ge (p1 := 51) (tg := 55) dX12_readsWalkers_48 rfl rfl (by omega) (by (show -2147483648 ≤ S.2 45 1 ∧ S.2 45 1 ≤ 2147483647); omega) (fun q48 => ?_) (fun q48 => ?_)
        · have q48 : S.2 45 1 ≤ 4 * (k : Int) + 3 := q48
          have zG := zF.2.1 (by omega)
          have zH := rwE_n (k := k) zG (by omega)
          refine sx_iconst (p1 := 56) dX12_readsWalkers_55 rfl ?_
          refine sx_istore_n (lo1 := [some _, some _, some _]) (p1 := 57) dX12_readsWalkers_56 rfl (by decide) rfl ?_
          refine sx_iload_n (p1 := 58) dX12_readsWalkers_57 rfl rfl ?_
          refine sx_if_eq (p1 := 61) (tg := 75) dX12_readsWalkers_58 rfl rfl (by omega) (fun q58 => absurd q58 (by omega)) (fun q58 => ?_)
          refine sx_iload_n (p1 := 62) dX12_readsWalkers_61 rfl rfl ?_
          refine sx_if_eq (p1 := 65) (tg := 85) dX12_readsWalkers_62 rfl rfl (by omega) (fun q62 => ?_) (fun q62 => absurd q62 (by omega))
          refine sx_aload_n (p1 := 86) dX12_readsWalkers_85 rfl rfl ?_
          refine sx_dup (p1 := 87) dX12_readsWalkers_86 rfl rfl ?_
          refine sx_get (v := vI (4 * (k : Int) + 3)) (p1 := 90) dX12_readsWalkers_87 rfl fl_X12_92 (hp_c39 _) rfl ?_
          refine sx_iload_n (p1 := 91) dX12_readsWalkers_90 rfl rfl ?_
          refine sx_if_eq (p1 := 94) (tg := 98) dX12_readsWalkers_91 rfl rfl (by omega) (fun q91 => ?_) (fun q91 => absurd q91 (by omega))
          refine sx_iconst (p1 := 99) dX12_readsWalkers_98 rfl ?_
          refine sx_iadd (p1 := 100) dX12_readsWalkers_99 rfl ?_
          refine sx_put (p1 := 103) dX12_readsWalkers_100 rfl fl_X12_92 (hp_c39 _) (Nat.le_of_ble_eq_true rfl) (fun _ => rfl) (fun _ => rfl) (hp_s31 _ _) ?_
          rw [wrS_a]
          refine sx_goto (p1 := 25) (tg := 25) dX12_readsWalkers_103 rfl rfl ?_
          refine sx_iload_n (p1 := 26) dX12_readsWalkers_25 rfl rfl ?_
          refine sx_if_eq (p1 := 29) (tg := 106) dX12_readsWalkers_26 rfl rfl (by omega) (fun q26 => ?_) (fun q26 => absurd q26 (by omega))
          refine sx_iconst (p1 := 107) dX12_readsWalkers_106 rfl ?_
          exact sx_iret dX12_readsWalkers_107 rfl (sx_ri (by rw [zG]) (by rw [zH, show 4 * (k : Int) + 3 + 0 = 4 * (k : Int) + 3 by omega]))
        · have q48 : 4 * (k : Int) + 3 < S.2 45 1 := q48
          have zL := zF.2.2 q48
          refine sx_iconst (p1 := 52) dX12_readsWalkers_51 rfl ?_
          refine sx_goto (p1 := 56) (tg := 56) dX12_readsWalkers_52 rfl rfl ?_
          refine sx_istore_n (lo1 := [some _, some _, some _]) (p1 := 57) dX12_readsWalkers_56 rfl (by decide) rfl ?_
          refine sx_iload_n (p1 := 58) dX12_readsWalkers_57 rfl rfl ?_
          refine sx_if_eq (p1 := 61) (tg := 75) dX12_readsWalkers_58 rfl rfl (by omega) (fun q58 => absurd q58 (by omega)) (fun q58 => ?_)
          refine sx_iload_n (p1 := 62) dX12_readsWalkers_61 rfl rfl ?_
          refine sx_if_eq (p1 := 65) (tg := 85) dX12_readsWalkers_62 rfl rfl (by omega) (fun q62 => absurd q62 (by omega)) (fun q62 => ?_)
          refine sx_aload_n (p1 := 66) dX12_readsWalkers_65 rfl rfl ?_
          refine sx_iconst (p1 := 67) dX12_readsWalkers_66 rfl ?_
          refine sx_callVr (p1 := 70) (As := [_]) (k1 := 0) (n1 := 0) dX12_readsWalkers_67 rfl rfl (c_X12_here1 (S := wrS S (4 * (k : Int) + 3) ((k : Int) + 1) (k + 1)) (show 0 ≤ S.2 45 1 ∧ S.2 45 1 ≤ 32 by omega) (show 0 ≤ 4 * (k : Int) + 3 ∧ 4 * (k : Int) + 3 ≤ 39 by omega)) mt_X12_here ml_X12_98 (hp_c39 _) rfl rfl (Nat.le_of_ble_eq_true rfl) rfl (Nat.le_of_ble_eq_true rfl) rfl rfl (Nat.le_of_ble_eq_true rfl) (Nat.le_of_ble_eq_true rfl) ?_
          rw [show rB (wrS S (4 * (k : Int) + 3) ((k : Int) + 1) (k + 1)) 1 ((wrS S (4 * (k : Int) + 3) ((k : Int) + 1) (k + 1)).1 31) = rB S 1 (4 * (k : Int) + 3) from rfl]
          refine sx_bipush (p1 := 72) dX12_readsWalkers_70 rfl (by decide) ?_
          refine sx_icmp_eq (p1 := 75) (tg := 85) dX12_readsWalkers_72 rfl rfl (by omega) (by omega) (fun q72 => ?_) (fun q72 => ?_)
          · have zM := zL.2 q72
            refine sx_aload_n (p1 := 86) dX12_readsWalkers_85 rfl rfl ?_
            refine sx_dup (p1 := 87) dX12_readsWalkers_86 rfl rfl ?_
            refine sx_get (v := vI (4 * (k : Int) + 3)) (p1 := 90) dX12_readsWalkers_87 rfl fl_X12_92 (hp_c39 _) rfl ?_
            refine sx_iload_n (p1 := 91) dX12_readsWalkers_90 rfl rfl ?_
            refine sx_if_eq (p1 := 94) (tg := 98) dX12_readsWalkers_91 rfl rfl (by omega) (fun q91 => absurd q91 (by omega)) (fun q91 => ?_)
            refine sx_iconst (p1 := 95) dX12_readsWalkers_94 rfl ?_
            refine sx_goto (p1 := 99) (tg := 99) dX12_readsWalkers_95 rfl rfl ?_
            refine sx_iadd (p1 := 100) dX12_readsWalkers_99 rfl ?_
            refine sx_put (p1 := 103) dX12_readsWalkers_100 rfl fl_X12_92 (hp_c39 _) (Nat.le_of_ble_eq_true rfl) (fun _ => rfl) (fun _ => rfl) (hp_s31 _ _) ?_
            rw [wrS_a]
            refine sx_goto (p1 := 25) (tg := 25) dX12_readsWalkers_103 rfl rfl ?_
            refine sx_iload_n (p1 := 26) dX12_readsWalkers_25 rfl rfl ?_
            refine sx_if_eq (p1 := 29) (tg := 106) dX12_readsWalkers_26 rfl rfl (by omega) (fun q26 => absurd q26 (by omega)) (fun q26 => ?_)
            refine sx_drop [true, false, false] (lo1 := [some _, none, none]) rfl ?_
            have h9 := ih (k + 1) (by omega) h0 (by omega) zM
            rw [show 4 * ((k + 1 : Nat) : Int) = 4 * (k : Int) + 3 + 1 by omega] at h9
            exact h9
          · have zM := zL.1 q72
            refine sx_aload_n (p1 := 76) dX12_readsWalkers_75 rfl rfl ?_
            refine sx_iconst (p1 := 77) dX12_readsWalkers_76 rfl ?_
            refine sx_put (p1 := 80) dX12_readsWalkers_77 rfl fl_X12_106 (hp_c39 _) (Nat.le_of_ble_eq_true rfl) (fun _ => rfl) (fun _ => rfl) (hp_s33 _ _) ?_
            rw [wrS_k]
            refine sx_aload_n (p1 := 81) dX12_readsWalkers_80 rfl rfl ?_
            refine sx_get (v := vI (4 * (k : Int) + 3)) (p1 := 84) dX12_readsWalkers_81 rfl fl_X12_92 (hp_c39 _) rfl ?_
            exact sx_iret dX12_readsWalkers_84 rfl (sx_ri (by rw [zM]) (by rw [rwE_f (j := k + 1) zM (by omega) (by omega)]))
  refine Ct.of false [some (.ref 39), none, none] (plainFor_of_name (by decide)) (fun h => by cases h) (Nat.le_of_ble_eq_true rfl) (fun _ => rfl) sx_isl ?_
  refine sx_aload_n (p1 := 1) dX12_readsWalkers_0 rfl rfl ?_
  refine sx_iconst (p1 := 2) dX12_readsWalkers_1 rfl ?_
  refine sx_put (p1 := 5) dX12_readsWalkers_2 rfl fl_X12_92 (hp_c39 _) (Nat.le_of_ble_eq_true rfl) (fun _ => rfl) (fun _ => rfl) (hp_s31 _ _) ?_
  refine sx_aload_n (p1 := 6) dX12_readsWalkers_5 rfl rfl ?_
  refine sx_iconst (p1 := 7) dX12_readsWalkers_6 rfl ?_
  refine sx_put (p1 := 10) dX12_readsWalkers_7 rfl fl_X12_106 (hp_c39 _) (Nat.le_of_ble_eq_true rfl) (fun _ => rfl) (fun _ => rfl) (hp_s33 _ _) ?_
  rw [wrS_0]
  refine sx_aload_n (p1 := 11) dX12_readsWalkers_10 rfl rfl ?_
  refine sx_get (p1 := 14) dX12_readsWalkers_11 rfl fl_X12_25 (hp_c39 _) rfl ?_
  refine sx_iconst (p1 := 15) dX12_readsWalkers_14 rfl ?_
  refine sx_iald (g := S.2 45) (p1 := 16) dX12_readsWalkers_15 rfl (hp_c45 _) (by omega) (by decide) ?_
  rw [show Int.toNat 1 = 1 from rfl]
  refine sx_if_le (p1 := 19) (tg := 23) dX12_readsWalkers_16 rfl rfl (by (show -2147483648 ≤ S.2 45 1 ∧ S.2 45 1 ≤ 2147483647); omega) (fun q16 => ?_) (fun q16 => ?_)
  · have q16 : S.2 45 1 ≤ 0 := q16
    have zn : S.2 45 1 = 0 := by omega
    have zF : rwF S = -1 := by
      unfold rwF
      rw [zn]
      exact if_pos (Or.inl rfl)
    have zE : rwE S = wrS S 0 0 0 := by
      unfold rwE
      rw [if_pos zF, zn]
      rfl
    refine sx_iconst (p1 := 24) dX12_readsWalkers_23 rfl ?_
    refine sx_istore_n (lo1 := [some _, some _, none]) (p1 := 25) dX12_readsWalkers_24 rfl (by decide) rfl ?_
    refine sx_iload_n (p1 := 26) dX12_readsWalkers_25 rfl rfl ?_
    refine sx_if_eq (p1 := 29) (tg := 106) dX12_readsWalkers_26 rfl rfl (by omega) (fun q26 => ?_) (fun q26 => absurd q26 (by omega))
    refine sx_iconst (p1 := 107) dX12_readsWalkers_106 rfl ?_
    exact sx_iret dX12_readsWalkers_107 rfl (sx_ri (by rw [zF]) (by rw [zE]))
  · have q16 : 0 < S.2 45 1 := q16
    refine sx_iconst (p1 := 20) dX12_readsWalkers_19 rfl ?_
    refine sx_goto (p1 := 24) (tg := 24) dX12_readsWalkers_20 rfl rfl ?_
    refine sx_istore_n (lo1 := [some _, some _, none]) (p1 := 25) dX12_readsWalkers_24 rfl (by decide) rfl ?_
    refine sx_iload_n (p1 := 26) dX12_readsWalkers_25 rfl rfl ?_
    refine sx_if_eq (p1 := 29) (tg := 106) dX12_readsWalkers_26 rfl rfl (by omega) (fun q26 => absurd q26 (by omega)) (fun q26 => ?_)
    refine sx_drop [true, false, false] (lo1 := [some _, none, none]) rfl ?_
    exact key 6 0 rfl q16 (by omega) rfl
set_option maxRecDepth 20000 in
theorem c_X12_plain {X : sx_X} {S : St} (b1 : 0 ≤ S.1 33 ∧ S.1 33 ≤ 6) (b5 : ∀ i, 0 ≤ S.2 50 i ∧ S.2 50 i ≤ 1) : Ct X yX12_plain cX12_plain 2 none 1 0 0 [.ref 39] (hp S) (sx_is none (hp (plF S))) := by
  have key : ∀ (n i : Nat), i + n = 6 → Rn X RX12 false cX12_plain 2 1 0 0 none 2 [some (.ref 39), some (vI (i : Int))] [] (hp (sA S 52 (wrF (S.2 52) (fun i => (i : Int)) i))) 0 0 (sx_is none (hp (plF S))) := by
    intro n
    induction n with
    | zero =>
      intro i hi 
      rw [Nat.add_zero] at hi
      subst hi
      refine sx_iload_n (p1 := 3) dX12_plain_2 rfl rfl ?_
      refine sx_bipush (p1 := 5) dX12_plain_3 rfl (by decide) ?_
      refine sx_icmp_ge (p1 := 8) (tg := 21) dX12_plain_5 rfl rfl (by omega) (by omega) (fun q5 => ?_) (fun q5 => absurd q5 (by omega))
      refine sx_aload_n (p1 := 22) dX12_plain_21 rfl rfl ?_
      refine sx_aload_n (p1 := 23) dX12_plain_22 rfl rfl ?_
      refine sx_get (p1 := 26) dX12_plain_23 rfl fl_X12_44 (hp_c39 _) rfl ?_
      refine sx_iconst (p1 := 27) dX12_plain_26 rfl ?_
      refine sx_iald (g := S.2 51) (p1 := 28) dX12_plain_27 rfl (hp_c51 _) (by omega) (by decide) ?_
      rw [show Int.toNat 0 = 0 from rfl]
      refine sx_put (p1 := 31) dX12_plain_28 rfl fl_X12_137 (hp_c39 _) (Nat.le_of_ble_eq_true rfl) (fun _ => rfl) (fun _ => rfl) (hp_s34 _ _) ?_
      refine sx_aload_n (p1 := 32) dX12_plain_31 rfl rfl ?_
      refine sx_aload_n (p1 := 33) dX12_plain_32 rfl rfl ?_
      refine sx_callVr (p1 := 36) (As := []) (k1 := 0) (n1 := 0) dX12_plain_33 rfl rfl (c_X12_helmetsNow (S := si (sA S 52 (wrF (S.2 52) (fun i => (i : Int)) 6)) 34 (S.2 51 0)) b1 b5) mt_X12_helmetsNow ml_X12_140 (hp_c39 _) rfl rfl (Nat.le_of_ble_eq_true rfl) rfl (Nat.le_of_ble_eq_true rfl) rfl rfl (Nat.le_of_ble_eq_true rfl) (Nat.le_of_ble_eq_true rfl) ?_
      refine sx_put (p1 := 39) dX12_plain_36 rfl fl_X12_143 (hp_c39 _) (Nat.le_of_ble_eq_true rfl) (fun _ => rfl) (fun _ => rfl) (hp_s35 _ _) ?_
      exact sx_vret dX12_plain_39 rfl (sx_rv (by rfl))
    | succ n ih =>
      intro i hi 
      refine sx_iload_n (p1 := 3) dX12_plain_2 rfl rfl ?_
      refine sx_bipush (p1 := 5) dX12_plain_3 rfl (by decide) ?_
      refine sx_icmp_ge (p1 := 8) (tg := 21) dX12_plain_5 rfl rfl (by omega) (by omega) (fun q5 => absurd q5 (by omega)) (fun q5 => ?_)
      refine sx_aload_n (p1 := 9) dX12_plain_8 rfl rfl ?_
      refine sx_get (p1 := 12) dX12_plain_9 rfl fl_X12_47 (hp_c39 _) rfl ?_
      refine sx_iload_n (p1 := 13) dX12_plain_12 rfl rfl ?_
      refine sx_iload_n (p1 := 14) dX12_plain_13 rfl rfl ?_
      refine sx_iast (p1 := 15) dX12_plain_14 rfl (hp_c52 _) (by omega) (by decide) (hp_a52 _ (i) _) ?_
      refine sx_iinc (lo1 := [some _, some _]) (p1 := 18) dX12_plain_15 rfl (by decide) rfl rfl ?_
      refine sx_goto (p1 := 2) (tg := 2) dX12_plain_18 rfl rfl ?_
      have h9 := ih (i + 1) (by omega)
      rw [← wrF_s _ _ i rfl, ← sa_sA] at h9
      exact h9
  refine Ct.of false [some (.ref 39), none] (plainFor_of_name (by decide)) (fun h => by cases h) (Nat.le_of_ble_eq_true rfl) (fun _ => rfl) sx_isl ?_
  refine sx_iconst (p1 := 1) dX12_plain_0 rfl ?_
  refine sx_istore_n (lo1 := [some _, some _]) (p1 := 2) dX12_plain_1 rfl (by decide) rfl ?_
  have h9 := key 6 0 rfl
  rw [wrF_0, sA_self] at h9
  exact h9
theorem rgE_y {S : St} (h : okY S) : okY (rgE S) := h
theorem wrS_y {S : St} (h : okY S) (a k : Int) (j : Nat) : okY (wrS S a k j) := by
  refine ⟨h.1, h.2.1, h.2.2.1, fun i => ?_⟩
  show 0 ≤ wU (S.2 50) (wG3 (rB S 1)) j i ∧ wU (S.2 50) (wG3 (rB S 1)) j i ≤ 1
  unfold wU
  split
  · unfold wG3
    split <;> omega
  · exact h.2.2.2 i
theorem rwE_y {S : St} (h : okY S) : okY (rwE S) := by
  unfold rwE
  split
  · exact wrS_y h _ _ _
  · exact wrS_y h _ _ _
theorem rwE_w {S : St} (h : okY S) : 0 ≤ (rwE S).1 33 ∧ (rwE S).1 33 ≤ 6 := by
  have := h.2.1
  unfold rwE
  split
  · show 0 ≤ ((((S.2 45 1).toNat + 3) / 4 : Nat) : Int) ∧ _
    show 0 ≤ ((((S.2 45 1).toNat + 3) / 4 : Nat) : Int) ∧ ((((S.2 45 1).toNat + 3) / 4 : Nat) : Int) ≤ 6
    omega
  · show 0 ≤ (0 : Int) ∧ (0 : Int) ≤ 6
    omega
set_option maxRecDepth 20000 in
theorem c_X12_reads {X : sx_X} {S : St} (hY : okY S) : Ct X yX12_reads cX12_reads 1 none 3 0 0 [.ref 39] (hp S) (sx_is none (hp (rdS S))) := by
  refine Ct.of false [some (.ref 39)] (plainFor_of_name (by decide)) (fun h => by cases h) (Nat.le_of_ble_eq_true rfl) (fun _ => rfl) sx_isl ?_
  refine sx_aload_n (p1 := 1) dX12_reads_0 rfl rfl ?_
  refine sx_callVr (p1 := 4) (As := []) (k1 := 0) (n1 := 0) dX12_reads_1 rfl rfl (c_X12_readsGully hY) mt_X12_readsGully ml_X12_113 (hp_c39 _) rfl rfl (Nat.le_of_ble_eq_true rfl) rfl (Nat.le_of_ble_eq_true rfl) rfl rfl (Nat.le_of_ble_eq_true rfl) (Nat.le_of_ble_eq_true rfl) ?_
  refine sx_pop (p1 := 5) dX12_reads_4 rfl rfl ?_
  refine sx_aload_n (p1 := 6) dX12_reads_5 rfl rfl ?_
  refine sx_callVr (p1 := 9) (As := []) (k1 := 0) (n1 := 0) dX12_reads_6 rfl rfl (c_X12_readsWalkers (S := rgE S) (rgE_y hY)) mt_X12_readsWalkers ml_X12_117 (hp_c39 _) rfl rfl (Nat.le_of_ble_eq_true rfl) rfl (Nat.le_of_ble_eq_true rfl) rfl rfl (Nat.le_of_ble_eq_true rfl) (Nat.le_of_ble_eq_true rfl) ?_
  refine sx_pop (p1 := 10) dX12_reads_9 rfl rfl ?_
  refine sx_aload_n (p1 := 11) dX12_reads_10 rfl rfl ?_
  refine sx_callVn (p1 := 14) (As := []) (k1 := 0) (n1 := 0) dX12_reads_11 rfl rfl (c_X12_plain (S := rwE (rgE S)) (rwE_w (rgE_y hY)) (rwE_y (rgE_y hY)).2.2.2) mt_X12_plain ml_X12_146 (hp_c39 _) rfl rfl (Nat.le_of_ble_eq_true rfl) rfl (Nat.le_of_ble_eq_true rfl) rfl rfl (Nat.le_of_ble_eq_true rfl) (Nat.le_of_ble_eq_true rfl) ?_
  exact sx_vret dX12_reads_14 rfl (sx_rv (by rfl))
set_option maxRecDepth 20000 in
theorem c_X12_fault {X : sx_X} {S : St} {i : Int} (hY : okY S) (hi : -2147483648 ≤ i ∧ i ≤ 2147483647) : Ct X yX12_fault cX12_fault 2 (some .int) 3 0 0 [.ref 39, vI i] (hp S) (sx_is (some (vI (if i = 0 then (rgA S).2.2.1 else if i = 1 then rwF S else -2))) (hp (if i = 0 then rgE S else if i = 1 then rwE S else S))) := by
  refine Ct.of false [some (.ref 39), some (vI i)] (plainFor_of_name (by decide)) (fun h => by cases h) (Nat.le_of_ble_eq_true rfl) (fun _ => rfl) sx_isl ?_
  refine sx_iload_n (p1 := 1) dX12_fault_0 rfl rfl ?_
  refine sx_callSr (p1 := 4) (As := [_]) (k1 := 0) (n1 := 0) dX12_fault_1 rfl rfl (c_X12_isTwo (by omega)) mt_X12_isTwo ml_X12_87 (Nat.le_of_ble_eq_true rfl) rfl (Nat.le_of_ble_eq_true rfl) rfl rfl (Nat.le_of_ble_eq_true rfl) (Nat.le_of_ble_eq_true rfl) ?_
  refine sx_if_ne (p1 := 7) (tg := 12) dX12_fault_4 rfl rfl (by omega) (fun q4 => ?_) (fun q4 => ?_)
  · refine sx_iload_n (p1 := 13) dX12_fault_12 rfl rfl ?_
    refine sx_if_ne (p1 := 16) (tg := 23) dX12_fault_13 rfl rfl (by omega) (fun q13 => ?_) (fun q13 => ?_)
    · refine sx_aload_n (p1 := 24) dX12_fault_23 rfl rfl ?_
      refine sx_callVr (p1 := 27) (As := []) (k1 := 0) (n1 := 0) dX12_fault_24 rfl rfl (c_X12_readsWalkers hY) mt_X12_readsWalkers ml_X12_117 (hp_c39 _) rfl rfl (Nat.le_of_ble_eq_true rfl) rfl (Nat.le_of_ble_eq_true rfl) rfl rfl (Nat.le_of_ble_eq_true rfl) (Nat.le_of_ble_eq_true rfl) ?_
      exact sx_iret dX12_fault_27 rfl (sx_ri (by first | (rw [if_pos (by omega)]; done) | (rw [if_neg (by omega), if_pos (by omega)]; done) | (rw [if_neg (by omega), if_neg (by omega)]; done)) (by first | (rw [if_pos (by omega)]; done) | (rw [if_neg (by omega), if_pos (by omega)]; done) | (rw [if_neg (by omega), if_neg (by omega)]; done)))
    · refine sx_aload_n (p1 := 17) dX12_fault_16 rfl rfl ?_
      refine sx_callVr (p1 := 20) (As := []) (k1 := 0) (n1 := 0) dX12_fault_17 rfl rfl (c_X12_readsGully hY) mt_X12_readsGully ml_X12_113 (hp_c39 _) rfl rfl (Nat.le_of_ble_eq_true rfl) rfl (Nat.le_of_ble_eq_true rfl) rfl rfl (Nat.le_of_ble_eq_true rfl) (Nat.le_of_ble_eq_true rfl) ?_
      refine sx_goto (p1 := 27) (tg := 27) dX12_fault_20 rfl rfl ?_
      exact sx_iret dX12_fault_27 rfl (sx_ri (by first | (rw [if_pos (by omega)]; done) | (rw [if_neg (by omega), if_pos (by omega)]; done) | (rw [if_neg (by omega), if_neg (by omega)]; done)) (by first | (rw [if_pos (by omega)]; done) | (rw [if_neg (by omega), if_pos (by omega)]; done) | (rw [if_neg (by omega), if_neg (by omega)]; done)))
  · refine sx_bipush (p1 := 9) dX12_fault_7 rfl (by decide) ?_
    refine sx_goto (p1 := 27) (tg := 27) dX12_fault_9 rfl rfl ?_
    exact sx_iret dX12_fault_27 rfl (sx_ri (by first | (rw [if_pos (by omega)]; done) | (rw [if_neg (by omega), if_pos (by omega)]; done) | (rw [if_neg (by omega), if_neg (by omega)]; done)) (by first | (rw [if_pos (by omega)]; done) | (rw [if_neg (by omega), if_pos (by omega)]; done) | (rw [if_neg (by omega), if_neg (by omega)]; done)))
