theorem i32_b (y : Int32) : -2147483648 ≤ y.toInt ∧ y.toInt ≤ 2147483647 := by
  have h1 := Int32.le_toInt y
  have h2 := Int32.toInt_lt y
  omega
theorem ctZ_b (f : Int) {x : Int} (hx : -2147483648 ≤ x ∧ x ≤ 2147483647) : -2147483648 ≤ ctZ f x ∧ ctZ f x ≤ 2147483647 := by
  unfold ctZ
  split
  · exact i32_b _
  · split
    · exact i32_b _
    · exact hx
theorem okSh_ext {S T : St} (h0 : T.2 40 = S.2 40) (h1 : T.2 41 = S.2 41) (h2 : T.2 42 = S.2 42) (h : okSh S) : okSh T := by
  unfold okSh
  rw [h0, h1, h2]
  exact h
theorem okY_ext {S T : St} (h0 : T.2 45 = S.2 45) (h1 : T.2 44 = S.2 44) (h2 : T.2 50 = S.2 50) (h : okY S) : okY T := by
  unfold okY
  rw [h0, h1, h2]
  exact h
theorem lkZ_ext {S T : St} (h0 : T.2 40 = S.2 40) (h1 : T.2 41 = S.2 41) (s : Nat) (f i : Int) : lkZ T s f i = lkZ S s f i := by
  unfold lkZ
  rw [h0, h1]
theorem wl_eq {S : St} (hG : GH S) {s : Nat} (hs : s < 4) (f i : Int) : lkZ S s f i = wrZ S s f i := by
  have hb := hG.1 s hs
  have hL := hG.2.2.1 s hs
  unfold lkZ wrZ
  rw [hL.1]
  by_cases c : S.1 (16 + 2 * s) = -1
  · rw [if_pos c, if_pos (by omega)]
  · rw [if_neg c, if_neg (by omega), (hL.2 c).1]
    by_cases d : S.1 (16 + 2 * s) ≠ f
    · rw [if_pos d, if_pos d]
    · rw [if_neg d, if_neg d]
      by_cases e : 0 ≤ i ∧ i < S.1 (17 + 2 * s)
      · rw [if_pos e, if_pos (by omega)]
      · rw [if_neg e, if_neg (by omega)]
theorem GH_upd {S T : St} {s : Nat} (hG : GH S)
    (o : ∀ q, q < 4 → q ≠ s → (T.1 (16 + 2 * q) = S.1 (16 + 2 * q) ∧ T.1 (17 + 2 * q) = S.1 (17 + 2 * q)) ∧ T.2 (32 + 2 * q) = S.2 (32 + 2 * q) ∧ (T.2 40 q = S.2 40 q ∧ T.2 41 q = S.2 41 q) ∧ ∀ i, i < 60 → T.2 42 (60 * q + i) = S.2 42 (60 * q + i))
    (z : 0 ≤ T.1 (17 + 2 * s) ∧ T.1 (17 + 2 * s) ≤ 60) (f : -1 ≤ T.1 (16 + 2 * s) ∧ T.1 (16 + 2 * s) ≤ 2) (it : ∀ i, -2147483648 ≤ T.2 (32 + 2 * s) i ∧ T.2 (32 + 2 * s) i ≤ 2147483647)
    (b : 0 ≤ T.2 41 s ∧ T.2 41 s ≤ 60) (r : ∀ i, -2147483648 ≤ T.2 42 i ∧ T.2 42 i ≤ 2147483647) (l : T.2 40 s = T.1 (16 + 2 * s))
    (l2 : T.1 (16 + 2 * s) ≠ -1 → T.2 41 s = T.1 (17 + 2 * s) ∧ ∀ i : Nat, (i : Int) < T.1 (17 + 2 * s) → T.2 42 (60 * s + i) = T.2 (32 + 2 * s) i) (h30 : T.1 30 = T.1 24) : GH T := by
  refine ⟨fun q hq => ?_, ⟨fun q hq => ?_, r⟩, fun q hq => ?_, h30⟩
  · by_cases c : q = s
    · subst c
      exact ⟨z, f, it⟩
    · obtain ⟨⟨o1, o2⟩, o3, -⟩ := o q hq c
      rw [o1, o2, o3]
      exact hG.1 q hq
  · by_cases c : q = s
    · subst c
      rw [l]
      exact ⟨f, b⟩
    · obtain ⟨-, -, ⟨o1, o2⟩, -⟩ := o q hq c
      rw [o1, o2]
      exact hG.2.1.1 q hq
  · by_cases c : q = s
    · subst c
      exact ⟨l, l2⟩
    · obtain ⟨⟨o1, o2⟩, o3, ⟨o4, o5⟩, o6⟩ := o q hq c
      have hb := hG.1 q hq
      have hL := hG.2.2.1 q hq
      rw [o1, o2, o3, o4, o5]
      exact ⟨hL.1, fun d => ⟨(hL.2 d).1, fun i hi => by rw [o6 i (by omega)]; exact (hL.2 d).2 i hi⟩⟩
theorem J_H {S T : St} (hJ : J S) (h1 : ∀ k, k < 12 ∨ k = 15 ∨ k = 39 → T.1 k = S.1 k) (h2 : ∀ k, k < 17 ∨ (27 ≤ k ∧ k ≤ 29) ∨ k = 44 ∨ k = 45 ∨ k = 51 ∨ k = 54 → T.2 k = S.2 k) (hB : GB T) (hH : GH T) : J T :=
  ⟨GA_ext (fun k hk => h1 k (by omega)) (fun k hk => h2 k (by omega)) hJ.1, GF_ext ⟨h1 15 (by omega), h1 39 (by omega)⟩ ⟨h2 27 (by omega), h2 28 (by omega), h2 29 (by omega), h2 54 (by omega)⟩ hJ.2.1, hH, hB⟩
theorem J_sheet {S : St} {s : Nat} {j k : Int} (hJ : J S) (hs : s < 4) (hj : 0 ≤ j ∧ j ≤ 2) (hk : 0 ≤ k ∧ k ≤ 60) : J (sA (sa (sa (sA (si (si S (16 + 2 * s) j) (17 + 2 * s) k) (32 + 2 * s) (flF (S.2 (32 + 2 * s)) 60)) 40 s j) 41 s k) 42 (rowW (S.2 42) (60 * s) k.toNat (fun _ => 0))) := by
  have hG := hJ.2.2.1
  have hb := hG.1 s hs
  have k40 : (sA (si (si S (16 + 2 * s) j) (17 + 2 * s) k) (32 + 2 * s) (flF (S.2 (32 + 2 * s)) 60)).2 40 = S.2 40 := sA_ne (by omega)
  have k41 : (sA (si (si S (16 + 2 * s) j) (17 + 2 * s) k) (32 + 2 * s) (flF (S.2 (32 + 2 * s)) 60)).2 41 = S.2 41 := sA_ne (by omega)
  have e1 : ∀ q, (sA (si (si S (16 + 2 * s) j) (17 + 2 * s) k) (32 + 2 * s) (flF (S.2 (32 + 2 * s)) 60)).1 q = if q = 17 + 2 * s then k else if q = 16 + 2 * s then j else S.1 q := fun q => rfl
  have e2 : ∀ q, (sA (si (si S (16 + 2 * s) j) (17 + 2 * s) k) (32 + 2 * s) (flF (S.2 (32 + 2 * s)) 60)).2 q = if q = 32 + 2 * s then flF (S.2 (32 + 2 * s)) 60 else S.2 q := fun q => rfl
  generalize sA (si (si S (16 + 2 * s) j) (17 + 2 * s) k) (32 + 2 * s) (flF (S.2 (32 + 2 * s)) 60) = S1 at k40 k41 e1 e2 ⊢
  have t1 : ∀ q, (sA (sa (sa S1 40 s j) 41 s k) 42 (rowW (S.2 42) (60 * s) k.toNat (fun _ => 0))).1 q = S1.1 q := fun q => rfl
  have t2 : ∀ q, q ≠ 40 → q ≠ 41 → q ≠ 42 → (sA (sa (sa S1 40 s j) 41 s k) 42 (rowW (S.2 42) (60 * s) k.toNat (fun _ => 0))).2 q = S1.2 q := fun q a b c => (sA_ne c).trans ((sa_ne b).trans (sa_ne a))
  have t40 : ∀ q, (sA (sa (sa S1 40 s j) 41 s k) 42 (rowW (S.2 42) (60 * s) k.toNat (fun _ => 0))).2 40 q = if q = s then j else S.2 40 q := by
    intro q
    rw [← k40]
    rfl
  have t41 : ∀ q, (sA (sa (sa S1 40 s j) 41 s k) 42 (rowW (S.2 42) (60 * s) k.toNat (fun _ => 0))).2 41 q = if q = s then k else S.2 41 q := by
    intro q
    rw [← k41]
    rfl
  have t42 : ∀ q, (sA (sa (sa S1 40 s j) 41 s k) 42 (rowW (S.2 42) (60 * s) k.toNat (fun _ => 0))).2 42 q = if 60 * s ≤ q ∧ q < 60 * s + k.toNat then 0 else S.2 42 q := fun q => rfl
  generalize sA (sa (sa S1 40 s j) 41 s k) 42 (rowW (S.2 42) (60 * s) k.toNat (fun _ => 0)) = T at t1 t2 t40 t41 t42 ⊢
  have o1 : ∀ q, q ≠ 16 + 2 * s → q ≠ 17 + 2 * s → T.1 q = S.1 q := fun q a b => by rw [t1, e1, if_neg b, if_neg a]
  have o2 : ∀ q, q ≠ 40 → q ≠ 41 → q ≠ 42 → q ≠ 32 + 2 * s → T.2 q = S.2 q := fun q a b c d => by rw [t2 q a b c, e2, if_neg d]
  have f16 : T.1 (16 + 2 * s) = j := by rw [t1, e1, if_neg (by omega), if_pos rfl]
  have f17 : T.1 (17 + 2 * s) = k := by rw [t1, e1, if_pos rfl]
  have f32 : ∀ i, T.2 (32 + 2 * s) i = if i < 60 then 0 else S.2 (32 + 2 * s) i := fun i => by
    rw [t2 _ (by omega) (by omega) (by omega), e2, if_pos rfl]
    rfl
  refine J_H hJ (fun q hq => o1 q (by omega) (by omega)) (fun q hq => o2 q (by omega) (by omega) (by omega) (by omega)) (GB_ext (o1 36 (by omega) (by omega)) ⟨o2 20 (by omega) (by omega) (by omega) (by omega), o2 50 (by omega) (by omega) (by omega) (by omega)⟩ hJ.2.2.2) (GH_upd hG (s := s) (fun q hq c => ⟨⟨o1 _ (by omega) (by omega), o1 _ (by omega) (by omega)⟩, o2 _ (by omega) (by omega) (by omega) (by omega), ⟨?_, ?_⟩, fun i hi => ?_⟩) ?_ ?_ (fun i => ?_) ?_ (fun i => ?_) ?_ (fun _ => ⟨?_, fun i hi => ?_⟩) ?_)
  · rw [t40, if_neg c]
  · rw [t41, if_neg c]
  · rw [t42, if_neg (by omega)]
  · rw [f17]
    exact hk
  · rw [f16]
    omega
  · rw [f32]
    split
    · decide
    · exact hb.2.2 i
  · rw [t41, if_pos rfl]
    exact hk
  · rw [t42]
    split
    · decide
    · exact hG.2.1.2 i
  · rw [t40, if_pos rfl, f16]
  · rw [t41, if_pos rfl, f17]
  · rw [f17] at hi
    rw [t42, f32, if_pos (by omega), if_pos (by omega)]
  · rw [o1 30 (by omega) (by omega), o1 24 (by omega) (by omega)]
    exact hG.2.2.2
theorem J_lose {S : St} {s : Nat} (hJ : J S) (hs : s < 4) : J (sa (si (si S (16 + 2 * s) (-1)) (17 + 2 * s) 0) 40 s (-1)) := by
  have hG := hJ.2.2.1
  have hb := hG.1 s hs
  have t1 : ∀ q, (sa (si (si S (16 + 2 * s) (-1)) (17 + 2 * s) 0) 40 s (-1)).1 q = if q = 17 + 2 * s then 0 else if q = 16 + 2 * s then -1 else S.1 q := fun q => rfl
  have t2 : ∀ q, q ≠ 40 → (sa (si (si S (16 + 2 * s) (-1)) (17 + 2 * s) 0) 40 s (-1)).2 q = S.2 q := fun q h => sa_ne h
  have t40 : ∀ q, (sa (si (si S (16 + 2 * s) (-1)) (17 + 2 * s) 0) 40 s (-1)).2 40 q = if q = s then -1 else S.2 40 q := fun q => rfl
  generalize sa (si (si S (16 + 2 * s) (-1)) (17 + 2 * s) 0) 40 s (-1) = T at t1 t2 t40 ⊢
  have o1 : ∀ q, q ≠ 16 + 2 * s → q ≠ 17 + 2 * s → T.1 q = S.1 q := fun q a b => by rw [t1, if_neg b, if_neg a]
  have f16 : T.1 (16 + 2 * s) = -1 := by rw [t1, if_neg (by omega), if_pos rfl]
  have f17 : T.1 (17 + 2 * s) = 0 := by rw [t1, if_pos rfl]
  refine J_H hJ (fun q hq => o1 q (by omega) (by omega)) (fun q hq => t2 q (by omega)) (GB_ext (o1 36 (by omega) (by omega)) ⟨t2 20 (by omega), t2 50 (by omega)⟩ hJ.2.2.2) (GH_upd hG (s := s) (fun q hq c => ⟨⟨o1 _ (by omega) (by omega), o1 _ (by omega) (by omega)⟩, t2 _ (by omega), ⟨?_, congrFun (t2 41 (by decide)) q⟩, fun i hi => congrFun (t2 42 (by decide)) _⟩) ?_ ?_ (fun i => ?_) ?_ (fun i => ?_) ?_ (fun c => absurd f16 c) ?_)
  · rw [t40, if_neg c]
  · rw [f17]
    decide
  · rw [f16]
    decide
  · rw [t2 _ (by omega)]
    exact hb.2.2 i
  · rw [t2 _ (by decide)]
    exact (hG.2.1.1 s hs).2
  · rw [t2 _ (by decide)]
    exact hG.2.1.2 i
  · rw [t40, if_pos rfl, f16]
  · rw [o1 30 (by omega) (by omega), o1 24 (by omega) (by omega)]
    exact hG.2.2.2
/-- where items alone have changed, in the class's row s and in the reference's -/
theorem J_items {S T : St} {s : Nat} {g h : Nat → Int} (hJ : J S) (hs : s < 4) (t1 : ∀ q, q < 31 ∨ q = 39 → T.1 q = S.1 q) (t2 : ∀ q, q < 18 ∨ (24 ≤ q ∧ q ≤ 41) ∨ q = 44 ∨ q = 45 ∨ q = 51 ∨ q = 54 → q ≠ 32 + 2 * s → T.2 q = S.2 q) (hB : GB T) (tg : T.2 (32 + 2 * s) = g) (th : T.2 42 = h) (rg : ∀ i, -2147483648 ≤ g i ∧ g i ≤ 2147483647) (rh : ∀ i, -2147483648 ≤ h i ∧ h i ≤ 2147483647) (ho : ∀ q i, q < 4 → q ≠ s → i < 60 → h (60 * q + i) = S.2 42 (60 * q + i)) (hl : S.1 (16 + 2 * s) ≠ -1 → ∀ i : Nat, (i : Int) < S.1 (17 + 2 * s) → h (60 * s + i) = g i) : J T := by
  have hG := hJ.2.2.1
  have hb := hG.1 s hs
  have hL := hG.2.2.1 s hs
  refine J_H hJ (fun q hq => t1 q (by omega)) (fun q hq => t2 q (by omega) (by omega)) hB (GH_upd hG (s := s) (fun q hq c => ⟨⟨t1 _ (by omega), t1 _ (by omega)⟩, t2 _ (by omega) (by omega), ⟨congrFun (t2 40 (by omega) (by omega)) q, congrFun (t2 41 (by omega) (by omega)) q⟩, fun i hi => ?_⟩) ?_ ?_ (fun i => ?_) ?_ (fun i => ?_) ?_ ?_ ?_)
  · rw [th]
    exact ho q i hq c hi
  · rw [t1 _ (by omega)]
    exact hb.1
  · rw [t1 _ (by omega)]
    exact hb.2.1
  · rw [tg]
    exact rg i
  · rw [t2 41 (by omega) (by omega)]
    exact (hG.2.1.1 s hs).2
  · rw [th]
    exact rh i
  · rw [t2 40 (by omega) (by omega), t1 _ (by omega)]
    exact hL.1
  · rw [t1 (16 + 2 * s) (by omega), t1 (17 + 2 * s) (by omega), t2 41 (by omega) (by omega), th, tg]
    exact fun c => ⟨(hL.2 c).1, hl c⟩
  · rw [t1 30 (by omega), t1 24 (by omega)]
    exact hG.2.2.2
theorem tw_sheet {X : sx_X} {S : St} {i j k : Int} (hJ : J S) (hi : -2147483648 ≤ i ∧ i ≤ 2147483647) (hj : -2147483648 ≤ j ∧ j ≤ 2147483647) (hk : -2147483648 ≤ k ∧ k ≤ 2147483647) : TwI X yX11_sheet cX11_sheet 5 2 yX12_sheet cX12_sheet 5 2 [vI i, vI j, vI k] S := by
  by_cases hn : i < 0 ∨ 4 ≤ i
  · exact ⟨S, S, _, n_X11_sheet (J_CI hJ) hi hj hk hn, n_X12_sheet hn hi hj hk, hJ⟩
  · obtain ⟨s, hs, rfl⟩ : ∃ s : Nat, s < 4 ∧ i = (s : Int) := ⟨i.toNat, by omega, by omega⟩
    have hG := hJ.2.2.1
    have hb := hG.1 s hs
    have hL := hG.2.2.1 s hs
    have h1 := c_X11_sheet (X := X) hs (J_CI hJ) hj hk
    by_cases c : (0 ≤ j ∧ j ≤ 2) ∧ k ≤ 60
    · by_cases d : k < 0
      · rw [if_pos c, if_pos c, if_pos d, if_pos d] at h1
        have h2 := c_X12_sheet (X := X) (S := si S 24 5) hs (show okSh (si S 24 5) from hG.2.1) hj hk
        rw [if_pos c, if_pos c, if_pos d, if_pos d] at h2
        exact ⟨_, _, _, h1, h2, J_find hJ 5⟩
      · rw [if_pos c, if_pos c, if_neg d, if_neg d] at h1
        have k42 : (sA (si (si S (16 + 2 * s) j) (17 + 2 * s) k) (32 + 2 * s) (flF (S.2 (32 + 2 * s)) 60)).2 42 = S.2 42 := sA_ne (by omega)
        have h2 := c_X12_sheet (X := X) (S := (sA (si (si S (16 + 2 * s) j) (17 + 2 * s) k) (32 + 2 * s) (flF (S.2 (32 + 2 * s)) 60))) hs (okSh_ext (S := S) (sA_ne (by omega)) (sA_ne (by omega)) k42 hG.2.1) hj hk
        rw [if_pos c, if_pos c, if_neg d, if_neg d, k42] at h2
        exact ⟨_, _, _, h1, h2, J_sheet hJ hs c.1 ⟨by omega, c.2⟩⟩
    · rw [if_neg c, if_neg c] at h1
      have h2 := c_X12_sheet (X := X) (S := S) hs hG.2.1 hj hk
      rw [if_neg c, if_neg c] at h2
      exact ⟨_, _, _, h1, h2, hJ⟩
theorem tw_lose {X : sx_X} {S : St} {i : Int} (hJ : J S) (hi : -2147483648 ≤ i ∧ i ≤ 2147483647) : TwI X yX11_lose cX11_lose 4 1 yX12_lose cX12_lose 2 2 [vI i] S := by
  by_cases hn : i < 0 ∨ 4 ≤ i
  · exact ⟨S, S, _, n_X11_lose (J_CI hJ) hi hn, n_X12_lose hn hi, hJ⟩
  · obtain ⟨s, hs, rfl⟩ : ∃ s : Nat, s < 4 ∧ i = (s : Int) := ⟨i.toNat, by omega, by omega⟩
    have hG := hJ.2.2.1
    have hb := hG.1 s hs
    have hL := hG.2.2.1 s hs
    have h1 := c_X11_lose (X := X) hs (J_CI hJ)
    by_cases c : S.1 (16 + 2 * s) = -1
    · rw [if_pos c, if_pos c] at h1
      have h2 := c_X12_lose (X := X) (S := si S 24 1) hs (show okSh (si S 24 1) from hG.2.1)
      rw [show (si S 24 1).2 40 s = -1 from hL.1.trans c, if_pos (by decide), if_pos (by decide)] at h2
      exact ⟨_, _, _, h1, h2, J_find hJ 1⟩
    · rw [if_neg c, if_neg c] at h1
      have h2 := c_X12_lose (X := X) (S := si (si S (16 + 2 * s) (-1)) (17 + 2 * s) 0) hs (show okSh (si (si S (16 + 2 * s) (-1)) (17 + 2 * s) 0) from hG.2.1)
      have k40 : ¬ (si (si S (16 + 2 * s) (-1)) (17 + 2 * s) 0).2 40 s < 0 := by
        show ¬ S.2 40 s < 0
        rw [hL.1]
        omega
      rw [if_neg k40, if_neg k40, show (si (si S (16 + 2 * s) (-1)) (17 + 2 * s) 0).2 41 s = S.1 (17 + 2 * s) from (hL.2 c).1] at h2
      exact ⟨_, _, _, h1, h2, J_lose hJ hs⟩
theorem tw_lay {X : sx_X} {S : St} {i j k l : Int} (hJ : J S) (hi : -2147483648 ≤ i ∧ i ≤ 2147483647) (hj : -2147483648 ≤ j ∧ j ≤ 2147483647) (hk : -2147483648 ≤ k ∧ k ≤ 2147483647) (hl : -2147483648 ≤ l ∧ l ≤ 2147483647) : TwI X yX11_lay cX11_lay 7 2 yX12_lay cX12_lay 6 2 [vI i, vI j, vI k, vI l] S := by
  by_cases hn : i < 0 ∨ 4 ≤ i
  · exact ⟨S, S, _, n_X11_lay (J_CI hJ) hi hj hk hl hn, n_X12_lay hn hi hj hk hl, hJ⟩
  · obtain ⟨s, hs, rfl⟩ : ∃ s : Nat, s < 4 ∧ i = (s : Int) := ⟨i.toNat, by omega, by omega⟩
    have hG := hJ.2.2.1
    have hb := hG.1 s hs
    have hL := hG.2.2.1 s hs
    have h1 := c_X11_lay (X := X) hs (J_CI hJ) hj hk hl
    have e := wl_eq hG hs j k
    by_cases c : 0 ≤ j ∧ j ≤ 2
    · by_cases d : wrZ S s j k = 0
      · rw [if_pos c, if_pos c, if_pos d, if_pos d] at h1
        have w0 := wrZ_0 d
        have k40 : (sa S (32 + 2 * s) k.toNat (ctZ (S.1 (16 + 2 * s)) l)).2 40 = S.2 40 := sa_ne (by omega)
        have k41 : (sa S (32 + 2 * s) k.toNat (ctZ (S.1 (16 + 2 * s)) l)).2 41 = S.2 41 := sa_ne (by omega)
        have k42 : (sa S (32 + 2 * s) k.toNat (ctZ (S.1 (16 + 2 * s)) l)).2 42 = S.2 42 := sa_ne (by omega)
        have h2 := c_X12_lay (X := X) (S := (sa S (32 + 2 * s) k.toNat (ctZ (S.1 (16 + 2 * s)) l))) hs (okSh_ext (S := S) k40 k41 k42 hG.2.1) hj hk hl
        rw [lkZ_ext k40 k41, e, if_pos c, if_pos c, if_pos d, if_pos d] at h2
        have cb := ctZ_b j hl
        refine ⟨_, _, _, h1, h2, J_items (s := s) (g := sx_u (S.2 (32 + 2 * s)) k.toNat (ctZ (S.1 (16 + 2 * s)) l)) (h := sx_u (S.2 42) (60 * s + k.toNat) (ctZ j l)) hJ hs (fun q _ => rfl) (fun q h3 h4 => (sa_ne (by omega)).trans (sa_ne h4)) (GB_ext (S := S) rfl ⟨(sa_ne (by omega)).trans (sa_ne (by omega)), (sa_ne (by omega)).trans (sa_ne (by omega))⟩ hJ.2.2.2) ?_ ?_ (fun q => ?_) (fun q => ?_) (fun q y h3 h4 h5 => ?_) (fun h3 q hq => ?_)⟩
        · rw [sa_ne (by omega)]
          exact if_pos rfl
        · show sx_u ((sa S (32 + 2 * s) k.toNat (ctZ (S.1 (16 + 2 * s)) l)).2 42) (60 * s + k.toNat) (ctZ j l) = _
          rw [k42]
        · unfold sx_u
          rw [w0.1]
          split
          · exact cb
          · exact hb.2.2 q
        · unfold sx_u
          split
          · exact cb
          · exact hG.2.1.2 q
        · unfold sx_u
          rw [if_neg (by omega)]
        · unfold sx_u
          rw [w0.1]
          by_cases z : q = k.toNat
          · rw [if_pos z, if_pos (by omega)]
          · rw [if_neg z, if_neg (by omega)]
            exact (hL.2 h3).2 q hq
      · rw [if_pos c, if_pos c, if_neg d, if_neg d] at h1
        have h2 := c_X12_lay (X := X) (S := si S 24 (wrZ S s j k)) hs (show okSh (si S 24 (wrZ S s j k)) from hG.2.1) hj hk hl
        rw [lkZ_ext (S := S) (T := si S 24 (wrZ S s j k)) rfl rfl, e, if_pos c, if_pos c, if_neg d, if_neg d] at h2
        exact ⟨_, _, _, h1, h2, J_find hJ _⟩
    · rw [if_neg c, if_neg c] at h1
      have h2 := c_X12_lay (X := X) (S := S) hs hG.2.1 hj hk hl
      rw [if_neg c, if_neg c] at h2
      exact ⟨_, _, _, h1, h2, hJ⟩
theorem tw_get {X : sx_X} {S : St} {i j k : Int} (hJ : J S) (hi : -2147483648 ≤ i ∧ i ≤ 2147483647) (hj : -2147483648 ≤ j ∧ j ≤ 2147483647) (hk : -2147483648 ≤ k ∧ k ≤ 2147483647) : TwI X yX11_get cX11_get 6 2 yX12_get cX12_get 4 2 [vI i, vI j, vI k] S := by
  by_cases hn : i < 0 ∨ 4 ≤ i
  · exact ⟨S, S, _, n_X11_get (J_CI hJ) hi hj hk hn, n_X12_get hn hi hj hk, hJ⟩
  · obtain ⟨s, hs, rfl⟩ : ∃ s : Nat, s < 4 ∧ i = (s : Int) := ⟨i.toNat, by omega, by omega⟩
    have hG := hJ.2.2.1
    have hb := hG.1 s hs
    have hL := hG.2.2.1 s hs
    have h1 := c_X11_get (X := X) hs (J_CI hJ) hj hk
    have e := wl_eq hG hs j k
    by_cases c : 0 ≤ j ∧ j ≤ 2
    · by_cases d : wrZ S s j k = 0
      · rw [if_pos c, if_pos c, if_pos d, if_pos d] at h1
        have w0 := wrZ_0 d
        have h2 := c_X12_get (X := X) (S := S) hs hG.2.1 hj hk
        rw [e, if_pos c, if_pos c, if_pos d, if_pos d, (hL.2 (by omega)).2 k.toNat (by omega)] at h2
        exact ⟨_, _, _, h1, h2, hJ⟩
      · rw [if_pos c, if_pos c, if_neg d, if_neg d] at h1
        have h2 := c_X12_get (X := X) (S := si S 24 (wrZ S s j k)) hs (show okSh (si S 24 (wrZ S s j k)) from hG.2.1) hj hk
        rw [lkZ_ext (S := S) (T := si S 24 (wrZ S s j k)) rfl rfl, e, if_pos c, if_pos c, if_neg d, if_neg d] at h2
        exact ⟨_, _, _, h1, h2, J_find hJ _⟩
    · rw [if_neg c, if_neg c] at h1
      have h2 := c_X12_get (X := X) (S := S) hs hG.2.1 hj hk
      rw [if_neg c, if_neg c] at h2
      exact ⟨_, _, _, h1, h2, hJ⟩
theorem tw_copy {X : sx_X} {S : St} {x i y j k : Int} (hJ : J S) (hx : -2147483648 ≤ x ∧ x ≤ 2147483647) (hi : -2147483648 ≤ i ∧ i ≤ 2147483647) (hy : -2147483648 ≤ y ∧ y ≤ 2147483647) (hj : -2147483648 ≤ j ∧ j ≤ 2147483647) (hk : -2147483648 ≤ k ∧ k ≤ 2147483647) : TwI X yX11_copy cX11_copy 8 2 yX12_copy cX12_copy 7 2 [vI x, vI i, vI y, vI j, vI k] S := by
  by_cases hx4 : x < 0 ∨ 4 ≤ x
  · by_cases hy4 : y < 0 ∨ 4 ≤ y
    · exact ⟨S, S, _, n_X11_copy0 hx hx4 hy hy4, n_X12_copy (Or.inl hx4) hx hy, hJ⟩
    · obtain ⟨s2, hs2, rfl⟩ : ∃ s : Nat, s < 4 ∧ y = (s : Int) := ⟨y.toNat, by omega, by omega⟩
      exact ⟨S, S, _, n_X11_copy1 hx hx4 hs2, n_X12_copy (Or.inl hx4) hx hy, hJ⟩
  · obtain ⟨s, hs, rfl⟩ : ∃ s : Nat, s < 4 ∧ x = (s : Int) := ⟨x.toNat, by omega, by omega⟩
    by_cases hy4 : y < 0 ∨ 4 ≤ y
    · exact ⟨S, S, _, n_X11_copy2 hs hy hy4, n_X12_copy (Or.inr hy4) hx hy, hJ⟩
    · obtain ⟨s2, hs2, rfl⟩ : ∃ s : Nat, s < 4 ∧ y = (s : Int) := ⟨y.toNat, by omega, by omega⟩
      have hG := hJ.2.2.1
      have hb := hG.1 s hs
      have hL := hG.2.2.1 s hs
      have hb2 := hG.1 s2 hs2
      have hL2 := hG.2.2.1 s2 hs2
      have h1 := c_X11_copy (X := X) hs hs2 (J_CI hJ) hi hj hk
      by_cases c : S.1 (16 + 2 * s) = -1 ∨ S.1 (16 + 2 * s2) = -1
      · rw [if_pos c, if_pos c] at h1
        have h2 := c_X12_copy (X := X) (S := si S 24 1) hs hs2 (show okSh (si S 24 1) from hG.2.1) hi hj hk
        have c2 : (si S 24 1).2 40 s < 0 ∨ (si S 24 1).2 40 s2 < 0 := by
          show S.2 40 s < 0 ∨ S.2 40 s2 < 0
          rw [hL.1, hL2.1]
          omega
        rw [if_pos c2, if_pos c2] at h2
        exact ⟨_, _, _, h1, h2, J_find hJ 1⟩
      · rw [if_neg c, if_neg c] at h1
        have d1 : S.1 (16 + 2 * s) ≠ -1 := fun q => c (Or.inl q)
        have d2 : S.1 (16 + 2 * s2) ≠ -1 := fun q => c (Or.inr q)
        have z1 := hL.2 d1
        have z2 := hL2.2 d2
        by_cases d : S.1 (16 + 2 * s) ≠ S.1 (16 + 2 * s2)
        · rw [if_pos d, if_pos d] at h1
          have h2 := c_X12_copy (X := X) (S := si S 24 4) hs hs2 (show okSh (si S 24 4) from hG.2.1) hi hj hk
          have c2 : ¬ ((si S 24 4).2 40 s < 0 ∨ (si S 24 4).2 40 s2 < 0) := by
            show ¬ (S.2 40 s < 0 ∨ S.2 40 s2 < 0)
            rw [hL.1, hL2.1]
            omega
          have c3 : (si S 24 4).2 40 s ≠ (si S 24 4).2 40 s2 := by
            show S.2 40 s ≠ S.2 40 s2
            rw [hL.1, hL2.1]
            exact d
          rw [if_neg c2, if_neg c2, if_pos c3, if_pos c3] at h2
          exact ⟨_, _, _, h1, h2, J_find hJ 4⟩
        · rw [if_neg d, if_neg d] at h1
          by_cases e : (0 ≤ i ∧ 0 ≤ k ∧ k ≤ S.1 (17 + 2 * s) ∧ i ≤ S.1 (17 + 2 * s) - k) ∧ 0 ≤ j ∧ 0 ≤ k ∧ k ≤ S.1 (17 + 2 * s2) ∧ j ≤ S.1 (17 + 2 * s2) - k
          · rw [if_pos e, if_pos e] at h1
            have k40 : (sA S (32 + 2 * s2) (va_cpy (S.2 (32 + 2 * s)) (S.2 (32 + 2 * s2)) i.toNat j.toNat k.toNat)).2 40 = S.2 40 := sA_ne (by omega)
            have k41 : (sA S (32 + 2 * s2) (va_cpy (S.2 (32 + 2 * s)) (S.2 (32 + 2 * s2)) i.toNat j.toNat k.toNat)).2 41 = S.2 41 := sA_ne (by omega)
            have k42 : (sA S (32 + 2 * s2) (va_cpy (S.2 (32 + 2 * s)) (S.2 (32 + 2 * s2)) i.toNat j.toNat k.toNat)).2 42 = S.2 42 := sA_ne (by omega)
            have h2 := c_X12_copy (X := X) (S := (sA S (32 + 2 * s2) (va_cpy (S.2 (32 + 2 * s)) (S.2 (32 + 2 * s2)) i.toNat j.toNat k.toNat))) hs hs2 (okSh_ext (S := S) k40 k41 k42 hG.2.1) hi hj hk
            rw [k40, k41, k42, hL.1, hL2.1, z1.1, z2.1, if_neg (show ¬ (S.1 (16 + 2 * s) < 0 ∨ S.1 (16 + 2 * s2) < 0) by omega), if_neg (show ¬ (S.1 (16 + 2 * s) < 0 ∨ S.1 (16 + 2 * s2) < 0) by omega), if_neg d, if_neg d, if_pos (show 0 ≤ i ∧ 0 ≤ j ∧ 0 ≤ k ∧ i + k ≤ S.1 (17 + 2 * s) ∧ j + k ≤ S.1 (17 + 2 * s2) by omega), if_pos (show 0 ≤ i ∧ 0 ≤ j ∧ 0 ≤ k ∧ i + k ≤ S.1 (17 + 2 * s) ∧ j + k ≤ S.1 (17 + 2 * s2) by omega)] at h2
            refine ⟨_, _, _, h1, h2, J_items (s := s2) (g := va_cpy (S.2 (32 + 2 * s)) (S.2 (32 + 2 * s2)) i.toNat j.toNat k.toNat) (h := rowW (S.2 42) (60 * s2 + j.toNat) k.toNat (fun a => S.2 42 (60 * s + i.toNat + a))) hJ hs2 (fun q _ => rfl) (fun q h3 h4 => (sA_ne (by omega)).trans ((sA_ne (by omega)).trans (sA_ne h4))) (GB_ext (S := S) rfl ⟨(sA_ne (by omega)).trans ((sA_ne (by omega)).trans (sA_ne (by omega))), (sA_ne (by omega)).trans ((sA_ne (by omega)).trans (sA_ne (by omega)))⟩ hJ.2.2.2) ?_ rfl (fun q => ?_) (fun q => ?_) (fun q p h3 h4 h5 => ?_) (fun h3 q hq => ?_)⟩
            · rw [sA_ne (by omega), sA_ne (by omega)]
              exact if_pos rfl
            · unfold va_cpy
              split
              · exact hb.2.2 _
              · exact hb2.2.2 _
            · unfold rowW
              split
              · exact hG.2.1.2 _
              · exact hG.2.1.2 _
            · unfold rowW
              rw [if_neg (by omega)]
            · unfold rowW va_cpy
              by_cases z : j.toNat ≤ q ∧ q < j.toNat + k.toNat
              · rw [if_pos z, if_pos (by omega)]
                show S.2 42 (60 * s + i.toNat + (60 * s2 + q - (60 * s2 + j.toNat))) = _
                rw [show 60 * s + i.toNat + (60 * s2 + q - (60 * s2 + j.toNat)) = 60 * s + (i.toNat + (q - j.toNat)) by omega]
                exact z1.2 _ (by omega)
              · rw [if_neg z, if_neg (by omega)]
                exact z2.2 q hq
          · rw [if_neg e, if_neg e] at h1
            have h2 := c_X12_copy (X := X) (S := si S 24 2) hs hs2 (show okSh (si S 24 2) from hG.2.1) hi hj hk
            rw [show (si S 24 2).2 = S.2 from rfl, hL.1, hL2.1, z1.1, z2.1, if_neg (show ¬ (S.1 (16 + 2 * s) < 0 ∨ S.1 (16 + 2 * s2) < 0) by omega), if_neg (show ¬ (S.1 (16 + 2 * s) < 0 ∨ S.1 (16 + 2 * s2) < 0) by omega), if_neg d, if_neg d, if_neg (show ¬ (0 ≤ i ∧ 0 ≤ j ∧ 0 ≤ k ∧ i + k ≤ S.1 (17 + 2 * s) ∧ j + k ≤ S.1 (17 + 2 * s2)) by omega), if_neg (show ¬ (0 ≤ i ∧ 0 ≤ j ∧ 0 ≤ k ∧ i + k ≤ S.1 (17 + 2 * s) ∧ j + k ≤ S.1 (17 + 2 * s2)) by omega)] at h2
            exact ⟨_, _, _, h1, h2, J_find hJ 2⟩
theorem tw_write {X : sx_X} {S : St} {j i : Int} (hJ : J S) (hj : -2147483648 ≤ j ∧ j ≤ 2147483647) (hi : -2147483648 ≤ i ∧ i ≤ 2147483647) : TwI X yX11_write cX11_write 6 2 yX12_write cX12_write 5 4 [vI j, vI i] S := by
  by_cases hn : i < 0 ∨ 4 ≤ i
  · exact ⟨S, S, _, n_X11_write (J_CI hJ) hj hi hn, n_X12_write hn hi hj, hJ⟩
  · obtain ⟨s, hs, rfl⟩ : ∃ s : Nat, s < 4 ∧ i = (s : Int) := ⟨i.toNat, by omega, by omega⟩
    have hG := hJ.2.2.1
    have hb := hG.1 s hs
    have hL := hG.2.2.1 s hs
    have h1 := c_X11_write (X := X) hs (J_CI hJ) hj
    by_cases c : 0 ≤ j ∧ j ≤ 1999
    · by_cases d : S.1 (16 + 2 * s) = -1
      · rw [if_pos c, if_pos c, if_pos d, if_pos d] at h1
        have hY0 := J_Y hJ
        have hA : GA (si S 24 1) := GA_ext (S := S) (fun k hk => si_ne (by omega)) (fun _ _ => rfl) hJ.1
        have h2 := c_X12_write (X := X) (S := si S 24 1) (T := rdS (si S 24 1)) rfl (show okY (si S 24 1) from hY0) (QA hA (show okY (si S 24 1) from hY0)) hs (show okSh (si S 24 1) from hG.2.1) (rd_a _ 40 (by decide)) (rd_a _ 41 (by decide)) hj
        rw [if_pos c, if_pos c, show (si S 24 1).2 40 s = -1 from hL.1.trans d, if_pos (by decide), if_pos (by decide)] at h2
        exact ⟨_, _, _, h1, h2, J_find hJ 1⟩
      · rw [if_pos c, if_pos c, if_neg d, if_neg d] at h1
        have cs : cV (sA S (32 + 2 * s) (wrF (S.2 (32 + 2 * s)) (fun q : Nat => ctZ (S.1 (16 + 2 * s)) (mPl (cV S) (j - (cV S).1 5 - (q : Int) * (cV S).1 2))) (min (S.1 (17 + 2 * s)) ((cV S).1 1)).toNat)) = cV S := cV_sh hs _
        have s1 : ∀ q, (sA S (32 + 2 * s) (wrF (S.2 (32 + 2 * s)) (fun q : Nat => ctZ (S.1 (16 + 2 * s)) (mPl (cV S) (j - (cV S).1 5 - (q : Int) * (cV S).1 2))) (min (S.1 (17 + 2 * s)) ((cV S).1 1)).toNat)).1 q = S.1 q := fun q => rfl
        have s2 : ∀ q, q ≠ 32 + 2 * s → (sA S (32 + 2 * s) (wrF (S.2 (32 + 2 * s)) (fun q : Nat => ctZ (S.1 (16 + 2 * s)) (mPl (cV S) (j - (cV S).1 5 - (q : Int) * (cV S).1 2))) (min (S.1 (17 + 2 * s)) ((cV S).1 1)).toNat)).2 q = S.2 q := fun q h => sA_ne h
        have s3 : (sA S (32 + 2 * s) (wrF (S.2 (32 + 2 * s)) (fun q : Nat => ctZ (S.1 (16 + 2 * s)) (mPl (cV S) (j - (cV S).1 5 - (q : Int) * (cV S).1 2))) (min (S.1 (17 + 2 * s)) ((cV S).1 1)).toNat)).2 (32 + 2 * s) = wrF (S.2 (32 + 2 * s)) (fun q : Nat => ctZ (S.1 (16 + 2 * s)) (mPl (cV S) (j - (cV S).1 5 - (q : Int) * (cV S).1 2))) (min (S.1 (17 + 2 * s)) ((cV S).1 1)).toNat := if_pos rfl
        generalize (sA S (32 + 2 * s) (wrF (S.2 (32 + 2 * s)) (fun q : Nat => ctZ (S.1 (16 + 2 * s)) (mPl (cV S) (j - (cV S).1 5 - (q : Int) * (cV S).1 2))) (min (S.1 (17 + 2 * s)) ((cV S).1 1)).toNat)) = S1 at h1 cs s1 s2 s3
        have hA : GA S1 := GA_ext (S := S) (fun k _ => s1 k) (fun k hk => s2 k (by omega)) hJ.1
        have hY : okY S1 := okY_ext (S := S) (s2 45 (by omega)) (s2 44 (by omega)) (s2 50 (by omega)) (J_Y hJ)
        have hv : mV (rdS S1) = cV S := (viewA hA).trans cs
        have h2 := c_X12_write (X := X) (S := S1) (T := rdS S1) rfl hY (QA hA hY) hs (okSh_ext (S := S) (s2 40 (by omega)) (s2 41 (by omega)) (s2 42 (by omega)) hG.2.1) (rd_a S1 40 (by decide)) (rd_a S1 41 (by decide)) hj
        have k33 : (rdS S1).1 33 = (cV S).1 1 := by
          rw [← hv]
          rfl
        have k40 : (rdS S1).2 40 s = S.1 (16 + 2 * s) := by
          rw [rd_a S1 40 (by decide), s2 40 (by omega)]
          exact hL.1
        have k41 : (rdS S1).2 41 s = S.1 (17 + 2 * s) := by
          rw [rd_a S1 41 (by decide), s2 41 (by omega)]
          exact (hL.2 d).1
        have k4 : ¬ S1.2 40 s < 0 := by
          rw [s2 40 (by omega), hL.1]
          omega
        have k42 : (rdS S1).2 42 = S.2 42 := (rd_a S1 42 (by decide)).trans (s2 42 (by omega))
        rw [if_pos c, if_pos c, if_neg k4, if_neg k4, k33, k40, k41, k42, hv] at h2
        have pb : ∀ q : Nat, -2147483648 ≤ (fun q : Nat => ctZ (S.1 (16 + 2 * s)) (mPl (cV S) (j - (cV S).1 5 - (q : Int) * (cV S).1 2))) q ∧ (fun q : Nat => ctZ (S.1 (16 + 2 * s)) (mPl (cV S) (j - (cV S).1 5 - (q : Int) * (cV S).1 2))) q ≤ 2147483647 := fun q => by
          have p1 := mPl_b hJ.1.1 (j - (cV S).1 5 - (q : Int) * (cV S).1 2)
          exact ctZ_b _ ⟨by omega, by omega⟩
        have w6 := hJ.1.1.2.1
        refine ⟨_, _, _, h1, h2, J_items (s := s) (g := wrF (S.2 (32 + 2 * s)) (fun q : Nat => ctZ (S.1 (16 + 2 * s)) (mPl (cV S) (j - (cV S).1 5 - (q : Int) * (cV S).1 2))) (min (S.1 (17 + 2 * s)) ((cV S).1 1)).toNat) (h := rowW (S.2 42) (60 * s) (min (S.1 (17 + 2 * s)) ((cV S).1 1)).toNat (fun q : Nat => ctZ (S.1 (16 + 2 * s)) (mPl (cV S) (j - (cV S).1 5 - (q : Int) * (cV S).1 2)))) hJ hs (fun q hq => (rd_s S1 q (by omega)).trans (s1 q)) (fun q h3 h4 => (sA_ne (by omega)).trans ((rd_a S1 q (by omega)).trans (s2 q h4))) ⟨?_, (rdS_y hY).2.2.2, ?_⟩ ?_ rfl (fun q => ?_) (fun q => ?_) (fun q p h3 h4 h5 => ?_) (fun h3 q hq => ?_)⟩
        · rw [sA_ne (by decide), rd_a S1 20 (by decide), s2 20 (by omega)]
          exact hJ.2.2.2.1
        · show -2147483648 ≤ (rdS S1).1 36 ∧ (rdS S1).1 36 ≤ 2147483647
          rw [rd_s S1 36 (by decide), s1]
          exact hJ.2.2.2.2.2
        · rw [sA_ne (by omega), rd_a S1 (32 + 2 * s) (by omega), s3]
        · unfold wrF
          split
          · exact pb q
          · exact hb.2.2 q
        · unfold rowW
          split
          · exact pb _
          · exact hG.2.1.2 q
        · unfold rowW
          rw [if_neg (by omega)]
        · unfold rowW wrF
          by_cases z : q < (min (S.1 (17 + 2 * s)) ((cV S).1 1)).toNat
          · rw [if_pos z, if_pos (by omega), show 60 * s + q - 60 * s = q by omega]
          · rw [if_neg z, if_neg (by omega)]
            exact (hL.2 d).2 q hq
    · rw [if_neg c, if_neg c] at h1
      have h2 := c_X12_write (X := X) (S := S) (T := rdS S) rfl (J_Y hJ) (J_Q hJ) hs hG.2.1 (rd_a S 40 (by decide)) (rd_a S 41 (by decide)) hj
      rw [if_neg c, if_neg c] at h2
      exact ⟨_, _, _, h1, h2, hJ⟩
