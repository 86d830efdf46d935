def TwI (X : sx_X) (y1 : MethodName) (c1 : ByteArray) (n1 d1 : Nat) (y2 : MethodName) (c2 : ByteArray) (n2 d2 : Nat) (as_ : List Value) (S : St) : Prop := ∃ (S1 S2 : St) (r : Int), Ct X y1 c1 n1 (some .int) d1 0 0 (.ref 2 :: as_) (hp S) (sx_is (some (vI r)) (hp S1)) ∧ Ct X y2 c2 n2 (some .int) d2 0 0 (.ref 39 :: as_) (hp S1) (sx_is (some (vI r)) (hp S2)) ∧ J S2
def TwJ (X : sx_X) (y1 : MethodName) (c1 : ByteArray) (n1 d1 : Nat) (y2 : MethodName) (c2 : ByteArray) (n2 d2 : Nat) (as_ : List Value) (S : St) : Prop := ∃ (S1 S2 : St) (r : Int), Ct X y1 c1 n1 (some .long) d1 0 0 (.ref 2 :: as_) (hp S) (sx_is (some (vJ r)) (hp S1)) ∧ Ct X y2 c2 n2 (some .long) d2 0 0 (.ref 39 :: as_) (hp S1) (sx_is (some (vJ r)) (hp S2)) ∧ J S2
theorem si_ne {S : St} {k q : Nat} {x : Int} (h : q ≠ k) : (si S k x).1 q = S.1 q := if_neg h
theorem sA_ne {S : St} {k q : Nat} {f : Nat → Int} (h : q ≠ k) : (sA S k f).2 q = S.2 q := if_neg h
theorem sa_ne {S : St} {k q i : Nat} {x : Int} (h : q ≠ k) : (sa S k i x).2 q = S.2 q := if_neg h
theorem J_si {S : St} {k : Nat} {x : Int} (hk : (12 ≤ k ∧ k ≤ 14) ∨ (31 ≤ k ∧ k ≤ 35) ∨ k = 37 ∨ k = 38 ∨ k = 40) (h : J S) : J (si S k x) :=
  J_ext (fun _ _ => si_ne (by omega)) (fun _ _ => rfl) (GB_ext (S := S) (si_ne (by omega)) ⟨rfl, rfl⟩ h.2.2.2) h
theorem J_s36 {S : St} {x : Int} (hx : -2147483648 ≤ x ∧ x ≤ 2147483647) (h : J S) : J (si S 36 x) :=
  J_ext (S := S) (fun _ _ => si_ne (by omega)) (fun _ _ => rfl) ⟨h.2.2.2.1, h.2.2.2.2.1, hx⟩ h
theorem J_sA {S : St} {k : Nat} {f : Nat → Int} (hk : k = 18 ∨ k = 19 ∨ k = 21 ∨ k = 23 ∨ k = 43 ∨ k = 46 ∨ k = 47 ∨ k = 48 ∨ k = 49 ∨ k = 52 ∨ k = 53) (h : J S) : J (sA S k f) :=
  J_ext (S := S) (fun _ _ => rfl) (fun _ _ => sA_ne (by omega)) (GB_ext (S := S) rfl ⟨sA_ne (by omega), sA_ne (by omega)⟩ h.2.2.2) h
theorem J_A20 {S : St} {f : Nat → Int} (hf : ∀ a, 0 ≤ f a ∧ f a ≤ 5) (h : J S) : J (sA S 20 f) :=
  J_ext (S := S) (fun _ _ => rfl) (fun _ _ => sA_ne (by omega)) ⟨hf, h.2.2.2.2⟩ h
theorem J_A50 {S : St} {f : Nat → Int} (hf : ∀ a, 0 ≤ f a ∧ f a ≤ 1) (h : J S) : J (sA S 50 f) :=
  J_ext (S := S) (fun _ _ => rfl) (fun _ _ => sA_ne (by omega)) ⟨h.2.2.2.1, hf, h.2.2.2.2.2⟩ h
theorem J_rgE {S : St} (h : J S) : J (rgE S) := J_si (by omega) (J_si (by omega) (J_sA (by omega) (J_sA (by omega) h)))
theorem J_rwE {S : St} (h : J S) : J (rwE S) := by
  have hy := rwE_y (J_Y h)
  rw [rwE_eq] at hy ⊢
  exact J_si (by omega) (J_si (by omega) (J_A50 hy.2.2.2 (J_sA (by omega) (J_sA (by omega) h))))
theorem J_fw {S : St} (x : Int × Int) (h : J S) : J (fw S x) := J_si (by omega) (J_si (by omega) h)
theorem J_hs {S : St} (i j : Int) (h : J S) : J (hsF S i j) := by
  unfold hsF
  split
  · exact J_sA (by omega) h
  · exact h
theorem J_mo {S : St} (i : Int) (h : J S) : J (moF S i) := J_si (by omega) (J_si (by omega) h)
theorem J_oS {S : St} (h : J S) : J (oS (oP S) (oR S)) := J_si (by omega) (J_sA (by omega) (J_A20 (oR_ok h.1.1 h.2.2.2.1).1 (J_sA (by omega) (J_sA (by omega) h))))
theorem J_dg {S : St} (h : J S) : ∀ n : Nat, J (dgT S n)
  | 0 => J_oS h
  | n + 1 => J_hs 1 n (J_dg h n)
theorem J_hz {T : St} {b : Nat} (j : Int) (h : J T) (hD : okD T b) : J (hz T j) := by
  unfold hz
  split
  · exact J_s36 (fh_r hD.2.2.1.1 _ _ _ _ hD.2.2.2.1 _).2 h
  · exact h
theorem J_r6 {T : St} {b : Nat} (h : J T) (hD : okD T b) : J (rT6 T) := by
  have h1 : J (rT1 T) := J_sA (by omega) h
  have D1 : okD (rT1 T) b := hD
  have D2 := hz_ok 0 D1
  have D3 := hz_ok 1 D2.1
  exact J_si (by omega) (J_fw _ (J_hz 2 (J_hz 1 (J_hz 0 h1 D1) D2.1) D3.1))
/-- how many helmets -/
theorem pop_bits (b : Nat) : ((pop6 b : Nat) : Int) = bitZ b 0 + bitZ b 1 + bitZ b 2 + bitZ b 3 + bitZ b 4 + bitZ b 5 := by
  unfold pop6 bitZ
  simp only [Nat.reducePow, Nat.div_one]
  omega
theorem pop_sum {f : Nat → Int} (hf : ∀ i, 0 ≤ f i ∧ f i ≤ 1) {n : Nat} (hn : n ≤ 6) : ((pop6 (hbF f n) : Nat) : Int) = sumN n f := by
  rw [pop_bits, hbF_bit f hf, hbF_bit f hf, hbF_bit f hf, hbF_bit f hf, hbF_bit f hf, hbF_bit f hf]
  rcases (show n = 0 ∨ n = 1 ∨ n = 2 ∨ n = 3 ∨ n = 4 ∨ n = 5 ∨ n = 6 by omega) with rfl | rfl | rfl | rfl | rfl | rfl | rfl <;> simp [sumN]
theorem prodN_cg {f g : Nat → Int} : ∀ n, (∀ i, i < n → f i = g i) → prodN n f = prodN n g
  | 0, _ => rfl
  | n + 1, h => by rw [prodN, prodN, prodN_cg n (fun i hi => h i (by omega)), h n (by omega)]
theorem mLb_cg {V : Vw} {a b c a' b' c' : Nat → Int} {n : Nat} (h : ∀ i, i < n → a i = a' i ∧ b i = b' i ∧ c i = c' i) (q : Int) : ∀ f : Nat, mLb V a b c n q f = mLb V a' b' c' n q f
  | 0 => rfl
  | f + 1 => by
    have e : mLik V a b c n ((f : Int) + 1) q = mLik V a' b' c' n ((f : Int) + 1) q := prodN_cg n (fun i hi => by
      obtain ⟨h1, h2, h3⟩ := h i hi
      unfold mLikT
      rw [h1, h2, h3])
    rw [mLb, mLb, mLb_cg h q f, e]
theorem loose_eq {S T : St} (hF : GF T) (h15 : T.1 15 = S.1 15) (h27 : T.2 27 = S.2 27) (h28 : T.2 28 = S.2 28) (h29 : T.2 29 = S.2 29) (V : Vw) : aLoose V (fun i => T.2 54 (3 * i)) (fun i => T.2 54 (3 * i + 1)) (fun i => T.2 54 (3 * i + 2)) (T.1 39).toNat = aLoose V (S.2 27) (S.2 28) (S.2 29) (S.1 15).toNat := by
  funext i
  obtain ⟨f1, -, -, -, -, f6, f7⟩ := hF
  unfold aLoose
  rw [f6, h15, mLb_cg (a' := S.2 27) (b' := S.2 28) (c' := S.2 29) (fun q hq => by
    rw [← h15] at hq
    have z := f7 q (by omega)
    rw [h27, h28, h29] at z
    exact z) i 9]
theorem cnt_eq {S : St} (hJ : J S) (i : Int) : cnR (rdS S) (bS S) i = cnF S i := by
  have hQ := J_Q hJ
  have hv := view hJ
  have hV : okV (cV S) := hJ.1.1
  have e33 : (rdS S).1 33 = (cV S).1 1 := by rw [← hv]; rfl
  have e4 : ∀ q : Nat, (q : Int) < (rdS S).1 33 → (rdS S).2 50 q = (cV S).2 4 q := by
    intro q hq
    rw [← hv]
    show _ = rH (rdS S) q
    unfold rH
    rw [if_pos ⟨by omega, hq⟩, Int.toNat_natCast]
  have e7 : ((pop6 (bS S) : Nat) : Int) = sumN ((cV S).1 1).toNat (fun q => (cV S).2 4 q) := by
    have h1 := hV.2.1
    rw [bS, pop_sum (J_Q hJ).2.2.2.2.2 (by omega), e33]
    exact sumN_congr _ (fun q hq => e4 q (by omega))
  unfold cnR cnF
  rw [hv, e7, rd_a S 45 (by decide), rd_a S 51 (by decide), rd_s S 39 (by decide), rd_s S 30 (by decide), hJ.1.2.2.2.2.2.2.1.1.1, hJ.1.2.2.2.2.2.2.1.1.2, hJ.2.1.2.2.2.2.2.1, hJ.2.2.1.2.2.2, hJ.1.2.2.2.2.2.2.2.2.2 0 (by decide)]
theorem ord_eq {S T : St} (hV : okV (cV S)) (hv : mV T = cV S) : (rO T (T.1 33).toNat (fc ((T.1 33).toNat - 1))).1 = (oR S).2.1 ∧ ∀ i : Nat, (i : Int) < (cV S).1 1 → (rO T (T.1 33).toNat (fc ((T.1 33).toNat - 1))).2 i = (oR S).2.2 i := by
  have hW : T.1 33 = S.1 4 := show (mV T).1 1 = (cV S).1 1 by rw [hv]
  have hg : T.1 34 = S.1 6 := show (mV T).1 2 = (cV S).1 2 by rw [hv]
  have h1 : 0 ≤ S.1 4 ∧ S.1 4 ≤ 6 := hV.2.1
  have r := rO_end (S := T) (by rw [hv]; exact hV) (show T.1 33 = ((T.1 33).toNat : Int) by omega) (cutW (S.1 4).toNat (S.2 21))
  rw [hv, hg, ← oR_lv hV] at r
  refine ⟨r.2.1, fun i hi => ?_⟩
  have e := congrFun r.2.2 i
  rw [hW] at e ⊢
  have hi2 : (i : Int) < S.1 4 := hi
  simp only [cutW] at e
  rw [if_pos (by omega), if_pos (by omega)] at e
  exact e


theorem tw_part {X : sx_X} {S : St} {i j : Int} (hJ : J S) (hi : -2147483648 ≤ i ∧ i ≤ 2147483647) (hj : -2147483648 ≤ j ∧ j ≤ 2147483647) : TwI X yX11_part cX11_part 3 1 yX12_part_ cX12_part_ 3 4 [vI i, vI j] S := by
  have h1 := v_X11_part (X := X) (V := cV S) rfl (J_CI hJ) hi hj
  have h2 := c_X12_part_ (X := X) (T := rdS S) rfl (J_Y hJ) (J_Q hJ) hi hj
  rw [view hJ] at h2
  exact ⟨S, rdS S, _, h1, h2, J_rd hJ⟩
theorem tw_walker {X : sx_X} {S : St} {i j : Int} (hJ : J S) (hi : -2147483648 ≤ i ∧ i ≤ 2147483647) (hj : -2147483648 ≤ j ∧ j ≤ 2147483647) : TwI X yX11_walker cX11_walker 3 1 yX12_walker cX12_walker 3 4 [vI i, vI j] S := by
  have h1 := v_X11_walker (X := X) (V := cV S) rfl (J_CI hJ) hi hj
  have h2 := c_X12_walker (X := X) (T := rdS S) rfl (J_Y hJ) (J_Q hJ) hi hj
  rw [view hJ] at h2
  exact ⟨S, rdS S, _, h1, h2, J_rd hJ⟩
theorem tw_place {X : sx_X} {S : St} {i j : Int} (hJ : J S) (hi : -2147483648 ≤ i ∧ i ≤ 2147483647) (hj : -2147483648 ≤ j ∧ j ≤ 2147483647) : TwI X yX11_place cX11_place 3 2 yX12_place cX12_place 3 4 [vI i, vI j] S := by
  have h1 := v_X11_place (X := X) (V := cV S) rfl (J_CI hJ) hi hj
  have h2 := c_X12_place (X := X) (T := rdS S) rfl (J_Y hJ) (J_Q hJ) hi hj
  rw [view hJ] at h2
  exact ⟨S, rdS S, _, h1, h2, J_rd hJ⟩
theorem tw_treads {X : sx_X} {S : St} {i j : Int} (hJ : J S) (hi : -2147483648 ≤ i ∧ i ≤ 2147483647) (hj : -2147483648 ≤ j ∧ j ≤ 2147483647) : TwI X yX11_treads cX11_treads 3 3 yX12_treads cX12_treads 3 4 [vI i, vI j] S := by
  have h1 := v_X11_treads (X := X) (V := cV S) rfl (J_CI hJ) hi hj
  have h2 := c_X12_treads (X := X) (T := rdS S) rfl (J_Y hJ) (J_Q hJ) hi hj
  rw [view hJ] at h2
  exact ⟨S, rdS S, _, h1, h2, J_rd hJ⟩
theorem tw_hits {X : sx_X} {S : St} {i j k : Int} (hJ : J S) (hi : -2147483648 ≤ i ∧ i ≤ 2147483647) (hj : -2147483648 ≤ j ∧ j ≤ 2147483647) (hk : -2147483648 ≤ k ∧ k ≤ 2147483647) : TwI X yX11_hits cX11_hits 4 2 yX12_hits cX12_hits 4 4 [vI i, vI j, vI k] S := by
  have h1 := v_X11_hits (X := X) (V := cV S) rfl (J_CI hJ) hi hj hk
  have h2 := c_X12_hits (X := X) (T := rdS S) rfl (J_Y hJ) (J_Q hJ) hi hj hk
  rw [view hJ] at h2
  exact ⟨S, rdS S, _, h1, h2, J_rd hJ⟩
theorem tw_harm {X : sx_X} {S : St} {i j k : Int} (hJ : J S) (hi : -2147483648 ≤ i ∧ i ≤ 2147483647) (hj : -2147483648 ≤ j ∧ j ≤ 2147483647) (hk : -2147483648 ≤ k ∧ k ≤ 2147483647) : TwJ X yX11_harm cX11_harm 8 4 yX12_harm cX12_harm 5 4 [vI i, vI j, vI k] S := by
  have h1 := v_X11_harm (X := X) (V := cV S) rfl (J_CI hJ) hi hj hk
  have h2 := c_X12_harm (X := X) (T := rdS S) rfl (J_Y hJ) (J_Q hJ) hi hj hk
  rw [view hJ] at h2
  exact ⟨S, rdS S, _, h1, h2, J_rd hJ⟩
theorem tw_all {X : sx_X} {S : St} {i j : Int} (hJ : J S) (hi : -2147483648 ≤ i ∧ i ≤ 2147483647) (hj : -2147483648 ≤ j ∧ j ≤ 2147483647) : TwJ X yX11_all cX11_all 7 5 yX12_all cX12_all 3 6 [vI i, vI j] S := by
  have h1 := v_X11_all (X := X) (V := cV S) rfl (J_CI hJ) hi hj
  have h2 := c_X12_all (X := X) (T := rdS S) rfl (J_Y hJ) (J_Q hJ) hi hj
  rw [view hJ] at h2
  exact ⟨S, rdS S, _, h1, h2, J_rd hJ⟩
theorem tw_ends {X : sx_X} {S : St} (hJ : J S)  : TwI X yX11_ends cX11_ends 1 2 yX12_ends cX12_ends 1 4 [] S := by
  have h1 := v_X11_ends (X := X) (V := cV S) rfl (J_CI hJ) 
  have h2 := c_X12_ends (X := X) (T := rdS S) rfl (J_Y hJ) (J_Q hJ) 
  rw [view hJ] at h2
  exact ⟨S, rdS S, _, h1, h2, J_rd hJ⟩
theorem tw_latest {X : sx_X} {S : St} (hJ : J S)  : TwI X yX11_latest cX11_latest 2 2 yX12_latest cX12_latest 1 4 [] S := by
  have h1 := v_X11_latest (X := X) (V := cV S) rfl (J_CI hJ) 
  have h2 := c_X12_latest (X := X) (T := rdS S) rfl (J_Y hJ) (J_Q hJ) 
  rw [view hJ] at h2
  exact ⟨S, rdS S, _, h1, h2, J_rd hJ⟩
theorem tw_curve {X : sx_X} {S : St} {i j : Int} (hJ : J S) (hi : -2147483648 ≤ i ∧ i ≤ 2147483647) (hj : -2147483648 ≤ j ∧ j ≤ 2147483647) : TwJ X yX11_curve cX11_curve 3 5 yX12_curve cX12_curve 3 7 [vI i, vI j] S := by
  have h1 := v_X11_curve (X := X) (V := cV S) rfl (J_CI hJ) hi hj
  have h2 := c_X12_curve (X := X) (T := rdS S) rfl (J_Y hJ) (J_Q hJ) hi hj
  rw [view hJ] at h2
  exact ⟨S, rdS S, _, h1, h2, J_rd hJ⟩
theorem tw_gap {X : sx_X} {S : St} {i : Int} (hJ : J S) (hi : -2147483648 ≤ i ∧ i ≤ 2147483647) : TwI X yX11_gap cX11_gap 8 5 yX12_gap cX12_gap 2 8 [vI i] S := by
  have h1 := v_X11_gap (X := X) (V := cV S) rfl (J_CI hJ) hi
  have h2 := c_X12_gap (X := X) (T := rdS S) rfl (J_Y hJ) (J_Q hJ) hi
  rw [view hJ] at h2
  exact ⟨S, rdS S, _, h1, h2, J_rd hJ⟩
theorem tw_foot {X : sx_X} {S : St} {i j k : Int} (hJ : J S) (hi : -2147483648 ≤ i ∧ i ≤ 2147483647) (hj : -2147483648 ≤ j ∧ j ≤ 2147483647) (hk : -2147483648 ≤ k ∧ k ≤ 2147483647) : TwJ X yX11_foot cX11_foot 6 4 yX12_foot cX12_foot 4 4 [vI i, vI j, vI k] S := by
  have h1 := v_X11_foot (X := X) (V := cV S) rfl (J_CI hJ) hi hj hk
  have h2 := c_X12_foot (X := X) (T := rdS S) rfl (J_Y hJ) (J_Q hJ) hi hj hk
  rw [view hJ] at h2
  exact ⟨S, rdS S, _, h1, h2, J_rd hJ⟩
theorem tw_loose {X : sx_X} {S : St} {i : Int} (hJ : J S) (hi : -2147483648 ≤ i ∧ i ≤ 2147483647) : TwI X yX11_loose cX11_loose 2 4 yX12_loose cX12_loose 2 4 [vI i] S := by
  have h1 := v_X11_loose (X := X) (V := cV S) rfl (J_CI hJ) hi
  have hD := J_D hJ
  have h2 := c_X12_loose (X := X) (T := rdS S) rfl (J_Y hJ) (J_Q hJ) hD.2.2.2.2.1 hD.2.2.2.2.2 hi
  rw [view hJ, loose_eq (S := S) (J_rd hJ).2.1 (rd_s S 15 (by decide)) (rd_a S 27 (by decide)) (rd_a S 28 (by decide)) (rd_a S 29 (by decide))] at h2
  exact ⟨S, rdS S, _, h1, h2, J_rd hJ⟩
theorem tw_count {X : sx_X} {S : St} {i : Int} (hJ : J S) (hi : -2147483648 ≤ i ∧ i ≤ 2147483647) : TwI X yX11_count cX11_count 2 2 yX12_count cX12_count 4 4 [vI i] S := by
  have h1 := c_X11_count (X := X) (J_CI hJ) hi
  have h2 := c_X12_count (X := X) (T := rdS S) rfl (J_Y hJ) (J_Q hJ) hi
  rw [cnt_eq hJ] at h2
  exact ⟨S, rdS S, _, h1, h2, J_rd hJ⟩
theorem tw_fault {X : sx_X} {S : St} {i : Int} (hJ : J S) (hi : -2147483648 ≤ i ∧ i ≤ 2147483647) : TwI X yX11_fault cX11_fault 2 1 yX12_fault cX12_fault 2 3 [vI i] S := by
  have h1 := c_X11_fault (X := X) (J_CI hJ) hi
  have h2 := c_X12_fault (X := X) (J_Y hJ) hi
  rw [(rd_G hJ.1.2.2.2.2.2.2.1 hJ.1.2.2.2.2.2.2.2.1).1, (rd_W hJ.1.2.2.2.2.2.2.1 hJ.1.2.2.2.2.2.2.2.2.1).1] at h2
  refine ⟨S, _, _, h1, h2, ?_⟩
  split
  · exact J_rgE hJ
  · split
    · exact J_rwE hJ
    · exact hJ
theorem tw_waits {X : sx_X} {S : St} {i j k l : Int} (hJ : J S) (hi : -2147483648 ≤ i ∧ i ≤ 2147483647) (hj : -2147483648 ≤ j ∧ j ≤ 2147483647) (hk : -2147483648 ≤ k ∧ k ≤ 2147483647) (hl : -2147483648 ≤ l ∧ l ≤ 2147483647) : TwJ X yX11_waits cX11_waits 7 5 yX12_waits cX12_waits 5 5 [vI i, vI j, vI k, vI l] S := by
  have h1 := v_X11_waits (X := X) (V := cV S) rfl (J_CI hJ) hi hj hk hl
  have h2 := c_X12_waits (X := X) (T := rdS S) rfl (J_Y hJ) (J_Q hJ) hi hj hk hl
  rw [view hJ] at h2
  refine ⟨S, _, _, h1, h2, ?_⟩
  split
  · exact J_fw _ (J_rd hJ)
  · exact J_rd hJ
theorem tw_helmets {X : sx_X} {S : St} {i j : Int} (hJ : J S) (hi : -2147483648 ≤ i ∧ i ≤ 2147483647) (hj : -2147483648 ≤ j ∧ j ≤ 2147483647) : TwJ X yX11_helmets cX11_helmets 4 5 yX12_helmets cX12_helmets 3 7 [vI i, vI j] S := by
  have h1 := v_X11_helmets (X := X) (V := cV S) rfl (J_CI hJ) hi hj
  have hK := J_hs i j hJ
  have hD := J_D hK
  have h2 := c_X12_helmets (X := X) (T := rdS (hsF S i j)) rfl (J_Y hK) (J_Q hK) hD.2.2.2.1 hi hj
  rw [view hK, (hsF_ci i j (J_CI hJ)).2] at h2
  refine ⟨_, _, _, h1, h2, ?_⟩
  split
  · exact J_s36 (fh_r hJ.1.1 _ _ _ _ hD.2.2.2.1 _).2 (J_rd hK)
  · exact J_rd hK
theorem tw_morning {X : sx_X} {S : St} {i : Int} (hJ : J S) (hi : -2147483648 ≤ i ∧ i ≤ 2147483647) : TwI X yX11_morning cX11_morning 2 5 yX12_morning cX12_morning 2 5 [vI i] S := by
  have h1 := v_X11_morning (X := X) (V := cV S) rfl (J_CI hJ) hi
  have hK := J_mo i hJ
  have h2 := c_X12_morning (X := X) (T := rdS (moF S i)) rfl (J_Y hK) (J_Q hK) hi
  rw [view hK, (moF_ci i (J_CI hJ)).2] at h2
  exact ⟨_, _, _, h1, h2, J_si (by omega) (J_rd hK)⟩
theorem tw_order {X : sx_X} {S : St} {i : Int} (hJ : J S) (hi : -2147483648 ≤ i ∧ i ≤ 2147483647) : TwI X yX11_order cX11_order 2 17 yX12_order cX12_order 2 7 [vI i] S := by
  have h1 := c_X11_order (X := X) (J_CI hJ) hJ.2.2.2.1 hi
  by_cases c : 0 ≤ i ∧ i ≤ 5
  · rw [if_pos c, if_pos c] at h1
    have hK := J_oS hJ
    have hv := (view hK).trans (oS_ci (oR S) (J_CI hJ)).2
    have h2 := c_X12_order (X := X) (T := rdS (oS (oP S) (oR S))) rfl (J_Y hK) (J_Q hK) hi
    have e := ord_eq hJ.1.1 hv
    rw [if_pos c, if_pos c] at h2
    have e2 : aOrd (mV (rdS (oS (oP S) (oR S)))) (rO (rdS (oS (oP S) (oR S))) ((rdS (oS (oP S) (oR S))).1 33).toNat (fc (((rdS (oS (oP S) (oR S))).1 33).toNat - 1))).2 i = if i < (cV S).1 1 then (oR S).2.2 i.toNat else -1 := by
      unfold aOrd
      rw [hv]
      by_cases d : i < (cV S).1 1
      · rw [if_pos d, if_pos d]
        exact e.2 i.toNat (by omega)
      · rw [if_neg d, if_neg d]
    rw [e2] at h2
    exact ⟨_, _, _, h1, h2, J_sA (by omega) (J_rd hK)⟩
  · rw [if_neg c, if_neg c] at h1
    have h2 := c_X12_order (X := X) (T := rdS S) rfl (J_Y hJ) (J_Q hJ) hi
    rw [if_neg c, if_neg c] at h2
    exact ⟨_, _, _, h1, h2, J_rd hJ⟩
theorem tw_ordered {X : sx_X} {S : St} {i : Int} (hJ : J S) (hi : -2147483648 ≤ i ∧ i ≤ 2147483647) : TwJ X yX11_ordered cX11_ordered 2 17 yX12_ordered cX12_ordered 2 7 [vI i] S := by
  have h1 := c_X11_ordered (X := X) (J_CI hJ) hJ.2.2.2.1 hi
  by_cases c : 0 ≤ i ∧ i ≤ 1
  · rw [if_pos c, if_pos c] at h1
    have hK := J_oS hJ
    have hv := (view hK).trans (oS_ci (oR S) (J_CI hJ)).2
    have h2 := c_X12_ordered (X := X) (T := rdS (oS (oP S) (oR S))) rfl (J_Y hK) (J_Q hK) hi
    have e := ord_eq hJ.1.1 hv
    rw [if_pos c, if_pos c] at h2
    rw [e.1] at h2
    exact ⟨_, _, _, h1, h2, J_sA (by omega) (J_rd hK)⟩
  · rw [if_neg c, if_neg c] at h1
    have h2 := c_X12_ordered (X := X) (T := rdS S) rfl (J_Y hJ) (J_Q hJ) hi
    rw [if_neg c, if_neg c] at h2
    exact ⟨_, _, _, h1, h2, J_rd hJ⟩
theorem cnF_ext {S T : St} (hv : cV T = cV S) (h0 : T.1 0 = S.1 0) (h1 : T.1 1 = S.1 1) (h6 : T.1 6 = S.1 6) (h15 : T.1 15 = S.1 15) (h24 : T.1 24 = S.1 24) (i : Int) : cnF T i = cnF S i := by
  unfold cnF
  rw [hv, h0, h1, h6, h15, h24]
/-- a state that differs from S in scratch alone -/
def Sc (T S : St) : Prop := (∀ k, k < 12 ∨ (15 ≤ k ∧ k ≤ 24) → T.1 k = S.1 k) ∧ ∀ k, k < 18 ∨ (24 ≤ k ∧ k ≤ 42) → T.2 k = S.2 k
theorem Sc_si {T S : St} {k : Nat} {x : Int} (hk : (12 ≤ k ∧ k ≤ 14) ∨ 30 ≤ k) (h : Sc T S) : Sc (si T k x) S := ⟨fun q hq => (si_ne (by omega)).trans (h.1 q hq), h.2⟩
theorem Sc_sA {T S : St} {k : Nat} {f : Nat → Int} (hk : (18 ≤ k ∧ k ≤ 23) ∨ 43 ≤ k) (h : Sc T S) : Sc (sA T k f) S := ⟨h.1, fun q hq => (sA_ne (by omega)).trans (h.2 q hq)⟩
theorem Sc_hs {T S : St} (i j : Int) (h : Sc T S) : Sc (hsF T i j) S := by
  unfold hsF
  split
  · exact Sc_sA (by omega) h
  · exact h
theorem Sc_dg (S : St) : ∀ n : Nat, Sc (dgT S n) S
  | 0 => Sc_si (by omega) (Sc_sA (by omega) (Sc_sA (by omega) (Sc_sA (by omega) (Sc_sA (by omega) ⟨fun _ _ => rfl, fun _ _ => rfl⟩))))
  | n + 1 => Sc_hs 1 n (Sc_dg S n)
theorem dgN_cg {g g' : Int → Nat → Int} : ∀ (n : Nat) (h : Int), (∀ x i, i < n → g x i = g' x i) → dgN n g h = dgN n g' h
  | 0, _, _ => rfl
  | n + 1, h, e => by rw [dgN, dgN, dgN_cg n h (fun x i hi => e x i (by omega)), e _ n (by omega)]
theorem dgO_cg {V : Vw} {ol : Int} {f g : Nat → Int} (h : ∀ i : Nat, (i : Int) < V.1 1 → f i = g i) (x : Int) : dgO V ol f x = dgO V ol g x := by
  have e : ∀ i : Int, 0 ≤ i → aOrd V f i = aOrd V g i := by
    intro i hi
    unfold aOrd
    by_cases c : i < V.1 1
    · rw [if_pos c, if_pos c, h i.toNat (by omega)]
    · rw [if_neg c, if_neg c]
  unfold dgO
  rw [e 0 (by decide), e 1 (by decide)]
theorem tw_digest {X : sx_X} {S : St} (hJ : J S)  : TwJ X yX11_digest cX11_digest 4 18 yX12_digest cX12_digest 5 8 [] S := by
  have h1 := c_X11_digest (X := X) (J_CI hJ) hJ.2.2.2.1
  have hK : J (moF (dgT S 3) 7) := J_mo 7 (J_dg hJ 3)
  have hs : Sc (moF (dgT S 3) 7) S := Sc_si (by omega) (Sc_si (by omega) (Sc_dg S 3))
  have hc : cV (moF (dgT S 3) 7) = cV S := cV_ext (fun k hk => hs.1 k (by omega)) (fun k hk => hs.2 k (by omega))
  generalize moF (dgT S 3) 7 = Z at h1 hK hs hc
  have hL := J_rd hK
  have h2 := c_X12_digest (X := X) (S := Z) (T := rdS Z) rfl (J_Y hK) (J_D hK)
  have hv := (view hK).trans hc
  have e := ord_eq hJ.1.1 hv
  have eg := (rd_G hL.1.2.2.2.2.2.2.1 hL.1.2.2.2.2.2.2.2.1).1
  have ew := (rd_W hL.1.2.2.2.2.2.2.1 hL.1.2.2.2.2.2.2.2.2.1).1
  have ec : (fun k : Nat => cnR (rdS Z) (bS Z) k) = fun k : Nat => cnF S k := by
    funext k
    rw [cnt_eq hK]
    exact cnF_ext hc (hs.1 0 (by omega)) (hs.1 1 (by omega)) (hs.1 6 (by omega)) (hs.1 15 (by omega)) (hs.1 24 (by omega)) k
  rw [ec, eg, ew, hv, loose_eq (S := S) hL.2.1 ((rd_s Z 15 (by decide)).trans (hs.1 15 (by omega))) ((rd_a Z 27 (by decide)).trans (hs.2 27 (by omega))) ((rd_a Z 28 (by decide)).trans (hs.2 28 (by omega))) ((rd_a Z 29 (by decide)).trans (hs.2 29 (by omega))), e.1, rd_s Z 3 (by decide), rd_s Z 5 (by decide), hs.1 3 (by omega), hs.1 5 (by omega)] at h2
  have e3 : dgF (cV S) (fun k : Nat => cnF S k) (S.1 3) (S.1 5) (aLoose (cV S) (S.2 27) (S.2 28) (S.2 29) (S.1 15).toNat) (oR S).2.1 (rO (rdS Z) ((rdS Z).1 33).toNat (fc (((rdS Z).1 33).toNat - 1))).2 = dgF (cV S) (fun k : Nat => cnF S k) (S.1 3) (S.1 5) (aLoose (cV S) (S.2 27) (S.2 28) (S.2 29) (S.1 15).toNat) (oR S).2.1 (oR S).2.2 := by
    unfold dgF
    rw [dgO_cg e.2]
  rw [e3] at h2
  exact ⟨_, _, _, h1, h2, J_r6 hL (J_D hK)⟩
