/-- an int as a long -/
def i3 (x : Int) : Int := (Int32.ofInt x).toInt
theorem sx_i2lx {X : sx_X} {own : String} {ini : Bool} {cc : ByteArray} {nL d mc ms : Nat} {ret : Option FieldType} {pc p1 : Nat} {lo : List (Option Value)} {st : List Value} {h : sx_H} {k n : Nat} {Q : Option Value → sx_H → Prop} {x : Int} (hd : decode cc pc = .ok (.i2l, 1)) (hp : pc + 1 = p1) (K : Rn X own ini cc nL d mc ms ret p1 lo (vJ (i3 x) :: st) h k n Q) : Rn X own ini cc nL d mc ms ret pc lo (vI x :: st) h k n Q := by
  have e : vI x = vI (i3 x) := by
    show Value.int (Int32.ofInt x) = Value.int (Int32.ofInt (Int32.ofInt x).toInt)
    rw [Int32.ofInt_toInt]
  rw [e]
  have h1 := (Int32.ofInt x).toInt_lt
  have h2 := (Int32.ofInt x).le_toInt
  exact sx_i2l hd hp (by unfold i3; omega) K
/-- the answers, over a view -/
def aPart (V : Vw) (i j : Int) : Int := if (0 ≤ i ∧ i < V.1 0) ∧ 0 ≤ j ∧ j ≤ 1 then (if j = 0 then V.2 0 i else V.2 1 i) else -2
def aWalker (V : Vw) (i j : Int) : Int := if (0 ≤ i ∧ i < V.1 1) ∧ 0 ≤ j ∧ j ≤ 2 then (if j = 0 then V.2 2 i else if j = 1 then V.2 3 i else V.2 4 i) else -2
def aPlace (V : Vw) (i j : Int) : Int := if (0 ≤ i ∧ i < V.1 1) ∧ 0 ≤ j ∧ j ≤ 1999 then mPl V (j - V.1 5 - i * V.1 2) else -2
def aTreads (V : Vw) (i j : Int) : Int := if (0 ≤ i ∧ i < V.1 1) ∧ 0 ≤ j ∧ j < V.1 0 then mOdds (V.2 1 j) (mMore V i) else -2
def aHits (V : Vw) (i j k : Int) : Int := if (0 ≤ i ∧ i < V.1 0) ∧ (0 ≤ j ∧ j < V.1 0) ∧ 0 ≤ k ∧ k ≤ 1 then mHit V i j k else -2
def aHarm (V : Vw) (i j k : Int) : Int := if (i = -1 ∨ (0 ≤ i ∧ i < V.1 1)) ∧ (0 ≤ j ∧ j < V.1 1) ∧ i ≠ j ∧ 0 ≤ k ∧ k ≤ 1 then mFrac (if i = -1 then mSun V j (V.1 2) (V.2 4 j) else mBy V i j (V.1 2) (V.2 4 j)) 256 k else -9223372036854775806
def aAll (V : Vw) (i j : Int) : Int := if (i = -1 ∨ (0 ≤ i ∧ i < V.1 1)) ∧ 0 ≤ j ∧ j ≤ 1 then mFrac (if i = -1 then mAll V (V.1 2) else mTo V i (V.2 4 i) (V.1 2)) 256 j else -9223372036854775806
def aEnds (V : Vw) : Int := V.1 5 + mTakes V
def aLatest (V : Vw) : Int := if V.1 6 - mTakes V < 0 then -1 else min 999 (V.1 6 - mTakes V)
def aCurve (V : Vw) (i j : Int) : Int := if (0 ≤ i ∧ i ≤ 99) ∧ 0 ≤ j ∧ j ≤ 1 then mFrac (mAll V i) 256 j else -9223372036854775806
def aLoose (V : Vw) (a b c : Nat → Int) (n : Nat) (i : Int) : Int := if 0 ≤ i ∧ i < V.1 0 then (mLb V a b c n i 9).1 else -2
def aGap (V : Vw) (i : Int) : Int := if 0 ≤ i ∧ i ≤ 99 then (mGb V i.toNat).1 else -2
def aHb (V : Vw) (i : Int) : Int := (mHb V (V.1 2) i (2 ^ (V.1 1).toNat)).1
def aHelm (V : Vw) (i j : Int) : Int := if (0 ≤ i ∧ i ≤ V.1 1) ∧ 0 ≤ j ∧ j ≤ 2 then (if j = 0 then aHb V i else mFrac (mHelm V (V.1 2) (aHb V i).toNat) 256 (j - 1)) else -9223372036854775806
def hsF (S : St) (i j : Int) : St := if (0 ≤ i ∧ i ≤ (cV S).1 1) ∧ 0 ≤ j ∧ j ≤ 2 then sA S 23 (hmF (cV S) (S.1 6) (S.2 23) 12) else S
def aWaits (V : Vw) (i j k l : Int) : Int := if (1 ≤ i ∧ i ≤ 6) ∧ (0 ≤ j ∧ j ≤ 99) ∧ (0 ≤ k ∧ k ≤ 999) ∧ 0 ≤ l ∧ l ≤ 2 then (if l = 0 then (mWb V i j k 99).1 else mFrac (mPaid V i j k (mWb V i j k 99).1) 256 (l - 1)) else -9223372036854775806
def aSt (V : Vw) (i j : Int) : Int := if 0 < V.2 1 i ∧ V.1 6 ≤ j then V.1 7 else 0
def aFoot (V : Vw) (i j k : Int) : Int := if (0 ≤ i ∧ i < V.1 0) ∧ (0 ≤ j ∧ j ≤ 1999) ∧ 0 ≤ k ∧ k ≤ 1 then (if mFoot V i j + aSt V i j = 0 then -9223372036854775805 else mFrac (mFoot V i j) (mFoot V i j + aSt V i j) k) else -9223372036854775806
def aMorn (V : Vw) (i : Int) : Int := (mPlay V (i, 0) (mTakes V).toNat).2
def moF (S : St) (i : Int) : St := mo S (mPlay (cV S) (i, 0) (mTakes (cV S)).toNat)
def aOrd (V : Vw) (f : Nat → Int) (i : Int) : Int := if i < V.1 1 then f i.toNat else -1
theorem v_X11_part {X : sx_X} {S : St} {V : Vw} {i j : Int} (hS : cV S = V) (hC : CI S) (hi : -2147483648 ≤ i ∧ i ≤ 2147483647) (hj : -2147483648 ≤ j ∧ j ≤ 2147483647) : Ct X yX11_part cX11_part 3 (some .int) 1 0 0 [.ref 2, vI i, vI j] (hp S) (sx_is (some (vI (aPart V i j))) (hp (S))) := by
  subst hS
  exact c_X11_part hC hi hj
theorem v_X11_walker {X : sx_X} {S : St} {V : Vw} {i j : Int} (hS : cV S = V) (hC : CI S) (hi : -2147483648 ≤ i ∧ i ≤ 2147483647) (hj : -2147483648 ≤ j ∧ j ≤ 2147483647) : Ct X yX11_walker cX11_walker 3 (some .int) 1 0 0 [.ref 2, vI i, vI j] (hp S) (sx_is (some (vI (aWalker V i j))) (hp (S))) := by
  subst hS
  exact c_X11_walker hC hi hj
theorem v_X11_place {X : sx_X} {S : St} {V : Vw} {i j : Int} (hS : cV S = V) (hC : CI S) (hi : -2147483648 ≤ i ∧ i ≤ 2147483647) (hj : -2147483648 ≤ j ∧ j ≤ 2147483647) : Ct X yX11_place cX11_place 3 (some .int) 2 0 0 [.ref 2, vI i, vI j] (hp S) (sx_is (some (vI (aPlace V i j))) (hp (S))) := by
  subst hS
  exact c_X11_place hC hi hj
theorem v_X11_treads {X : sx_X} {S : St} {V : Vw} {i j : Int} (hS : cV S = V) (hC : CI S) (hi : -2147483648 ≤ i ∧ i ≤ 2147483647) (hj : -2147483648 ≤ j ∧ j ≤ 2147483647) : Ct X yX11_treads cX11_treads 3 (some .int) 3 0 0 [.ref 2, vI i, vI j] (hp S) (sx_is (some (vI (aTreads V i j))) (hp (S))) := by
  subst hS
  exact c_X11_treads hC hi hj
theorem v_X11_hits {X : sx_X} {S : St} {V : Vw} {i j k : Int} (hS : cV S = V) (hC : CI S) (hi : -2147483648 ≤ i ∧ i ≤ 2147483647) (hj : -2147483648 ≤ j ∧ j ≤ 2147483647) (hk : -2147483648 ≤ k ∧ k ≤ 2147483647) : Ct X yX11_hits cX11_hits 4 (some .int) 2 0 0 [.ref 2, vI i, vI j, vI k] (hp S) (sx_is (some (vI (aHits V i j k))) (hp (S))) := by
  subst hS
  exact c_X11_hits hC hi hj hk
theorem v_X11_harm {X : sx_X} {S : St} {V : Vw} {i j k : Int} (hS : cV S = V) (hC : CI S) (hi : -2147483648 ≤ i ∧ i ≤ 2147483647) (hj : -2147483648 ≤ j ∧ j ≤ 2147483647) (hk : -2147483648 ≤ k ∧ k ≤ 2147483647) : Ct X yX11_harm cX11_harm 8 (some .long) 4 0 0 [.ref 2, vI i, vI j, vI k] (hp S) (sx_is (some (vJ (aHarm V i j k))) (hp (S))) := by
  subst hS
  exact c_X11_harm hC hi hj hk
theorem v_X11_all {X : sx_X} {S : St} {V : Vw} {i j : Int} (hS : cV S = V) (hC : CI S) (hi : -2147483648 ≤ i ∧ i ≤ 2147483647) (hj : -2147483648 ≤ j ∧ j ≤ 2147483647) : Ct X yX11_all cX11_all 7 (some .long) 5 0 0 [.ref 2, vI i, vI j] (hp S) (sx_is (some (vJ (aAll V i j))) (hp (S))) := by
  subst hS
  exact c_X11_all hC hi hj
theorem v_X11_ends {X : sx_X} {S : St} {V : Vw} (hS : cV S = V) (hC : CI S)  : Ct X yX11_ends cX11_ends 1 (some .int) 2 0 0 [.ref 2] (hp S) (sx_is (some (vI (aEnds V))) (hp (S))) := by
  subst hS
  exact c_X11_ends hC 
theorem v_X11_latest {X : sx_X} {S : St} {V : Vw} (hS : cV S = V) (hC : CI S)  : Ct X yX11_latest cX11_latest 2 (some .int) 2 0 0 [.ref 2] (hp S) (sx_is (some (vI (aLatest V))) (hp (S))) := by
  subst hS
  exact c_X11_latest hC 
theorem v_X11_curve {X : sx_X} {S : St} {V : Vw} {i j : Int} (hS : cV S = V) (hC : CI S) (hi : -2147483648 ≤ i ∧ i ≤ 2147483647) (hj : -2147483648 ≤ j ∧ j ≤ 2147483647) : Ct X yX11_curve cX11_curve 3 (some .long) 5 0 0 [.ref 2, vI i, vI j] (hp S) (sx_is (some (vJ (aCurve V i j))) (hp (S))) := by
  subst hS
  exact c_X11_curve hC hi hj
theorem v_X11_loose {X : sx_X} {S : St} {V : Vw} {i : Int} (hS : cV S = V) (hC : CI S) (hi : -2147483648 ≤ i ∧ i ≤ 2147483647) : Ct X yX11_loose cX11_loose 2 (some .int) 4 0 0 [.ref 2, vI i] (hp S) (sx_is (some (vI (aLoose V (S.2 27) (S.2 28) (S.2 29) (S.1 15).toNat i))) (hp (S))) := by
  subst hS
  exact c_X11_loose hC hi
theorem v_X11_gap {X : sx_X} {S : St} {V : Vw} {i : Int} (hS : cV S = V) (hC : CI S) (hi : -2147483648 ≤ i ∧ i ≤ 2147483647) : Ct X yX11_gap cX11_gap 8 (some .int) 5 0 0 [.ref 2, vI i] (hp S) (sx_is (some (vI (aGap V i))) (hp (S))) := by
  subst hS
  exact c_X11_gap hC hi
theorem v_X11_helmets {X : sx_X} {S : St} {V : Vw} {i j : Int} (hS : cV S = V) (hC : CI S) (hi : -2147483648 ≤ i ∧ i ≤ 2147483647) (hj : -2147483648 ≤ j ∧ j ≤ 2147483647) : Ct X yX11_helmets cX11_helmets 4 (some .long) 5 0 0 [.ref 2, vI i, vI j] (hp S) (sx_is (some (vJ (aHelm V i j))) (hp (hsF S i j))) := by
  subst hS
  exact c_X11_helmets hC hi hj
theorem v_X11_waits {X : sx_X} {S : St} {V : Vw} {i j k l : Int} (hS : cV S = V) (hC : CI S) (hi : -2147483648 ≤ i ∧ i ≤ 2147483647) (hj : -2147483648 ≤ j ∧ j ≤ 2147483647) (hk : -2147483648 ≤ k ∧ k ≤ 2147483647) (hl : -2147483648 ≤ l ∧ l ≤ 2147483647) : Ct X yX11_waits cX11_waits 7 (some .long) 5 0 0 [.ref 2, vI i, vI j, vI k, vI l] (hp S) (sx_is (some (vJ (aWaits V i j k l))) (hp (S))) := by
  subst hS
  exact c_X11_waits hC hi hj hk hl
theorem v_X11_foot {X : sx_X} {S : St} {V : Vw} {i j k : Int} (hS : cV S = V) (hC : CI S) (hi : -2147483648 ≤ i ∧ i ≤ 2147483647) (hj : -2147483648 ≤ j ∧ j ≤ 2147483647) (hk : -2147483648 ≤ k ∧ k ≤ 2147483647) : Ct X yX11_foot cX11_foot 6 (some .long) 4 0 0 [.ref 2, vI i, vI j, vI k] (hp S) (sx_is (some (vJ (aFoot V i j k))) (hp (S))) := by
  subst hS
  exact c_X11_foot hC hi hj hk
theorem v_X11_morning {X : sx_X} {S : St} {V : Vw} {i : Int} (hS : cV S = V) (hC : CI S) (hi : -2147483648 ≤ i ∧ i ≤ 2147483647) : Ct X yX11_morning cX11_morning 2 (some .int) 5 0 0 [.ref 2, vI i] (hp S) (sx_is (some (vI (aMorn V i))) (hp (moF S i))) := by
  subst hS
  exact c_X11_morning hC hi
theorem cV_ext {S T : St} (h1 : ∀ k, k < 12 → T.1 k = S.1 k) (h2 : ∀ k, k < 14 → T.2 k = S.2 k) : cV T = cV S := by
  have k1 : gK T = gK S := by
    funext q
    unfold gK
    rw [h1 2 (by decide), h2 8 (by decide)]
  have k2 : gL T = gL S := by
    funext q
    unfold gL
    rw [h1 2 (by decide), h2 9 (by decide)]
  have k3 : pW T = pW S := by
    funext q
    unfold pW
    rw [h1 4 (by decide), h2 11 (by decide)]
  have k4 : pS T = pS S := by
    funext q
    unfold pS
    rw [h1 4 (by decide), h2 12 (by decide)]
  have k5 : pH T = pH S := by
    funext q
    unfold pH
    rw [h1 4 (by decide), h2 13 (by decide)]
  unfold cV
  rw [h1 2 (by decide), h1 4 (by decide), h1 6 (by decide), h1 7 (by decide), h1 8 (by decide), h1 9 (by decide), h1 10 (by decide), h1 11 (by decide), k1, k2, k3, k4, k5]
/-- what does not touch the class's own state leaves it in order -/
theorem CI_ext {S T : St} (h1 : ∀ k, k < 24 → k ≠ 12 → k ≠ 13 → k ≠ 14 → T.1 k = S.1 k) (h2 : ∀ k, k < 40 → k ≠ 18 → k ≠ 19 → k ≠ 20 → k ≠ 21 → k ≠ 23 → T.2 k = S.2 k) (hC : CI S) : CI T := by
  obtain ⟨hV, hF, l0, l1, bT, bA, bB, bC, bSh, g3, g5⟩ := hC
  have hc : cV T = cV S := cV_ext (fun k hk => h1 k (by omega) (by omega) (by omega) (by omega)) (fun k hk => h2 k (by omega) (by omega) (by omega) (by omega) (by omega) (by omega))
  refine ⟨by rw [hc]; exact hV, ?_, ?_, ?_, ?_, ?_, ?_, ?_, fun s hs => ?_, ?_, ?_⟩
  · intro q h hq hh
    rw [hc, h2 16 (by decide) (by decide) (by decide) (by decide) (by decide) (by decide)]
    exact hF q h hq hh
  · rw [h1 0 (by decide) (by decide) (by decide) (by decide)]
    exact l0
  · rw [h1 1 (by decide) (by decide) (by decide) (by decide)]
    exact l1
  · rw [h1 15 (by decide) (by decide) (by decide) (by decide)]
    exact bT
  · rw [h2 27 (by decide) (by decide) (by decide) (by decide) (by decide) (by decide)]
    exact bA
  · rw [h2 28 (by decide) (by decide) (by decide) (by decide) (by decide) (by decide)]
    exact bB
  · rw [h2 29 (by decide) (by decide) (by decide) (by decide) (by decide) (by decide)]
    exact bC
  · rw [h1 (17 + 2 * s) (by omega) (by omega) (by omega) (by omega), h1 (16 + 2 * s) (by omega) (by omega) (by omega) (by omega), h2 (32 + 2 * s) (by omega) (by omega) (by omega) (by omega) (by omega) (by omega)]
    exact bSh s hs
  · rw [h1 3 (by decide) (by decide) (by decide) (by decide)]
    exact g3
  · rw [h1 5 (by decide) (by decide) (by decide) (by decide)]
    exact g5
theorem oS_ci {S : St} (t : OT) (hC : CI S) : CI (oS (oP S) t) ∧ cV (oS (oP S) t) = cV S := by
  refine ⟨CI_ext (fun k _ h1 _ _ => by simp [oS, oP, si, sA, sx_u, h1]) (fun k _ h1 h2 h3 h4 _ => by simp [oS, oP, si, sA, sx_u, h1, h2, h3, h4]) hC, rfl⟩
theorem hsF_ci {S : St} (i j : Int) (hC : CI S) : CI (hsF S i j) ∧ cV (hsF S i j) = cV S := by
  unfold hsF
  split
  · exact ⟨CI_ext (S := S) (fun k _ _ _ _ => rfl) (fun k _ _ _ _ _ h => by simp [sA, sx_u, h]) hC, rfl⟩
  · exact ⟨hC, rfl⟩
theorem moF_ci {S : St} (i : Int) (hC : CI S) : CI (moF S i) ∧ cV (moF S i) = cV S := by
  unfold moF
  generalize mPlay (cV S) (i, 0) (mTakes (cV S)).toNat = st
  exact ⟨CI_ext (S := S) (fun k _ _ h1 h2 => by simp [mo, si, sx_u, h1, h2]) (fun k _ _ _ _ _ _ => rfl) hC, rfl⟩
/-- the digest -/
def mx (h x : Int) : Int := 31 * h + x
def dgN : Nat → (Int → Nat → Int) → Int → Int
  | 0, _, h => h
  | n + 1, g, h => g (dgN n g h) n
def dgP (V : Vw) (lo : Int → Int) (h : Int) (p : Nat) : Int := mx (mx (mx (mx (mx h (i3 (aPart V p 0))) (i3 (aPart V p 1))) (i3 (aHits V p 0 0))) (i3 (aHits V p 0 1))) (i3 (lo p))
def dgW (V : Vw) (h : Int) (w : Nat) : Int := mx (mx (mx (mx (mx (mx (mx (mx (mx (mx (mx h (i3 (aWalker V w 0))) (i3 (aWalker V w 1))) (i3 (aWalker V w 2))) (i3 (aPlace V w 5))) (i3 (aTreads V w 2))) (aHarm V 0 w 0)) (aHarm V 0 w 1)) (aHarm V (-1) w 0)) (aHarm V (-1) w 1)) (aAll V w 0)) (aAll V w 1)
def dgO (V : Vw) (ol : Int) (ob : Nat → Int) (h : Int) : Int := mx (mx (mx (mx h (i3 (aOrd V ob 0))) (i3 (aOrd V ob 1))) (mFrac ol 256 0)) (mFrac ol 256 1)
def dg1 (c : Nat → Int) (f0 f1 : Int) : Int := mx (mx (dgN 8 (fun h k => mx h (i3 (c k))) 17) (i3 f0)) (i3 f1)
def dg2 (V : Vw) (h : Int) : Int := mx (mx (mx (mx (mx (mx (mx h (aAll V (-1) 0)) (aAll V (-1) 1)) (i3 (aEnds V))) (i3 (aLatest V))) (aCurve V 0 0)) (aCurve V 0 1)) (i3 (aGap V 20))
def dg3 (V : Vw) (h : Int) : Int := mx (mx (mx (dgN 3 (fun h k => mx h (aWaits V 3 2 90 k)) (dgN 3 (fun h k => mx h (aHelm V 1 k)) h)) (aFoot V 1 1 0)) (aFoot V 1 1 1)) (i3 (aMorn V 7))
def dgF (V : Vw) (c : Nat → Int) (f0 f1 : Int) (lo : Int → Int) (ol : Int) (ob : Nat → Int) : Int := dg3 V (dgO V ol ob (dg2 V (dgN (V.1 1).toNat (dgW V) (dgN (V.1 0).toNat (dgP V lo) (dg1 c f0 f1)))))
def dgT (S : St) : Nat → St
  | 0 => oS (oP S) (oR S)
  | n + 1 => hsF (dgT S n) 1 n
theorem dgT_ci {S : St} (hC : CI S) : ∀ n : Nat, CI (dgT S n) ∧ cV (dgT S n) = cV S
  | 0 => oS_ci _ hC
  | n + 1 => by
    have h := dgT_ci hC n
    have h2 := hsF_ci 1 n h.1
    exact ⟨h2.1, h2.2.trans h.2⟩
set_option maxRecDepth 20000 in
theorem c_X11_ordered {X : sx_X} {S : St} {i : Int} (hC : CI S) (hR : ∀ a, 0 ≤ S.2 20 a ∧ S.2 20 a ≤ 5) (hi : -2147483648 ≤ i ∧ i ≤ 2147483647) : Ct X yX11_ordered cX11_ordered 2 (some .long) 17 0 0 [.ref 2, vI i] (hp S) (sx_is (some (vJ (if 0 ≤ i ∧ i ≤ 1 then mFrac (oR S).2.1 256 i else -9223372036854775806))) (hp (if 0 ≤ i ∧ i ≤ 1 then oS (oP S) (oR S) else S))) := by
  obtain ⟨hV, hF, l0, l1, bT, bA, bB, bC, bSh, g3, g5⟩ := hC
  have b0 : 0 ≤ S.1 2 ∧ S.1 2 ≤ 16 := hV.1
  have b1 : 0 ≤ S.1 4 ∧ S.1 4 ≤ 6 := hV.2.1
  have b2 : 0 ≤ S.1 6 ∧ S.1 6 ≤ 99 := hV.2.2.1
  have b3 : 0 ≤ S.1 7 ∧ S.1 7 ≤ 1 := hV.2.2.2.1
  have b4 : 0 ≤ S.1 8 ∧ S.1 8 ≤ 16 := hV.2.2.2.2.1
  have b5 : 0 ≤ S.1 9 ∧ S.1 9 ≤ 999 := hV.2.2.2.2.2.1
  have b6 : 0 ≤ S.1 10 ∧ S.1 10 ≤ 1999 := hV.2.2.2.2.2.2.1
  have b7 : 0 ≤ S.1 11 ∧ S.1 11 ≤ 16 := hV.2.2.2.2.2.2.2.1
  have bK : ∀ q, 0 ≤ gK S q ∧ gK S q ≤ 3 := hV.2.2.2.2.2.2.2.2.1
  have bL : ∀ q, 0 ≤ gL S q ∧ gL S q ≤ 9 := hV.2.2.2.2.2.2.2.2.2.1
  have bW : ∀ q, 0 ≤ pW S q ∧ pW S q ≤ 9 := hV.2.2.2.2.2.2.2.2.2.2.1
  have bS : ∀ q, 0 ≤ pS S q ∧ pS S q ≤ 9 := hV.2.2.2.2.2.2.2.2.2.2.2.1
  have bH : ∀ q, 0 ≤ pH S q ∧ pH S q ≤ 1 := hV.2.2.2.2.2.2.2.2.2.2.2.2
  have c0 : 0 ≤ (cV S).1 0 ∧ (cV S).1 0 ≤ 16 := b0
  have c1 : 0 ≤ (cV S).1 1 ∧ (cV S).1 1 ≤ 6 := b1
  have c2 : 0 ≤ (cV S).1 2 ∧ (cV S).1 2 ≤ 99 := b2
  have c3 : 0 ≤ (cV S).1 3 ∧ (cV S).1 3 ≤ 1 := b3
  have c4 : 0 ≤ (cV S).1 4 ∧ (cV S).1 4 ≤ 16 := b4
  have c5 : 0 ≤ (cV S).1 5 ∧ (cV S).1 5 ≤ 999 := b5
  have c6 : 0 ≤ (cV S).1 6 ∧ (cV S).1 6 ≤ 1999 := b6
  have c7 : 0 ≤ (cV S).1 7 ∧ (cV S).1 7 ≤ 16 := b7
  have z1 := oR_b hV hR
  refine Ct.of false [some (.ref 2), some (vI i)] (plainFor_of_name (by decide)) (fun h => by cases h) (Nat.le_of_ble_eq_true rfl) (fun _ => rfl) sx_isl ?_
  refine sx_iload_n (p1 := 1) dX11_ordered_0 rfl rfl ?_
  refine sx_iconst (p1 := 2) dX11_ordered_1 rfl ?_
  refine sx_iconst (p1 := 3) dX11_ordered_2 rfl ?_
  refine sx_callSr (p1 := 6) (As := [_, _, _]) (k1 := 0) (n1 := 0) dX11_ordered_3 rfl rfl (c_X11_within (by omega) (by omega) (by omega)) mt_X11_within ml_X11_101 (Nat.le_of_ble_eq_true rfl) rfl (Nat.le_of_ble_eq_true rfl) rfl rfl (Nat.le_of_ble_eq_true rfl) (Nat.le_of_ble_eq_true rfl) ?_
  refine sx_if_ne (p1 := 9) (tg := 15) dX11_ordered_6 rfl rfl (by omega) (fun q6 => ?_) (fun q6 => ?_)
  · refine sx_aload_n (p1 := 16) dX11_ordered_15 rfl rfl ?_
    refine sx_get (p1 := 19) dX11_ordered_16 rfl fl_X11_56 (hp_c2 _) rfl ?_
    refine sx_callVr (p1 := 22) (As := []) (k1 := 0) (n1 := 0) dX11_ordered_19 rfl rfl (c_X3_search hV hF hR) mt_X3_search ml_X11_209 (hp_c17 _) rfl rfl (Nat.le_of_ble_eq_true rfl) rfl (Nat.le_of_ble_eq_true rfl) rfl rfl (Nat.le_of_ble_eq_true rfl) (Nat.le_of_ble_eq_true rfl) ?_
    refine sx_ldc2 (z := 256) (p1 := 25) dX11_ordered_22 rfl kc_X11_183 (by decide) ?_
    refine sx_iload_n (p1 := 26) dX11_ordered_25 rfl rfl ?_
    refine sx_callSr (p1 := 29) (As := [_, _, _]) (k1 := 0) (n1 := 0) dX11_ordered_26 rfl rfl (c_X11_fraction (by omega) (by omega) (by omega)) mt_X11_fraction ml_X11_185 (Nat.le_of_ble_eq_true rfl) rfl (Nat.le_of_ble_eq_true rfl) rfl rfl (Nat.le_of_ble_eq_true rfl) (Nat.le_of_ble_eq_true rfl) ?_
    exact sx_lret dX11_ordered_29 rfl (sx_rj (by rw [if_pos (by omega)]) (by rw [if_pos (by omega)]))
  · refine sx_bipush (p1 := 11) dX11_ordered_9 rfl (by decide) ?_
    refine sx_callSr (p1 := 14) (As := [_]) (k1 := 0) (n1 := 0) dX11_ordered_11 rfl rfl (c_X11_refusal (by omega)) mt_X11_refusal ml_X11_168 (Nat.le_of_ble_eq_true rfl) rfl (Nat.le_of_ble_eq_true rfl) rfl rfl (Nat.le_of_ble_eq_true rfl) (Nat.le_of_ble_eq_true rfl) ?_
    exact sx_lret dX11_ordered_14 rfl (sx_rj (by rw [if_neg (by omega)]; omega) (by rw [if_neg (by omega)]))
set_option maxRecDepth 20000 in
theorem c_X11_mixPart {X : sx_X} {S : St} {h0 : Int} {q : Nat} (hC : CI S) (hq : q ≤ 16) : Ct X yX11_mixPart cX11_mixPart 6 (some .long) 5 0 0 [.ref 2, vJ h0, vI (q : Int)] (hp S) (sx_is (some (vJ (dgP (cV S) (aLoose (cV S) (S.2 27) (S.2 28) (S.2 29) (S.1 15).toNat) h0 q))) (hp S)) := by
  refine Ct.of false [some (.ref 2), some (vJ h0), none, some (vI (q : Int)), none, none] (plainFor_of_name (by decide)) (fun h => by cases h) (Nat.le_of_ble_eq_true rfl) (fun _ => rfl) sx_isl ?_
  refine sx_lload_n (p1 := 1) dX11_mixPart_0 rfl rfl ?_
  refine sx_aload_n (p1 := 2) dX11_mixPart_1 rfl rfl ?_
  refine sx_iload_n (p1 := 3) dX11_mixPart_2 rfl rfl ?_
  refine sx_iconst (p1 := 4) dX11_mixPart_3 rfl ?_
  refine sx_callVr (p1 := 7) (As := [_, _]) (k1 := 0) (n1 := 0) dX11_mixPart_4 rfl rfl (v_X11_part (V := cV S) rfl hC (by omega) (by omega)) mt_X11_part ml_X11_362 (hp_c2 _) rfl rfl (Nat.le_of_ble_eq_true rfl) rfl (Nat.le_of_ble_eq_true rfl) rfl rfl (Nat.le_of_ble_eq_true rfl) (Nat.le_of_ble_eq_true rfl) ?_
  refine sx_i2lx (p1 := 8) dX11_mixPart_7 rfl ?_
  refine sx_callSr (p1 := 11) (As := [_, _]) (k1 := 0) (n1 := 0) dX11_mixPart_8 rfl rfl (c_X11_mix) mt_X11_mix ml_X11_315 (Nat.le_of_ble_eq_true rfl) rfl (Nat.le_of_ble_eq_true rfl) rfl rfl (Nat.le_of_ble_eq_true rfl) (Nat.le_of_ble_eq_true rfl) ?_
  refine sx_aload_n (p1 := 12) dX11_mixPart_11 rfl rfl ?_
  refine sx_iload_n (p1 := 13) dX11_mixPart_12 rfl rfl ?_
  refine sx_iconst (p1 := 14) dX11_mixPart_13 rfl ?_
  refine sx_callVr (p1 := 17) (As := [_, _]) (k1 := 0) (n1 := 0) dX11_mixPart_14 rfl rfl (v_X11_part (V := cV S) rfl hC (by omega) (by omega)) mt_X11_part ml_X11_362 (hp_c2 _) rfl rfl (Nat.le_of_ble_eq_true rfl) rfl (Nat.le_of_ble_eq_true rfl) rfl rfl (Nat.le_of_ble_eq_true rfl) (Nat.le_of_ble_eq_true rfl) ?_
  refine sx_i2lx (p1 := 18) dX11_mixPart_17 rfl ?_
  refine sx_callSr (p1 := 21) (As := [_, _]) (k1 := 0) (n1 := 0) dX11_mixPart_18 rfl rfl (c_X11_mix) mt_X11_mix ml_X11_315 (Nat.le_of_ble_eq_true rfl) rfl (Nat.le_of_ble_eq_true rfl) rfl rfl (Nat.le_of_ble_eq_true rfl) (Nat.le_of_ble_eq_true rfl) ?_
  refine sx_lstore (lo1 := [some _, some _, none, some _, some _, none]) (p1 := 23) dX11_mixPart_21 rfl (by decide) rfl ?_
  refine sx_lload (p1 := 25) dX11_mixPart_23 rfl rfl ?_
  refine sx_aload_n (p1 := 26) dX11_mixPart_25 rfl rfl ?_
  refine sx_iload_n (p1 := 27) dX11_mixPart_26 rfl rfl ?_
  refine sx_iconst (p1 := 28) dX11_mixPart_27 rfl ?_
  refine sx_iconst (p1 := 29) dX11_mixPart_28 rfl ?_
  refine sx_callVr (p1 := 32) (As := [_, _, _]) (k1 := 0) (n1 := 0) dX11_mixPart_29 rfl rfl (v_X11_hits (V := cV S) rfl hC (by omega) (by omega) (by omega)) mt_X11_hits ml_X11_365 (hp_c2 _) rfl rfl (Nat.le_of_ble_eq_true rfl) rfl (Nat.le_of_ble_eq_true rfl) rfl rfl (Nat.le_of_ble_eq_true rfl) (Nat.le_of_ble_eq_true rfl) ?_
  refine sx_i2lx (p1 := 33) dX11_mixPart_32 rfl ?_
  refine sx_callSr (p1 := 36) (As := [_, _]) (k1 := 0) (n1 := 0) dX11_mixPart_33 rfl rfl (c_X11_mix) mt_X11_mix ml_X11_315 (Nat.le_of_ble_eq_true rfl) rfl (Nat.le_of_ble_eq_true rfl) rfl rfl (Nat.le_of_ble_eq_true rfl) (Nat.le_of_ble_eq_true rfl) ?_
  refine sx_aload_n (p1 := 37) dX11_mixPart_36 rfl rfl ?_
  refine sx_iload_n (p1 := 38) dX11_mixPart_37 rfl rfl ?_
  refine sx_iconst (p1 := 39) dX11_mixPart_38 rfl ?_
  refine sx_iconst (p1 := 40) dX11_mixPart_39 rfl ?_
  refine sx_callVr (p1 := 43) (As := [_, _, _]) (k1 := 0) (n1 := 0) dX11_mixPart_40 rfl rfl (v_X11_hits (V := cV S) rfl hC (by omega) (by omega) (by omega)) mt_X11_hits ml_X11_365 (hp_c2 _) rfl rfl (Nat.le_of_ble_eq_true rfl) rfl (Nat.le_of_ble_eq_true rfl) rfl rfl (Nat.le_of_ble_eq_true rfl) (Nat.le_of_ble_eq_true rfl) ?_
  refine sx_i2lx (p1 := 44) dX11_mixPart_43 rfl ?_
  refine sx_callSr (p1 := 47) (As := [_, _]) (k1 := 0) (n1 := 0) dX11_mixPart_44 rfl rfl (c_X11_mix) mt_X11_mix ml_X11_315 (Nat.le_of_ble_eq_true rfl) rfl (Nat.le_of_ble_eq_true rfl) rfl rfl (Nat.le_of_ble_eq_true rfl) (Nat.le_of_ble_eq_true rfl) ?_
  refine sx_lstore (lo1 := [some _, some _, none, some _, some _, none]) (p1 := 49) dX11_mixPart_47 rfl (by decide) rfl ?_
  refine sx_lload (p1 := 51) dX11_mixPart_49 rfl rfl ?_
  refine sx_aload_n (p1 := 52) dX11_mixPart_51 rfl rfl ?_
  refine sx_iload_n (p1 := 53) dX11_mixPart_52 rfl rfl ?_
  refine sx_callVr (p1 := 56) (As := [_]) (k1 := 0) (n1 := 0) dX11_mixPart_53 rfl rfl (v_X11_loose (V := cV S) rfl hC (by omega)) mt_X11_loose ml_X11_368 (hp_c2 _) rfl rfl (Nat.le_of_ble_eq_true rfl) rfl (Nat.le_of_ble_eq_true rfl) rfl rfl (Nat.le_of_ble_eq_true rfl) (Nat.le_of_ble_eq_true rfl) ?_
  refine sx_i2lx (p1 := 57) dX11_mixPart_56 rfl ?_
  refine sx_callSr (p1 := 60) (As := [_, _]) (k1 := 0) (n1 := 0) dX11_mixPart_57 rfl rfl (c_X11_mix) mt_X11_mix ml_X11_315 (Nat.le_of_ble_eq_true rfl) rfl (Nat.le_of_ble_eq_true rfl) rfl rfl (Nat.le_of_ble_eq_true rfl) (Nat.le_of_ble_eq_true rfl) ?_
  exact sx_lret dX11_mixPart_60 rfl (sx_rj (by rfl) (by rfl))
set_option maxRecDepth 20000 in
theorem c_X11_mixWalker {X : sx_X} {S : St} {h0 : Int} {q : Nat} (hC : CI S) (hq : q ≤ 16) : Ct X yX11_mixWalker cX11_mixWalker 6 (some .long) 6 0 0 [.ref 2, vJ h0, vI (q : Int)] (hp S) (sx_is (some (vJ (dgW (cV S) h0 q))) (hp S)) := by
  refine Ct.of false [some (.ref 2), some (vJ h0), none, some (vI (q : Int)), none, none] (plainFor_of_name (by decide)) (fun h => by cases h) (Nat.le_of_ble_eq_true rfl) (fun _ => rfl) sx_isl ?_
  refine sx_lload_n (p1 := 1) dX11_mixWalker_0 rfl rfl ?_
  refine sx_aload_n (p1 := 2) dX11_mixWalker_1 rfl rfl ?_
  refine sx_iload_n (p1 := 3) dX11_mixWalker_2 rfl rfl ?_
  refine sx_iconst (p1 := 4) dX11_mixWalker_3 rfl ?_
  refine sx_callVr (p1 := 7) (As := [_, _]) (k1 := 0) (n1 := 0) dX11_mixWalker_4 rfl rfl (v_X11_walker (V := cV S) rfl hC (by omega) (by omega)) mt_X11_walker ml_X11_371 (hp_c2 _) rfl rfl (Nat.le_of_ble_eq_true rfl) rfl (Nat.le_of_ble_eq_true rfl) rfl rfl (Nat.le_of_ble_eq_true rfl) (Nat.le_of_ble_eq_true rfl) ?_
  refine sx_i2lx (p1 := 8) dX11_mixWalker_7 rfl ?_
  refine sx_callSr (p1 := 11) (As := [_, _]) (k1 := 0) (n1 := 0) dX11_mixWalker_8 rfl rfl (c_X11_mix) mt_X11_mix ml_X11_315 (Nat.le_of_ble_eq_true rfl) rfl (Nat.le_of_ble_eq_true rfl) rfl rfl (Nat.le_of_ble_eq_true rfl) (Nat.le_of_ble_eq_true rfl) ?_
  refine sx_aload_n (p1 := 12) dX11_mixWalker_11 rfl rfl ?_
  refine sx_iload_n (p1 := 13) dX11_mixWalker_12 rfl rfl ?_
  refine sx_iconst (p1 := 14) dX11_mixWalker_13 rfl ?_
  refine sx_callVr (p1 := 17) (As := [_, _]) (k1 := 0) (n1 := 0) dX11_mixWalker_14 rfl rfl (v_X11_walker (V := cV S) rfl hC (by omega) (by omega)) mt_X11_walker ml_X11_371 (hp_c2 _) rfl rfl (Nat.le_of_ble_eq_true rfl) rfl (Nat.le_of_ble_eq_true rfl) rfl rfl (Nat.le_of_ble_eq_true rfl) (Nat.le_of_ble_eq_true rfl) ?_
  refine sx_i2lx (p1 := 18) dX11_mixWalker_17 rfl ?_
  refine sx_callSr (p1 := 21) (As := [_, _]) (k1 := 0) (n1 := 0) dX11_mixWalker_18 rfl rfl (c_X11_mix) mt_X11_mix ml_X11_315 (Nat.le_of_ble_eq_true rfl) rfl (Nat.le_of_ble_eq_true rfl) rfl rfl (Nat.le_of_ble_eq_true rfl) (Nat.le_of_ble_eq_true rfl) ?_
  refine sx_aload_n (p1 := 22) dX11_mixWalker_21 rfl rfl ?_
  refine sx_iload_n (p1 := 23) dX11_mixWalker_22 rfl rfl ?_
  refine sx_iconst (p1 := 24) dX11_mixWalker_23 rfl ?_
  refine sx_callVr (p1 := 27) (As := [_, _]) (k1 := 0) (n1 := 0) dX11_mixWalker_24 rfl rfl (v_X11_walker (V := cV S) rfl hC (by omega) (by omega)) mt_X11_walker ml_X11_371 (hp_c2 _) rfl rfl (Nat.le_of_ble_eq_true rfl) rfl (Nat.le_of_ble_eq_true rfl) rfl rfl (Nat.le_of_ble_eq_true rfl) (Nat.le_of_ble_eq_true rfl) ?_
  refine sx_i2lx (p1 := 28) dX11_mixWalker_27 rfl ?_
  refine sx_callSr (p1 := 31) (As := [_, _]) (k1 := 0) (n1 := 0) dX11_mixWalker_28 rfl rfl (c_X11_mix) mt_X11_mix ml_X11_315 (Nat.le_of_ble_eq_true rfl) rfl (Nat.le_of_ble_eq_true rfl) rfl rfl (Nat.le_of_ble_eq_true rfl) (Nat.le_of_ble_eq_true rfl) ?_
  refine sx_lstore (lo1 := [some _, some _, none, some _, some _, none]) (p1 := 33) dX11_mixWalker_31 rfl (by decide) rfl ?_
  refine sx_lload (p1 := 35) dX11_mixWalker_33 rfl rfl ?_
  refine sx_aload_n (p1 := 36) dX11_mixWalker_35 rfl rfl ?_
  refine sx_iload_n (p1 := 37) dX11_mixWalker_36 rfl rfl ?_
  refine sx_iconst (p1 := 38) dX11_mixWalker_37 rfl ?_
  refine sx_callVr (p1 := 41) (As := [_, _]) (k1 := 0) (n1 := 0) dX11_mixWalker_38 rfl rfl (v_X11_place (V := cV S) rfl hC (by omega) (by omega)) mt_X11_place ml_X11_374 (hp_c2 _) rfl rfl (Nat.le_of_ble_eq_true rfl) rfl (Nat.le_of_ble_eq_true rfl) rfl rfl (Nat.le_of_ble_eq_true rfl) (Nat.le_of_ble_eq_true rfl) ?_
  refine sx_i2lx (p1 := 42) dX11_mixWalker_41 rfl ?_
  refine sx_callSr (p1 := 45) (As := [_, _]) (k1 := 0) (n1 := 0) dX11_mixWalker_42 rfl rfl (c_X11_mix) mt_X11_mix ml_X11_315 (Nat.le_of_ble_eq_true rfl) rfl (Nat.le_of_ble_eq_true rfl) rfl rfl (Nat.le_of_ble_eq_true rfl) (Nat.le_of_ble_eq_true rfl) ?_
  refine sx_aload_n (p1 := 46) dX11_mixWalker_45 rfl rfl ?_
  refine sx_iload_n (p1 := 47) dX11_mixWalker_46 rfl rfl ?_
  refine sx_iconst (p1 := 48) dX11_mixWalker_47 rfl ?_
  refine sx_callVr (p1 := 51) (As := [_, _]) (k1 := 0) (n1 := 0) dX11_mixWalker_48 rfl rfl (v_X11_treads (V := cV S) rfl hC (by omega) (by omega)) mt_X11_treads ml_X11_377 (hp_c2 _) rfl rfl (Nat.le_of_ble_eq_true rfl) rfl (Nat.le_of_ble_eq_true rfl) rfl rfl (Nat.le_of_ble_eq_true rfl) (Nat.le_of_ble_eq_true rfl) ?_
  refine sx_i2lx (p1 := 52) dX11_mixWalker_51 rfl ?_
  refine sx_callSr (p1 := 55) (As := [_, _]) (k1 := 0) (n1 := 0) dX11_mixWalker_52 rfl rfl (c_X11_mix) mt_X11_mix ml_X11_315 (Nat.le_of_ble_eq_true rfl) rfl (Nat.le_of_ble_eq_true rfl) rfl rfl (Nat.le_of_ble_eq_true rfl) (Nat.le_of_ble_eq_true rfl) ?_
  refine sx_lstore (lo1 := [some _, some _, none, some _, some _, none]) (p1 := 57) dX11_mixWalker_55 rfl (by decide) rfl ?_
  refine sx_lload (p1 := 59) dX11_mixWalker_57 rfl rfl ?_
  refine sx_aload_n (p1 := 60) dX11_mixWalker_59 rfl rfl ?_
  refine sx_iconst (p1 := 61) dX11_mixWalker_60 rfl ?_
  refine sx_iload_n (p1 := 62) dX11_mixWalker_61 rfl rfl ?_
  refine sx_iconst (p1 := 63) dX11_mixWalker_62 rfl ?_
  refine sx_callVr (p1 := 66) (As := [_, _, _]) (k1 := 0) (n1 := 0) dX11_mixWalker_63 rfl rfl (v_X11_harm (V := cV S) rfl hC (by omega) (by omega) (by omega)) mt_X11_harm ml_X11_380 (hp_c2 _) rfl rfl (Nat.le_of_ble_eq_true rfl) rfl (Nat.le_of_ble_eq_true rfl) rfl rfl (Nat.le_of_ble_eq_true rfl) (Nat.le_of_ble_eq_true rfl) ?_
  refine sx_callSr (p1 := 69) (As := [_, _]) (k1 := 0) (n1 := 0) dX11_mixWalker_66 rfl rfl (c_X11_mix) mt_X11_mix ml_X11_315 (Nat.le_of_ble_eq_true rfl) rfl (Nat.le_of_ble_eq_true rfl) rfl rfl (Nat.le_of_ble_eq_true rfl) (Nat.le_of_ble_eq_true rfl) ?_
  refine sx_aload_n (p1 := 70) dX11_mixWalker_69 rfl rfl ?_
  refine sx_iconst (p1 := 71) dX11_mixWalker_70 rfl ?_
  refine sx_iload_n (p1 := 72) dX11_mixWalker_71 rfl rfl ?_
  refine sx_iconst (p1 := 73) dX11_mixWalker_72 rfl ?_
  refine sx_callVr (p1 := 76) (As := [_, _, _]) (k1 := 0) (n1 := 0) dX11_mixWalker_73 rfl rfl (v_X11_harm (V := cV S) rfl hC (by omega) (by omega) (by omega)) mt_X11_harm ml_X11_380 (hp_c2 _) rfl rfl (Nat.le_of_ble_eq_true rfl) rfl (Nat.le_of_ble_eq_true rfl) rfl rfl (Nat.le_of_ble_eq_true rfl) (Nat.le_of_ble_eq_true rfl) ?_
  refine sx_callSr (p1 := 79) (As := [_, _]) (k1 := 0) (n1 := 0) dX11_mixWalker_76 rfl rfl (c_X11_mix) mt_X11_mix ml_X11_315 (Nat.le_of_ble_eq_true rfl) rfl (Nat.le_of_ble_eq_true rfl) rfl rfl (Nat.le_of_ble_eq_true rfl) (Nat.le_of_ble_eq_true rfl) ?_
  refine sx_lstore (lo1 := [some _, some _, none, some _, some _, none]) (p1 := 81) dX11_mixWalker_79 rfl (by decide) rfl ?_
  refine sx_lload (p1 := 83) dX11_mixWalker_81 rfl rfl ?_
  refine sx_aload_n (p1 := 84) dX11_mixWalker_83 rfl rfl ?_
  refine sx_iconst (p1 := 85) dX11_mixWalker_84 rfl ?_
  refine sx_iload_n (p1 := 86) dX11_mixWalker_85 rfl rfl ?_
  refine sx_iconst (p1 := 87) dX11_mixWalker_86 rfl ?_
  refine sx_callVr (p1 := 90) (As := [_, _, _]) (k1 := 0) (n1 := 0) dX11_mixWalker_87 rfl rfl (v_X11_harm (V := cV S) rfl hC (by omega) (by omega) (by omega)) mt_X11_harm ml_X11_380 (hp_c2 _) rfl rfl (Nat.le_of_ble_eq_true rfl) rfl (Nat.le_of_ble_eq_true rfl) rfl rfl (Nat.le_of_ble_eq_true rfl) (Nat.le_of_ble_eq_true rfl) ?_
  refine sx_callSr (p1 := 93) (As := [_, _]) (k1 := 0) (n1 := 0) dX11_mixWalker_90 rfl rfl (c_X11_mix) mt_X11_mix ml_X11_315 (Nat.le_of_ble_eq_true rfl) rfl (Nat.le_of_ble_eq_true rfl) rfl rfl (Nat.le_of_ble_eq_true rfl) (Nat.le_of_ble_eq_true rfl) ?_
  refine sx_aload_n (p1 := 94) dX11_mixWalker_93 rfl rfl ?_
  refine sx_iconst (p1 := 95) dX11_mixWalker_94 rfl ?_
  refine sx_iload_n (p1 := 96) dX11_mixWalker_95 rfl rfl ?_
  refine sx_iconst (p1 := 97) dX11_mixWalker_96 rfl ?_
  refine sx_callVr (p1 := 100) (As := [_, _, _]) (k1 := 0) (n1 := 0) dX11_mixWalker_97 rfl rfl (v_X11_harm (V := cV S) rfl hC (by omega) (by omega) (by omega)) mt_X11_harm ml_X11_380 (hp_c2 _) rfl rfl (Nat.le_of_ble_eq_true rfl) rfl (Nat.le_of_ble_eq_true rfl) rfl rfl (Nat.le_of_ble_eq_true rfl) (Nat.le_of_ble_eq_true rfl) ?_
  refine sx_callSr (p1 := 103) (As := [_, _]) (k1 := 0) (n1 := 0) dX11_mixWalker_100 rfl rfl (c_X11_mix) mt_X11_mix ml_X11_315 (Nat.le_of_ble_eq_true rfl) rfl (Nat.le_of_ble_eq_true rfl) rfl rfl (Nat.le_of_ble_eq_true rfl) (Nat.le_of_ble_eq_true rfl) ?_
  refine sx_lstore (lo1 := [some _, some _, none, some _, some _, none]) (p1 := 105) dX11_mixWalker_103 rfl (by decide) rfl ?_
  refine sx_lload (p1 := 107) dX11_mixWalker_105 rfl rfl ?_
  refine sx_aload_n (p1 := 108) dX11_mixWalker_107 rfl rfl ?_
  refine sx_iload_n (p1 := 109) dX11_mixWalker_108 rfl rfl ?_
  refine sx_iconst (p1 := 110) dX11_mixWalker_109 rfl ?_
  refine sx_callVr (p1 := 113) (As := [_, _]) (k1 := 0) (n1 := 0) dX11_mixWalker_110 rfl rfl (v_X11_all (V := cV S) rfl hC (by omega) (by omega)) mt_X11_all ml_X11_329 (hp_c2 _) rfl rfl (Nat.le_of_ble_eq_true rfl) rfl (Nat.le_of_ble_eq_true rfl) rfl rfl (Nat.le_of_ble_eq_true rfl) (Nat.le_of_ble_eq_true rfl) ?_
  refine sx_callSr (p1 := 116) (As := [_, _]) (k1 := 0) (n1 := 0) dX11_mixWalker_113 rfl rfl (c_X11_mix) mt_X11_mix ml_X11_315 (Nat.le_of_ble_eq_true rfl) rfl (Nat.le_of_ble_eq_true rfl) rfl rfl (Nat.le_of_ble_eq_true rfl) (Nat.le_of_ble_eq_true rfl) ?_
  refine sx_aload_n (p1 := 117) dX11_mixWalker_116 rfl rfl ?_
  refine sx_iload_n (p1 := 118) dX11_mixWalker_117 rfl rfl ?_
  refine sx_iconst (p1 := 119) dX11_mixWalker_118 rfl ?_
  refine sx_callVr (p1 := 122) (As := [_, _]) (k1 := 0) (n1 := 0) dX11_mixWalker_119 rfl rfl (v_X11_all (V := cV S) rfl hC (by omega) (by omega)) mt_X11_all ml_X11_329 (hp_c2 _) rfl rfl (Nat.le_of_ble_eq_true rfl) rfl (Nat.le_of_ble_eq_true rfl) rfl rfl (Nat.le_of_ble_eq_true rfl) (Nat.le_of_ble_eq_true rfl) ?_
  refine sx_callSr (p1 := 125) (As := [_, _]) (k1 := 0) (n1 := 0) dX11_mixWalker_122 rfl rfl (c_X11_mix) mt_X11_mix ml_X11_315 (Nat.le_of_ble_eq_true rfl) rfl (Nat.le_of_ble_eq_true rfl) rfl rfl (Nat.le_of_ble_eq_true rfl) (Nat.le_of_ble_eq_true rfl) ?_
  exact sx_lret dX11_mixWalker_125 rfl (sx_rj (by rfl) (by rfl))
theorem z_X3_at {X : sx_X} {S : St} {V : Vw} {i : Int} (hS : cV S = V) (hV : okV V) (hi : 0 ≤ i ∧ i ≤ 5) : Ct X yX3_at cX3_at 2 (some .int) 1 0 0 [.ref 17, vI i] (hp S) (sx_is (some (vI (aOrd V (S.2 21) i))) (hp S)) := by
  have h := c_X3_at (X := X) hS hV (show -2147483648 ≤ i ∧ i ≤ 2147483647 by omega)
  have e : (if 0 ≤ i ∧ i < V.1 1 then S.2 21 i.toNat else -1) = aOrd V (S.2 21) i := by
    unfold aOrd
    by_cases c : i < V.1 1
    · rw [if_pos ⟨hi.1, c⟩, if_pos c]
    · rw [if_neg (fun q => c q.2), if_neg c]
  rw [e] at h
  exact h
set_option maxRecDepth 20000 in
theorem c_X11_mixOrder {X : sx_X} {S : St} {h0 : Int} (hC : CI S) (hR : ∀ a, 0 ≤ S.2 20 a ∧ S.2 20 a ≤ 5) : Ct X yX11_mixOrder cX11_mixOrder 7 (some .long) 17 0 0 [.ref 2, vJ h0] (hp S) (sx_is (some (vJ (dgO (cV S) (oR S).2.1 (oR S).2.2 h0))) (hp (oS (oP S) (oR S)))) := by
  have hV := hC.1
  have hF := hC.2.1
  have z1 := oR_b hV hR
  refine Ct.of false [some (.ref 2), some (vJ h0), none, none, none, none, none] (plainFor_of_name (by decide)) (fun h => by cases h) (Nat.le_of_ble_eq_true rfl) (fun _ => rfl) sx_isl ?_
  refine sx_aload_n (p1 := 1) dX11_mixOrder_0 rfl rfl ?_
  refine sx_get (p1 := 4) dX11_mixOrder_1 rfl fl_X11_56 (hp_c2 _) rfl ?_
  refine sx_callVr (p1 := 7) (As := []) (k1 := 0) (n1 := 0) dX11_mixOrder_4 rfl rfl (c_X3_search hV hF hR) mt_X3_search ml_X11_209 (hp_c17 _) rfl rfl (Nat.le_of_ble_eq_true rfl) rfl (Nat.le_of_ble_eq_true rfl) rfl rfl (Nat.le_of_ble_eq_true rfl) (Nat.le_of_ble_eq_true rfl) ?_
  refine sx_lstore_n (lo1 := [some _, some _, none, some _, none, none, none]) (p1 := 8) dX11_mixOrder_7 rfl (by decide) rfl ?_
  refine sx_lload_n (p1 := 9) dX11_mixOrder_8 rfl rfl ?_
  refine sx_aload_n (p1 := 10) dX11_mixOrder_9 rfl rfl ?_
  refine sx_get (p1 := 13) dX11_mixOrder_10 rfl fl_X11_56 (hp_c2 _) rfl ?_
  refine sx_iconst (p1 := 14) dX11_mixOrder_13 rfl ?_
  refine sx_callVr (p1 := 17) (As := [_]) (k1 := 0) (n1 := 0) dX11_mixOrder_14 rfl rfl (z_X3_at (S := oS (oP S) (oR S)) (V := cV S) rfl hV (by decide)) mt_X3_at ml_X11_213 (hp_c17 _) rfl rfl (Nat.le_of_ble_eq_true rfl) rfl (Nat.le_of_ble_eq_true rfl) rfl rfl (Nat.le_of_ble_eq_true rfl) (Nat.le_of_ble_eq_true rfl) ?_
  refine sx_i2lx (p1 := 18) dX11_mixOrder_17 rfl ?_
  refine sx_callSr (p1 := 21) (As := [_, _]) (k1 := 0) (n1 := 0) dX11_mixOrder_18 rfl rfl (c_X11_mix) mt_X11_mix ml_X11_315 (Nat.le_of_ble_eq_true rfl) rfl (Nat.le_of_ble_eq_true rfl) rfl rfl (Nat.le_of_ble_eq_true rfl) (Nat.le_of_ble_eq_true rfl) ?_
  refine sx_aload_n (p1 := 22) dX11_mixOrder_21 rfl rfl ?_
  refine sx_get (p1 := 25) dX11_mixOrder_22 rfl fl_X11_56 (hp_c2 _) rfl ?_
  refine sx_iconst (p1 := 26) dX11_mixOrder_25 rfl ?_
  refine sx_callVr (p1 := 29) (As := [_]) (k1 := 0) (n1 := 0) dX11_mixOrder_26 rfl rfl (z_X3_at (S := oS (oP S) (oR S)) (V := cV S) rfl hV (by decide)) mt_X3_at ml_X11_213 (hp_c17 _) rfl rfl (Nat.le_of_ble_eq_true rfl) rfl (Nat.le_of_ble_eq_true rfl) rfl rfl (Nat.le_of_ble_eq_true rfl) (Nat.le_of_ble_eq_true rfl) ?_
  refine sx_i2lx (p1 := 30) dX11_mixOrder_29 rfl ?_
  refine sx_callSr (p1 := 33) (As := [_, _]) (k1 := 0) (n1 := 0) dX11_mixOrder_30 rfl rfl (c_X11_mix) mt_X11_mix ml_X11_315 (Nat.le_of_ble_eq_true rfl) rfl (Nat.le_of_ble_eq_true rfl) rfl rfl (Nat.le_of_ble_eq_true rfl) (Nat.le_of_ble_eq_true rfl) ?_
  refine sx_lstore (lo1 := [some _, some _, none, some _, none, some _, none]) (p1 := 35) dX11_mixOrder_33 rfl (by decide) rfl ?_
  refine sx_lload (p1 := 37) dX11_mixOrder_35 rfl rfl ?_
  refine sx_lload_n (p1 := 38) dX11_mixOrder_37 rfl rfl ?_
  refine sx_ldc2 (z := 256) (p1 := 41) dX11_mixOrder_38 rfl kc_X11_183 (by decide) ?_
  refine sx_iconst (p1 := 42) dX11_mixOrder_41 rfl ?_
  refine sx_callSr (p1 := 45) (As := [_, _, _]) (k1 := 0) (n1 := 0) dX11_mixOrder_42 rfl rfl (c_X11_fraction (by omega) (by omega) (by omega)) mt_X11_fraction ml_X11_185 (Nat.le_of_ble_eq_true rfl) rfl (Nat.le_of_ble_eq_true rfl) rfl rfl (Nat.le_of_ble_eq_true rfl) (Nat.le_of_ble_eq_true rfl) ?_
  refine sx_callSr (p1 := 48) (As := [_, _]) (k1 := 0) (n1 := 0) dX11_mixOrder_45 rfl rfl (c_X11_mix) mt_X11_mix ml_X11_315 (Nat.le_of_ble_eq_true rfl) rfl (Nat.le_of_ble_eq_true rfl) rfl rfl (Nat.le_of_ble_eq_true rfl) (Nat.le_of_ble_eq_true rfl) ?_
  refine sx_lload_n (p1 := 49) dX11_mixOrder_48 rfl rfl ?_
  refine sx_ldc2 (z := 256) (p1 := 52) dX11_mixOrder_49 rfl kc_X11_183 (by decide) ?_
  refine sx_iconst (p1 := 53) dX11_mixOrder_52 rfl ?_
  refine sx_callSr (p1 := 56) (As := [_, _, _]) (k1 := 0) (n1 := 0) dX11_mixOrder_53 rfl rfl (c_X11_fraction (by omega) (by omega) (by omega)) mt_X11_fraction ml_X11_185 (Nat.le_of_ble_eq_true rfl) rfl (Nat.le_of_ble_eq_true rfl) rfl rfl (Nat.le_of_ble_eq_true rfl) (Nat.le_of_ble_eq_true rfl) ?_
  refine sx_callSr (p1 := 59) (As := [_, _]) (k1 := 0) (n1 := 0) dX11_mixOrder_56 rfl rfl (c_X11_mix) mt_X11_mix ml_X11_315 (Nat.le_of_ble_eq_true rfl) rfl (Nat.le_of_ble_eq_true rfl) rfl rfl (Nat.le_of_ble_eq_true rfl) (Nat.le_of_ble_eq_true rfl) ?_
  exact sx_lret dX11_mixOrder_59 rfl (sx_rj (by rfl) (by rfl))
set_option maxRecDepth 20000 in
theorem c_X11_digest {X : sx_X} {S : St} (hC : CI S) (hR : ∀ a, 0 ≤ S.2 20 a ∧ S.2 20 a ≤ 5) : Ct X yX11_digest cX11_digest 4 (some .long) 18 0 0 [.ref 2] (hp S) (sx_is (some (vJ (dgF (cV S) (fun k => cnF S k) (S.1 3) (S.1 5) (aLoose (cV S) (S.2 27) (S.2 28) (S.2 29) (S.1 15).toNat) (oR S).2.1 (oR S).2.2))) (hp (moF (dgT S 3) 7))) := by
  have b0 : 0 ≤ S.1 2 ∧ S.1 2 ≤ 16 := hC.1.1
  have c0 : 0 ≤ (cV S).1 0 ∧ (cV S).1 0 ≤ 16 := b0
  have c1 : 0 ≤ (cV S).1 1 ∧ (cV S).1 1 ≤ 6 := hC.1.2.1
  have hV := hC.1
  have wait : ∀ (n i : Nat), i + n = 3 → Rn X RX11 false cX11_digest 4 18 0 0 (some .long) 201 [some (.ref 2), some (vJ (dgN i (fun h k => mx h (aWaits (cV S) 3 2 90 k)) (dgN 3 (fun h k => mx h (aHelm (cV S) 1 k)) (dgO (cV S) (oR S).2.1 (oR S).2.2 (dg2 (cV S) (dgN ((cV S).1 1).toNat (dgW (cV S)) (dgN (S.1 2).toNat (dgP (cV S) (aLoose (cV S) (S.2 27) (S.2 28) (S.2 29) (S.1 15).toNat)) (dg1 (fun k => cnF S k) (S.1 3) (S.1 5))))))))), none, some (vI (i : Int))] [] (hp (dgT S 3)) 0 0 (sx_is (some (vJ (dgF (cV S) (fun k => cnF S k) (S.1 3) (S.1 5) (aLoose (cV S) (S.2 27) (S.2 28) (S.2 29) (S.1 15).toNat) (oR S).2.1 (oR S).2.2))) (hp (moF (dgT S 3) 7))) := by
    intro n
    induction n with
    | zero =>
      intro i hi 
      rw [Nat.add_zero] at hi
      subst hi
      refine sx_iload_n (p1 := 202) dX11_digest_201 rfl rfl ?_
      refine sx_iconst (p1 := 203) dX11_digest_202 rfl ?_
      refine sx_icmp_gt (p1 := 206) (tg := 226) dX11_digest_203 rfl rfl (by omega) (by omega) (fun q203 => ?_) (fun q203 => absurd q203 (by omega))
      refine sx_lload_n (p1 := 227) dX11_digest_226 rfl rfl ?_
      refine sx_aload_n (p1 := 228) dX11_digest_227 rfl rfl ?_
      refine sx_iconst (p1 := 229) dX11_digest_228 rfl ?_
      refine sx_iconst (p1 := 230) dX11_digest_229 rfl ?_
      refine sx_iconst (p1 := 231) dX11_digest_230 rfl ?_
      refine sx_callVr (p1 := 234) (As := [_, _, _]) (k1 := 0) (n1 := 0) dX11_digest_231 rfl rfl (v_X11_foot (S := dgT S 3) (V := cV S) (dgT_ci hC 3).2 (dgT_ci hC 3).1 (by omega) (by omega) (by omega)) mt_X11_foot ml_X11_354 (hp_c2 _) rfl rfl (Nat.le_of_ble_eq_true rfl) rfl (Nat.le_of_ble_eq_true rfl) rfl rfl (Nat.le_of_ble_eq_true rfl) (Nat.le_of_ble_eq_true rfl) ?_
      refine sx_callSr (p1 := 237) (As := [_, _]) (k1 := 0) (n1 := 0) dX11_digest_234 rfl rfl (c_X11_mix) mt_X11_mix ml_X11_315 (Nat.le_of_ble_eq_true rfl) rfl (Nat.le_of_ble_eq_true rfl) rfl rfl (Nat.le_of_ble_eq_true rfl) (Nat.le_of_ble_eq_true rfl) ?_
      refine sx_aload_n (p1 := 238) dX11_digest_237 rfl rfl ?_
      refine sx_iconst (p1 := 239) dX11_digest_238 rfl ?_
      refine sx_iconst (p1 := 240) dX11_digest_239 rfl ?_
      refine sx_iconst (p1 := 241) dX11_digest_240 rfl ?_
      refine sx_callVr (p1 := 244) (As := [_, _, _]) (k1 := 0) (n1 := 0) dX11_digest_241 rfl rfl (v_X11_foot (S := dgT S 3) (V := cV S) (dgT_ci hC 3).2 (dgT_ci hC 3).1 (by omega) (by omega) (by omega)) mt_X11_foot ml_X11_354 (hp_c2 _) rfl rfl (Nat.le_of_ble_eq_true rfl) rfl (Nat.le_of_ble_eq_true rfl) rfl rfl (Nat.le_of_ble_eq_true rfl) (Nat.le_of_ble_eq_true rfl) ?_
      refine sx_callSr (p1 := 247) (As := [_, _]) (k1 := 0) (n1 := 0) dX11_digest_244 rfl rfl (c_X11_mix) mt_X11_mix ml_X11_315 (Nat.le_of_ble_eq_true rfl) rfl (Nat.le_of_ble_eq_true rfl) rfl rfl (Nat.le_of_ble_eq_true rfl) (Nat.le_of_ble_eq_true rfl) ?_
      refine sx_lstore_n (lo1 := [some _, some _, none, some _]) (p1 := 248) dX11_digest_247 rfl (by decide) rfl ?_
      refine sx_lload_n (p1 := 249) dX11_digest_248 rfl rfl ?_
      refine sx_aload_n (p1 := 250) dX11_digest_249 rfl rfl ?_
      refine sx_bipush (p1 := 252) dX11_digest_250 rfl (by decide) ?_
      refine sx_callVr (p1 := 255) (As := [_]) (k1 := 0) (n1 := 0) dX11_digest_252 rfl rfl (v_X11_morning (S := dgT S 3) (V := cV S) (dgT_ci hC 3).2 (dgT_ci hC 3).1 (by omega)) mt_X11_morning ml_X11_357 (hp_c2 _) rfl rfl (Nat.le_of_ble_eq_true rfl) rfl (Nat.le_of_ble_eq_true rfl) rfl rfl (Nat.le_of_ble_eq_true rfl) (Nat.le_of_ble_eq_true rfl) ?_
      refine sx_i2lx (p1 := 256) dX11_digest_255 rfl ?_
      refine sx_callSr (p1 := 259) (As := [_, _]) (k1 := 0) (n1 := 0) dX11_digest_256 rfl rfl (c_X11_mix) mt_X11_mix ml_X11_315 (Nat.le_of_ble_eq_true rfl) rfl (Nat.le_of_ble_eq_true rfl) rfl rfl (Nat.le_of_ble_eq_true rfl) (Nat.le_of_ble_eq_true rfl) ?_
      exact sx_lret dX11_digest_259 rfl (sx_rj (by rfl) (by rfl))
    | succ n ih =>
      intro i hi 
      refine sx_iload_n (p1 := 202) dX11_digest_201 rfl rfl ?_
      refine sx_iconst (p1 := 203) dX11_digest_202 rfl ?_
      refine sx_icmp_gt (p1 := 206) (tg := 226) dX11_digest_203 rfl rfl (by omega) (by omega) (fun q203 => absurd q203 (by omega)) (fun q203 => ?_)
      refine sx_lload_n (p1 := 207) dX11_digest_206 rfl rfl ?_
      refine sx_aload_n (p1 := 208) dX11_digest_207 rfl rfl ?_
      refine sx_iconst (p1 := 209) dX11_digest_208 rfl ?_
      refine sx_iconst (p1 := 210) dX11_digest_209 rfl ?_
      refine sx_bipush (p1 := 212) dX11_digest_210 rfl (by decide) ?_
      refine sx_iload_n (p1 := 213) dX11_digest_212 rfl rfl ?_
      refine sx_callVr (p1 := 216) (As := [_, _, _, _]) (k1 := 0) (n1 := 0) dX11_digest_213 rfl rfl (v_X11_waits (S := dgT S 3) (V := cV S) (dgT_ci hC 3).2 (dgT_ci hC 3).1 (by omega) (by omega) (by omega) (by omega)) mt_X11_waits ml_X11_351 (hp_c2 _) rfl rfl (Nat.le_of_ble_eq_true rfl) rfl (Nat.le_of_ble_eq_true rfl) rfl rfl (Nat.le_of_ble_eq_true rfl) (Nat.le_of_ble_eq_true rfl) ?_
      refine sx_callSr (p1 := 219) (As := [_, _]) (k1 := 0) (n1 := 0) dX11_digest_216 rfl rfl (c_X11_mix) mt_X11_mix ml_X11_315 (Nat.le_of_ble_eq_true rfl) rfl (Nat.le_of_ble_eq_true rfl) rfl rfl (Nat.le_of_ble_eq_true rfl) (Nat.le_of_ble_eq_true rfl) ?_
      refine sx_lstore_n (lo1 := [some _, some _, none, some _]) (p1 := 220) dX11_digest_219 rfl (by decide) rfl ?_
      refine sx_iinc (lo1 := [some _, some _, none, some _]) (p1 := 223) dX11_digest_220 rfl (by decide) rfl rfl ?_
      refine sx_goto (p1 := 201) (tg := 201) dX11_digest_223 rfl rfl ?_
      exact ih (i + 1) (by omega)
  have helm : ∀ (n i : Nat), i + n = 3 → Rn X RX11 false cX11_digest 4 18 0 0 (some .long) 177 [some (.ref 2), some (vJ (dgN i (fun h k => mx h (aHelm (cV S) 1 k)) (dgO (cV S) (oR S).2.1 (oR S).2.2 (dg2 (cV S) (dgN ((cV S).1 1).toNat (dgW (cV S)) (dgN (S.1 2).toNat (dgP (cV S) (aLoose (cV S) (S.2 27) (S.2 28) (S.2 29) (S.1 15).toNat)) (dg1 (fun k => cnF S k) (S.1 3) (S.1 5)))))))), none, some (vI (i : Int))] [] (hp (dgT S i)) 0 0 (sx_is (some (vJ (dgF (cV S) (fun k => cnF S k) (S.1 3) (S.1 5) (aLoose (cV S) (S.2 27) (S.2 28) (S.2 29) (S.1 15).toNat) (oR S).2.1 (oR S).2.2))) (hp (moF (dgT S 3) 7))) := by
    intro n
    induction n with
    | zero =>
      intro i hi 
      rw [Nat.add_zero] at hi
      subst hi
      refine sx_iload_n (p1 := 178) dX11_digest_177 rfl rfl ?_
      refine sx_iconst (p1 := 179) dX11_digest_178 rfl ?_
      refine sx_icmp_gt (p1 := 182) (tg := 199) dX11_digest_179 rfl rfl (by omega) (by omega) (fun q179 => ?_) (fun q179 => absurd q179 (by omega))
      refine sx_iconst (p1 := 200) dX11_digest_199 rfl ?_
      refine sx_istore_n (lo1 := [some _, some _, none, some _]) (p1 := 201) dX11_digest_200 rfl (by decide) rfl ?_
      exact wait 3 0 rfl
    | succ n ih =>
      intro i hi 
      refine sx_iload_n (p1 := 178) dX11_digest_177 rfl rfl ?_
      refine sx_iconst (p1 := 179) dX11_digest_178 rfl ?_
      refine sx_icmp_gt (p1 := 182) (tg := 199) dX11_digest_179 rfl rfl (by omega) (by omega) (fun q179 => absurd q179 (by omega)) (fun q179 => ?_)
      refine sx_lload_n (p1 := 183) dX11_digest_182 rfl rfl ?_
      refine sx_aload_n (p1 := 184) dX11_digest_183 rfl rfl ?_
      refine sx_iconst (p1 := 185) dX11_digest_184 rfl ?_
      refine sx_iload_n (p1 := 186) dX11_digest_185 rfl rfl ?_
      refine sx_callVr (p1 := 189) (As := [_, _]) (k1 := 0) (n1 := 0) dX11_digest_186 rfl rfl (v_X11_helmets (S := dgT S i) (V := cV S) (dgT_ci hC i).2 (dgT_ci hC i).1 (by omega) (by omega)) mt_X11_helmets ml_X11_348 (hp_c2 _) rfl rfl (Nat.le_of_ble_eq_true rfl) rfl (Nat.le_of_ble_eq_true rfl) rfl rfl (Nat.le_of_ble_eq_true rfl) (Nat.le_of_ble_eq_true rfl) ?_
      refine sx_callSr (p1 := 192) (As := [_, _]) (k1 := 0) (n1 := 0) dX11_digest_189 rfl rfl (c_X11_mix) mt_X11_mix ml_X11_315 (Nat.le_of_ble_eq_true rfl) rfl (Nat.le_of_ble_eq_true rfl) rfl rfl (Nat.le_of_ble_eq_true rfl) (Nat.le_of_ble_eq_true rfl) ?_
      refine sx_lstore_n (lo1 := [some _, some _, none, some _]) (p1 := 193) dX11_digest_192 rfl (by decide) rfl ?_
      refine sx_iinc (lo1 := [some _, some _, none, some _]) (p1 := 196) dX11_digest_193 rfl (by decide) rfl rfl ?_
      refine sx_goto (p1 := 177) (tg := 177) dX11_digest_196 rfl rfl ?_
      exact ih (i + 1) (by omega)
  have walk : ∀ (n i : Nat), i + n = ((cV S).1 1).toNat → Rn X RX11 false cX11_digest 4 18 0 0 (some .long) 77 [some (.ref 2), some (vJ (dgN i (dgW (cV S)) (dgN (S.1 2).toNat (dgP (cV S) (aLoose (cV S) (S.2 27) (S.2 28) (S.2 29) (S.1 15).toNat)) (dg1 (fun k => cnF S k) (S.1 3) (S.1 5))))), none, some (vI (i : Int))] [] (hp S) 0 0 (sx_is (some (vJ (dgF (cV S) (fun k => cnF S k) (S.1 3) (S.1 5) (aLoose (cV S) (S.2 27) (S.2 28) (S.2 29) (S.1 15).toNat) (oR S).2.1 (oR S).2.2))) (hp (moF (dgT S 3) 7))) := by
    intro n
    induction n with
    | zero =>
      intro i hi 
      rw [Nat.add_zero] at hi
      subst hi
      refine sx_iload_n (p1 := 78) dX11_digest_77 rfl rfl ?_
      refine sx_aload_n (p1 := 79) dX11_digest_78 rfl rfl ?_
      refine sx_get (p1 := 82) dX11_digest_79 rfl fl_X11_31 (hp_c2 _) rfl ?_
      refine sx_callVr (p1 := 85) (As := []) (k1 := 0) (n1 := 0) dX11_digest_82 rfl rfl (v_X5_size (V := cV S) rfl hV) mt_X5_size ml_X11_216 (hp_c10 _) rfl rfl (Nat.le_of_ble_eq_true rfl) rfl (Nat.le_of_ble_eq_true rfl) rfl rfl (Nat.le_of_ble_eq_true rfl) (Nat.le_of_ble_eq_true rfl) ?_
      refine sx_icmp_ge (p1 := 88) (tg := 101) dX11_digest_85 rfl rfl (by omega) (by omega) (fun q85 => ?_) (fun q85 => absurd q85 (by omega))
      refine sx_lload_n (p1 := 102) dX11_digest_101 rfl rfl ?_
      refine sx_aload_n (p1 := 103) dX11_digest_102 rfl rfl ?_
      refine sx_iconst (p1 := 104) dX11_digest_103 rfl ?_
      refine sx_iconst (p1 := 105) dX11_digest_104 rfl ?_
      refine sx_callVr (p1 := 108) (As := [_, _]) (k1 := 0) (n1 := 0) dX11_digest_105 rfl rfl (v_X11_all (V := cV S) rfl hC (by omega) (by omega)) mt_X11_all ml_X11_329 (hp_c2 _) rfl rfl (Nat.le_of_ble_eq_true rfl) rfl (Nat.le_of_ble_eq_true rfl) rfl rfl (Nat.le_of_ble_eq_true rfl) (Nat.le_of_ble_eq_true rfl) ?_
      refine sx_callSr (p1 := 111) (As := [_, _]) (k1 := 0) (n1 := 0) dX11_digest_108 rfl rfl (c_X11_mix) mt_X11_mix ml_X11_315 (Nat.le_of_ble_eq_true rfl) rfl (Nat.le_of_ble_eq_true rfl) rfl rfl (Nat.le_of_ble_eq_true rfl) (Nat.le_of_ble_eq_true rfl) ?_
      refine sx_aload_n (p1 := 112) dX11_digest_111 rfl rfl ?_
      refine sx_iconst (p1 := 113) dX11_digest_112 rfl ?_
      refine sx_iconst (p1 := 114) dX11_digest_113 rfl ?_
      refine sx_callVr (p1 := 117) (As := [_, _]) (k1 := 0) (n1 := 0) dX11_digest_114 rfl rfl (v_X11_all (V := cV S) rfl hC (by omega) (by omega)) mt_X11_all ml_X11_329 (hp_c2 _) rfl rfl (Nat.le_of_ble_eq_true rfl) rfl (Nat.le_of_ble_eq_true rfl) rfl rfl (Nat.le_of_ble_eq_true rfl) (Nat.le_of_ble_eq_true rfl) ?_
      refine sx_callSr (p1 := 120) (As := [_, _]) (k1 := 0) (n1 := 0) dX11_digest_117 rfl rfl (c_X11_mix) mt_X11_mix ml_X11_315 (Nat.le_of_ble_eq_true rfl) rfl (Nat.le_of_ble_eq_true rfl) rfl rfl (Nat.le_of_ble_eq_true rfl) (Nat.le_of_ble_eq_true rfl) ?_
      refine sx_lstore_n (lo1 := [some _, some _, none, some _]) (p1 := 121) dX11_digest_120 rfl (by decide) rfl ?_
      refine sx_lload_n (p1 := 122) dX11_digest_121 rfl rfl ?_
      refine sx_aload_n (p1 := 123) dX11_digest_122 rfl rfl ?_
      refine sx_callVr (p1 := 126) (As := []) (k1 := 0) (n1 := 0) dX11_digest_123 rfl rfl (v_X11_ends (V := cV S) rfl hC ) mt_X11_ends ml_X11_333 (hp_c2 _) rfl rfl (Nat.le_of_ble_eq_true rfl) rfl (Nat.le_of_ble_eq_true rfl) rfl rfl (Nat.le_of_ble_eq_true rfl) (Nat.le_of_ble_eq_true rfl) ?_
      refine sx_i2lx (p1 := 127) dX11_digest_126 rfl ?_
      refine sx_callSr (p1 := 130) (As := [_, _]) (k1 := 0) (n1 := 0) dX11_digest_127 rfl rfl (c_X11_mix) mt_X11_mix ml_X11_315 (Nat.le_of_ble_eq_true rfl) rfl (Nat.le_of_ble_eq_true rfl) rfl rfl (Nat.le_of_ble_eq_true rfl) (Nat.le_of_ble_eq_true rfl) ?_
      refine sx_aload_n (p1 := 131) dX11_digest_130 rfl rfl ?_
      refine sx_callVr (p1 := 134) (As := []) (k1 := 0) (n1 := 0) dX11_digest_131 rfl rfl (v_X11_latest (V := cV S) rfl hC ) mt_X11_latest ml_X11_336 (hp_c2 _) rfl rfl (Nat.le_of_ble_eq_true rfl) rfl (Nat.le_of_ble_eq_true rfl) rfl rfl (Nat.le_of_ble_eq_true rfl) (Nat.le_of_ble_eq_true rfl) ?_
      refine sx_i2lx (p1 := 135) dX11_digest_134 rfl ?_
      refine sx_callSr (p1 := 138) (As := [_, _]) (k1 := 0) (n1 := 0) dX11_digest_135 rfl rfl (c_X11_mix) mt_X11_mix ml_X11_315 (Nat.le_of_ble_eq_true rfl) rfl (Nat.le_of_ble_eq_true rfl) rfl rfl (Nat.le_of_ble_eq_true rfl) (Nat.le_of_ble_eq_true rfl) ?_
      refine sx_lstore_n (lo1 := [some _, some _, none, some _]) (p1 := 139) dX11_digest_138 rfl (by decide) rfl ?_
      refine sx_lload_n (p1 := 140) dX11_digest_139 rfl rfl ?_
      refine sx_aload_n (p1 := 141) dX11_digest_140 rfl rfl ?_
      refine sx_iconst (p1 := 142) dX11_digest_141 rfl ?_
      refine sx_iconst (p1 := 143) dX11_digest_142 rfl ?_
      refine sx_callVr (p1 := 146) (As := [_, _]) (k1 := 0) (n1 := 0) dX11_digest_143 rfl rfl (v_X11_curve (V := cV S) rfl hC (by omega) (by omega)) mt_X11_curve ml_X11_339 (hp_c2 _) rfl rfl (Nat.le_of_ble_eq_true rfl) rfl (Nat.le_of_ble_eq_true rfl) rfl rfl (Nat.le_of_ble_eq_true rfl) (Nat.le_of_ble_eq_true rfl) ?_
      refine sx_callSr (p1 := 149) (As := [_, _]) (k1 := 0) (n1 := 0) dX11_digest_146 rfl rfl (c_X11_mix) mt_X11_mix ml_X11_315 (Nat.le_of_ble_eq_true rfl) rfl (Nat.le_of_ble_eq_true rfl) rfl rfl (Nat.le_of_ble_eq_true rfl) (Nat.le_of_ble_eq_true rfl) ?_
      refine sx_aload_n (p1 := 150) dX11_digest_149 rfl rfl ?_
      refine sx_iconst (p1 := 151) dX11_digest_150 rfl ?_
      refine sx_iconst (p1 := 152) dX11_digest_151 rfl ?_
      refine sx_callVr (p1 := 155) (As := [_, _]) (k1 := 0) (n1 := 0) dX11_digest_152 rfl rfl (v_X11_curve (V := cV S) rfl hC (by omega) (by omega)) mt_X11_curve ml_X11_339 (hp_c2 _) rfl rfl (Nat.le_of_ble_eq_true rfl) rfl (Nat.le_of_ble_eq_true rfl) rfl rfl (Nat.le_of_ble_eq_true rfl) (Nat.le_of_ble_eq_true rfl) ?_
      refine sx_callSr (p1 := 158) (As := [_, _]) (k1 := 0) (n1 := 0) dX11_digest_155 rfl rfl (c_X11_mix) mt_X11_mix ml_X11_315 (Nat.le_of_ble_eq_true rfl) rfl (Nat.le_of_ble_eq_true rfl) rfl rfl (Nat.le_of_ble_eq_true rfl) (Nat.le_of_ble_eq_true rfl) ?_
      refine sx_lstore_n (lo1 := [some _, some _, none, some _]) (p1 := 159) dX11_digest_158 rfl (by decide) rfl ?_
      refine sx_aload_n (p1 := 160) dX11_digest_159 rfl rfl ?_
      refine sx_lload_n (p1 := 161) dX11_digest_160 rfl rfl ?_
      refine sx_aload_n (p1 := 162) dX11_digest_161 rfl rfl ?_
      refine sx_bipush (p1 := 164) dX11_digest_162 rfl (by decide) ?_
      refine sx_callVr (p1 := 167) (As := [_]) (k1 := 0) (n1 := 0) dX11_digest_164 rfl rfl (v_X11_gap (V := cV S) rfl hC (by omega)) mt_X11_gap ml_X11_342 (hp_c2 _) rfl rfl (Nat.le_of_ble_eq_true rfl) rfl (Nat.le_of_ble_eq_true rfl) rfl rfl (Nat.le_of_ble_eq_true rfl) (Nat.le_of_ble_eq_true rfl) ?_
      refine sx_i2lx (p1 := 168) dX11_digest_167 rfl ?_
      refine sx_callSr (p1 := 171) (As := [_, _]) (k1 := 0) (n1 := 0) dX11_digest_168 rfl rfl (c_X11_mix) mt_X11_mix ml_X11_315 (Nat.le_of_ble_eq_true rfl) rfl (Nat.le_of_ble_eq_true rfl) rfl rfl (Nat.le_of_ble_eq_true rfl) (Nat.le_of_ble_eq_true rfl) ?_
      refine sx_callVr (p1 := 174) (As := [_]) (k1 := 0) (n1 := 0) dX11_digest_171 rfl rfl (c_X11_mixOrder hC hR) mt_X11_mixOrder ml_X11_344 (hp_c2 _) rfl rfl (Nat.le_of_ble_eq_true rfl) rfl (Nat.le_of_ble_eq_true rfl) rfl rfl (Nat.le_of_ble_eq_true rfl) (Nat.le_of_ble_eq_true rfl) ?_
      refine sx_lstore_n (lo1 := [some _, some _, none, some _]) (p1 := 175) dX11_digest_174 rfl (by decide) rfl ?_
      refine sx_iconst (p1 := 176) dX11_digest_175 rfl ?_
      refine sx_istore_n (lo1 := [some _, some _, none, some _]) (p1 := 177) dX11_digest_176 rfl (by decide) rfl ?_
      exact helm 3 0 rfl
    | succ n ih =>
      intro i hi 
      refine sx_iload_n (p1 := 78) dX11_digest_77 rfl rfl ?_
      refine sx_aload_n (p1 := 79) dX11_digest_78 rfl rfl ?_
      refine sx_get (p1 := 82) dX11_digest_79 rfl fl_X11_31 (hp_c2 _) rfl ?_
      refine sx_callVr (p1 := 85) (As := []) (k1 := 0) (n1 := 0) dX11_digest_82 rfl rfl (v_X5_size (V := cV S) rfl hV) mt_X5_size ml_X11_216 (hp_c10 _) rfl rfl (Nat.le_of_ble_eq_true rfl) rfl (Nat.le_of_ble_eq_true rfl) rfl rfl (Nat.le_of_ble_eq_true rfl) (Nat.le_of_ble_eq_true rfl) ?_
      refine sx_icmp_ge (p1 := 88) (tg := 101) dX11_digest_85 rfl rfl (by omega) (by omega) (fun q85 => absurd q85 (by omega)) (fun q85 => ?_)
      refine sx_aload_n (p1 := 89) dX11_digest_88 rfl rfl ?_
      refine sx_lload_n (p1 := 90) dX11_digest_89 rfl rfl ?_
      refine sx_iload_n (p1 := 91) dX11_digest_90 rfl rfl ?_
      refine sx_callVr (p1 := 94) (As := [_, _]) (k1 := 0) (n1 := 0) dX11_digest_91 rfl rfl (c_X11_mixWalker hC (by omega)) mt_X11_mixWalker ml_X11_326 (hp_c2 _) rfl rfl (Nat.le_of_ble_eq_true rfl) rfl (Nat.le_of_ble_eq_true rfl) rfl rfl (Nat.le_of_ble_eq_true rfl) (Nat.le_of_ble_eq_true rfl) ?_
      refine sx_lstore_n (lo1 := [some _, some _, none, some _]) (p1 := 95) dX11_digest_94 rfl (by decide) rfl ?_
      refine sx_iinc (lo1 := [some _, some _, none, some _]) (p1 := 98) dX11_digest_95 rfl (by decide) rfl rfl ?_
      refine sx_goto (p1 := 77) (tg := 77) dX11_digest_98 rfl rfl ?_
      exact ih (i + 1) (by omega)
  have part : ∀ (n i : Nat), i + n = (S.1 2).toNat → Rn X RX11 false cX11_digest 4 18 0 0 (some .long) 51 [some (.ref 2), some (vJ (dgN i (dgP (cV S) (aLoose (cV S) (S.2 27) (S.2 28) (S.2 29) (S.1 15).toNat)) (dg1 (fun k => cnF S k) (S.1 3) (S.1 5)))), none, some (vI (i : Int))] [] (hp S) 0 0 (sx_is (some (vJ (dgF (cV S) (fun k => cnF S k) (S.1 3) (S.1 5) (aLoose (cV S) (S.2 27) (S.2 28) (S.2 29) (S.1 15).toNat) (oR S).2.1 (oR S).2.2))) (hp (moF (dgT S 3) 7))) := by
    intro n
    induction n with
    | zero =>
      intro i hi 
      rw [Nat.add_zero] at hi
      subst hi
      refine sx_iload_n (p1 := 52) dX11_digest_51 rfl rfl ?_
      refine sx_aload_n (p1 := 53) dX11_digest_52 rfl rfl ?_
      refine sx_get (p1 := 56) dX11_digest_53 rfl fl_X11_24 (hp_c2 _) rfl ?_
      refine sx_get (v := vI (S.1 2)) (p1 := 59) dX11_digest_56 rfl fl_X11_298 (hp_c7 _) rfl ?_
      refine sx_icmp_ge (p1 := 62) (tg := 75) dX11_digest_59 rfl rfl (by omega) (by omega) (fun q59 => ?_) (fun q59 => absurd q59 (by omega))
      refine sx_iconst (p1 := 76) dX11_digest_75 rfl ?_
      refine sx_istore_n (lo1 := [some _, some _, none, some _]) (p1 := 77) dX11_digest_76 rfl (by decide) rfl ?_
      exact walk _ 0 (Nat.zero_add _)
    | succ n ih =>
      intro i hi 
      refine sx_iload_n (p1 := 52) dX11_digest_51 rfl rfl ?_
      refine sx_aload_n (p1 := 53) dX11_digest_52 rfl rfl ?_
      refine sx_get (p1 := 56) dX11_digest_53 rfl fl_X11_24 (hp_c2 _) rfl ?_
      refine sx_get (v := vI (S.1 2)) (p1 := 59) dX11_digest_56 rfl fl_X11_298 (hp_c7 _) rfl ?_
      refine sx_icmp_ge (p1 := 62) (tg := 75) dX11_digest_59 rfl rfl (by omega) (by omega) (fun q59 => absurd q59 (by omega)) (fun q59 => ?_)
      refine sx_aload_n (p1 := 63) dX11_digest_62 rfl rfl ?_
      refine sx_lload_n (p1 := 64) dX11_digest_63 rfl rfl ?_
      refine sx_iload_n (p1 := 65) dX11_digest_64 rfl rfl ?_
      refine sx_callVr (p1 := 68) (As := [_, _]) (k1 := 0) (n1 := 0) dX11_digest_65 rfl rfl (c_X11_mixPart hC (by omega)) mt_X11_mixPart ml_X11_322 (hp_c2 _) rfl rfl (Nat.le_of_ble_eq_true rfl) rfl (Nat.le_of_ble_eq_true rfl) rfl rfl (Nat.le_of_ble_eq_true rfl) (Nat.le_of_ble_eq_true rfl) ?_
      refine sx_lstore_n (lo1 := [some _, some _, none, some _]) (p1 := 69) dX11_digest_68 rfl (by decide) rfl ?_
      refine sx_iinc (lo1 := [some _, some _, none, some _]) (p1 := 72) dX11_digest_69 rfl (by decide) rfl rfl ?_
      refine sx_goto (p1 := 51) (tg := 51) dX11_digest_72 rfl rfl ?_
      exact ih (i + 1) (by omega)
  have cnt : ∀ (n i : Nat), i + n = 8 → Rn X RX11 false cX11_digest 4 18 0 0 (some .long) 6 [some (.ref 2), some (vJ (dgN i (fun h k => mx h (i3 (cnF S k))) 17)), none, some (vI (i : Int))] [] (hp S) 0 0 (sx_is (some (vJ (dgF (cV S) (fun k => cnF S k) (S.1 3) (S.1 5) (aLoose (cV S) (S.2 27) (S.2 28) (S.2 29) (S.1 15).toNat) (oR S).2.1 (oR S).2.2))) (hp (moF (dgT S 3) 7))) := by
    intro n
    induction n with
    | zero =>
      intro i hi 
      rw [Nat.add_zero] at hi
      subst hi
      refine sx_iload_n (p1 := 7) dX11_digest_6 rfl rfl ?_
      refine sx_bipush (p1 := 9) dX11_digest_7 rfl (by decide) ?_
      refine sx_icmp_gt (p1 := 12) (tg := 29) dX11_digest_9 rfl rfl (by omega) (by omega) (fun q9 => ?_) (fun q9 => absurd q9 (by omega))
      refine sx_lload_n (p1 := 30) dX11_digest_29 rfl rfl ?_
      refine sx_aload_n (p1 := 31) dX11_digest_30 rfl rfl ?_
      refine sx_iconst (p1 := 32) dX11_digest_31 rfl ?_
      refine sx_callVr (p1 := 35) (As := [_]) (k1 := 0) (n1 := 0) dX11_digest_32 rfl rfl (c_X11_fault hC (by omega)) mt_X11_fault ml_X11_319 (hp_c2 _) rfl rfl (Nat.le_of_ble_eq_true rfl) rfl (Nat.le_of_ble_eq_true rfl) rfl rfl (Nat.le_of_ble_eq_true rfl) (Nat.le_of_ble_eq_true rfl) ?_
      refine sx_i2lx (p1 := 36) dX11_digest_35 rfl ?_
      refine sx_callSr (p1 := 39) (As := [_, _]) (k1 := 0) (n1 := 0) dX11_digest_36 rfl rfl (c_X11_mix) mt_X11_mix ml_X11_315 (Nat.le_of_ble_eq_true rfl) rfl (Nat.le_of_ble_eq_true rfl) rfl rfl (Nat.le_of_ble_eq_true rfl) (Nat.le_of_ble_eq_true rfl) ?_
      refine sx_aload_n (p1 := 40) dX11_digest_39 rfl rfl ?_
      refine sx_iconst (p1 := 41) dX11_digest_40 rfl ?_
      refine sx_callVr (p1 := 44) (As := [_]) (k1 := 0) (n1 := 0) dX11_digest_41 rfl rfl (c_X11_fault hC (by omega)) mt_X11_fault ml_X11_319 (hp_c2 _) rfl rfl (Nat.le_of_ble_eq_true rfl) rfl (Nat.le_of_ble_eq_true rfl) rfl rfl (Nat.le_of_ble_eq_true rfl) (Nat.le_of_ble_eq_true rfl) ?_
      refine sx_i2lx (p1 := 45) dX11_digest_44 rfl ?_
      refine sx_callSr (p1 := 48) (As := [_, _]) (k1 := 0) (n1 := 0) dX11_digest_45 rfl rfl (c_X11_mix) mt_X11_mix ml_X11_315 (Nat.le_of_ble_eq_true rfl) rfl (Nat.le_of_ble_eq_true rfl) rfl rfl (Nat.le_of_ble_eq_true rfl) (Nat.le_of_ble_eq_true rfl) ?_
      refine sx_lstore_n (lo1 := [some _, some _, none, some _]) (p1 := 49) dX11_digest_48 rfl (by decide) rfl ?_
      refine sx_iconst (p1 := 50) dX11_digest_49 rfl ?_
      refine sx_istore_n (lo1 := [some _, some _, none, some _]) (p1 := 51) dX11_digest_50 rfl (by decide) rfl ?_
      exact part _ 0 (Nat.zero_add _)
    | succ n ih =>
      intro i hi 
      refine sx_iload_n (p1 := 7) dX11_digest_6 rfl rfl ?_
      refine sx_bipush (p1 := 9) dX11_digest_7 rfl (by decide) ?_
      refine sx_icmp_gt (p1 := 12) (tg := 29) dX11_digest_9 rfl rfl (by omega) (by omega) (fun q9 => absurd q9 (by omega)) (fun q9 => ?_)
      refine sx_lload_n (p1 := 13) dX11_digest_12 rfl rfl ?_
      refine sx_aload_n (p1 := 14) dX11_digest_13 rfl rfl ?_
      refine sx_iload_n (p1 := 15) dX11_digest_14 rfl rfl ?_
      refine sx_callVr (p1 := 18) (As := [_]) (k1 := 0) (n1 := 0) dX11_digest_15 rfl rfl (c_X11_count hC (by omega)) mt_X11_count ml_X11_312 (hp_c2 _) rfl rfl (Nat.le_of_ble_eq_true rfl) rfl (Nat.le_of_ble_eq_true rfl) rfl rfl (Nat.le_of_ble_eq_true rfl) (Nat.le_of_ble_eq_true rfl) ?_
      refine sx_i2lx (p1 := 19) dX11_digest_18 rfl ?_
      refine sx_callSr (p1 := 22) (As := [_, _]) (k1 := 0) (n1 := 0) dX11_digest_19 rfl rfl (c_X11_mix) mt_X11_mix ml_X11_315 (Nat.le_of_ble_eq_true rfl) rfl (Nat.le_of_ble_eq_true rfl) rfl rfl (Nat.le_of_ble_eq_true rfl) (Nat.le_of_ble_eq_true rfl) ?_
      refine sx_lstore_n (lo1 := [some _, some _, none, some _]) (p1 := 23) dX11_digest_22 rfl (by decide) rfl ?_
      refine sx_iinc (lo1 := [some _, some _, none, some _]) (p1 := 26) dX11_digest_23 rfl (by decide) rfl rfl ?_
      refine sx_goto (p1 := 6) (tg := 6) dX11_digest_26 rfl rfl ?_
      exact ih (i + 1) (by omega)
  refine Ct.of false [some (.ref 2), none, none, none] (plainFor_of_name (by decide)) (fun h => by cases h) (Nat.le_of_ble_eq_true rfl) (fun _ => rfl) sx_isl ?_
  refine sx_ldc2 (z := 17) (p1 := 3) dX11_digest_0 rfl kc_X11_310 (by decide) ?_
  refine sx_lstore_n (lo1 := [some _, some _, none, none]) (p1 := 4) dX11_digest_3 rfl (by decide) rfl ?_
  refine sx_iconst (p1 := 5) dX11_digest_4 rfl ?_
  refine sx_istore_n (lo1 := [some _, some _, none, some _]) (p1 := 6) dX11_digest_5 rfl (by decide) rfl ?_
  exact cnt 8 0 rfl
