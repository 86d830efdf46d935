/-! the meaning: a view of the gully, the walkers and the settings; what falls, whom it hits -/
abbrev Vw : Type := (Nat → Int) × (Nat → Int → Int)
def gK (S : St) (q : Int) : Int := if 0 ≤ q ∧ q < S.1 2 then S.2 8 q.toNat else 0
def gL (S : St) (q : Int) : Int := if 0 ≤ q ∧ q < S.1 2 then S.2 9 q.toNat else 0
def pW (S : St) (q : Int) : Int := if 0 ≤ q ∧ q < S.1 4 then S.2 11 q.toNat else 0
def pS (S : St) (q : Int) : Int := if 0 ≤ q ∧ q < S.1 4 then S.2 12 q.toNat else 0
def pH (S : St) (q : Int) : Int := if 0 ≤ q ∧ q < S.1 4 then S.2 13 q.toNat else 0
/-- the class's view: 0 PARTS, 1 WALKERS, 2 GAP, 3 ZIGZAG, 4 LAG, 5 BEGIN, 6 SUN, 7 SUNNED; 0 kinds, 1 LOOSE, 2 WEIGHT, 3 SKILL, 4 helmets -/
def cV (S : St) : Vw := (fun k => match k with
  | 0 => S.1 2
  | 1 => S.1 4
  | 2 => S.1 6
  | 3 => S.1 7
  | 4 => S.1 8
  | 5 => S.1 9
  | 6 => S.1 10
  | _ => S.1 11, fun k => match k with
  | 0 => gK S
  | 1 => gL S
  | 2 => pW S
  | 3 => pS S
  | _ => pH S)
def okV (V : Vw) : Prop := (0 ≤ V.1 0 ∧ V.1 0 ≤ 16) ∧ (0 ≤ V.1 1 ∧ V.1 1 ≤ 6) ∧ (0 ≤ V.1 2 ∧ V.1 2 ≤ 99) ∧ (0 ≤ V.1 3 ∧ V.1 3 ≤ 1) ∧ (0 ≤ V.1 4 ∧ V.1 4 ≤ 16) ∧ (0 ≤ V.1 5 ∧ V.1 5 ≤ 999) ∧ (0 ≤ V.1 6 ∧ V.1 6 ≤ 1999) ∧ (0 ≤ V.1 7 ∧ V.1 7 ≤ 16) ∧ (∀ q, 0 ≤ V.2 0 q ∧ V.2 0 q ≤ 3) ∧ (∀ q, 0 ≤ V.2 1 q ∧ V.2 1 q ≤ 9) ∧ (∀ q, 0 ≤ V.2 2 q ∧ V.2 2 q ≤ 9) ∧ (∀ q, 0 ≤ V.2 3 q ∧ V.2 3 q ≤ 9) ∧ ∀ q, 0 ≤ V.2 4 q ∧ V.2 4 q ≤ 1
def sumN : Nat → (Nat → Int) → Int
  | 0, _ => 0
  | n + 1, f => sumN n f + f n
def mOdds (lo more : Int) : Int := if lo ≤ 0 then 0 else max 0 (min 16 (lo + more))
def mMore (V : Vw) (w : Int) : Int := V.2 2 w / 3 - V.2 3 w / 3
def mPl (V : Vw) (m : Int) : Int := if m < 0 then -1 else if m / (1 + V.1 3) < V.1 0 then m / (1 + V.1 3) else -1
def mHit (V : Vw) (fr to hel : Int) : Int :=
  if to < 0 ∨ fr ≤ to ∨ V.2 0 to = 1 then 0
  else if hel = 1 then (if V.1 4 < fr - to then (if V.2 0 to = 2 then min 16 (2 * (fr - to)) else fr - to) / 2 else (if V.2 0 to = 2 then min 16 (2 * (fr - to)) else fr - to)) / 2
  else (if V.1 4 < fr - to then (if V.2 0 to = 2 then min 16 (2 * (fr - to)) else fr - to) / 2 else (if V.2 0 to = 2 then min 16 (2 * (fr - to)) else fr - to))
def mFeetT (V : Vw) (more ahead pc hel : Int) (q : Nat) : Int := mOdds (V.2 1 q) more * mHit V q (mPl V (q * pc - ahead)) hel
def mFeet (V : Vw) (more ahead pc hel : Int) : Int := sumN (V.1 0).toNat (mFeetT V more ahead pc hel)
def mApart (V : Vw) (i j : Int) : Int := if V.1 3 = 1 ∧ i % 2 ≠ j % 2 then 1 else 0
def mAboveT (V : Vw) (q hel : Int) (f : Nat) : Int := if 0 < V.2 1 f then mHit V f q hel else 0
def mAbove (V : Vw) (q hel : Int) : Int := sumN (V.1 0).toNat (mAboveT V q hel)
def mSunny (V : Vw) (num gap q : Int) : Int := max 0 (min (1 + V.1 3) (V.1 5 + num * gap + (q + 1) * (1 + V.1 3) - V.1 6))
def mSunT (V : Vw) (num gap hel : Int) (q : Nat) : Int := mSunny V num gap q * V.1 7 * mAbove V q hel
def mSun (V : Vw) (num gap hel : Int) : Int := sumN (V.1 0).toNat (mSunT V num gap hel)
def mBy (V : Vw) (by_ to gap hel : Int) : Int := if mApart V by_ to = 1 then 0 else mFeet V (mMore V by_) ((to - by_) * gap) (1 + V.1 3) hel
def mTo (V : Vw) (to hel gap : Int) : Int := mSun V to gap hel + sumN to.toNat (fun b => mBy V b to gap hel)
def mAll (V : Vw) (gap : Int) : Int := sumN (V.1 1).toNat (fun t => mTo V t (V.2 4 t) gap)
def mEnt (V : Vw) (w m : Int) : Int := if mPl V (m - V.1 5 - w * V.1 2) = mPl V (m - 1 - V.1 5 - w * V.1 2) then -1 else mPl V (m - V.1 5 - w * V.1 2)
def mFootT (V : Vw) (q m : Int) (w : Nat) : Int := if mEnt V w m = q then mOdds (V.2 1 q) (mMore V w) else 0
def mFoot (V : Vw) (q m : Int) : Int := sumN (V.1 1).toNat (mFootT V q m)
def mTakes (V : Vw) : Int := if V.1 1 = 0 ∨ V.1 0 = 0 then 0 else (V.1 1 - 1) * V.1 2 + V.1 0 * (1 + V.1 3)
/-- bounds -/
theorem sumN_congr {f g : Nat → Int} : ∀ n, (∀ i, i < n → f i = g i) → sumN n f = sumN n g
  | 0, _ => rfl
  | n + 1, h => by rw [sumN, sumN, sumN_congr n (fun i hi => h i (by omega)), h n (by omega)]
theorem sumN_le {f : Nat → Int} {b : Int} : ∀ n : Nat, (∀ i, i < n → 0 ≤ f i ∧ f i ≤ b) → 0 ≤ sumN n f ∧ sumN n f ≤ n * b
  | 0, _ => by simp [sumN]
  | n + 1, h => by
    have h1 := sumN_le n (fun i hi => h i (by omega))
    have h2 := h n (by omega)
    have h3 : ((n + 1 : Nat) : Int) * b = n * b + b := by
      rw [Int.natCast_add, Int.add_mul]
      simp
    rw [sumN, h3]
    omega
theorem sumN_0 {f : Nat → Int} {i : Nat} (h : f i = 0) : sumN (i + 1) f = sumN i f := by
  rw [sumN, h]
  omega
theorem sumN_z {f : Nat → Int} : ∀ n : Nat, (∀ i, i < n → f i = 0) → sumN n f = 0
  | 0, _ => rfl
  | n + 1, h => by rw [sumN, sumN_z n (fun i hi => h i (by omega)), h n (by omega)]; rfl
theorem mOdds_b (lo more : Int) : 0 ≤ mOdds lo more ∧ mOdds lo more ≤ 16 := by
  unfold mOdds
  split <;> omega
theorem mHit_b {V : Vw} (hV : okV V) {fr to hel : Int} (h : fr ≤ 16) : 0 ≤ mHit V fr to hel ∧ mHit V fr to hel ≤ 16 := by
  unfold mHit
  (repeat' split) <;> omega
theorem mul_b {a b A B : Int} (ha : 0 ≤ a ∧ a ≤ A) (hb : 0 ≤ b ∧ b ≤ B) : 0 ≤ a * b ∧ a * b ≤ A * B := ⟨Int.mul_nonneg ha.1 hb.1, Int.mul_le_mul ha.2 hb.2 hb.1 (Int.le_trans ha.1 ha.2)⟩
theorem mFeet_b {V : Vw} (hV : okV V) (more ahead pc hel : Int) : 0 ≤ mFeet V more ahead pc hel ∧ mFeet V more ahead pc hel ≤ 4096 := by
  have h0 := hV.1
  have h := sumN_le (f := mFeetT V more ahead pc hel) (b := 256) (V.1 0).toNat (fun i hi => mul_b (mOdds_b _ _) (mHit_b hV (by omega)))
  have h2 : ((V.1 0).toNat : Int) * 256 ≤ 16 * 256 := by omega
  unfold mFeet
  omega
theorem mAbove_b {V : Vw} (hV : okV V) (q hel : Int) : 0 ≤ mAbove V q hel ∧ mAbove V q hel ≤ 256 := by
  have h0 := hV.1
  have h := sumN_le (f := mAboveT V q hel) (b := 16) (V.1 0).toNat (fun i hi => by
    have := mHit_b hV (fr := i) (to := q) (hel := hel) (by omega)
    unfold mAboveT
    split <;> omega)
  unfold mAbove
  omega
theorem mSunny_b {V : Vw} (hV : okV V) (num gap q : Int) : 0 ≤ mSunny V num gap q ∧ mSunny V num gap q ≤ 2 := by
  have h0 := hV.2.2.2.1
  unfold mSunny
  omega
theorem mSun_b {V : Vw} (hV : okV V) (num gap hel : Int) : 0 ≤ mSun V num gap hel ∧ mSun V num gap hel ≤ 131072 := by
  have h0 := hV.1
  have h7 := hV.2.2.2.2.2.2.2.1
  have h := sumN_le (f := mSunT V num gap hel) (b := 2 * 16 * 256) (V.1 0).toNat (fun i hi => mul_b (mul_b (mSunny_b hV _ _ _) h7) (mAbove_b hV _ _))
  unfold mSun
  omega
theorem mBy_b {V : Vw} (hV : okV V) (b to gap hel : Int) : 0 ≤ mBy V b to gap hel ∧ mBy V b to gap hel ≤ 4096 := by
  unfold mBy
  split
  · omega
  · exact mFeet_b hV _ _ _ _
theorem mTo_b {V : Vw} (hV : okV V) {to : Int} (ht : to ≤ 6) (hel gap : Int) : 0 ≤ mTo V to hel gap ∧ mTo V to hel gap ≤ 200000 := by
  have h1 := mSun_b hV to gap hel
  have h := sumN_le (f := fun b : Nat => mBy V b to gap hel) (b := 4096) to.toNat (fun i hi => mBy_b hV _ _ _ _)
  unfold mTo
  omega
theorem mAll_b {V : Vw} (hV : okV V) (gap : Int) : 0 ≤ mAll V gap ∧ mAll V gap ≤ 1200000 := by
  have h1 := hV.2.1
  have h := sumN_le (f := fun t : Nat => mTo V t (V.2 4 t) gap) (b := 200000) (V.1 1).toNat (fun i hi => mTo_b hV (by omega) _ _)
  unfold mAll
  omega
theorem mPl_b {V : Vw} (hV : okV V) (m : Int) : -1 ≤ mPl V m ∧ mPl V m ≤ 15 := by
  have h0 := hV.1
  have h3 := hV.2.2.2.1
  unfold mPl
  split
  · omega
  · split
    · rename_i h1 h2
      have : 0 ≤ m / (1 + V.1 3) := Int.ediv_nonneg (by omega) (by omega)
      omega
    · omega
theorem mMore_b {V : Vw} (hV : okV V) (w : Int) : -3 ≤ mMore V w ∧ mMore V w ≤ 3 := by
  have h1 := hV.2.2.2.2.2.2.2.2.2.2.1 w
  have h2 := hV.2.2.2.2.2.2.2.2.2.2.2.1 w
  unfold mMore
  omega
theorem mEnt_b {V : Vw} (hV : okV V) (w m : Int) : -1 ≤ mEnt V w m ∧ mEnt V w m ≤ 15 := by
  have := mPl_b hV (m - V.1 5 - w * V.1 2)
  unfold mEnt
  split <;> omega
theorem mFoot_b {V : Vw} (hV : okV V) (q m : Int) : 0 ≤ mFoot V q m ∧ mFoot V q m ≤ 96 := by
  have h1 := hV.2.1
  have h := sumN_le (f := mFootT V q m) (b := 16) (V.1 1).toNat (fun i hi => by
    have := mOdds_b (V.2 1 q) (mMore V i)
    unfold mFootT
    split <;> omega)
  unfold mFoot
  omega
theorem mHit_0 {V : Vw} {fr to hel : Int} (h : fr ≤ to ∨ to < 0) : mHit V fr to hel = 0 := by
  unfold mHit
  rw [if_pos (by omega)]
theorem mPl_neg {V : Vw} {m : Int} (h : m < 0) : mPl V m = -1 := by
  unfold mPl
  rw [if_pos h]
/-- who is out above before the other comes in treads nothing off on him -/
theorem mFeet_out {V : Vw} (hV : okV V) {more ahead pc hel : Int} (hp : 0 < pc) (h : V.1 0 * pc ≤ ahead) : mFeet V more ahead pc hel = 0 := by
  refine sumN_z _ (fun i hi => ?_)
  have h0 := hV.1
  have h1 : ((i : Int) + 1) * pc ≤ V.1 0 * pc := Int.mul_le_mul_of_nonneg_right (by omega) (by omega)
  unfold mFeetT
  rw [mPl_neg (by rw [Int.add_mul] at h1; omega), mHit_0 (Or.inr (by omega)), Int.mul_zero]
theorem sx_par : ∀ a : Nat, a < 8 → ∀ b : Nat, b < 8 → sx_and (sx_xor a b) 1 = if (a : Int) % 2 = (b : Int) % 2 then 0 else 1 := by decide +kernel
theorem sx_parI {a b : Int} (ha : 0 ≤ a ∧ a < 8) (hb : 0 ≤ b ∧ b < 8) : sx_and (sx_xor a b) 1 = if a % 2 = b % 2 then 0 else 1 := by
  have h := sx_par a.toNat (by omega) b.toNat (by omega)
  rwa [Int.toNat_of_nonneg ha.1, Int.toNat_of_nonneg hb.1] at h
theorem cV_P (S : St) : (cV S).1 0 = S.1 2 := rfl
theorem cV_W (S : St) : (cV S).1 1 = S.1 4 := rfl
theorem cV_g (S : St) : (cV S).1 2 = S.1 6 := rfl
theorem cV_z (S : St) : (cV S).1 3 = S.1 7 := rfl
theorem cV_l (S : St) : (cV S).1 4 = S.1 8 := rfl
theorem cV_b (S : St) : (cV S).1 5 = S.1 9 := rfl
theorem cV_s (S : St) : (cV S).1 6 = S.1 10 := rfl
theorem cV_d (S : St) : (cV S).1 7 = S.1 11 := rfl
theorem cV_K (S : St) : (cV S).2 0 = gK S := rfl
theorem cV_L (S : St) : (cV S).2 1 = gL S := rfl
theorem cV_w (S : St) : (cV S).2 2 = pW S := rfl
theorem cV_k (S : St) : (cV S).2 3 = pS S := rfl
theorem cV_h (S : St) : (cV S).2 4 = pH S := rfl
theorem mTakes_c (S : St) : mTakes (cV S) = if S.1 4 = 0 ∨ S.1 2 = 0 then 0 else (S.1 4 - 1) * S.1 6 + S.1 2 * (1 + S.1 7) := rfl
theorem mPl_c (S : St) (m : Int) : mPl (cV S) m = if m < 0 then -1 else if m / (1 + S.1 7) < S.1 2 then m / (1 + S.1 7) else -1 := rfl
theorem mEnt_c (S : St) (w m : Int) : mEnt (cV S) w m = if mPl (cV S) (m - S.1 9 - w * S.1 6) = mPl (cV S) (m - 1 - S.1 9 - w * S.1 6) then -1 else mPl (cV S) (m - S.1 9 - w * S.1 6) := rfl
theorem mHit_c (S : St) (fr to hel : Int) : mHit (cV S) fr to hel = if to < 0 ∨ fr ≤ to ∨ gK S to = 1 then 0
  else if hel = 1 then (if S.1 8 < fr - to then (if gK S to = 2 then min 16 (2 * (fr - to)) else fr - to) / 2 else (if gK S to = 2 then min 16 (2 * (fr - to)) else fr - to)) / 2
  else (if S.1 8 < fr - to then (if gK S to = 2 then min 16 (2 * (fr - to)) else fr - to) / 2 else (if gK S to = 2 then min 16 (2 * (fr - to)) else fr - to)) := rfl
theorem mApart_c (S : St) (i j : Int) : mApart (cV S) i j = if S.1 7 = 1 ∧ i % 2 ≠ j % 2 then 1 else 0 := rfl
/-- the row of sums is right -/
def okF (S : St) : Prop := ∀ q h : Nat, q < 16 → h < 2 → S.2 16 (2 * q + h) = mAbove (cV S) q h
