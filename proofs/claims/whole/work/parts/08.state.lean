abbrev St : Type := (Nat → Int) × (Nat → Nat → Int)
def si (S : St) (k : Nat) (x : Int) : St := (sx_u S.1 k x, S.2)
def sA (S : St) (a : Nat) (f : Nat → Int) : St := (S.1, sx_u S.2 a f)
def sa (S : St) (a i : Nat) (x : Int) : St := (S.1, sx_u S.2 a (sx_u (S.2 a) i x))
def shF : Nat → Option Nat := va_up (va_up (va_up (va_up (fun _ => none) 0 (some 31)) 1 (some 33)) 2 (some 35)) 3 (some 37)
theorem shF_s {s : Nat} (h : s < 4) : shF s = some (31 + 2 * s) := by
  rcases (show s = 0 ∨ s = 1 ∨ s = 2 ∨ s = 3 by omega) with rfl | rfl | rfl | rfl <;> rfl
/-- the cells of the class (2 to 38) and of the reference (39 to 54) -/
def hp (S : St) : sx_H := [
  .inr (11, [.ref 3, .ref 5, .ref 7, .ref 10, .ref 14, .ref 15, .ref 17, .ref 22, .ref 24, .ref 25, .ref 26, .ref 30, vI (S.1 24)]),
  .inr (10, [.ref 4, vI 32, vI (S.1 0)]),
  .inl (2, 32, .inl (fun j => Int32.ofInt (S.2 4 j))),
  .inr (10, [.ref 6, vI 23, vI (S.1 1)]),
  .inl (2, 32, .inl (fun j => Int32.ofInt (S.2 6 j))),
  .inr (0, [.ref 8, .ref 9, vI (S.1 2), vI (S.1 3)]),
  .inl (0, 16, .inl (fun j => Int32.ofInt (S.2 8 j))),
  .inl (0, 16, .inl (fun j => Int32.ofInt (S.2 9 j))),
  .inr (5, [.ref 11, .ref 12, .ref 13, vI (S.1 4), vI (S.1 5)]),
  .inl (0, 6, .inl (fun j => Int32.ofInt (S.2 11 j))),
  .inl (0, 6, .inl (fun j => Int32.ofInt (S.2 12 j))),
  .inl (0, 6, .inl (fun j => Int32.ofInt (S.2 13 j))),
  .inr (6, [vI (S.1 6), vI (S.1 7), vI (S.1 8), vI (S.1 9), vI (S.1 10), vI (S.1 11)]),
  .inr (8, [.ref 7, .ref 10, .ref 14, .ref 16]),
  .inl (0, 32, .inl (fun j => Int32.ofInt (S.2 16 j))),
  .inr (3, [.ref 10, .ref 14, .ref 15, .ref 18, .ref 19, .ref 20, .ref 21, vJ (S.1 12)]),
  .inl (1, 72, .inr (.inl (fun j => Int64.ofInt (S.2 18 j)))),
  .inl (1, 12, .inr (.inl (fun j => Int64.ofInt (S.2 19 j)))),
  .inl (0, 6, .inl (fun j => Int32.ofInt (S.2 20 j))),
  .inl (0, 6, .inl (fun j => Int32.ofInt (S.2 21 j))),
  .inr (1, [.ref 10, .ref 14, .ref 15, .ref 23]),
  .inl (1, 12, .inr (.inl (fun j => Int64.ofInt (S.2 23 j)))),
  .inr (4, [.ref 10, .ref 14, .ref 15]),
  .inr (2, [.ref 7, .ref 10, .ref 14, .ref 15, vI (S.1 13), vI (S.1 14)]),
  .inr (9, [.ref 27, .ref 28, .ref 29, vI (S.1 15)]),
  .inl (0, 8, .inl (fun j => Int32.ofInt (S.2 27 j))),
  .inl (0, 8, .inl (fun j => Int32.ofInt (S.2 28 j))),
  .inl (0, 8, .inl (fun j => Int32.ofInt (S.2 29 j))),
  .inl (4, 4, .inr (.inr (.inr (.inr shF)))),
  .inr (7, [.ref 32, vI (S.1 16), vI (S.1 17)]),
  .inl (0, 60, .inl (fun j => Int32.ofInt (S.2 32 j))),
  .inr (7, [.ref 34, vI (S.1 18), vI (S.1 19)]),
  .inl (0, 60, .inl (fun j => Int32.ofInt (S.2 34 j))),
  .inr (7, [.ref 36, vI (S.1 20), vI (S.1 21)]),
  .inl (0, 60, .inl (fun j => Int32.ofInt (S.2 36 j))),
  .inr (7, [.ref 38, vI (S.1 22), vI (S.1 23)]),
  .inl (0, 60, .inl (fun j => Int32.ofInt (S.2 38 j))),
  .inr (12, [.ref 40, .ref 41, .ref 42, .ref 43, vI (S.1 30), .ref 44, .ref 45, vI (S.1 31), vI (S.1 32), .ref 46, .ref 47, vI (S.1 33), .ref 48, .ref 49, .ref 50, .ref 51, .ref 52, vI (S.1 34), vI (S.1 35), .ref 53, vI (S.1 36), vI (S.1 37), vI (S.1 38), vI (S.1 39), .ref 54, vI (S.1 40)]),
  .inl (0, 4, .inl (fun j => Int32.ofInt (S.2 40 j))),
  .inl (0, 4, .inl (fun j => Int32.ofInt (S.2 41 j))),
  .inl (0, 240, .inl (fun j => Int32.ofInt (S.2 42 j))),
  .inl (0, 60, .inl (fun j => Int32.ofInt (S.2 43 j))),
  .inl (0, 80, .inl (fun j => Int32.ofInt (S.2 44 j))),
  .inl (0, 2, .inl (fun j => Int32.ofInt (S.2 45 j))),
  .inl (0, 16, .inl (fun j => Int32.ofInt (S.2 46 j))),
  .inl (0, 16, .inl (fun j => Int32.ofInt (S.2 47 j))),
  .inl (0, 6, .inl (fun j => Int32.ofInt (S.2 48 j))),
  .inl (0, 6, .inl (fun j => Int32.ofInt (S.2 49 j))),
  .inl (3, 6, .inl (fun j => Int32.ofInt (S.2 50 j))),
  .inl (0, 6, .inl (fun j => Int32.ofInt (S.2 51 j))),
  .inl (0, 6, .inl (fun j => Int32.ofInt (S.2 52 j))),
  .inl (0, 6, .inl (fun j => Int32.ofInt (S.2 53 j))),
  .inl (0, 24, .inl (fun j => Int32.ofInt (S.2 54 j)))]
theorem hp_len (S : St) : (hp S).length = 53 := rfl
theorem hp_c2 (S : St) : sx_at (hp S) 2 = some (.inr (11, [.ref 3, .ref 5, .ref 7, .ref 10, .ref 14, .ref 15, .ref 17, .ref 22, .ref 24, .ref 25, .ref 26, .ref 30, vI (S.1 24)])) := rfl
theorem hp_c3 (S : St) : sx_at (hp S) 3 = some (.inr (10, [.ref 4, vI 32, vI (S.1 0)])) := rfl
theorem hp_c4 (S : St) : sx_at (hp S) 4 = some (.inl (2, 32, .inl (fun j => Int32.ofInt (S.2 4 j)))) := rfl
theorem hp_c5 (S : St) : sx_at (hp S) 5 = some (.inr (10, [.ref 6, vI 23, vI (S.1 1)])) := rfl
theorem hp_c6 (S : St) : sx_at (hp S) 6 = some (.inl (2, 32, .inl (fun j => Int32.ofInt (S.2 6 j)))) := rfl
theorem hp_c7 (S : St) : sx_at (hp S) 7 = some (.inr (0, [.ref 8, .ref 9, vI (S.1 2), vI (S.1 3)])) := rfl
theorem hp_c8 (S : St) : sx_at (hp S) 8 = some (.inl (0, 16, .inl (fun j => Int32.ofInt (S.2 8 j)))) := rfl
theorem hp_c9 (S : St) : sx_at (hp S) 9 = some (.inl (0, 16, .inl (fun j => Int32.ofInt (S.2 9 j)))) := rfl
theorem hp_c10 (S : St) : sx_at (hp S) 10 = some (.inr (5, [.ref 11, .ref 12, .ref 13, vI (S.1 4), vI (S.1 5)])) := rfl
theorem hp_c11 (S : St) : sx_at (hp S) 11 = some (.inl (0, 6, .inl (fun j => Int32.ofInt (S.2 11 j)))) := rfl
theorem hp_c12 (S : St) : sx_at (hp S) 12 = some (.inl (0, 6, .inl (fun j => Int32.ofInt (S.2 12 j)))) := rfl
theorem hp_c13 (S : St) : sx_at (hp S) 13 = some (.inl (0, 6, .inl (fun j => Int32.ofInt (S.2 13 j)))) := rfl
theorem hp_c14 (S : St) : sx_at (hp S) 14 = some (.inr (6, [vI (S.1 6), vI (S.1 7), vI (S.1 8), vI (S.1 9), vI (S.1 10), vI (S.1 11)])) := rfl
theorem hp_c15 (S : St) : sx_at (hp S) 15 = some (.inr (8, [.ref 7, .ref 10, .ref 14, .ref 16])) := rfl
theorem hp_c16 (S : St) : sx_at (hp S) 16 = some (.inl (0, 32, .inl (fun j => Int32.ofInt (S.2 16 j)))) := rfl
theorem hp_c17 (S : St) : sx_at (hp S) 17 = some (.inr (3, [.ref 10, .ref 14, .ref 15, .ref 18, .ref 19, .ref 20, .ref 21, vJ (S.1 12)])) := rfl
theorem hp_c18 (S : St) : sx_at (hp S) 18 = some (.inl (1, 72, .inr (.inl (fun j => Int64.ofInt (S.2 18 j))))) := rfl
theorem hp_c19 (S : St) : sx_at (hp S) 19 = some (.inl (1, 12, .inr (.inl (fun j => Int64.ofInt (S.2 19 j))))) := rfl
theorem hp_c20 (S : St) : sx_at (hp S) 20 = some (.inl (0, 6, .inl (fun j => Int32.ofInt (S.2 20 j)))) := rfl
theorem hp_c21 (S : St) : sx_at (hp S) 21 = some (.inl (0, 6, .inl (fun j => Int32.ofInt (S.2 21 j)))) := rfl
theorem hp_c22 (S : St) : sx_at (hp S) 22 = some (.inr (1, [.ref 10, .ref 14, .ref 15, .ref 23])) := rfl
theorem hp_c23 (S : St) : sx_at (hp S) 23 = some (.inl (1, 12, .inr (.inl (fun j => Int64.ofInt (S.2 23 j))))) := rfl
theorem hp_c24 (S : St) : sx_at (hp S) 24 = some (.inr (4, [.ref 10, .ref 14, .ref 15])) := rfl
theorem hp_c25 (S : St) : sx_at (hp S) 25 = some (.inr (2, [.ref 7, .ref 10, .ref 14, .ref 15, vI (S.1 13), vI (S.1 14)])) := rfl
theorem hp_c26 (S : St) : sx_at (hp S) 26 = some (.inr (9, [.ref 27, .ref 28, .ref 29, vI (S.1 15)])) := rfl
theorem hp_c27 (S : St) : sx_at (hp S) 27 = some (.inl (0, 8, .inl (fun j => Int32.ofInt (S.2 27 j)))) := rfl
theorem hp_c28 (S : St) : sx_at (hp S) 28 = some (.inl (0, 8, .inl (fun j => Int32.ofInt (S.2 28 j)))) := rfl
theorem hp_c29 (S : St) : sx_at (hp S) 29 = some (.inl (0, 8, .inl (fun j => Int32.ofInt (S.2 29 j)))) := rfl
theorem hp_c30 (S : St) : sx_at (hp S) 30 = some (.inl (4, 4, .inr (.inr (.inr (.inr shF))))) := rfl
theorem hp_c31 (S : St) : sx_at (hp S) 31 = some (.inr (7, [.ref 32, vI (S.1 16), vI (S.1 17)])) := rfl
theorem hp_c32 (S : St) : sx_at (hp S) 32 = some (.inl (0, 60, .inl (fun j => Int32.ofInt (S.2 32 j)))) := rfl
theorem hp_c33 (S : St) : sx_at (hp S) 33 = some (.inr (7, [.ref 34, vI (S.1 18), vI (S.1 19)])) := rfl
theorem hp_c34 (S : St) : sx_at (hp S) 34 = some (.inl (0, 60, .inl (fun j => Int32.ofInt (S.2 34 j)))) := rfl
theorem hp_c35 (S : St) : sx_at (hp S) 35 = some (.inr (7, [.ref 36, vI (S.1 20), vI (S.1 21)])) := rfl
theorem hp_c36 (S : St) : sx_at (hp S) 36 = some (.inl (0, 60, .inl (fun j => Int32.ofInt (S.2 36 j)))) := rfl
theorem hp_c37 (S : St) : sx_at (hp S) 37 = some (.inr (7, [.ref 38, vI (S.1 22), vI (S.1 23)])) := rfl
theorem hp_c38 (S : St) : sx_at (hp S) 38 = some (.inl (0, 60, .inl (fun j => Int32.ofInt (S.2 38 j)))) := rfl
theorem hp_c39 (S : St) : sx_at (hp S) 39 = some (.inr (12, [.ref 40, .ref 41, .ref 42, .ref 43, vI (S.1 30), .ref 44, .ref 45, vI (S.1 31), vI (S.1 32), .ref 46, .ref 47, vI (S.1 33), .ref 48, .ref 49, .ref 50, .ref 51, .ref 52, vI (S.1 34), vI (S.1 35), .ref 53, vI (S.1 36), vI (S.1 37), vI (S.1 38), vI (S.1 39), .ref 54, vI (S.1 40)])) := rfl
theorem hp_c40 (S : St) : sx_at (hp S) 40 = some (.inl (0, 4, .inl (fun j => Int32.ofInt (S.2 40 j)))) := rfl
theorem hp_c41 (S : St) : sx_at (hp S) 41 = some (.inl (0, 4, .inl (fun j => Int32.ofInt (S.2 41 j)))) := rfl
theorem hp_c42 (S : St) : sx_at (hp S) 42 = some (.inl (0, 240, .inl (fun j => Int32.ofInt (S.2 42 j)))) := rfl
theorem hp_c43 (S : St) : sx_at (hp S) 43 = some (.inl (0, 60, .inl (fun j => Int32.ofInt (S.2 43 j)))) := rfl
theorem hp_c44 (S : St) : sx_at (hp S) 44 = some (.inl (0, 80, .inl (fun j => Int32.ofInt (S.2 44 j)))) := rfl
theorem hp_c45 (S : St) : sx_at (hp S) 45 = some (.inl (0, 2, .inl (fun j => Int32.ofInt (S.2 45 j)))) := rfl
theorem hp_c46 (S : St) : sx_at (hp S) 46 = some (.inl (0, 16, .inl (fun j => Int32.ofInt (S.2 46 j)))) := rfl
theorem hp_c47 (S : St) : sx_at (hp S) 47 = some (.inl (0, 16, .inl (fun j => Int32.ofInt (S.2 47 j)))) := rfl
theorem hp_c48 (S : St) : sx_at (hp S) 48 = some (.inl (0, 6, .inl (fun j => Int32.ofInt (S.2 48 j)))) := rfl
theorem hp_c49 (S : St) : sx_at (hp S) 49 = some (.inl (0, 6, .inl (fun j => Int32.ofInt (S.2 49 j)))) := rfl
theorem hp_c50 (S : St) : sx_at (hp S) 50 = some (.inl (3, 6, .inl (fun j => Int32.ofInt (S.2 50 j)))) := rfl
theorem hp_c51 (S : St) : sx_at (hp S) 51 = some (.inl (0, 6, .inl (fun j => Int32.ofInt (S.2 51 j)))) := rfl
theorem hp_c52 (S : St) : sx_at (hp S) 52 = some (.inl (0, 6, .inl (fun j => Int32.ofInt (S.2 52 j)))) := rfl
theorem hp_c53 (S : St) : sx_at (hp S) 53 = some (.inl (0, 6, .inl (fun j => Int32.ofInt (S.2 53 j)))) := rfl
theorem hp_c54 (S : St) : sx_at (hp S) 54 = some (.inl (0, 24, .inl (fun j => Int32.ofInt (S.2 54 j)))) := rfl
theorem hp_s24 (S : St) (x : Int) : (hp S).set 0 (.inr (11, [.ref 3, .ref 5, .ref 7, .ref 10, .ref 14, .ref 15, .ref 17, .ref 22, .ref 24, .ref 25, .ref 26, .ref 30, vI (S.1 24)].set 12 (vI x))) = hp (si S 24 x) := rfl
theorem hp_s0 (S : St) (x : Int) : (hp S).set 1 (.inr (10, [.ref 4, vI 32, vI (S.1 0)].set 2 (vI x))) = hp (si S 0 x) := rfl
theorem hp_a4 (S : St) (i : Nat) (x : Int) : (hp S).set 2 (.inl (2, 32, .inl (fun j => Int32.ofInt (sx_u (S.2 4) i x j)))) = hp (sa S 4 i x) := rfl
theorem hp_A4 (S : St) (f : Nat → Int) : (hp S).set 2 (.inl (2, 32, .inl (fun j => Int32.ofInt (f j)))) = hp (sA S 4 f) := rfl
theorem hp_s1 (S : St) (x : Int) : (hp S).set 3 (.inr (10, [.ref 6, vI 23, vI (S.1 1)].set 2 (vI x))) = hp (si S 1 x) := rfl
theorem hp_a6 (S : St) (i : Nat) (x : Int) : (hp S).set 4 (.inl (2, 32, .inl (fun j => Int32.ofInt (sx_u (S.2 6) i x j)))) = hp (sa S 6 i x) := rfl
theorem hp_A6 (S : St) (f : Nat → Int) : (hp S).set 4 (.inl (2, 32, .inl (fun j => Int32.ofInt (f j)))) = hp (sA S 6 f) := rfl
theorem hp_s2 (S : St) (x : Int) : (hp S).set 5 (.inr (0, [.ref 8, .ref 9, vI (S.1 2), vI (S.1 3)].set 2 (vI x))) = hp (si S 2 x) := rfl
theorem hp_s3 (S : St) (x : Int) : (hp S).set 5 (.inr (0, [.ref 8, .ref 9, vI (S.1 2), vI (S.1 3)].set 3 (vI x))) = hp (si S 3 x) := rfl
theorem hp_a8 (S : St) (i : Nat) (x : Int) : (hp S).set 6 (.inl (0, 16, .inl (fun j => Int32.ofInt (sx_u (S.2 8) i x j)))) = hp (sa S 8 i x) := rfl
theorem hp_A8 (S : St) (f : Nat → Int) : (hp S).set 6 (.inl (0, 16, .inl (fun j => Int32.ofInt (f j)))) = hp (sA S 8 f) := rfl
theorem hp_a9 (S : St) (i : Nat) (x : Int) : (hp S).set 7 (.inl (0, 16, .inl (fun j => Int32.ofInt (sx_u (S.2 9) i x j)))) = hp (sa S 9 i x) := rfl
theorem hp_A9 (S : St) (f : Nat → Int) : (hp S).set 7 (.inl (0, 16, .inl (fun j => Int32.ofInt (f j)))) = hp (sA S 9 f) := rfl
theorem hp_s4 (S : St) (x : Int) : (hp S).set 8 (.inr (5, [.ref 11, .ref 12, .ref 13, vI (S.1 4), vI (S.1 5)].set 3 (vI x))) = hp (si S 4 x) := rfl
theorem hp_s5 (S : St) (x : Int) : (hp S).set 8 (.inr (5, [.ref 11, .ref 12, .ref 13, vI (S.1 4), vI (S.1 5)].set 4 (vI x))) = hp (si S 5 x) := rfl
theorem hp_a11 (S : St) (i : Nat) (x : Int) : (hp S).set 9 (.inl (0, 6, .inl (fun j => Int32.ofInt (sx_u (S.2 11) i x j)))) = hp (sa S 11 i x) := rfl
theorem hp_A11 (S : St) (f : Nat → Int) : (hp S).set 9 (.inl (0, 6, .inl (fun j => Int32.ofInt (f j)))) = hp (sA S 11 f) := rfl
theorem hp_a12 (S : St) (i : Nat) (x : Int) : (hp S).set 10 (.inl (0, 6, .inl (fun j => Int32.ofInt (sx_u (S.2 12) i x j)))) = hp (sa S 12 i x) := rfl
theorem hp_A12 (S : St) (f : Nat → Int) : (hp S).set 10 (.inl (0, 6, .inl (fun j => Int32.ofInt (f j)))) = hp (sA S 12 f) := rfl
theorem hp_a13 (S : St) (i : Nat) (x : Int) : (hp S).set 11 (.inl (0, 6, .inl (fun j => Int32.ofInt (sx_u (S.2 13) i x j)))) = hp (sa S 13 i x) := rfl
theorem hp_A13 (S : St) (f : Nat → Int) : (hp S).set 11 (.inl (0, 6, .inl (fun j => Int32.ofInt (f j)))) = hp (sA S 13 f) := rfl
theorem hp_s6 (S : St) (x : Int) : (hp S).set 12 (.inr (6, [vI (S.1 6), vI (S.1 7), vI (S.1 8), vI (S.1 9), vI (S.1 10), vI (S.1 11)].set 0 (vI x))) = hp (si S 6 x) := rfl
theorem hp_s7 (S : St) (x : Int) : (hp S).set 12 (.inr (6, [vI (S.1 6), vI (S.1 7), vI (S.1 8), vI (S.1 9), vI (S.1 10), vI (S.1 11)].set 1 (vI x))) = hp (si S 7 x) := rfl
theorem hp_s8 (S : St) (x : Int) : (hp S).set 12 (.inr (6, [vI (S.1 6), vI (S.1 7), vI (S.1 8), vI (S.1 9), vI (S.1 10), vI (S.1 11)].set 2 (vI x))) = hp (si S 8 x) := rfl
theorem hp_s9 (S : St) (x : Int) : (hp S).set 12 (.inr (6, [vI (S.1 6), vI (S.1 7), vI (S.1 8), vI (S.1 9), vI (S.1 10), vI (S.1 11)].set 3 (vI x))) = hp (si S 9 x) := rfl
theorem hp_s10 (S : St) (x : Int) : (hp S).set 12 (.inr (6, [vI (S.1 6), vI (S.1 7), vI (S.1 8), vI (S.1 9), vI (S.1 10), vI (S.1 11)].set 4 (vI x))) = hp (si S 10 x) := rfl
theorem hp_s11 (S : St) (x : Int) : (hp S).set 12 (.inr (6, [vI (S.1 6), vI (S.1 7), vI (S.1 8), vI (S.1 9), vI (S.1 10), vI (S.1 11)].set 5 (vI x))) = hp (si S 11 x) := rfl
theorem hp_a16 (S : St) (i : Nat) (x : Int) : (hp S).set 14 (.inl (0, 32, .inl (fun j => Int32.ofInt (sx_u (S.2 16) i x j)))) = hp (sa S 16 i x) := rfl
theorem hp_A16 (S : St) (f : Nat → Int) : (hp S).set 14 (.inl (0, 32, .inl (fun j => Int32.ofInt (f j)))) = hp (sA S 16 f) := rfl
theorem hp_s12 (S : St) (x : Int) : (hp S).set 15 (.inr (3, [.ref 10, .ref 14, .ref 15, .ref 18, .ref 19, .ref 20, .ref 21, vJ (S.1 12)].set 7 (vJ x))) = hp (si S 12 x) := rfl
theorem hp_a18 (S : St) (i : Nat) (x : Int) : (hp S).set 16 (.inl (1, 72, .inr (.inl (fun j => Int64.ofInt (sx_u (S.2 18) i x j))))) = hp (sa S 18 i x) := rfl
theorem hp_A18 (S : St) (f : Nat → Int) : (hp S).set 16 (.inl (1, 72, .inr (.inl (fun j => Int64.ofInt (f j))))) = hp (sA S 18 f) := rfl
theorem hp_a19 (S : St) (i : Nat) (x : Int) : (hp S).set 17 (.inl (1, 12, .inr (.inl (fun j => Int64.ofInt (sx_u (S.2 19) i x j))))) = hp (sa S 19 i x) := rfl
theorem hp_A19 (S : St) (f : Nat → Int) : (hp S).set 17 (.inl (1, 12, .inr (.inl (fun j => Int64.ofInt (f j))))) = hp (sA S 19 f) := rfl
theorem hp_a20 (S : St) (i : Nat) (x : Int) : (hp S).set 18 (.inl (0, 6, .inl (fun j => Int32.ofInt (sx_u (S.2 20) i x j)))) = hp (sa S 20 i x) := rfl
theorem hp_A20 (S : St) (f : Nat → Int) : (hp S).set 18 (.inl (0, 6, .inl (fun j => Int32.ofInt (f j)))) = hp (sA S 20 f) := rfl
theorem hp_a21 (S : St) (i : Nat) (x : Int) : (hp S).set 19 (.inl (0, 6, .inl (fun j => Int32.ofInt (sx_u (S.2 21) i x j)))) = hp (sa S 21 i x) := rfl
theorem hp_A21 (S : St) (f : Nat → Int) : (hp S).set 19 (.inl (0, 6, .inl (fun j => Int32.ofInt (f j)))) = hp (sA S 21 f) := rfl
theorem hp_a23 (S : St) (i : Nat) (x : Int) : (hp S).set 21 (.inl (1, 12, .inr (.inl (fun j => Int64.ofInt (sx_u (S.2 23) i x j))))) = hp (sa S 23 i x) := rfl
theorem hp_A23 (S : St) (f : Nat → Int) : (hp S).set 21 (.inl (1, 12, .inr (.inl (fun j => Int64.ofInt (f j))))) = hp (sA S 23 f) := rfl
theorem hp_s13 (S : St) (x : Int) : (hp S).set 23 (.inr (2, [.ref 7, .ref 10, .ref 14, .ref 15, vI (S.1 13), vI (S.1 14)].set 4 (vI x))) = hp (si S 13 x) := rfl
theorem hp_s14 (S : St) (x : Int) : (hp S).set 23 (.inr (2, [.ref 7, .ref 10, .ref 14, .ref 15, vI (S.1 13), vI (S.1 14)].set 5 (vI x))) = hp (si S 14 x) := rfl
theorem hp_s15 (S : St) (x : Int) : (hp S).set 24 (.inr (9, [.ref 27, .ref 28, .ref 29, vI (S.1 15)].set 3 (vI x))) = hp (si S 15 x) := rfl
theorem hp_a27 (S : St) (i : Nat) (x : Int) : (hp S).set 25 (.inl (0, 8, .inl (fun j => Int32.ofInt (sx_u (S.2 27) i x j)))) = hp (sa S 27 i x) := rfl
theorem hp_A27 (S : St) (f : Nat → Int) : (hp S).set 25 (.inl (0, 8, .inl (fun j => Int32.ofInt (f j)))) = hp (sA S 27 f) := rfl
theorem hp_a28 (S : St) (i : Nat) (x : Int) : (hp S).set 26 (.inl (0, 8, .inl (fun j => Int32.ofInt (sx_u (S.2 28) i x j)))) = hp (sa S 28 i x) := rfl
theorem hp_A28 (S : St) (f : Nat → Int) : (hp S).set 26 (.inl (0, 8, .inl (fun j => Int32.ofInt (f j)))) = hp (sA S 28 f) := rfl
theorem hp_a29 (S : St) (i : Nat) (x : Int) : (hp S).set 27 (.inl (0, 8, .inl (fun j => Int32.ofInt (sx_u (S.2 29) i x j)))) = hp (sa S 29 i x) := rfl
theorem hp_A29 (S : St) (f : Nat → Int) : (hp S).set 27 (.inl (0, 8, .inl (fun j => Int32.ofInt (f j)))) = hp (sA S 29 f) := rfl
theorem hp_s16 (S : St) (x : Int) : (hp S).set 29 (.inr (7, [.ref 32, vI (S.1 16), vI (S.1 17)].set 1 (vI x))) = hp (si S 16 x) := rfl
theorem hp_s17 (S : St) (x : Int) : (hp S).set 29 (.inr (7, [.ref 32, vI (S.1 16), vI (S.1 17)].set 2 (vI x))) = hp (si S 17 x) := rfl
theorem hp_a32 (S : St) (i : Nat) (x : Int) : (hp S).set 30 (.inl (0, 60, .inl (fun j => Int32.ofInt (sx_u (S.2 32) i x j)))) = hp (sa S 32 i x) := rfl
theorem hp_A32 (S : St) (f : Nat → Int) : (hp S).set 30 (.inl (0, 60, .inl (fun j => Int32.ofInt (f j)))) = hp (sA S 32 f) := rfl
theorem hp_s18 (S : St) (x : Int) : (hp S).set 31 (.inr (7, [.ref 34, vI (S.1 18), vI (S.1 19)].set 1 (vI x))) = hp (si S 18 x) := rfl
theorem hp_s19 (S : St) (x : Int) : (hp S).set 31 (.inr (7, [.ref 34, vI (S.1 18), vI (S.1 19)].set 2 (vI x))) = hp (si S 19 x) := rfl
theorem hp_a34 (S : St) (i : Nat) (x : Int) : (hp S).set 32 (.inl (0, 60, .inl (fun j => Int32.ofInt (sx_u (S.2 34) i x j)))) = hp (sa S 34 i x) := rfl
theorem hp_A34 (S : St) (f : Nat → Int) : (hp S).set 32 (.inl (0, 60, .inl (fun j => Int32.ofInt (f j)))) = hp (sA S 34 f) := rfl
theorem hp_s20 (S : St) (x : Int) : (hp S).set 33 (.inr (7, [.ref 36, vI (S.1 20), vI (S.1 21)].set 1 (vI x))) = hp (si S 20 x) := rfl
theorem hp_s21 (S : St) (x : Int) : (hp S).set 33 (.inr (7, [.ref 36, vI (S.1 20), vI (S.1 21)].set 2 (vI x))) = hp (si S 21 x) := rfl
theorem hp_a36 (S : St) (i : Nat) (x : Int) : (hp S).set 34 (.inl (0, 60, .inl (fun j => Int32.ofInt (sx_u (S.2 36) i x j)))) = hp (sa S 36 i x) := rfl
theorem hp_A36 (S : St) (f : Nat → Int) : (hp S).set 34 (.inl (0, 60, .inl (fun j => Int32.ofInt (f j)))) = hp (sA S 36 f) := rfl
theorem hp_s22 (S : St) (x : Int) : (hp S).set 35 (.inr (7, [.ref 38, vI (S.1 22), vI (S.1 23)].set 1 (vI x))) = hp (si S 22 x) := rfl
theorem hp_s23 (S : St) (x : Int) : (hp S).set 35 (.inr (7, [.ref 38, vI (S.1 22), vI (S.1 23)].set 2 (vI x))) = hp (si S 23 x) := rfl
theorem hp_a38 (S : St) (i : Nat) (x : Int) : (hp S).set 36 (.inl (0, 60, .inl (fun j => Int32.ofInt (sx_u (S.2 38) i x j)))) = hp (sa S 38 i x) := rfl
theorem hp_A38 (S : St) (f : Nat → Int) : (hp S).set 36 (.inl (0, 60, .inl (fun j => Int32.ofInt (f j)))) = hp (sA S 38 f) := rfl
theorem hp_s30 (S : St) (x : Int) : (hp S).set 37 (.inr (12, [.ref 40, .ref 41, .ref 42, .ref 43, vI (S.1 30), .ref 44, .ref 45, vI (S.1 31), vI (S.1 32), .ref 46, .ref 47, vI (S.1 33), .ref 48, .ref 49, .ref 50, .ref 51, .ref 52, vI (S.1 34), vI (S.1 35), .ref 53, vI (S.1 36), vI (S.1 37), vI (S.1 38), vI (S.1 39), .ref 54, vI (S.1 40)].set 4 (vI x))) = hp (si S 30 x) := rfl
theorem hp_s31 (S : St) (x : Int) : (hp S).set 37 (.inr (12, [.ref 40, .ref 41, .ref 42, .ref 43, vI (S.1 30), .ref 44, .ref 45, vI (S.1 31), vI (S.1 32), .ref 46, .ref 47, vI (S.1 33), .ref 48, .ref 49, .ref 50, .ref 51, .ref 52, vI (S.1 34), vI (S.1 35), .ref 53, vI (S.1 36), vI (S.1 37), vI (S.1 38), vI (S.1 39), .ref 54, vI (S.1 40)].set 7 (vI x))) = hp (si S 31 x) := rfl
theorem hp_s32 (S : St) (x : Int) : (hp S).set 37 (.inr (12, [.ref 40, .ref 41, .ref 42, .ref 43, vI (S.1 30), .ref 44, .ref 45, vI (S.1 31), vI (S.1 32), .ref 46, .ref 47, vI (S.1 33), .ref 48, .ref 49, .ref 50, .ref 51, .ref 52, vI (S.1 34), vI (S.1 35), .ref 53, vI (S.1 36), vI (S.1 37), vI (S.1 38), vI (S.1 39), .ref 54, vI (S.1 40)].set 8 (vI x))) = hp (si S 32 x) := rfl
theorem hp_s33 (S : St) (x : Int) : (hp S).set 37 (.inr (12, [.ref 40, .ref 41, .ref 42, .ref 43, vI (S.1 30), .ref 44, .ref 45, vI (S.1 31), vI (S.1 32), .ref 46, .ref 47, vI (S.1 33), .ref 48, .ref 49, .ref 50, .ref 51, .ref 52, vI (S.1 34), vI (S.1 35), .ref 53, vI (S.1 36), vI (S.1 37), vI (S.1 38), vI (S.1 39), .ref 54, vI (S.1 40)].set 11 (vI x))) = hp (si S 33 x) := rfl
theorem hp_s34 (S : St) (x : Int) : (hp S).set 37 (.inr (12, [.ref 40, .ref 41, .ref 42, .ref 43, vI (S.1 30), .ref 44, .ref 45, vI (S.1 31), vI (S.1 32), .ref 46, .ref 47, vI (S.1 33), .ref 48, .ref 49, .ref 50, .ref 51, .ref 52, vI (S.1 34), vI (S.1 35), .ref 53, vI (S.1 36), vI (S.1 37), vI (S.1 38), vI (S.1 39), .ref 54, vI (S.1 40)].set 17 (vI x))) = hp (si S 34 x) := rfl
theorem hp_s35 (S : St) (x : Int) : (hp S).set 37 (.inr (12, [.ref 40, .ref 41, .ref 42, .ref 43, vI (S.1 30), .ref 44, .ref 45, vI (S.1 31), vI (S.1 32), .ref 46, .ref 47, vI (S.1 33), .ref 48, .ref 49, .ref 50, .ref 51, .ref 52, vI (S.1 34), vI (S.1 35), .ref 53, vI (S.1 36), vI (S.1 37), vI (S.1 38), vI (S.1 39), .ref 54, vI (S.1 40)].set 18 (vI x))) = hp (si S 35 x) := rfl
theorem hp_s36 (S : St) (x : Int) : (hp S).set 37 (.inr (12, [.ref 40, .ref 41, .ref 42, .ref 43, vI (S.1 30), .ref 44, .ref 45, vI (S.1 31), vI (S.1 32), .ref 46, .ref 47, vI (S.1 33), .ref 48, .ref 49, .ref 50, .ref 51, .ref 52, vI (S.1 34), vI (S.1 35), .ref 53, vI (S.1 36), vI (S.1 37), vI (S.1 38), vI (S.1 39), .ref 54, vI (S.1 40)].set 20 (vI x))) = hp (si S 36 x) := rfl
theorem hp_s37 (S : St) (x : Int) : (hp S).set 37 (.inr (12, [.ref 40, .ref 41, .ref 42, .ref 43, vI (S.1 30), .ref 44, .ref 45, vI (S.1 31), vI (S.1 32), .ref 46, .ref 47, vI (S.1 33), .ref 48, .ref 49, .ref 50, .ref 51, .ref 52, vI (S.1 34), vI (S.1 35), .ref 53, vI (S.1 36), vI (S.1 37), vI (S.1 38), vI (S.1 39), .ref 54, vI (S.1 40)].set 21 (vI x))) = hp (si S 37 x) := rfl
theorem hp_s38 (S : St) (x : Int) : (hp S).set 37 (.inr (12, [.ref 40, .ref 41, .ref 42, .ref 43, vI (S.1 30), .ref 44, .ref 45, vI (S.1 31), vI (S.1 32), .ref 46, .ref 47, vI (S.1 33), .ref 48, .ref 49, .ref 50, .ref 51, .ref 52, vI (S.1 34), vI (S.1 35), .ref 53, vI (S.1 36), vI (S.1 37), vI (S.1 38), vI (S.1 39), .ref 54, vI (S.1 40)].set 22 (vI x))) = hp (si S 38 x) := rfl
theorem hp_s39 (S : St) (x : Int) : (hp S).set 37 (.inr (12, [.ref 40, .ref 41, .ref 42, .ref 43, vI (S.1 30), .ref 44, .ref 45, vI (S.1 31), vI (S.1 32), .ref 46, .ref 47, vI (S.1 33), .ref 48, .ref 49, .ref 50, .ref 51, .ref 52, vI (S.1 34), vI (S.1 35), .ref 53, vI (S.1 36), vI (S.1 37), vI (S.1 38), vI (S.1 39), .ref 54, vI (S.1 40)].set 23 (vI x))) = hp (si S 39 x) := rfl
theorem hp_s40 (S : St) (x : Int) : (hp S).set 37 (.inr (12, [.ref 40, .ref 41, .ref 42, .ref 43, vI (S.1 30), .ref 44, .ref 45, vI (S.1 31), vI (S.1 32), .ref 46, .ref 47, vI (S.1 33), .ref 48, .ref 49, .ref 50, .ref 51, .ref 52, vI (S.1 34), vI (S.1 35), .ref 53, vI (S.1 36), vI (S.1 37), vI (S.1 38), vI (S.1 39), .ref 54, vI (S.1 40)].set 25 (vI x))) = hp (si S 40 x) := rfl
theorem hp_a40 (S : St) (i : Nat) (x : Int) : (hp S).set 38 (.inl (0, 4, .inl (fun j => Int32.ofInt (sx_u (S.2 40) i x j)))) = hp (sa S 40 i x) := rfl
theorem hp_A40 (S : St) (f : Nat → Int) : (hp S).set 38 (.inl (0, 4, .inl (fun j => Int32.ofInt (f j)))) = hp (sA S 40 f) := rfl
theorem hp_a41 (S : St) (i : Nat) (x : Int) : (hp S).set 39 (.inl (0, 4, .inl (fun j => Int32.ofInt (sx_u (S.2 41) i x j)))) = hp (sa S 41 i x) := rfl
theorem hp_A41 (S : St) (f : Nat → Int) : (hp S).set 39 (.inl (0, 4, .inl (fun j => Int32.ofInt (f j)))) = hp (sA S 41 f) := rfl
theorem hp_a42 (S : St) (i : Nat) (x : Int) : (hp S).set 40 (.inl (0, 240, .inl (fun j => Int32.ofInt (sx_u (S.2 42) i x j)))) = hp (sa S 42 i x) := rfl
theorem hp_A42 (S : St) (f : Nat → Int) : (hp S).set 40 (.inl (0, 240, .inl (fun j => Int32.ofInt (f j)))) = hp (sA S 42 f) := rfl
theorem hp_a43 (S : St) (i : Nat) (x : Int) : (hp S).set 41 (.inl (0, 60, .inl (fun j => Int32.ofInt (sx_u (S.2 43) i x j)))) = hp (sa S 43 i x) := rfl
theorem hp_A43 (S : St) (f : Nat → Int) : (hp S).set 41 (.inl (0, 60, .inl (fun j => Int32.ofInt (f j)))) = hp (sA S 43 f) := rfl
theorem hp_a44 (S : St) (i : Nat) (x : Int) : (hp S).set 42 (.inl (0, 80, .inl (fun j => Int32.ofInt (sx_u (S.2 44) i x j)))) = hp (sa S 44 i x) := rfl
theorem hp_A44 (S : St) (f : Nat → Int) : (hp S).set 42 (.inl (0, 80, .inl (fun j => Int32.ofInt (f j)))) = hp (sA S 44 f) := rfl
theorem hp_a45 (S : St) (i : Nat) (x : Int) : (hp S).set 43 (.inl (0, 2, .inl (fun j => Int32.ofInt (sx_u (S.2 45) i x j)))) = hp (sa S 45 i x) := rfl
theorem hp_A45 (S : St) (f : Nat → Int) : (hp S).set 43 (.inl (0, 2, .inl (fun j => Int32.ofInt (f j)))) = hp (sA S 45 f) := rfl
theorem hp_a46 (S : St) (i : Nat) (x : Int) : (hp S).set 44 (.inl (0, 16, .inl (fun j => Int32.ofInt (sx_u (S.2 46) i x j)))) = hp (sa S 46 i x) := rfl
theorem hp_A46 (S : St) (f : Nat → Int) : (hp S).set 44 (.inl (0, 16, .inl (fun j => Int32.ofInt (f j)))) = hp (sA S 46 f) := rfl
theorem hp_a47 (S : St) (i : Nat) (x : Int) : (hp S).set 45 (.inl (0, 16, .inl (fun j => Int32.ofInt (sx_u (S.2 47) i x j)))) = hp (sa S 47 i x) := rfl
theorem hp_A47 (S : St) (f : Nat → Int) : (hp S).set 45 (.inl (0, 16, .inl (fun j => Int32.ofInt (f j)))) = hp (sA S 47 f) := rfl
theorem hp_a48 (S : St) (i : Nat) (x : Int) : (hp S).set 46 (.inl (0, 6, .inl (fun j => Int32.ofInt (sx_u (S.2 48) i x j)))) = hp (sa S 48 i x) := rfl
theorem hp_A48 (S : St) (f : Nat → Int) : (hp S).set 46 (.inl (0, 6, .inl (fun j => Int32.ofInt (f j)))) = hp (sA S 48 f) := rfl
theorem hp_a49 (S : St) (i : Nat) (x : Int) : (hp S).set 47 (.inl (0, 6, .inl (fun j => Int32.ofInt (sx_u (S.2 49) i x j)))) = hp (sa S 49 i x) := rfl
theorem hp_A49 (S : St) (f : Nat → Int) : (hp S).set 47 (.inl (0, 6, .inl (fun j => Int32.ofInt (f j)))) = hp (sA S 49 f) := rfl
theorem hp_a50 (S : St) (i : Nat) (x : Int) : (hp S).set 48 (.inl (3, 6, .inl (fun j => Int32.ofInt (sx_u (S.2 50) i x j)))) = hp (sa S 50 i x) := rfl
theorem hp_A50 (S : St) (f : Nat → Int) : (hp S).set 48 (.inl (3, 6, .inl (fun j => Int32.ofInt (f j)))) = hp (sA S 50 f) := rfl
theorem hp_a51 (S : St) (i : Nat) (x : Int) : (hp S).set 49 (.inl (0, 6, .inl (fun j => Int32.ofInt (sx_u (S.2 51) i x j)))) = hp (sa S 51 i x) := rfl
theorem hp_A51 (S : St) (f : Nat → Int) : (hp S).set 49 (.inl (0, 6, .inl (fun j => Int32.ofInt (f j)))) = hp (sA S 51 f) := rfl
theorem hp_a52 (S : St) (i : Nat) (x : Int) : (hp S).set 50 (.inl (0, 6, .inl (fun j => Int32.ofInt (sx_u (S.2 52) i x j)))) = hp (sa S 52 i x) := rfl
theorem hp_A52 (S : St) (f : Nat → Int) : (hp S).set 50 (.inl (0, 6, .inl (fun j => Int32.ofInt (f j)))) = hp (sA S 52 f) := rfl
theorem hp_a53 (S : St) (i : Nat) (x : Int) : (hp S).set 51 (.inl (0, 6, .inl (fun j => Int32.ofInt (sx_u (S.2 53) i x j)))) = hp (sa S 53 i x) := rfl
theorem hp_A53 (S : St) (f : Nat → Int) : (hp S).set 51 (.inl (0, 6, .inl (fun j => Int32.ofInt (f j)))) = hp (sA S 53 f) := rfl
theorem hp_a54 (S : St) (i : Nat) (x : Int) : (hp S).set 52 (.inl (0, 24, .inl (fun j => Int32.ofInt (sx_u (S.2 54) i x j)))) = hp (sa S 54 i x) := rfl
theorem hp_A54 (S : St) (f : Nat → Int) : (hp S).set 52 (.inl (0, 24, .inl (fun j => Int32.ofInt (f j)))) = hp (sA S 54 f) := rfl
def txM (t : Nat) : Int := if t = 0 then 32 else 23
theorem hp_tx {t : Nat} (h : t < 2) (S : St) : sx_at (hp S) (3 + 2 * t) = some (.inr (10, [.ref (4 + 2 * t), vI (txM t), vI (S.1 t)])) := by
  rcases (show t = 0 ∨ t = 1 by omega) with rfl | rfl <;> rfl
theorem hp_tb {t : Nat} (h : t < 2) (S : St) : sx_at (hp S) (4 + 2 * t) = some (.inl (2, 32, .inl (fun j => Int32.ofInt (S.2 (4 + 2 * t) j)))) := by
  rcases (show t = 0 ∨ t = 1 by omega) with rfl | rfl <;> rfl
theorem hp_tl {t : Nat} (h : t < 2) (S : St) (x : Int) : (hp S).set (3 + 2 * t - 2) (.inr (10, [.ref (4 + 2 * t), vI (txM t), vI (S.1 t)].set 2 (vI x))) = hp (si S t x) := by
  rcases (show t = 0 ∨ t = 1 by omega) with rfl | rfl <;> rfl
theorem hp_ta {t : Nat} (h : t < 2) (S : St) (i : Nat) (x : Int) : (hp S).set (4 + 2 * t - 2) (.inl (2, 32, .inl (fun j => Int32.ofInt (sx_u (S.2 (4 + 2 * t)) i x j)))) = hp (sa S (4 + 2 * t) i x) := by
  rcases (show t = 0 ∨ t = 1 by omega) with rfl | rfl <;> rfl
theorem hp_sh {s : Nat} (h : s < 4) (S : St) : sx_at (hp S) (31 + 2 * s) = some (.inr (7, [.ref (32 + 2 * s), vI (S.1 (16 + 2 * s)), vI (S.1 (17 + 2 * s))])) := by
  rcases (show s = 0 ∨ s = 1 ∨ s = 2 ∨ s = 3 by omega) with rfl | rfl | rfl | rfl <;> rfl
theorem hp_sb {s : Nat} (h : s < 4) (S : St) : sx_at (hp S) (32 + 2 * s) = some (.inl (0, 60, .inl (fun j => Int32.ofInt (S.2 (32 + 2 * s) j)))) := by
  rcases (show s = 0 ∨ s = 1 ∨ s = 2 ∨ s = 3 by omega) with rfl | rfl | rfl | rfl <;> rfl
theorem hp_sf {s : Nat} (h : s < 4) (S : St) (x : Int) : (hp S).set (31 + 2 * s - 2) (.inr (7, [.ref (32 + 2 * s), vI (S.1 (16 + 2 * s)), vI (S.1 (17 + 2 * s))].set 1 (vI x))) = hp (si S (16 + 2 * s) x) := by
  rcases (show s = 0 ∨ s = 1 ∨ s = 2 ∨ s = 3 by omega) with rfl | rfl | rfl | rfl <;> rfl
theorem hp_sz {s : Nat} (h : s < 4) (S : St) (x : Int) : (hp S).set (31 + 2 * s - 2) (.inr (7, [.ref (32 + 2 * s), vI (S.1 (16 + 2 * s)), vI (S.1 (17 + 2 * s))].set 2 (vI x))) = hp (si S (17 + 2 * s) x) := by
  rcases (show s = 0 ∨ s = 1 ∨ s = 2 ∨ s = 3 by omega) with rfl | rfl | rfl | rfl <;> rfl
theorem hp_sa {s : Nat} (h : s < 4) (S : St) (i : Nat) (x : Int) : (hp S).set (32 + 2 * s - 2) (.inl (0, 60, .inl (fun j => Int32.ofInt (sx_u (S.2 (32 + 2 * s)) i x j)))) = hp (sa S (32 + 2 * s) i x) := by
  rcases (show s = 0 ∨ s = 1 ∨ s = 2 ∨ s = 3 by omega) with rfl | rfl | rfl | rfl <;> rfl
theorem hp_sA {s : Nat} (h : s < 4) (S : St) (f : Nat → Int) : (hp S).set (32 + 2 * s - 2) (.inl (0, 60, .inl (fun j => Int32.ofInt (f j)))) = hp (sA S (32 + 2 * s) f) := by
  rcases (show s = 0 ∨ s = 1 ∨ s = 2 ∨ s = 3 by omega) with rfl | rfl | rfl | rfl <;> rfl
theorem sx_ri {S1 S2 : St} {e z : Int} (h : e = z) (hs : S1 = S2) : sx_is (some (vI z)) (hp S2) (some (vI e)) (hp S1) := ⟨by rw [h], by rw [hs]⟩
theorem sx_rj {S1 S2 : St} {e z : Int} (h : e = z) (hs : S1 = S2) : sx_is (some (vJ z)) (hp S2) (some (vJ e)) (hp S1) := ⟨by rw [h], by rw [hs]⟩
theorem sx_rv {S1 S2 : St} (hs : S1 = S2) : sx_is none (hp S2) none (hp S1) := ⟨rfl, by rw [hs]⟩
theorem sx_isl {S1 S2 : St} {v0 : Option Value} : ∀ v h1, sx_is v0 (hp S2) v h1 → h1.length = (hp S1).length + 0 := fun _ _ h => by rw [h.2]; rfl
def sx_mask : List Bool → List (Option Value) → List (Option Value)
  | b :: bs, o :: r => (if b = true then o else none) :: sx_mask bs r
  | _, _ => []
theorem sx_mask_get : ∀ (bs : List Bool) (lo : List (Option Value)) (i : Nat) (v : Value), (sx_mask bs lo)[i]? = some (some v) → lo[i]? = some (some v)
  | [], _, _, _, h => by simp [sx_mask] at h
  | _ :: _, [], _, _, h => by simp [sx_mask] at h
  | b :: bs, o :: r, 0, v, h => by
    simp only [sx_mask, List.getElem?_cons_zero, Option.some.injEq] at h ⊢
    split at h
    · exact h
    · cases h
  | b :: bs, o :: r, i + 1, v, h => by
    simp only [sx_mask, List.getElem?_cons_succ] at h ⊢
    exact sx_mask_get bs r i v h
/-- locals that nobody asks for again are let go -/
theorem sx_drop {X : sx_X} {own : String} {ini : Bool} {cc : ByteArray} {nL d mc ms : Nat} {ret : Option FieldType} {pc : Nat} {lo lo1 : List (Option Value)} {st : List Value} {h : sx_H} {k n : Nat} {Q : Option Value → sx_H → Prop} (bs : List Bool) (hm : sx_mask bs lo = lo1) (K : Rn X own ini cc nL d mc ms ret pc lo1 st h k n Q) : Rn X own ini cc nL d mc ms ret pc lo st h k n Q := by
  subst hm
  intro p l e R s m args below meth c G Z C hr ls H locs hl hw hk hn
  exact K p l e R s m args below meth c G Z C hr ls H locs ⟨hl.1, hl.2.1, fun i v hi => hl.2.2 i v (sx_mask_get bs lo i v hi)⟩ hw hk hn
