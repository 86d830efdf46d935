theorem g_0 (B : Int → Int) (K L : Nat → Int) : gIt B 0 K L 32 = (0, 0, -1, K, L) := gIt_fix B 0 K L (k := 0) (fun h => absurd h.1 (by simp only [gIt]; omega)) 32 (Nat.zero_le _)
theorem J_0 : J S0 := by
  have e : ∀ k, k < 3 → S0.1 k = 0 := fun k hk => by
    match k, hk with
    | 0, _ => rfl
    | 1, _ => rfl
    | 2, _ => rfl
    | q + 3, h => omega
  have e4 : S0.1 4 = 0 := rfl
  have e2 : S0.1 2 = 0 := rfl
  have gz : ∀ q, gK S0 q = 0 := fun q => if_neg (by rw [e2]; omega)
  have lz : ∀ q, gL S0 q = 0 := fun q => if_neg (by rw [e2]; omega)
  have wz : ∀ q, pW S0 q = 0 := fun q => if_neg (by rw [e4]; omega)
  have sz : ∀ q, pS S0 q = 0 := fun q => if_neg (by rw [e4]; omega)
  have hz : ∀ q, pH S0 q = 0 := fun q => if_neg (by rw [e4]; omega)
  have fm : ∀ s, s < 4 → S0.1 (16 + 2 * s) = -1 := fun s hs => by
    match s, hs with
    | 0, _ => rfl
    | 1, _ => rfl
    | 2, _ => rfl
    | 3, _ => rfl
    | q + 4, h => omega
  have zm : ∀ s, s < 4 → S0.1 (17 + 2 * s) = 0 := fun s hs => by
    match s, hs with
    | 0, _ => rfl
    | 1, _ => rfl
    | 2, _ => rfl
    | 3, _ => rfl
    | q + 4, h => omega
  have im : ∀ s i, s < 4 → S0.2 (32 + 2 * s) i = 0 := fun s i hs => by
    match s, hs with
    | 0, _ => rfl
    | 1, _ => rfl
    | 2, _ => rfl
    | 3, _ => rfl
    | q + 4, h => omega
  have m40 : ∀ s, s < 4 → S0.2 40 s = -1 := fun s hs => by
    match s, hs with
    | 0, _ => rfl
    | 1, _ => rfl
    | 2, _ => rfl
    | 3, _ => rfl
    | q + 4, h => omega
  have z00 : (0 : Int) ≤ 0 ∧ (0 : Int) ≤ 2147483647 := by decide
  have wr : (-2147483648 : Int) ≤ 0 ∧ (0 : Int) ≤ 2147483647 := by decide
  refine ⟨⟨⟨?_, ?_, ?_, ?_, ?_, ?_, ?_, ?_, fun q => ?_, fun q => ?_, fun q => ?_, fun q => ?_, fun q => ?_⟩, fun q h hq hh => rfl, ?_, ?_, ?_, fun i => ?_, ⟨⟨rfl, rfl⟩, fun t i ht hi => ?_⟩, ⟨?_, ?_, fun i hi => ?_⟩, ⟨?_, ?_, fun i hi => ?_⟩, fun k hk => ?_⟩, ⟨?_, fun i => ?_, fun i => ?_, fun i => ?_, fun i => wr, rfl, fun i hi => ?_⟩, ⟨fun s hs => ⟨?_, ?_, fun i => ?_⟩, ⟨fun s hs => ⟨?_, ?_⟩, fun i => wr⟩, fun s hs => ⟨?_, fun c => absurd (fm s hs) c⟩, rfl⟩, ⟨fun a => ?_, fun a => ?_, wr⟩⟩
  · show (0 : Int) ≤ 0 ∧ (0 : Int) ≤ 16
    decide
  · show (0 : Int) ≤ 0 ∧ (0 : Int) ≤ 6
    decide
  · show (0 : Int) ≤ 1 ∧ (1 : Int) ≤ 99
    decide
  · show (0 : Int) ≤ 0 ∧ (0 : Int) ≤ 1
    decide
  · show (0 : Int) ≤ 16 ∧ (16 : Int) ≤ 16
    decide
  · show (0 : Int) ≤ 0 ∧ (0 : Int) ≤ 999
    decide
  · show (0 : Int) ≤ 1999 ∧ (1999 : Int) ≤ 1999
    decide
  · show (0 : Int) ≤ 1 ∧ (1 : Int) ≤ 16
    decide
  · show 0 ≤ gK S0 q ∧ gK S0 q ≤ 3
    rw [gz]
    decide
  · show 0 ≤ gL S0 q ∧ gL S0 q ≤ 9
    rw [lz]
    decide
  · show 0 ≤ pW S0 q ∧ pW S0 q ≤ 9
    rw [wz]
    decide
  · show 0 ≤ pS S0 q ∧ pS S0 q ≤ 9
    rw [sz]
    decide
  · show 0 ≤ pH S0 q ∧ pH S0 q ≤ 1
    rw [hz]
    decide
  · show (0 : Int) ≤ 0 ∧ (0 : Int) ≤ 32
    decide
  · show (0 : Int) ≤ 0 ∧ (0 : Int) ≤ 23
    decide
  · show ((-1 : Int) ≤ -1 ∧ (-1 : Int) ≤ 100) ∧ (-1 : Int) ≤ -1 ∧ (-1 : Int) ≤ 100
    decide
  · show (0 : Int) ≤ 0 ∧ (0 : Int) ≤ 255
    decide
  · rw [e t (by omega)] at hi
    omega
  · rw [e 0 (by decide), g_0]
    rfl
  · rw [e 0 (by decide), g_0]
    rfl
  · rw [e2] at hi
    omega
  · rw [e 1 (by decide)]
    rfl
  · rw [e 1 (by decide)]
    rfl
  · rw [e4] at hi
    omega
  · match k, hk with
    | 0, _ => rfl
    | 1, _ => rfl
    | 2, _ => rfl
    | 3, _ => rfl
    | 4, _ => rfl
    | 5, _ => rfl
    | q + 6, h => omega
  · show (0 : Int) ≤ 0 ∧ (0 : Int) ≤ 8
    decide
  · show (0 : Int) ≤ 0 ∧ (0 : Int) ≤ 5
    decide
  · show (0 : Int) ≤ 0 ∧ (0 : Int) ≤ 15
    decide
  · show (0 : Int) ≤ 0 ∧ (0 : Int) ≤ 1
    decide
  · have : S0.1 15 = 0 := rfl
    omega
  · rw [zm s hs]
    decide
  · rw [fm s hs]
    decide
  · rw [im s i hs]
    exact wr
  · rw [m40 s hs]
    decide
  · show (0 : Int) ≤ 0 ∧ (0 : Int) ≤ 60
    decide
  · rw [m40 s hs, fm s hs]
  · show (0 : Int) ≤ 0 ∧ (0 : Int) ≤ 5
    decide
  · show (0 : Int) ≤ 0 ∧ (0 : Int) ≤ 1
    decide
set_option maxRecDepth 20000 in
theorem law_rn {X : sx_X} (hX : X.1 ≤ 384) (hr : ∀ j, -2147483648 ≤ X.2 j ∧ X.2 j ≤ 2147483647) : Rn X RL false cL_law 4 30 53 1105 (some .boolean) 0 [some (.ref 0), none, none, none] [] [] 0 0 (fun v _ => v = some (vI 1)) := by
  refine sx_new (p1 := 3) (a1 := 2) (k1 := 1) (n1 := 13) (h1 := [.inr (11, [.null, .null, .null, .null, .null, .null, .null, .null, .null, .null, .null, .null, vI 0])]) dL_law_0 rfl clX11 kl_L_7 itX11 in_RX11 dfX11 (fun _ => rfl) rfl rfl (Nat.le_of_ble_eq_true rfl) (Nat.le_of_ble_eq_true rfl) rfl rfl ?_
  refine sx_dup (p1 := 4) dL_law_3 rfl rfl ?_
  refine sx_callI (p1 := 7) (As := []) (k1 := 37) (n1 := 597) dL_law_4 rfl rfl (k_X11_init_2) mt_X11_init ml_L_9 (Nat.le_of_ble_eq_true rfl) rfl (Nat.le_of_ble_eq_true rfl) rfl rfl (Nat.le_of_ble_eq_true rfl) (Nat.le_of_ble_eq_true rfl) ?_
  refine (show Rn X RL false cL_law 4 30 53 1105 (some .boolean) 7 [some (.ref 0), none, none, none] [.ref 2] zH 37 597 (fun v _ => v = some (vI 1)) from ?_)
  refine sx_astore_n (lo1 := [some _, some _, none, none]) (p1 := 8) dL_law_7 rfl (by decide) rfl ?_
  refine sx_new (p1 := 11) (a1 := 39) (k1 := 38) (n1 := 623) (h1 := zH ++ [.inr (12, [.null, .null, .null, .null, vI 0, .null, .null, vI 0, vI 0, .null, .null, vI 0, .null, .null, .null, .null, .null, vI 0, vI 0, .null, vI 0, vI 0, vI 0, vI 0, .null, vI 0])]) dL_law_8 rfl clX12 kl_L_10 itX12 in_RX12 dfX12 (fun _ => rfl) rfl rfl (Nat.le_of_ble_eq_true rfl) (Nat.le_of_ble_eq_true rfl) rfl rfl ?_
  refine sx_dup (p1 := 12) dL_law_11 rfl rfl ?_
  refine sx_callI (p1 := 15) (As := []) (k1 := 53) (n1 := 1105) (h1 := hp S0) dL_law_12 rfl rfl (k_X12_init) mt_X12_init ml_L_12 (Nat.le_of_ble_eq_true rfl) rfl (Nat.le_of_ble_eq_true rfl) rfl rfl (Nat.le_of_ble_eq_true rfl) (Nat.le_of_ble_eq_true rfl) ?_
  refine sx_astore_n (lo1 := [some _, some _, some _, none]) (p1 := 16) dL_law_15 rfl (by decide) rfl ?_
  refine sx_iconst (p1 := 17) dL_law_16 rfl ?_
  refine sx_istore_n (lo1 := [some _, some _, some _, some _]) (p1 := 18) dL_law_17 rfl (by decide) rfl ?_
  exact law_loop hX hr 64 0 S0 (by omega) (by omega) (by omega) J_0
