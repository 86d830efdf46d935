theorem wd_cls {args : Array Value} {s : State} (ht : ∀ w ∈ sx_T, w.before args s = true) : ∀ k : Nat, ∃ (cC : ClassId) (iS : Nat → Nat), ∀ q : vw_C, vwCl[k]? = some q → u_Kn s q.1 q.2.1 q.2.2 cC iS := by
  intro k
  match k with
  | 0 =>
    obtain ⟨a, b, h⟩ := u_known (C := RX0) (T := TX0) (N := 4) (n := 4) ht cwX0 (ht _ itX0)
    exact ⟨a, b, fun q hq => by cases hq; exact h⟩
  | 1 =>
    obtain ⟨a, b, h⟩ := u_known (C := RX1) (T := TX1) (N := 4) (n := 4) ht cwX1 (ht _ itX1)
    exact ⟨a, b, fun q hq => by cases hq; exact h⟩
  | 2 =>
    obtain ⟨a, b, h⟩ := u_known (C := RX2) (T := TX2) (N := 6) (n := 6) ht cwX2 (ht _ itX2)
    exact ⟨a, b, fun q hq => by cases hq; exact h⟩
  | 3 =>
    obtain ⟨a, b, h⟩ := u_known (C := RX3) (T := TX3) (N := 8) (n := 8) ht cwX3 (ht _ itX3)
    exact ⟨a, b, fun q hq => by cases hq; exact h⟩
  | 4 =>
    obtain ⟨a, b, h⟩ := u_known (C := RX4) (T := TX4) (N := 3) (n := 3) ht cwX4 (ht _ itX4)
    exact ⟨a, b, fun q hq => by cases hq; exact h⟩
  | 5 =>
    obtain ⟨a, b, h⟩ := u_known (C := RX5) (T := TX5) (N := 5) (n := 5) ht cwX5 (ht _ itX5)
    exact ⟨a, b, fun q hq => by cases hq; exact h⟩
  | 6 =>
    obtain ⟨a, b, h⟩ := u_known (C := RX6) (T := TX6) (N := 6) (n := 6) ht cwX6 (ht _ itX6)
    exact ⟨a, b, fun q hq => by cases hq; exact h⟩
  | 7 =>
    obtain ⟨a, b, h⟩ := u_known (C := RX7) (T := TX7) (N := 3) (n := 3) ht cwX7 (ht _ itX7)
    exact ⟨a, b, fun q hq => by cases hq; exact h⟩
  | 8 =>
    obtain ⟨a, b, h⟩ := u_known (C := RX8) (T := TX8) (N := 4) (n := 4) ht cwX8 (ht _ itX8)
    exact ⟨a, b, fun q hq => by cases hq; exact h⟩
  | 9 =>
    obtain ⟨a, b, h⟩ := u_known (C := RX9) (T := TX9) (N := 4) (n := 4) ht cwX9 (ht _ itX9)
    exact ⟨a, b, fun q hq => by cases hq; exact h⟩
  | 10 =>
    obtain ⟨a, b, h⟩ := u_known (C := RX10) (T := TX10) (N := 3) (n := 3) ht cwX10 (ht _ itX10)
    exact ⟨a, b, fun q hq => by cases hq; exact h⟩
  | 11 =>
    obtain ⟨a, b, h⟩ := u_known (C := RX11) (T := TX11) (N := 13) (n := 13) ht cwX11 (ht _ itX11)
    exact ⟨a, b, fun q hq => by cases hq; exact h⟩
  | 12 =>
    obtain ⟨a, b, h⟩ := u_known (C := RX12) (T := TX12) (N := 26) (n := 26) ht cwX12 (ht _ itX12)
    exact ⟨a, b, fun q hq => by cases hq; exact h⟩
  | q + 13 =>
    obtain ⟨a, b, -⟩ := u_known (C := RX0) (T := TX0) (N := 4) (n := 4) ht cwX0 (ht _ itX0)
    exact ⟨a, b, fun r hr => by simp [vwCl] at hr⟩
theorem wd_arr {args : Array Value} {s : State} {ty : FieldType} (h : (Cond.arrayClass ty).before args s = true) : ∃ c : ClassId, ArrOfT s c ty ∧ s.vm.findClass ("[" ++ ty.toString) = some c := by
  obtain ⟨c, k, comp, h1, h2, h3⟩ := Cond.arrayClass_spec h
  exact ⟨c, fun n z => ⟨fun k h => (by cases h), k, h2, comp, h3⟩, h1⟩
theorem wd_obj {args : Array Value} {s : State} {C : String} (h : (Cond.arrayOver (.object C)).before args s = true) : ∃ c : ClassId, ArrOfT s c (.object C) ∧ va_RA s c (.object C) := by
  obtain ⟨comp, c, k, h1, -, h2, h3, h4⟩ := Cond.arrayOver_spec h
  exact ⟨c, fun n z => ⟨fun k h => (by cases h), k, h2, comp, h3⟩, k, comp, h2, h3, h1, h4⟩
theorem wd_len {args : Array Value} {s : State} {t : Term} {b : Nat} {cell : Cell} {v : Value} (ht : t.eval args s none [] s = some (.ref b)) (hat : s.arrayAt? b = some cell) (hv : (Term.length t).eval args s none [] s = some v) : cell.slots.size < 2 ^ 31 := by
  simp only [Term.eval, ht, hat, Option.bind_eq_bind, Option.bind_some] at hv
  by_cases hlt : cell.slots.size < 2147483648
  · exact hlt
  · simp [hlt] at hv
theorem wd_most {args : Array Value} {s : State} (h : (Jvm.Cond.and given_1 narrow_1).before args s = true) : ∃ t : Nat, (Term.static "StonesAbove$Settings" "MOST" "[I").eval args s none [] s = some (.ref t) ∧ t < s.heap.size ∧ va_X t 6 (fun j => Int32.ofInt (sx_most j)) s s.heap := by
  have hs := flat_of_before _ h
  have harr : (Cond.arrayOf (.static "StonesAbove$Settings" "MOST" "[I") .int).before args s = true := hs _ (by decide +kernel)
  have hlen := va_eqt (hs (Cond.eq (.length (.static "StonesAbove$Settings" "MOST" "[I")) (.int 6)) (by decide +kernel))
  have h0 := va_eqt (hs (Cond.eq (.elem (.static "StonesAbove$Settings" "MOST" "[I") (.int 0)) (.int 99)) (by decide +kernel))
  have h1 := va_eqt (hs (Cond.eq (.elem (.static "StonesAbove$Settings" "MOST" "[I") (.int 1)) (.int 1)) (by decide +kernel))
  have h2 := va_eqt (hs (Cond.eq (.elem (.static "StonesAbove$Settings" "MOST" "[I") (.int 2)) (.int 16)) (by decide +kernel))
  have h3 := va_eqt (hs (Cond.eq (.elem (.static "StonesAbove$Settings" "MOST" "[I") (.int 3)) (.int 999)) (by decide +kernel))
  have h4 := va_eqt (hs (Cond.eq (.elem (.static "StonesAbove$Settings" "MOST" "[I") (.int 4)) (.int 1999)) (by decide +kernel))
  have h5 := va_eqt (hs (Cond.eq (.elem (.static "StonesAbove$Settings" "MOST" "[I") (.int 5)) (.int 16)) (by decide +kernel))
  obtain ⟨t, ht, cell, c1, c2, c3, c4, c5, c6, -⟩ := va_Tof (N := 6) (f := fun j => .int (Int32.ofInt (sx_most j))) (A := fun _ => False) (by decide) harr hlen (fun j hj => by
    rcases (show j = 0 ∨ j = 1 ∨ j = 2 ∨ j = 3 ∨ j = 4 ∨ j = 5 by omega) with rfl | rfl | rfl | rfl | rfl | rfl
    · rw [show Int32.ofInt (sx_most 0) = 99 from by decide]
      exact h0
    · rw [show Int32.ofInt (sx_most 1) = 1 from by decide]
      exact h1
    · rw [show Int32.ofInt (sx_most 2) = 16 from by decide]
      exact h2
    · rw [show Int32.ofInt (sx_most 3) = 999 from by decide]
      exact h3
    · rw [show Int32.ofInt (sx_most 4) = 1999 from by decide]
      exact h4
    · rw [show Int32.ofInt (sx_most 5) = 16 from by decide]
      exact h5
    ) (fun _ _ q => q)
  obtain ⟨t2, cell2, ht2, hat2, -⟩ := Term.length_spec hlen
  cases ht.symm.trans ht2
  cases c1.symm.trans (State.arrayAt?_spec hat2).1
  have hsz : cell.slots.size < 2 ^ 31 := wd_len ht2 hat2 hlen
  have e6 : cell.slots.size = 6 := by
    have e : (Int32.ofNat cell.slots.size).toInt = (Int32.ofNat 6).toInt := congrArg Int32.toInt c5
    rw [Int32.toInt_ofNat_small hsz, Int32.toInt_ofNat_small (by decide)] at e
    omega
  exact ⟨t, ht, (Array.getElem?_eq_some_iff.mp c1).1, cell, c1, c2, c3, e6, c6⟩
theorem wd_nest {args : Array Value} {s : State} (hts : ∀ w ∈ lw_tbl, w.before args s = true) : ∀ q ∈ sx_nest, va_Nw (.methodLinkNest q.1 q.2.1 q.2.2 RX11) s := by
  intro q hq
  simp only [sx_nest, List.mem_cons, List.not_mem_nil, or_false] at hq
  rcases hq with rfl | rfl | rfl | rfl | rfl | rfl
  · exact va_Nw.of rfl (hts _ (sx_t1 (List.mem_of_getElem? (i := 48) rfl)))
  · exact va_Nw.of rfl (hts _ (sx_t1 (List.mem_of_getElem? (i := 71) rfl)))
  · exact va_Nw.of rfl (hts _ (sx_t1 (List.mem_of_getElem? (i := 93) rfl)))
  · exact va_Nw.of rfl (hts _ (sx_t2 (List.mem_of_getElem? (i := 4) rfl)))
  · exact va_Nw.of rfl (hts _ (sx_t2 (List.mem_of_getElem? (i := 24) rfl)))
  · exact va_Nw.of rfl (hts _ (sx_t3 (List.mem_of_getElem? (i := 217) rfl)))
/-- the world at the law's entry -/
theorem wd_G {args : Array Value} {s : State} {b L : Nat} {xs : Nat → Int32} (hL : L ≤ 384) (hts : ∀ w ∈ lw_tbl, w.before args s = true) (hX : va_X b L xs s s.heap) (hbl : b < s.heap.size) (hgv : (Jvm.Cond.and given_1 narrow_1).before args s = true) : ∃ G : sx_G, G.2.2.1 = b ∧ sx_b G = s.heap.size ∧ sx_K G s ∧ sx_E (L, fun j => (xs j).toInt) G s s.heap := by
  have ht : ∀ w ∈ sx_T, w.before args s = true := fun w hw => hts w (List.mem_filter.mp hw).1
  have ex := wd_cls ht
  obtain ⟨a0, p0, n0⟩ := wd_arr (ht _ ac_int)
  obtain ⟨a1, p1, n1⟩ := wd_arr (ht _ ac_long)
  obtain ⟨a2, p2, n2⟩ := wd_arr (ht _ ac_byte)
  obtain ⟨a3, p3, n3⟩ := wd_arr (ht _ ac_boolean)
  have hao : (Cond.arrayOver (.object RX7)).before args s = true := hts _ (sx_t2 (List.mem_of_getElem? (i := 22) rfl))
  obtain ⟨a4, p4, n4⟩ := wd_obj hao
  obtain ⟨t, ev, tl, hM⟩ := wd_most hgv
  refine ⟨((fun k => (ex k).choose, fun k => (ex k).choose_spec.choose), fun k => (if k = 0 then a0 else if k = 1 then a1 else if k = 2 then a2 else if k = 3 then a3 else a4), b, t, s.heap.size), rfl, rfl, ⟨⟨fun k q hq => (ex k).choose_spec.choose_spec q hq, fun k q hq => ?_⟩, va_AO.of hao, wd_nest hts⟩, ?_, hbl, hM, tl, va_Zref (hts _ (sx_t2 (List.mem_of_getElem? (i := 230) rfl))) (ht _ in_RX6) ev (fun a ha => Nat.not_le.mpr ha), Nat.le_refl _, show L < 2147483648 by omega⟩
  · match k, hq with
    | 0, hq => cases hq; exact ⟨p0, n0⟩
    | 1, hq => cases hq; exact ⟨p1, n1⟩
    | 2, hq => cases hq; exact ⟨p2, n2⟩
    | 3, hq => cases hq; exact ⟨p3, n3⟩
    | 4, hq => cases hq; exact ⟨p4, n4⟩
    | k + 5, hq => simp [sx_tys] at hq
  · have e : (fun j => Int32.ofInt ((xs j).toInt)) = xs := funext fun j => Int32.ofInt_toInt _
    show va_X b L (fun j => Int32.ofInt ((xs j).toInt)) s s.heap
    rw [e]
    exact hX
