/-! sx: a walk over an abstract heap. Cells are numbered: 0 the script, 1 the static row MOST, k + 2 the k-th cell that was made since the law began. Numbers are Ints. -/
abbrev sx_C : Type := (Nat × vp_A) ⊕ (Nat × List Value)
abbrev sx_H : Type := List sx_C
abbrev sx_G : Type := va_G × (Nat → ClassId) × Nat × Nat × Nat
abbrev sx_X : Type := Nat × (Nat → Int)
def sx_b (G : sx_G) : Nat := G.2.2.2.2
def sx_ad (G : sx_G) (a : Nat) : Nat := match a with
  | 0 => G.2.2.1
  | 1 => G.2.2.2.1
  | k + 2 => sx_b G + k
def sx_v (G : sx_G) (v : Value) : Value := match v with
  | .ref a => .ref (sx_ad G a)
  | .int x => .int x
  | .long x => .long x
  | .float x => .float x
  | .double x => .double x
  | .null => .null
  | .retAddr x => .retAddr x
def sx_a (G : sx_G) (a : vp_A) : vp_A := match a with
  | (n, .inl f) => (n, .inl f)
  | (n, .inr (.inl f)) => (n, .inr (.inl f))
  | (n, .inr (.inr (.inl f))) => (n, .inr (.inr (.inl f)))
  | (n, .inr (.inr (.inr (.inl f)))) => (n, .inr (.inr (.inr (.inl f))))
  | (n, .inr (.inr (.inr (.inr f)))) => (n, .inr (.inr (.inr (.inr (fun j => (f j).map (sx_ad G))))))
def sx_e (G : sx_G) (c : sx_C) : va_E := match c with
  | .inl (t, a) => .inl (G.2.1 t, sx_a G a)
  | .inr (ci, fs) => .inr (ci, fs.map (sx_v G))
def sx_w (G : sx_G) : Nat → sx_H → va_W
  | _, [] => []
  | k, c :: r => (sx_b G + k, sx_e G c) :: sx_w G (k + 1) r
def sx_at (h : sx_H) (a : Nat) : Option sx_C := match a with
  | k + 2 => h[k]?
  | _ => none
abbrev vI (z : Int) : Value := .int (Int32.ofInt z)
abbrev vJ (z : Int) : Value := .long (Int64.ofInt z)
def sx_A (G : sx_G) : Nat → Prop := fun q => sx_b G ≤ q
theorem sx_w_get (G : sx_G) : ∀ (h : sx_H) (j i : Nat), (sx_w G j h)[i]? = (h[i]?).map (fun c => (sx_b G + (j + i), sx_e G c))
  | [], _, _ => by simp [sx_w]
  | c :: r, j, 0 => by simp [sx_w]
  | c :: r, j, i + 1 => by
    have ih := sx_w_get G r (j + 1) i
    simp only [sx_w, List.getElem?_cons_succ]
    rw [ih, show j + 1 + i = j + (i + 1) by omega]
theorem sx_w_at {G : sx_G} {h : sx_H} {i : Nat} {c : sx_C} (hc : h[i]? = some c) : (sx_w G 0 h)[i]? = some (sx_ad G (i + 2), sx_e G c) := by
  rw [sx_w_get, hc]
  simp [sx_ad]
theorem sx_w_set (G : sx_G) : ∀ (h : sx_H) (j i : Nat) (c : sx_C), (sx_w G j h).set i (sx_b G + (j + i), sx_e G c) = sx_w G j (h.set i c)
  | [], _, _, _ => rfl
  | c :: r, j, 0, c' => rfl
  | c :: r, j, i + 1, c' => by
    have ih := sx_w_set G r (j + 1) i c'
    simp only [sx_w, List.set_cons_succ]
    rw [← ih, show j + 1 + i = j + (i + 1) by omega]
theorem sx_w_set0 (G : sx_G) (h : sx_H) (i : Nat) (c : sx_C) : (sx_w G 0 h).set i (sx_ad G (i + 2), sx_e G c) = sx_w G 0 (h.set i c) := by
  have := sx_w_set G h 0 i c
  rwa [Nat.zero_add] at this
theorem sx_w_app (G : sx_G) : ∀ (h : sx_H) (j : Nat) (c : sx_C), sx_w G j (h ++ [c]) = sx_w G j h ++ [(sx_b G + (j + h.length), sx_e G c)]
  | [], _, _ => rfl
  | c :: r, j, c' => by
    have ih := sx_w_app G r (j + 1) c'
    simp only [List.cons_append, sx_w, ih, List.length_cons]
    rw [show j + 1 + r.length = j + (r.length + 1) by omega]
theorem sx_D (G : sx_G) (h : sx_H) : va_D (sx_A G) (sx_w G 0 h) := by
  refine ⟨fun i j p q hp hq he => ?_, fun i q hq => ?_⟩
  · rw [sx_w_get] at hp hq
    cases h1 : h[i]? with
    | none => rw [h1] at hp; cases hp
    | some a =>
      cases h2 : h[j]? with
      | none => rw [h2] at hq; cases hq
      | some b =>
        rw [h1] at hp
        rw [h2] at hq
        cases hp
        cases hq
        simp only at he
        omega
  · rw [sx_w_get] at hq
    cases h1 : h[i]? with
    | none => rw [h1] at hq; cases hq
    | some a =>
      rw [h1] at hq
      cases hq
      exact Nat.le_add_right _ _
/-- the words that a contract takes along -/
def sx_T : List Cond := lw_tbl.filter goodWord
theorem sx_inT {w : Cond} (h : w ∈ lw_tbl) (hg : goodWord w = true) : w ∈ sx_T := List.mem_filter.mpr ⟨h, hg⟩
theorem sx_good {y : MethodName} {cc : ByteArray} {nL : Nat} {ret : Option FieldType} (h : Cond.code y cc nL ret ∈ sx_T) : GoodIn sx_T (Cond.code y cc nL ret :: sx_T) := by
  intro w hw
  have hT : w ∈ sx_T := by
    rcases List.mem_cons.mp hw with rfl | hw
    · exact h
    · exact hw
  exact ⟨hT, good_of_word (List.mem_filter.mp hT).2⟩
def sx_nest : List (String × Nat × MethodName) := [(RX11, 23, yX0_init), (RX11, 30, yX5_init), (RX11, 37, yX6_init), (RX11, 85, yX9_init), (RX11, 96, yX7_init), (RX9, 21, yX11_within)]
def sx_tys (G : sx_G) : List (ClassId × FieldType) := [(G.2.1 0, .int), (G.2.1 1, .long), (G.2.1 2, .byte), (G.2.1 3, .boolean), (G.2.1 4, .object RX7)]
/-- what the tables say, as it is carried from state to state -/
def sx_K (G : sx_G) (U : State) : Prop := va_K G.1 vwCl (sx_tys G) U ∧ va_AO RX7 U ∧ ∀ q ∈ sx_nest, va_Nw (.methodLinkNest q.1 q.2.1 q.2.2 RX11) U
def sx_most (j : Nat) : Int := match j with
  | 0 => 99
  | 1 => 1
  | 2 => 16
  | 3 => 999
  | 4 => 1999
  | _ => 16
/-- the script and the static row, which nobody writes -/
def sx_E (X : sx_X) (G : sx_G) (U : State) (H : Heap) : Prop := va_X G.2.2.1 X.1 (fun j => Int32.ofInt (X.2 j)) U H ∧ G.2.2.1 < sx_b G ∧ va_X G.2.2.2.1 6 (fun j => Int32.ofInt (sx_most j)) U H ∧ G.2.2.2.1 < sx_b G ∧ va_Z RX6 "MOST" "[I" (.ref G.2.2.2.1) (sx_A G) U H ∧ sx_b G ≤ H.size ∧ X.1 < 2147483648
theorem sx_K.moved {G : sx_G} {u U : State} (hW : u.WarmedH U.vm) (h : sx_K G u) : sx_K G U := ⟨va_K.moved hW.alike h.1, va_AO.moved hW.alike h.2.1, fun q hq => va_Nw.warmM hW (h.2.2 q hq)⟩
theorem sx_E.moved {X : sx_X} {G : sx_G} {u U : State} {H : Heap} (hvm : u.vm.Alike U.vm) (h : sx_E X G u H) : sx_E X G U H := ⟨va_X.moved hvm h.1, h.2.1, va_X.moved hvm h.2.2.1, h.2.2.2.1, va_Z.moved hvm h.2.2.2.2.1, h.2.2.2.2.2⟩
theorem sx_E.kept {X : sx_X} {G : sx_G} {U : State} {H H1 : Heap} {locs : List Loc} (h : sx_E X G U H) (hS : va_S (sx_A G) H H1 locs) : sx_E X G U H1 := by
  obtain ⟨h1, h2, h3, h4, h5, h6, h7⟩ := h
  refine ⟨h1.kept (hS.2.1 _ (by omega) (by unfold sx_A; omega)), h2, h3.kept (hS.2.1 _ (by omega) (by unfold sx_A; omega)), h4, h5.kept (fun a ha hA => hS.2.1 a ha hA), ?_, h7⟩
  have := hS.1
  omega
theorem sx_K.same {G : sx_G} {u U : State} (hv : u.vm = U.vm) (h : sx_K G u) : sx_K G U := ⟨va_K.moved (hv ▸ Vm.Alike.refl u.vm) h.1, va_AO.moved (hv ▸ Vm.Alike.refl u.vm) h.2.1, fun q hq => (h.2.2 q hq).same rfl hv⟩
/-- the heap is the abstract one -/
def sx_Wd (G : sx_G) (s : State) (h : sx_H) (H : Heap) (locs : List Loc) (k : Nat) : Prop := va_P G.1 vwCl (sx_w G 0 h) H ∧ s.heap.size + k = sx_b G + h.length ∧ va_S (sx_A G) s.heap H locs
def sx_L (G : sx_G) (nL : Nat) (lo : List (Option Value)) (ls : Array Slot) : Prop := ls.size = nL ∧ lv_wf ls ∧ ∀ (i : Nat) (v : Value), lo[i]? = some (some v) → ls[i]? = some (.val (sx_v G v))
def sx_isret (cc : ByteArray) (pc : Nat) (v : Option Value) : Prop := match v with
  | none => decode cc pc = .ok (.return_, 1)
  | some (.int _) => decode cc pc = .ok (.ireturn, 1)
  | some (.long _) => decode cc pc = .ok (.lreturn, 1)
  | some (.ref _) => decode cc pc = .ok (.areturn, 1)
  | some .null => decode cc pc = .ok (.areturn, 1)
  | _ => False
def sx_ok (ret : Option FieldType) (v : Option Value) : Prop := match v with
  | none => ret = none
  | some (.int x) => ret = some .int ∨ (ret = some .boolean ∧ (x = 0 ∨ x = 1))
  | some (.long _) => ret = some .long
  | some (.ref _) => ∃ C, ret = some (.object C)
  | some .null => ∃ C, ret = some (.object C)
  | _ => False
def sx_Cx (X : sx_X) (own : String) (ini : Bool) (cc : ByteArray) (nL d mc ms : Nat) (p : Program) (R : Room) (s : State) (m : MethodId) (args : Array Value) (meth : Method) (c : Code) (G : sx_G) : Prop :=
  p.tables.exec = Jvm.exec ∧ c.code = cc ∧ c.maxLocals = nL ∧ s.vm.findClass own = some m.cls ∧ (∀ w ∈ sx_T, w.before args s = true) ∧ sx_K G s ∧ sx_E X G s s.heap ∧ d ≤ R.frames ∧ 64 * d ≤ R.locals ∧ mc ≤ R.cells ∧ ms ≤ R.slots ∧ (ini = true → meth.name = "<init>")
/-- a run from pc, with these locals, this stack and this heap, comes to a return with Q -/
def Rn (X : sx_X) (own : String) (ini : Bool) (cc : ByteArray) (nL d mc ms : Nat) (ret : Option FieldType) (pc : Nat) (lo : List (Option Value)) (st : List Value) (h : sx_H) (k n : Nat) (Q : Option Value → sx_H → Prop) : Prop :=
  ∀ (p : Program) (l : Launch) (e : Env) (R : Room) (s : State) (m : MethodId) (args : Array Value) (below : List Frame) (meth : Method) (c : Code) (G : sx_G) (Z : State → Prop),
    sx_Cx X own ini cc nL d mc ms p R s m args meth c G →
    (∀ (v : Option Value) (pc1 : Nat) (ls1 : Array Slot) (h1 : sx_H) (H1 : Heap) (locs1 : List Loc) (k1 n1 : Nat), Q v h1 → sx_isret cc pc1 v → sx_ok ret v → k1 ≤ mc → n1 ≤ ms → sx_Wd G s h1 H1 locs1 k1 → W p l e R s m args below meth c H1 locs1 k1 n1 Z (F0 m pc1 ls1 (v.toList.map (sx_v G)))) →
    ∀ (ls : Array Slot) (H : Heap) (locs : List Loc), sx_L G nL lo ls → sx_Wd G s h H locs k → k ≤ mc → n ≤ ms → W p l e R s m args below meth c H locs k n Z (F0 m pc ls (st.map (sx_v G)))
def sx_Pre (X : sx_X) (G : sx_G) (h : sx_H) (U : State) : Prop := sx_K G U ∧ sx_E X G U U.heap ∧ va_P G.1 vwCl (sx_w G 0 h) U.heap ∧ U.heap.size = sx_b G + h.length
def sx_Qc (G : sx_G) (N : Nat) (Q : Option Value → sx_H → Prop) : Array Value → State → Outcome → State → Prop := fun _ st oc t => (∃ (v : Option Value) (h1 : sx_H), oc = .returned (v.map (sx_v G)) ∧ Q v h1 ∧ va_P G.1 vwCl (sx_w G 0 h1) t.heap ∧ h1.length = N) ∧ va_F (sx_A G) st t
/-- a method's contract over the abstract heap -/
def Ct (X : sx_X) (y : MethodName) (cc : ByteArray) (nL : Nat) (ret : Option FieldType) (d mc ms : Nat) (av : List Value) (h : sx_H) (Q : Option Value → sx_H → Prop) : Prop :=
  ∀ (l : Launch) (G : sx_G), Met l y (Cond.code y cc nL ret :: sx_T) { frames := d, cells := mc, slots := ms, locals := 64 * d } (va_Pc (av.map (sx_v G)) (sx_Pre X G h)) (sx_Qc G (h.length + mc) Q) mc ms (sx_A G)
def sx_is (v0 : Option Value) (h0 : sx_H) (v : Option Value) (h : sx_H) : Prop := v = v0 ∧ h = h0
theorem sx_blind (X : sx_X) (G : sx_G) (av : List Value) (h : sx_H) : FrameBlind (va_Pc av (sx_Pre X G h)) := by
  intro a U g mk hp
  obtain ⟨h1, h2, h3, h4, h5⟩ := hp
  exact ⟨h1, h2.same rfl, h3.moved (Vm.Alike.refl U.vm), h4, h5⟩
/-- numbers -/
theorem sx_i1 {x : Int} (h : -2147483648 ≤ x ∧ x ≤ 2147483647) : (Int32.ofInt x).toInt = x := Int32.toInt_ofInt_of_le (by omega) (by omega)
theorem sx_l1 {x : Int} (h : -9223372036854775808 ≤ x ∧ x ≤ 9223372036854775807) : (Int64.ofInt x).toInt = x := Int64.toInt_ofInt_of_le (by omega) (by omega)
theorem sx_ilt {x y : Int} (hx : -2147483648 ≤ x ∧ x ≤ 2147483647) (hy : -2147483648 ≤ y ∧ y ≤ 2147483647) : Int32.ofInt x < Int32.ofInt y ↔ x < y := by rw [Int32.lt_iff_toInt_lt, sx_i1 hx, sx_i1 hy]
theorem sx_ile {x y : Int} (hx : -2147483648 ≤ x ∧ x ≤ 2147483647) (hy : -2147483648 ≤ y ∧ y ≤ 2147483647) : Int32.ofInt x ≤ Int32.ofInt y ↔ x ≤ y := by rw [Int32.le_iff_toInt_le, sx_i1 hx, sx_i1 hy]
theorem sx_ieq {x y : Int} (hx : -2147483648 ≤ x ∧ x ≤ 2147483647) (hy : -2147483648 ≤ y ∧ y ≤ 2147483647) : Int32.ofInt x = Int32.ofInt y ↔ x = y := by rw [← Int32.toInt_inj, sx_i1 hx, sx_i1 hy]
theorem sx_llt {x y : Int} (hx : -9223372036854775808 ≤ x ∧ x ≤ 9223372036854775807) (hy : -9223372036854775808 ≤ y ∧ y ≤ 9223372036854775807) : Int64.ofInt x < Int64.ofInt y ↔ x < y := by rw [Int64.lt_iff_toInt_lt, sx_l1 hx, sx_l1 hy]
theorem sx_lle {x y : Int} (hx : -9223372036854775808 ≤ x ∧ x ≤ 9223372036854775807) (hy : -9223372036854775808 ≤ y ∧ y ≤ 9223372036854775807) : Int64.ofInt x ≤ Int64.ofInt y ↔ x ≤ y := by rw [Int64.le_iff_toInt_le, sx_l1 hx, sx_l1 hy]
theorem sx_leq {x y : Int} (hx : -9223372036854775808 ≤ x ∧ x ≤ 9223372036854775807) (hy : -9223372036854775808 ≤ y ∧ y ≤ 9223372036854775807) : Int64.ofInt x = Int64.ofInt y ↔ x = y := by rw [← Int64.toInt_inj, sx_l1 hx, sx_l1 hy]
theorem sx_i0 : (0 : Int32) = Int32.ofInt 0 := by decide
theorem sx_in {x : Int} {N : Nat} (h : 0 ≤ x ∧ x < N) (hN : x ≤ 2147483647) : vp_in (Int32.ofInt x) N := by
  rw [vp_in_iff, sx_i1 (by omega)]
  omega
theorem sx_cl {x : Int} (h : 0 ≤ x ∧ x ≤ 2147483647) : (Int32.ofInt x).toNatClampNeg = x.toNat := Int32.toNatClampNeg_ofInt_of_le (by omega) (by omega)
def sx_and (x y : Int) : Int := (Int32.ofInt x &&& Int32.ofInt y).toInt
def sx_or (x y : Int) : Int := (Int32.ofInt x ||| Int32.ofInt y).toInt
def sx_xor (x y : Int) : Int := (Int32.ofInt x ^^^ Int32.ofInt y).toInt
def sx_shl (x y : Int) : Int := (Int32.ofInt x <<< (Int32.ofInt y &&& 31)).toInt
def sx_shr (x y : Int) : Int := (Int32.ofInt x >>> (Int32.ofInt y &&& 31)).toInt
def sx_ush (x y : Int) : Int := ((Int32.ofInt x).toUInt32 >>> ((Int32.ofInt y).toUInt32 &&& Int32.toUInt32 31)).toInt32.toInt
def sx_b8 (x : Int) : Int := (Int32.ofInt x).toInt8.toInt32.toInt
def sx_b16 (x : Int) : Int := (Int32.ofInt x).toInt16.toInt32.toInt
def sx_u {α : Type} (g : Nat → α) (i : Nat) (x : α) : Nat → α := fun j => if j = i then x else g j
theorem sx_upd (g : Nat → Int) (i : Nat) (x : Int) : upd (fun j => Int32.ofInt (g j)) i (Int32.ofInt x) = fun j => Int32.ofInt (sx_u g i x j) := by
  funext j
  unfold upd sx_u
  split <;> rfl
theorem sx_updL (g : Nat → Int) (i : Nat) (x : Int) : vp_updL (fun j => Int64.ofInt (g j)) i (Int64.ofInt x) = fun j => Int64.ofInt (sx_u g i x j) := by
  funext j
  unfold vp_updL sx_u
  split <;> rfl
/-- locals -/
def sx_s1 (i : Nat) (v : Value) : Nat → List (Option Value) → List (Option Value)
  | _, [] => []
  | j, o :: r => (if j = i then some v else if j + 1 = i then (match o with | some w => if w.category = 2 then none else some w | none => none) else o) :: sx_s1 i v (j + 1) r
def sx_s2 (i : Nat) (v : Value) : Nat → List (Option Value) → List (Option Value)
  | _, [] => []
  | j, o :: r => (if j = i then some v else if j = i + 1 then none else if j + 1 = i then (match o with | some w => if w.category = 2 then none else some w | none => none) else o) :: sx_s2 i v (j + 1) r
theorem sx_s1_get (i : Nat) (v w : Value) : ∀ (lo : List (Option Value)) (j q : Nat), (sx_s1 i v j lo)[q]? = some (some w) → (j + q = i ∧ w = v) ∨ (j + q ≠ i ∧ lo[q]? = some (some w) ∧ ¬ (j + q + 1 = i ∧ w.category = 2))
  | [], j, q, h => by simp [sx_s1] at h
  | o :: r, j, 0, h => by
    simp only [sx_s1, List.getElem?_cons_zero, Option.some.injEq] at h
    by_cases h1 : j = i
    · rw [if_pos h1] at h
      exact Or.inl ⟨by omega, (Option.some.inj h).symm⟩
    · rw [if_neg h1] at h
      by_cases h2 : j + 1 = i
      · rw [if_pos h2] at h
        cases o with
        | none => cases h
        | some u =>
          simp only at h
          by_cases h3 : u.category = 2
          · rw [if_pos h3] at h; cases h
          · rw [if_neg h3] at h
            cases h
            exact Or.inr ⟨by omega, by simp, fun q => h3 q.2⟩
      · rw [if_neg h2] at h
        exact Or.inr ⟨by omega, by simp [h], fun q => h2 (by omega)⟩
  | o :: r, j, q + 1, h => by
    simp only [sx_s1, List.getElem?_cons_succ] at h
    rcases sx_s1_get i v w r (j + 1) q h with ⟨a, b⟩ | ⟨a, b, c⟩
    · exact Or.inl ⟨by omega, b⟩
    · exact Or.inr ⟨by omega, by simpa using b, fun z => c ⟨by omega, z.2⟩⟩
theorem sx_s2_get (i : Nat) (v w : Value) : ∀ (lo : List (Option Value)) (j q : Nat), (sx_s2 i v j lo)[q]? = some (some w) → (j + q = i ∧ w = v) ∨ (j + q ≠ i ∧ j + q ≠ i + 1 ∧ lo[q]? = some (some w) ∧ ¬ (j + q + 1 = i ∧ w.category = 2))
  | [], j, q, h => by simp [sx_s2] at h
  | o :: r, j, 0, h => by
    simp only [sx_s2, List.getElem?_cons_zero, Option.some.injEq] at h
    by_cases h1 : j = i
    · rw [if_pos h1] at h
      exact Or.inl ⟨by omega, (Option.some.inj h).symm⟩
    · rw [if_neg h1] at h
      by_cases h0 : j = i + 1
      · rw [if_pos h0] at h; cases h
      · rw [if_neg h0] at h
        by_cases h2 : j + 1 = i
        · rw [if_pos h2] at h
          cases o with
          | none => cases h
          | some u =>
            simp only at h
            by_cases h3 : u.category = 2
            · rw [if_pos h3] at h; cases h
            · rw [if_neg h3] at h
              cases h
              exact Or.inr ⟨by omega, by omega, by simp, fun q => h3 q.2⟩
        · rw [if_neg h2] at h
          exact Or.inr ⟨by omega, by omega, by simp [h], fun q => h2 (by omega)⟩
  | o :: r, j, q + 1, h => by
    simp only [sx_s2, List.getElem?_cons_succ] at h
    rcases sx_s2_get i v w r (j + 1) q h with ⟨a, b⟩ | ⟨a, a2, b, c⟩
    · exact Or.inl ⟨by omega, b⟩
    · exact Or.inr ⟨by omega, by omega, by simpa using b, fun z => c ⟨by omega, z.2⟩⟩
def sx_ll (G : sx_G) (lo : List (Option Value)) : List (Nat × Value) := (List.range lo.length).filterMap (fun i => match lo[i]? with | some (some v) => some (i, sx_v G v) | _ => none)
theorem sx_ll_mem {G : sx_G} {lo : List (Option Value)} {i : Nat} {v : Value} (h : lo[i]? = some (some v)) : (i, sx_v G v) ∈ sx_ll G lo := by
  refine List.mem_filterMap.mpr ⟨i, List.mem_range.mpr (List.getElem?_eq_some_iff.mp h).1, ?_⟩
  rw [h]
theorem sx_L.has {G : sx_G} {nL : Nat} {lo : List (Option Value)} {ls : Array Slot} (h : sx_L G nL lo ls) : lv_has ls nL (sx_ll G lo) := by
  refine ⟨h.1, h.2.1, fun q hq => ?_⟩
  obtain ⟨i, -, hi⟩ := List.mem_filterMap.mp hq
  cases ho : lo[i]? with
  | none => rw [ho] at hi; cases hi
  | some o =>
    cases o with
    | none => rw [ho] at hi; cases hi
    | some v =>
      rw [ho] at hi
      cases hi
      exact h.2.2 i v ho
theorem sx_v_cat (G : sx_G) (v : Value) : (sx_v G v).category = v.category := by cases v <;> rfl
theorem sx_L.s1 {G : sx_G} {nL i : Nat} {v : Value} {lo : List (Option Value)} {ls : Array Slot} (h : lv_has ls nL ((i, sx_v G v) :: (sx_ll G lo).filter (fun q => !(q.1 == i) && !(q.1 + 1 == i && q.2.category == 2)))) : sx_L G nL (sx_s1 i v 0 lo) ls := by
  refine ⟨h.1, h.2.1, fun j w hj => ?_⟩
  rcases sx_s1_get i v w lo 0 j hj with ⟨a, b⟩ | ⟨a, b, c⟩
  · subst b
    rw [show j = i by omega]
    exact h.2.2 (i, sx_v G w) List.mem_cons_self
  · refine h.2.2 (j, sx_v G w) (List.mem_cons_of_mem _ (List.mem_filter.mpr ⟨sx_ll_mem b, ?_⟩))
    simp only [sx_v_cat, Bool.and_eq_true, Bool.not_eq_true', beq_eq_false_iff_ne, Bool.and_eq_false_iff]
    refine ⟨by simpa using a, ?_⟩
    by_cases z : j + 1 = i
    · exact Or.inr (fun q => c ⟨by omega, q⟩)
    · exact Or.inl z
theorem sx_L.s2 {G : sx_G} {nL i : Nat} {v : Value} {lo : List (Option Value)} {ls : Array Slot} (h : lv_has ls nL ((i, sx_v G v) :: (sx_ll G lo).filter (fun q => !(q.1 == i) && (!(q.1 == i + 1) && !(q.1 + 1 == i && q.2.category == 2))))) : sx_L G nL (sx_s2 i v 0 lo) ls := by
  refine ⟨h.1, h.2.1, fun j w hj => ?_⟩
  rcases sx_s2_get i v w lo 0 j hj with ⟨a, b⟩ | ⟨a, a2, b, c⟩
  · subst b
    rw [show j = i by omega]
    exact h.2.2 (i, sx_v G w) List.mem_cons_self
  · refine h.2.2 (j, sx_v G w) (List.mem_cons_of_mem _ (List.mem_filter.mpr ⟨sx_ll_mem b, ?_⟩))
    simp only [sx_v_cat, Bool.and_eq_true, Bool.not_eq_true', beq_eq_false_iff_ne, Bool.and_eq_false_iff]
    refine ⟨by simpa using a, by simpa using a2, ?_⟩
    by_cases z : j + 1 = i
    · exact Or.inr (fun q => c ⟨by omega, q⟩)
    · exact Or.inl z

section
variable {X : sx_X} {own : String} {ini : Bool} {cc : ByteArray} {nL d mc ms : Nat} {ret : Option FieldType} {pc p1 : Nat} {lo : List (Option Value)} {st : List Value} {h : sx_H} {k n : Nat} {Q : Option Value → sx_H → Prop}
theorem sx_iconst {z : Int} (hd : decode cc pc = .ok (.iconst z, 1)) (hp : pc + 1 = p1) (K : Rn X own ini cc nL d mc ms ret p1 lo (vI z :: st) h k n Q) : Rn X own ini cc nL d mc ms ret pc lo (st) h k n Q := by
  subst hp
  intro p l e R s m args below meth c G Z C hr ls H locs hl hw hk hn
  exact lv_iconst C.1 C.2.1 hd rfl (K p l e R s m args below meth c G Z C hr ls H locs hl hw hk hn)
theorem sx_bipush {z : Int} (hd : decode cc pc = .ok (.bipush z, 2)) (hp : pc + 2 = p1) (hz : (Int8.ofInt z).toInt32 = Int32.ofInt z) (K : Rn X own ini cc nL d mc ms ret p1 lo (vI z :: st) h k n Q) : Rn X own ini cc nL d mc ms ret pc lo (st) h k n Q := by
  subst hp
  intro p l e R s m args below meth c G Z C hr ls H locs hl hw hk hn
  exact lv_bipush C.1 C.2.1 hd hz (K p l e R s m args below meth c G Z C hr ls H locs hl hw hk hn)
theorem sx_sipush {z : Int} (hd : decode cc pc = .ok (.sipush z, 3)) (hp : pc + 3 = p1) (hz : (Int16.ofInt z).toInt32 = Int32.ofInt z) (K : Rn X own ini cc nL d mc ms ret p1 lo (vI z :: st) h k n Q) : Rn X own ini cc nL d mc ms ret pc lo (st) h k n Q := by
  subst hp
  intro p l e R s m args below meth c G Z C hr ls H locs hl hw hk hn
  exact lv_sipush C.1 C.2.1 hd hz (K p l e R s m args below meth c G Z C hr ls H locs hl hw hk hn)
theorem sx_lconst {z : Fin 2} {y : Int} (hd : decode cc pc = .ok (.lconst z, 1)) (hp : pc + 1 = p1) (hz : Int64.ofNat (z : Nat) = Int64.ofInt y) (K : Rn X own ini cc nL d mc ms ret p1 lo (vJ y :: st) h k n Q) : Rn X own ini cc nL d mc ms ret pc lo (st) h k n Q := by
  subst hp
  intro p l e R s m args below meth c G Z C hr ls H locs hl hw hk hn
  exact lv_lconst C.1 C.2.1 hd hz (K p l e R s m args below meth c G Z C hr ls H locs hl hw hk hn)
theorem sx_ldc {z : Int} {v : Int32} {idx : Nat} (hd : decode cc pc = .ok (.ldc idx, 2)) (hp : pc + 2 = p1) (hc : Cond.constant own idx v ∈ sx_T) (hz : v = Int32.ofInt z) (K : Rn X own ini cc nL d mc ms ret p1 lo (vI z :: st) h k n Q) : Rn X own ini cc nL d mc ms ret pc lo (st) h k n Q := by
  subst hp
  intro p l e R s m args below meth c G Z C hr ls H locs hl hw hk hn
  subst hz
  exact lv_ldc C.1 C.2.1 C.2.2.2.1 (C.2.2.2.2.1 _ hc) hd (K p l e R s m args below meth c G Z C hr ls H locs hl hw hk hn)
theorem sx_ldcw {z : Int} {v : Int32} {idx : Nat} (hd : decode cc pc = .ok (.ldc_w idx, 3)) (hp : pc + 3 = p1) (hc : Cond.constant own idx v ∈ sx_T) (hz : v = Int32.ofInt z) (K : Rn X own ini cc nL d mc ms ret p1 lo (vI z :: st) h k n Q) : Rn X own ini cc nL d mc ms ret pc lo (st) h k n Q := by
  subst hp
  intro p l e R s m args below meth c G Z C hr ls H locs hl hw hk hn
  subst hz
  exact lv_ldcw C.1 C.2.1 C.2.2.2.1 (C.2.2.2.2.1 _ hc) hd (K p l e R s m args below meth c G Z C hr ls H locs hl hw hk hn)
theorem sx_ldc2 {z : Int} {v : Int64} {idx : Nat} (hd : decode cc pc = .ok (.ldc2_w idx, 3)) (hp : pc + 3 = p1) (hc : Cond.constantLong own idx v ∈ sx_T) (hz : v = Int64.ofInt z) (K : Rn X own ini cc nL d mc ms ret p1 lo (vJ z :: st) h k n Q) : Rn X own ini cc nL d mc ms ret pc lo (st) h k n Q := by
  subst hp
  intro p l e R s m args below meth c G Z C hr ls H locs hl hw hk hn
  subst hz
  exact lv_ldc2 C.1 C.2.1 C.2.2.2.1 (C.2.2.2.2.1 _ hc) hd (K p l e R s m args below meth c G Z C hr ls H locs hl hw hk hn)
theorem sx_null (hd : decode cc pc = .ok (.aconst_null, 1)) (hp : pc + 1 = p1) (K : Rn X own ini cc nL d mc ms ret p1 lo (.null :: st) h k n Q) : Rn X own ini cc nL d mc ms ret pc lo (st) h k n Q := by
  subst hp
  intro p l e R s m args below meth c G Z C hr ls H locs hl hw hk hn
  exact lv_null C.1 C.2.1 hd (K p l e R s m args below meth c G Z C hr ls H locs hl hw hk hn)
theorem sx_iload_n {i : Fin 4} {x : Int} (hd : decode cc pc = .ok (.iload_n i, 1)) (hp : pc + 1 = p1) (hx : lo[(i : Nat)]? = some (some (vI x))) (K : Rn X own ini cc nL d mc ms ret p1 lo (vI x :: st) h k n Q) : Rn X own ini cc nL d mc ms ret pc lo (st) h k n Q := by
  subst hp
  intro p l e R s m args below meth c G Z C hr ls H locs hl hw hk hn
  exact lv_iload_n C.1 C.2.1 hd rfl (hl.2.2 _ _ hx) (K p l e R s m args below meth c G Z C hr ls H locs hl hw hk hn)
theorem sx_iload {i : Nat} {x : Int} (hd : decode cc pc = .ok (.iload i, 2)) (hp : pc + 2 = p1) (hx : lo[i]? = some (some (vI x))) (K : Rn X own ini cc nL d mc ms ret p1 lo (vI x :: st) h k n Q) : Rn X own ini cc nL d mc ms ret pc lo (st) h k n Q := by
  subst hp
  intro p l e R s m args below meth c G Z C hr ls H locs hl hw hk hn
  exact lv_iload C.1 C.2.1 hd (hl.2.2 _ _ hx) (K p l e R s m args below meth c G Z C hr ls H locs hl hw hk hn)
theorem sx_lload_n {i : Fin 4} {x : Int} (hd : decode cc pc = .ok (.lload_n i, 1)) (hp : pc + 1 = p1) (hx : lo[(i : Nat)]? = some (some (vJ x))) (K : Rn X own ini cc nL d mc ms ret p1 lo (vJ x :: st) h k n Q) : Rn X own ini cc nL d mc ms ret pc lo (st) h k n Q := by
  subst hp
  intro p l e R s m args below meth c G Z C hr ls H locs hl hw hk hn
  exact lv_lload_n C.1 C.2.1 hd rfl (hl.2.2 _ _ hx) (K p l e R s m args below meth c G Z C hr ls H locs hl hw hk hn)
theorem sx_lload {i : Nat} {x : Int} (hd : decode cc pc = .ok (.lload i, 2)) (hp : pc + 2 = p1) (hx : lo[i]? = some (some (vJ x))) (K : Rn X own ini cc nL d mc ms ret p1 lo (vJ x :: st) h k n Q) : Rn X own ini cc nL d mc ms ret pc lo (st) h k n Q := by
  subst hp
  intro p l e R s m args below meth c G Z C hr ls H locs hl hw hk hn
  exact lv_lload C.1 C.2.1 hd (hl.2.2 _ _ hx) (K p l e R s m args below meth c G Z C hr ls H locs hl hw hk hn)
theorem sx_aload_n {i : Fin 4} {x : Nat} (hd : decode cc pc = .ok (.aload_n i, 1)) (hp : pc + 1 = p1) (hx : lo[(i : Nat)]? = some (some (.ref x))) (K : Rn X own ini cc nL d mc ms ret p1 lo (.ref x :: st) h k n Q) : Rn X own ini cc nL d mc ms ret pc lo (st) h k n Q := by
  subst hp
  intro p l e R s m args below meth c G Z C hr ls H locs hl hw hk hn
  exact lv_aload_n C.1 C.2.1 hd rfl (hl.2.2 _ _ hx) (K p l e R s m args below meth c G Z C hr ls H locs hl hw hk hn)
theorem sx_aload {i : Nat} {x : Nat} (hd : decode cc pc = .ok (.aload i, 2)) (hp : pc + 2 = p1) (hx : lo[i]? = some (some (.ref x))) (K : Rn X own ini cc nL d mc ms ret p1 lo (.ref x :: st) h k n Q) : Rn X own ini cc nL d mc ms ret pc lo (st) h k n Q := by
  subst hp
  intro p l e R s m args below meth c G Z C hr ls H locs hl hw hk hn
  exact lv_aload C.1 C.2.1 hd (hl.2.2 _ _ hx) (K p l e R s m args below meth c G Z C hr ls H locs hl hw hk hn)
theorem sx_aload_nN {i : Fin 4} (hd : decode cc pc = .ok (.aload_n i, 1)) (hp : pc + 1 = p1) (hx : lo[(i : Nat)]? = some (some .null)) (K : Rn X own ini cc nL d mc ms ret p1 lo (.null :: st) h k n Q) : Rn X own ini cc nL d mc ms ret pc lo (st) h k n Q := by
  subst hp
  intro p l e R s m args below meth c G Z C hr ls H locs hl hw hk hn
  exact lv_aload_nN C.1 C.2.1 hd rfl (hl.2.2 _ _ hx) (K p l e R s m args below meth c G Z C hr ls H locs hl hw hk hn)
theorem sx_aloadN {i : Nat} (hd : decode cc pc = .ok (.aload i, 2)) (hp : pc + 2 = p1) (hx : lo[i]? = some (some .null)) (K : Rn X own ini cc nL d mc ms ret p1 lo (.null :: st) h k n Q) : Rn X own ini cc nL d mc ms ret pc lo (st) h k n Q := by
  subst hp
  intro p l e R s m args below meth c G Z C hr ls H locs hl hw hk hn
  exact lv_aloadN C.1 C.2.1 hd (hl.2.2 _ _ hx) (K p l e R s m args below meth c G Z C hr ls H locs hl hw hk hn)
theorem sx_istore_n {i : Fin 4} {x : Int} {lo1 : List (Option Value)} (hd : decode cc pc = .ok (.istore_n i, 1)) (hp : pc + 1 = p1) (hi : (i : Nat) < nL) (ho : sx_s1 (i : Nat) (vI x) 0 lo = lo1) (K : Rn X own ini cc nL d mc ms ret p1 lo1 (st) h k n Q) : Rn X own ini cc nL d mc ms ret pc lo (vI x :: st) h k n Q := by
  subst hp
  intro p l e R s m args below meth c G Z C hr ls H locs hl hw hk hn
  subst ho
  exact lv_istore_n C.1 C.2.1 hd rfl hl.has hi rfl (fun ls1 hl1 => K p l e R s m args below meth c G Z C hr ls1 H locs (sx_L.s1 hl1) hw hk hn)
theorem sx_istore {i : Nat} {x : Int} {lo1 : List (Option Value)} (hd : decode cc pc = .ok (.istore i, 2)) (hp : pc + 2 = p1) (hi : i < nL) (ho : sx_s1 i (vI x) 0 lo = lo1) (K : Rn X own ini cc nL d mc ms ret p1 lo1 (st) h k n Q) : Rn X own ini cc nL d mc ms ret pc lo (vI x :: st) h k n Q := by
  subst hp
  intro p l e R s m args below meth c G Z C hr ls H locs hl hw hk hn
  subst ho
  exact lv_istore C.1 C.2.1 hd hl.has hi rfl (fun ls1 hl1 => K p l e R s m args below meth c G Z C hr ls1 H locs (sx_L.s1 hl1) hw hk hn)
theorem sx_astore_n {i : Fin 4} {x : Nat} {lo1 : List (Option Value)} (hd : decode cc pc = .ok (.astore_n i, 1)) (hp : pc + 1 = p1) (hi : (i : Nat) < nL) (ho : sx_s1 (i : Nat) (.ref x) 0 lo = lo1) (K : Rn X own ini cc nL d mc ms ret p1 lo1 (st) h k n Q) : Rn X own ini cc nL d mc ms ret pc lo (.ref x :: st) h k n Q := by
  subst hp
  intro p l e R s m args below meth c G Z C hr ls H locs hl hw hk hn
  subst ho
  exact lv_astore_n C.1 C.2.1 hd rfl hl.has hi rfl (fun ls1 hl1 => K p l e R s m args below meth c G Z C hr ls1 H locs (sx_L.s1 hl1) hw hk hn)
theorem sx_astore {i : Nat} {x : Nat} {lo1 : List (Option Value)} (hd : decode cc pc = .ok (.astore i, 2)) (hp : pc + 2 = p1) (hi : i < nL) (ho : sx_s1 i (.ref x) 0 lo = lo1) (K : Rn X own ini cc nL d mc ms ret p1 lo1 (st) h k n Q) : Rn X own ini cc nL d mc ms ret pc lo (.ref x :: st) h k n Q := by
  subst hp
  intro p l e R s m args below meth c G Z C hr ls H locs hl hw hk hn
  subst ho
  exact lv_astore C.1 C.2.1 hd hl.has hi rfl (fun ls1 hl1 => K p l e R s m args below meth c G Z C hr ls1 H locs (sx_L.s1 hl1) hw hk hn)
theorem sx_lstore_n {i : Fin 4} {x : Int} {lo1 : List (Option Value)} (hd : decode cc pc = .ok (.lstore_n i, 1)) (hp : pc + 1 = p1) (hi : (i : Nat) + 1 < nL) (ho : sx_s2 (i : Nat) (vJ x) 0 lo = lo1) (K : Rn X own ini cc nL d mc ms ret p1 lo1 (st) h k n Q) : Rn X own ini cc nL d mc ms ret pc lo (vJ x :: st) h k n Q := by
  subst hp
  intro p l e R s m args below meth c G Z C hr ls H locs hl hw hk hn
  subst ho
  exact lv_lstore_n C.1 C.2.1 hd rfl hl.has hi rfl (fun ls1 hl1 => K p l e R s m args below meth c G Z C hr ls1 H locs (sx_L.s2 hl1) hw hk hn)
theorem sx_lstore {i : Nat} {x : Int} {lo1 : List (Option Value)} (hd : decode cc pc = .ok (.lstore i, 2)) (hp : pc + 2 = p1) (hi : i + 1 < nL) (ho : sx_s2 i (vJ x) 0 lo = lo1) (K : Rn X own ini cc nL d mc ms ret p1 lo1 (st) h k n Q) : Rn X own ini cc nL d mc ms ret pc lo (vJ x :: st) h k n Q := by
  subst hp
  intro p l e R s m args below meth c G Z C hr ls H locs hl hw hk hn
  subst ho
  exact lv_lstore C.1 C.2.1 hd hl.has hi rfl (fun ls1 hl1 => K p l e R s m args below meth c G Z C hr ls1 H locs (sx_L.s2 hl1) hw hk hn)
theorem sx_astore_nN {i : Fin 4} {lo1 : List (Option Value)} (hd : decode cc pc = .ok (.astore_n i, 1)) (hp : pc + 1 = p1) (hi : (i : Nat) < nL) (ho : sx_s1 (i : Nat) .null 0 lo = lo1) (K : Rn X own ini cc nL d mc ms ret p1 lo1 (st) h k n Q) : Rn X own ini cc nL d mc ms ret pc lo (.null :: st) h k n Q := by
  subst hp
  intro p l e R s m args below meth c G Z C hr ls H locs hl hw hk hn
  subst ho
  exact lv_astore_nN C.1 C.2.1 hd rfl hl.has hi rfl (fun ls1 hl1 => K p l e R s m args below meth c G Z C hr ls1 H locs (sx_L.s1 hl1) hw hk hn)
theorem sx_astoreN {i : Nat} {lo1 : List (Option Value)} (hd : decode cc pc = .ok (.astore i, 2)) (hp : pc + 2 = p1) (hi : i < nL) (ho : sx_s1 i .null 0 lo = lo1) (K : Rn X own ini cc nL d mc ms ret p1 lo1 (st) h k n Q) : Rn X own ini cc nL d mc ms ret pc lo (.null :: st) h k n Q := by
  subst hp
  intro p l e R s m args below meth c G Z C hr ls H locs hl hw hk hn
  subst ho
  exact lv_astoreN C.1 C.2.1 hd hl.has hi rfl (fun ls1 hl1 => K p l e R s m args below meth c G Z C hr ls1 H locs (sx_L.s1 hl1) hw hk hn)
theorem sx_iinc {i : Nat} {x z : Int} {lo1 : List (Option Value)} (hd : decode cc pc = .ok (.iinc i z, 3)) (hp : pc + 3 = p1) (hi : i < nL) (hx : lo[i]? = some (some (vI x))) (ho : sx_s1 i (vI (x + z)) 0 lo = lo1) (K : Rn X own ini cc nL d mc ms ret p1 lo1 (st) h k n Q) : Rn X own ini cc nL d mc ms ret pc lo (st) h k n Q := by
  subst hp
  intro p l e R s m args below meth c G Z C hr ls H locs hl hw hk hn
  subst ho
  obtain ⟨q, hq⟩ := List.getElem?_of_mem (sx_ll_mem (G := G) hx)
  exact lv_iinc (v := Int32.ofInt (x + z)) C.1 C.2.1 hd hl.has hq (Int32.ofInt_add x z).symm hi rfl (fun ls1 hl1 => K p l e R s m args below meth c G Z C hr ls1 H locs (sx_L.s1 hl1) hw hk hn)
theorem sx_iadd {x y : Int} (hd : decode cc pc = .ok (.iadd, 1)) (hp : pc + 1 = p1) (K : Rn X own ini cc nL d mc ms ret p1 lo (vI (x + y) :: st) h k n Q) : Rn X own ini cc nL d mc ms ret pc lo (vI y :: vI x :: st) h k n Q := by
  subst hp
  intro p l e R s m args below meth c G Z C hr ls H locs hl hw hk hn
  refine lv_iadd C.1 C.2.1 hd ?_
  rw [← Int32.ofInt_add]
  exact K p l e R s m args below meth c G Z C hr ls H locs hl hw hk hn
theorem sx_isub {x y : Int} (hd : decode cc pc = .ok (.isub, 1)) (hp : pc + 1 = p1) (K : Rn X own ini cc nL d mc ms ret p1 lo (vI (x - y) :: st) h k n Q) : Rn X own ini cc nL d mc ms ret pc lo (vI y :: vI x :: st) h k n Q := by
  subst hp
  intro p l e R s m args below meth c G Z C hr ls H locs hl hw hk hn
  refine lv_isub C.1 C.2.1 hd ?_
  rw [← Int32.ofInt_sub]
  exact K p l e R s m args below meth c G Z C hr ls H locs hl hw hk hn
theorem sx_imul {x y : Int} (hd : decode cc pc = .ok (.imul, 1)) (hp : pc + 1 = p1) (K : Rn X own ini cc nL d mc ms ret p1 lo (vI (x * y) :: st) h k n Q) : Rn X own ini cc nL d mc ms ret pc lo (vI y :: vI x :: st) h k n Q := by
  subst hp
  intro p l e R s m args below meth c G Z C hr ls H locs hl hw hk hn
  refine lv_imul C.1 C.2.1 hd ?_
  rw [← Int32.ofInt_mul]
  exact K p l e R s m args below meth c G Z C hr ls H locs hl hw hk hn
theorem sx_ladd {x y : Int} (hd : decode cc pc = .ok (.ladd, 1)) (hp : pc + 1 = p1) (K : Rn X own ini cc nL d mc ms ret p1 lo (vJ (x + y) :: st) h k n Q) : Rn X own ini cc nL d mc ms ret pc lo (vJ y :: vJ x :: st) h k n Q := by
  subst hp
  intro p l e R s m args below meth c G Z C hr ls H locs hl hw hk hn
  refine lv_ladd C.1 C.2.1 hd ?_
  rw [← Int64.ofInt_add]
  exact K p l e R s m args below meth c G Z C hr ls H locs hl hw hk hn
theorem sx_lsub {x y : Int} (hd : decode cc pc = .ok (.lsub, 1)) (hp : pc + 1 = p1) (K : Rn X own ini cc nL d mc ms ret p1 lo (vJ (x - y) :: st) h k n Q) : Rn X own ini cc nL d mc ms ret pc lo (vJ y :: vJ x :: st) h k n Q := by
  subst hp
  intro p l e R s m args below meth c G Z C hr ls H locs hl hw hk hn
  refine lv_lsub C.1 C.2.1 hd ?_
  rw [← Int64.ofInt_sub]
  exact K p l e R s m args below meth c G Z C hr ls H locs hl hw hk hn
theorem sx_lmul {x y : Int} (hd : decode cc pc = .ok (.lmul, 1)) (hp : pc + 1 = p1) (K : Rn X own ini cc nL d mc ms ret p1 lo (vJ (x * y) :: st) h k n Q) : Rn X own ini cc nL d mc ms ret pc lo (vJ y :: vJ x :: st) h k n Q := by
  subst hp
  intro p l e R s m args below meth c G Z C hr ls H locs hl hw hk hn
  refine lv_lmul C.1 C.2.1 hd ?_
  rw [← Int64.ofInt_mul]
  exact K p l e R s m args below meth c G Z C hr ls H locs hl hw hk hn
theorem sx_iand {x y : Int} (hd : decode cc pc = .ok (.iand, 1)) (hp : pc + 1 = p1) (K : Rn X own ini cc nL d mc ms ret p1 lo (vI (sx_and x y) :: st) h k n Q) : Rn X own ini cc nL d mc ms ret pc lo (vI y :: vI x :: st) h k n Q := by
  subst hp
  intro p l e R s m args below meth c G Z C hr ls H locs hl hw hk hn
  refine lv_iand C.1 C.2.1 hd ?_
  rw [show Int32.ofInt x &&& Int32.ofInt y = Int32.ofInt (sx_and x y) from (Int32.ofInt_toInt _).symm]
  exact K p l e R s m args below meth c G Z C hr ls H locs hl hw hk hn
theorem sx_ior {x y : Int} (hd : decode cc pc = .ok (.ior, 1)) (hp : pc + 1 = p1) (K : Rn X own ini cc nL d mc ms ret p1 lo (vI (sx_or x y) :: st) h k n Q) : Rn X own ini cc nL d mc ms ret pc lo (vI y :: vI x :: st) h k n Q := by
  subst hp
  intro p l e R s m args below meth c G Z C hr ls H locs hl hw hk hn
  refine lv_ior C.1 C.2.1 hd ?_
  rw [show Int32.ofInt x ||| Int32.ofInt y = Int32.ofInt (sx_or x y) from (Int32.ofInt_toInt _).symm]
  exact K p l e R s m args below meth c G Z C hr ls H locs hl hw hk hn
theorem sx_ixor {x y : Int} (hd : decode cc pc = .ok (.ixor, 1)) (hp : pc + 1 = p1) (K : Rn X own ini cc nL d mc ms ret p1 lo (vI (sx_xor x y) :: st) h k n Q) : Rn X own ini cc nL d mc ms ret pc lo (vI y :: vI x :: st) h k n Q := by
  subst hp
  intro p l e R s m args below meth c G Z C hr ls H locs hl hw hk hn
  refine lv_ixor C.1 C.2.1 hd ?_
  rw [show Int32.ofInt x ^^^ Int32.ofInt y = Int32.ofInt (sx_xor x y) from (Int32.ofInt_toInt _).symm]
  exact K p l e R s m args below meth c G Z C hr ls H locs hl hw hk hn
theorem sx_ishl {x y : Int} (hd : decode cc pc = .ok (.ishl, 1)) (hp : pc + 1 = p1) (K : Rn X own ini cc nL d mc ms ret p1 lo (vI (sx_shl x y) :: st) h k n Q) : Rn X own ini cc nL d mc ms ret pc lo (vI y :: vI x :: st) h k n Q := by
  subst hp
  intro p l e R s m args below meth c G Z C hr ls H locs hl hw hk hn
  refine lv_ishl C.1 C.2.1 hd ?_
  rw [show Int32.ofInt x <<< (Int32.ofInt y &&& 31) = Int32.ofInt (sx_shl x y) from (Int32.ofInt_toInt _).symm]
  exact K p l e R s m args below meth c G Z C hr ls H locs hl hw hk hn
theorem sx_ishr {x y : Int} (hd : decode cc pc = .ok (.ishr, 1)) (hp : pc + 1 = p1) (K : Rn X own ini cc nL d mc ms ret p1 lo (vI (sx_shr x y) :: st) h k n Q) : Rn X own ini cc nL d mc ms ret pc lo (vI y :: vI x :: st) h k n Q := by
  subst hp
  intro p l e R s m args below meth c G Z C hr ls H locs hl hw hk hn
  refine lv_ishr C.1 C.2.1 hd ?_
  rw [show Int32.ofInt x >>> (Int32.ofInt y &&& 31) = Int32.ofInt (sx_shr x y) from (Int32.ofInt_toInt _).symm]
  exact K p l e R s m args below meth c G Z C hr ls H locs hl hw hk hn
theorem sx_iushr {x y : Int} (hd : decode cc pc = .ok (.iushr, 1)) (hp : pc + 1 = p1) (K : Rn X own ini cc nL d mc ms ret p1 lo (vI (sx_ush x y) :: st) h k n Q) : Rn X own ini cc nL d mc ms ret pc lo (vI y :: vI x :: st) h k n Q := by
  subst hp
  intro p l e R s m args below meth c G Z C hr ls H locs hl hw hk hn
  exact lv_iushr C.1 C.2.1 hd (Int32.ofInt_toInt _).symm (K p l e R s m args below meth c G Z C hr ls H locs hl hw hk hn)
theorem sx_i2b {x : Int} (hd : decode cc pc = .ok (.i2b, 1)) (hp : pc + 1 = p1) (K : Rn X own ini cc nL d mc ms ret p1 lo (vI (sx_b8 x) :: st) h k n Q) : Rn X own ini cc nL d mc ms ret pc lo (vI x :: st) h k n Q := by
  subst hp
  intro p l e R s m args below meth c G Z C hr ls H locs hl hw hk hn
  exact lv_i2b C.1 C.2.1 hd (Int32.ofInt_toInt _).symm (K p l e R s m args below meth c G Z C hr ls H locs hl hw hk hn)
theorem sx_i2s {x : Int} (hd : decode cc pc = .ok (.i2s, 1)) (hp : pc + 1 = p1) (K : Rn X own ini cc nL d mc ms ret p1 lo (vI (sx_b16 x) :: st) h k n Q) : Rn X own ini cc nL d mc ms ret pc lo (vI x :: st) h k n Q := by
  subst hp
  intro p l e R s m args below meth c G Z C hr ls H locs hl hw hk hn
  exact lv_i2s C.1 C.2.1 hd (Int32.ofInt_toInt _).symm (K p l e R s m args below meth c G Z C hr ls H locs hl hw hk hn)
theorem sx_i2l {x : Int} (hd : decode cc pc = .ok (.i2l, 1)) (hp : pc + 1 = p1) (hx : -2147483648 ≤ x ∧ x ≤ 2147483647) (K : Rn X own ini cc nL d mc ms ret p1 lo (vJ x :: st) h k n Q) : Rn X own ini cc nL d mc ms ret pc lo (vI x :: st) h k n Q := by
  subst hp
  intro p l e R s m args below meth c G Z C hr ls H locs hl hw hk hn
  exact lv_i2l C.1 C.2.1 hd (Int64.toInt.inj (by rw [Int32.toInt_toInt64, sx_i1 hx, sx_l1 (by omega)])) (K p l e R s m args below meth c G Z C hr ls H locs hl hw hk hn)
theorem sx_div_ok {x y : Int} (hx : 0 ≤ x ∧ x ≤ 2147483647) (hy : 0 < y ∧ y ≤ 2147483647) : Int32.ofInt x / Int32.ofInt y = Int32.ofInt (x / y) := by
  rw [← Int.tdiv_eq_ediv_of_nonneg hx.1, Int32.ofInt_tdiv (by show (-2147483648 : Int) ≤ x; omega) (by show x ≤ (2147483647 : Int); omega) (by show (-2147483648 : Int) ≤ y; omega) (by show y ≤ (2147483647 : Int); omega)]
theorem sx_divL_ok {x y : Int} (hx : 0 ≤ x ∧ x ≤ 9223372036854775807) (hy : 0 < y ∧ y ≤ 9223372036854775807) : Int64.ofInt x / Int64.ofInt y = Int64.ofInt (x / y) := by
  rw [← Int.tdiv_eq_ediv_of_nonneg hx.1, Int64.ofInt_tdiv (by show (-9223372036854775808 : Int) ≤ x; omega) (by show x ≤ (9223372036854775807 : Int); omega) (by show (-9223372036854775808 : Int) ≤ y; omega) (by show y ≤ (9223372036854775807 : Int); omega)]
theorem sx_mod_id (x y : Int) : x - x / y * y = x % y := by
  have h := Int.emod_add_mul_ediv x y
  rw [Int.mul_comm] at h
  omega
theorem sx_idiv {x y : Int} (hd : decode cc pc = .ok (.idiv, 1)) (hp : pc + 1 = p1) (hx : 0 ≤ x ∧ x ≤ 2147483647) (hy : 0 < y ∧ y ≤ 2147483647) (K : Rn X own ini cc nL d mc ms ret p1 lo (vI (x / y) :: st) h k n Q) : Rn X own ini cc nL d mc ms ret pc lo (vI y :: vI x :: st) h k n Q := by
  subst hp
  intro p l e R s m args below meth c G Z C hr ls H locs hl hw hk hn
  refine lv_idiv C.1 C.2.1 hd (fun q => ?_) ?_
  · rw [sx_i0, sx_ieq (by omega) (by omega)] at q
    omega
  · rw [sx_div_ok hx hy]
    exact K p l e R s m args below meth c G Z C hr ls H locs hl hw hk hn
theorem sx_irem {x y : Int} (hd : decode cc pc = .ok (.irem, 1)) (hp : pc + 1 = p1) (hx : 0 ≤ x ∧ x ≤ 2147483647) (hy : 0 < y ∧ y ≤ 2147483647) (K : Rn X own ini cc nL d mc ms ret p1 lo (vI (x % y) :: st) h k n Q) : Rn X own ini cc nL d mc ms ret pc lo (vI y :: vI x :: st) h k n Q := by
  subst hp
  intro p l e R s m args below meth c G Z C hr ls H locs hl hw hk hn
  refine lv_irem C.1 C.2.1 hd (fun q => ?_) ?_
  · rw [sx_i0, sx_ieq (by omega) (by omega)] at q
    omega
  · rw [sx_div_ok hx hy, ← Int32.ofInt_mul, ← Int32.ofInt_sub, sx_mod_id]
    exact K p l e R s m args below meth c G Z C hr ls H locs hl hw hk hn
theorem sx_ldiv {x y : Int} (hd : decode cc pc = .ok (.ldiv, 1)) (hp : pc + 1 = p1) (hx : 0 ≤ x ∧ x ≤ 9223372036854775807) (hy : 0 < y ∧ y ≤ 9223372036854775807) (K : Rn X own ini cc nL d mc ms ret p1 lo (vJ (x / y) :: st) h k n Q) : Rn X own ini cc nL d mc ms ret pc lo (vJ y :: vJ x :: st) h k n Q := by
  subst hp
  intro p l e R s m args below meth c G Z C hr ls H locs hl hw hk hn
  refine lv_ldiv C.1 C.2.1 hd (fun q => ?_) ?_
  · rw [show (0 : Int64) = Int64.ofInt 0 by decide, sx_leq (by omega) (by omega)] at q
    omega
  · rw [sx_divL_ok hx hy]
    exact K p l e R s m args below meth c G Z C hr ls H locs hl hw hk hn
theorem sx_lrem {x y : Int} (hd : decode cc pc = .ok (.lrem, 1)) (hp : pc + 1 = p1) (hx : 0 ≤ x ∧ x ≤ 9223372036854775807) (hy : 0 < y ∧ y ≤ 9223372036854775807) (K : Rn X own ini cc nL d mc ms ret p1 lo (vJ (x % y) :: st) h k n Q) : Rn X own ini cc nL d mc ms ret pc lo (vJ y :: vJ x :: st) h k n Q := by
  subst hp
  intro p l e R s m args below meth c G Z C hr ls H locs hl hw hk hn
  refine lv_lrem C.1 C.2.1 hd (fun q => ?_) ?_
  · rw [show (0 : Int64) = Int64.ofInt 0 by decide, sx_leq (by omega) (by omega)] at q
    omega
  · rw [sx_divL_ok hx hy, ← Int64.ofInt_mul, ← Int64.ofInt_sub, sx_mod_id]
    exact K p l e R s m args below meth c G Z C hr ls H locs hl hw hk hn
theorem sx_dup {v : Value} (hd : decode cc pc = .ok (.dup, 1)) (hp : pc + 1 = p1) (hv : v.category = 1) (K : Rn X own ini cc nL d mc ms ret p1 lo (v :: v :: st) h k n Q) : Rn X own ini cc nL d mc ms ret pc lo (v :: st) h k n Q := by
  subst hp
  intro p l e R s m args below meth c G Z C hr ls H locs hl hw hk hn
  exact lv_dup C.1 C.2.1 hd (by rw [sx_v_cat]; exact hv) (K p l e R s m args below meth c G Z C hr ls H locs hl hw hk hn)
theorem sx_pop {v : Value} (hd : decode cc pc = .ok (.pop, 1)) (hp : pc + 1 = p1) (hv : v.category = 1) (K : Rn X own ini cc nL d mc ms ret p1 lo (st) h k n Q) : Rn X own ini cc nL d mc ms ret pc lo (v :: st) h k n Q := by
  subst hp
  intro p l e R s m args below meth c G Z C hr ls H locs hl hw hk hn
  exact lv_pop C.1 C.2.1 hd (by rw [sx_v_cat]; exact hv) (K p l e R s m args below meth c G Z C hr ls H locs hl hw hk hn)
theorem sx_pop2 {v : Value} (hd : decode cc pc = .ok (.pop2, 1)) (hp : pc + 1 = p1) (hv : v.category = 2) (K : Rn X own ini cc nL d mc ms ret p1 lo (st) h k n Q) : Rn X own ini cc nL d mc ms ret pc lo (v :: st) h k n Q := by
  subst hp
  intro p l e R s m args below meth c G Z C hr ls H locs hl hw hk hn
  exact lv_pop2_2 C.1 C.2.1 hd (by rw [sx_v_cat]; exact hv) (K p l e R s m args below meth c G Z C hr ls H locs hl hw hk hn)
theorem sx_dup2 {v v2 : Value} (hd : decode cc pc = .ok (.dup2, 1)) (hp : pc + 1 = p1) (hv : v.category = 1) (hv2 : v2.category = 1) (K : Rn X own ini cc nL d mc ms ret p1 lo (v :: v2 :: v :: v2 :: st) h k n Q) : Rn X own ini cc nL d mc ms ret pc lo (v :: v2 :: st) h k n Q := by
  subst hp
  intro p l e R s m args below meth c G Z C hr ls H locs hl hw hk hn
  exact lv_dup2_11 C.1 C.2.1 hd (by rw [sx_v_cat]; exact hv) (by rw [sx_v_cat]; exact hv2) (K p l e R s m args below meth c G Z C hr ls H locs hl hw hk hn)
theorem sx_icmp_eq {x y off : Int} {tg : Nat} (hd : decode cc pc = .ok (.if_icmp .eq off, 3)) (hp : pc + 3 = p1) (ht : (pc : Int) + off = (tg : Int)) (hx : -2147483648 ≤ x ∧ x ≤ 2147483647) (hy : -2147483648 ≤ y ∧ y ≤ 2147483647) (kt : x = y → Rn X own ini cc nL d mc ms ret tg lo (st) h k n Q) (kf : x ≠ y → Rn X own ini cc nL d mc ms ret p1 lo (st) h k n Q) : Rn X own ini cc nL d mc ms ret pc lo (vI y :: vI x :: st) h k n Q := by
  subst hp
  intro p l e R s m args below meth c G Z C hr ls H locs hl hw hk hn
  exact lv_icmp_eq C.1 C.2.1 hd ht (fun q => kt ((sx_ieq hx hy).mp q) p l e R s m args below meth c G Z C hr ls H locs hl hw hk hn) (fun q => kf (fun q0 => q ((sx_ieq hx hy).mpr q0)) p l e R s m args below meth c G Z C hr ls H locs hl hw hk hn)
theorem sx_if_eq {x off : Int} {tg : Nat} (hd : decode cc pc = .ok (.ifCond .eq off, 3)) (hp : pc + 3 = p1) (ht : (pc : Int) + off = (tg : Int)) (hx : -2147483648 ≤ x ∧ x ≤ 2147483647) (kt : x = 0 → Rn X own ini cc nL d mc ms ret tg lo (st) h k n Q) (kf : x ≠ 0 → Rn X own ini cc nL d mc ms ret p1 lo (st) h k n Q) : Rn X own ini cc nL d mc ms ret pc lo (vI x :: st) h k n Q := by
  subst hp
  intro p l e R s m args below meth c G Z C hr ls H locs hl hw hk hn
  have e0 : (0 : Int32) = Int32.ofInt 0 := sx_i0
  refine lv_if_eq C.1 C.2.1 hd ht (fun q => ?_) (fun q => ?_)
  · rw [e0] at q
    exact kt ((sx_ieq hx (show (-2147483648 : Int) ≤ 0 ∧ (0 : Int) ≤ 2147483647 by omega)).mp q) p l e R s m args below meth c G Z C hr ls H locs hl hw hk hn
  · rw [e0] at q
    exact kf (fun q0 => q ((sx_ieq hx (show (-2147483648 : Int) ≤ 0 ∧ (0 : Int) ≤ 2147483647 by omega)).mpr q0)) p l e R s m args below meth c G Z C hr ls H locs hl hw hk hn
theorem sx_icmp_ne {x y off : Int} {tg : Nat} (hd : decode cc pc = .ok (.if_icmp .ne off, 3)) (hp : pc + 3 = p1) (ht : (pc : Int) + off = (tg : Int)) (hx : -2147483648 ≤ x ∧ x ≤ 2147483647) (hy : -2147483648 ≤ y ∧ y ≤ 2147483647) (kt : x ≠ y → Rn X own ini cc nL d mc ms ret tg lo (st) h k n Q) (kf : x = y → Rn X own ini cc nL d mc ms ret p1 lo (st) h k n Q) : Rn X own ini cc nL d mc ms ret pc lo (vI y :: vI x :: st) h k n Q := by
  subst hp
  intro p l e R s m args below meth c G Z C hr ls H locs hl hw hk hn
  exact lv_icmp_ne C.1 C.2.1 hd ht (fun q => kt (fun q0 => q ((sx_ieq hx hy).mpr q0)) p l e R s m args below meth c G Z C hr ls H locs hl hw hk hn) (fun q => kf ((sx_ieq hx hy).mp q) p l e R s m args below meth c G Z C hr ls H locs hl hw hk hn)
theorem sx_if_ne {x off : Int} {tg : Nat} (hd : decode cc pc = .ok (.ifCond .ne off, 3)) (hp : pc + 3 = p1) (ht : (pc : Int) + off = (tg : Int)) (hx : -2147483648 ≤ x ∧ x ≤ 2147483647) (kt : x ≠ 0 → Rn X own ini cc nL d mc ms ret tg lo (st) h k n Q) (kf : x = 0 → Rn X own ini cc nL d mc ms ret p1 lo (st) h k n Q) : Rn X own ini cc nL d mc ms ret pc lo (vI x :: st) h k n Q := by
  subst hp
  intro p l e R s m args below meth c G Z C hr ls H locs hl hw hk hn
  have e0 : (0 : Int32) = Int32.ofInt 0 := sx_i0
  refine lv_if_ne C.1 C.2.1 hd ht (fun q => ?_) (fun q => ?_)
  · rw [e0] at q
    exact kt (fun q0 => q ((sx_ieq hx (show (-2147483648 : Int) ≤ 0 ∧ (0 : Int) ≤ 2147483647 by omega)).mpr q0)) p l e R s m args below meth c G Z C hr ls H locs hl hw hk hn
  · rw [e0] at q
    exact kf ((sx_ieq hx (show (-2147483648 : Int) ≤ 0 ∧ (0 : Int) ≤ 2147483647 by omega)).mp q) p l e R s m args below meth c G Z C hr ls H locs hl hw hk hn
theorem sx_icmp_lt {x y off : Int} {tg : Nat} (hd : decode cc pc = .ok (.if_icmp .lt off, 3)) (hp : pc + 3 = p1) (ht : (pc : Int) + off = (tg : Int)) (hx : -2147483648 ≤ x ∧ x ≤ 2147483647) (hy : -2147483648 ≤ y ∧ y ≤ 2147483647) (kt : x < y → Rn X own ini cc nL d mc ms ret tg lo (st) h k n Q) (kf : y ≤ x → Rn X own ini cc nL d mc ms ret p1 lo (st) h k n Q) : Rn X own ini cc nL d mc ms ret pc lo (vI y :: vI x :: st) h k n Q := by
  subst hp
  intro p l e R s m args below meth c G Z C hr ls H locs hl hw hk hn
  exact lv_icmp_lt C.1 C.2.1 hd ht (fun q => kt ((sx_ilt hx hy).mp q) p l e R s m args below meth c G Z C hr ls H locs hl hw hk hn) (fun q => kf (Int.not_lt.mp (fun q0 => q ((sx_ilt hx hy).mpr q0))) p l e R s m args below meth c G Z C hr ls H locs hl hw hk hn)
theorem sx_if_lt {x off : Int} {tg : Nat} (hd : decode cc pc = .ok (.ifCond .lt off, 3)) (hp : pc + 3 = p1) (ht : (pc : Int) + off = (tg : Int)) (hx : -2147483648 ≤ x ∧ x ≤ 2147483647) (kt : x < 0 → Rn X own ini cc nL d mc ms ret tg lo (st) h k n Q) (kf : 0 ≤ x → Rn X own ini cc nL d mc ms ret p1 lo (st) h k n Q) : Rn X own ini cc nL d mc ms ret pc lo (vI x :: st) h k n Q := by
  subst hp
  intro p l e R s m args below meth c G Z C hr ls H locs hl hw hk hn
  have e0 : (0 : Int32) = Int32.ofInt 0 := sx_i0
  refine lv_if_lt C.1 C.2.1 hd ht (fun q => ?_) (fun q => ?_)
  · rw [e0] at q
    exact kt ((sx_ilt hx (show (-2147483648 : Int) ≤ 0 ∧ (0 : Int) ≤ 2147483647 by omega)).mp q) p l e R s m args below meth c G Z C hr ls H locs hl hw hk hn
  · rw [e0] at q
    exact kf (Int.not_lt.mp (fun q0 => q ((sx_ilt hx (show (-2147483648 : Int) ≤ 0 ∧ (0 : Int) ≤ 2147483647 by omega)).mpr q0))) p l e R s m args below meth c G Z C hr ls H locs hl hw hk hn
theorem sx_icmp_ge {x y off : Int} {tg : Nat} (hd : decode cc pc = .ok (.if_icmp .ge off, 3)) (hp : pc + 3 = p1) (ht : (pc : Int) + off = (tg : Int)) (hx : -2147483648 ≤ x ∧ x ≤ 2147483647) (hy : -2147483648 ≤ y ∧ y ≤ 2147483647) (kt : y ≤ x → Rn X own ini cc nL d mc ms ret tg lo (st) h k n Q) (kf : x < y → Rn X own ini cc nL d mc ms ret p1 lo (st) h k n Q) : Rn X own ini cc nL d mc ms ret pc lo (vI y :: vI x :: st) h k n Q := by
  subst hp
  intro p l e R s m args below meth c G Z C hr ls H locs hl hw hk hn
  exact lv_icmp_ge C.1 C.2.1 hd ht (fun q => kt ((sx_ile hy hx).mp q) p l e R s m args below meth c G Z C hr ls H locs hl hw hk hn) (fun q => kf (Int.not_le.mp (fun q0 => q ((sx_ile hy hx).mpr q0))) p l e R s m args below meth c G Z C hr ls H locs hl hw hk hn)
theorem sx_if_ge {x off : Int} {tg : Nat} (hd : decode cc pc = .ok (.ifCond .ge off, 3)) (hp : pc + 3 = p1) (ht : (pc : Int) + off = (tg : Int)) (hx : -2147483648 ≤ x ∧ x ≤ 2147483647) (kt : 0 ≤ x → Rn X own ini cc nL d mc ms ret tg lo (st) h k n Q) (kf : x < 0 → Rn X own ini cc nL d mc ms ret p1 lo (st) h k n Q) : Rn X own ini cc nL d mc ms ret pc lo (vI x :: st) h k n Q := by
  subst hp
  intro p l e R s m args below meth c G Z C hr ls H locs hl hw hk hn
  have e0 : (0 : Int32) = Int32.ofInt 0 := sx_i0
  refine lv_if_ge C.1 C.2.1 hd ht (fun q => ?_) (fun q => ?_)
  · rw [e0] at q
    exact kt ((sx_ile (show (-2147483648 : Int) ≤ 0 ∧ (0 : Int) ≤ 2147483647 by omega) hx).mp q) p l e R s m args below meth c G Z C hr ls H locs hl hw hk hn
  · rw [e0] at q
    exact kf (Int.not_le.mp (fun q0 => q ((sx_ile (show (-2147483648 : Int) ≤ 0 ∧ (0 : Int) ≤ 2147483647 by omega) hx).mpr q0))) p l e R s m args below meth c G Z C hr ls H locs hl hw hk hn
theorem sx_icmp_gt {x y off : Int} {tg : Nat} (hd : decode cc pc = .ok (.if_icmp .gt off, 3)) (hp : pc + 3 = p1) (ht : (pc : Int) + off = (tg : Int)) (hx : -2147483648 ≤ x ∧ x ≤ 2147483647) (hy : -2147483648 ≤ y ∧ y ≤ 2147483647) (kt : y < x → Rn X own ini cc nL d mc ms ret tg lo (st) h k n Q) (kf : x ≤ y → Rn X own ini cc nL d mc ms ret p1 lo (st) h k n Q) : Rn X own ini cc nL d mc ms ret pc lo (vI y :: vI x :: st) h k n Q := by
  subst hp
  intro p l e R s m args below meth c G Z C hr ls H locs hl hw hk hn
  exact lv_icmp_gt C.1 C.2.1 hd ht (fun q => kt ((sx_ilt hy hx).mp q) p l e R s m args below meth c G Z C hr ls H locs hl hw hk hn) (fun q => kf (Int.not_lt.mp (fun q0 => q ((sx_ilt hy hx).mpr q0))) p l e R s m args below meth c G Z C hr ls H locs hl hw hk hn)
theorem sx_if_gt {x off : Int} {tg : Nat} (hd : decode cc pc = .ok (.ifCond .gt off, 3)) (hp : pc + 3 = p1) (ht : (pc : Int) + off = (tg : Int)) (hx : -2147483648 ≤ x ∧ x ≤ 2147483647) (kt : 0 < x → Rn X own ini cc nL d mc ms ret tg lo (st) h k n Q) (kf : x ≤ 0 → Rn X own ini cc nL d mc ms ret p1 lo (st) h k n Q) : Rn X own ini cc nL d mc ms ret pc lo (vI x :: st) h k n Q := by
  subst hp
  intro p l e R s m args below meth c G Z C hr ls H locs hl hw hk hn
  have e0 : (0 : Int32) = Int32.ofInt 0 := sx_i0
  refine lv_if_gt C.1 C.2.1 hd ht (fun q => ?_) (fun q => ?_)
  · rw [e0] at q
    exact kt ((sx_ilt (show (-2147483648 : Int) ≤ 0 ∧ (0 : Int) ≤ 2147483647 by omega) hx).mp q) p l e R s m args below meth c G Z C hr ls H locs hl hw hk hn
  · rw [e0] at q
    exact kf (Int.not_lt.mp (fun q0 => q ((sx_ilt (show (-2147483648 : Int) ≤ 0 ∧ (0 : Int) ≤ 2147483647 by omega) hx).mpr q0))) p l e R s m args below meth c G Z C hr ls H locs hl hw hk hn
theorem sx_icmp_le {x y off : Int} {tg : Nat} (hd : decode cc pc = .ok (.if_icmp .le off, 3)) (hp : pc + 3 = p1) (ht : (pc : Int) + off = (tg : Int)) (hx : -2147483648 ≤ x ∧ x ≤ 2147483647) (hy : -2147483648 ≤ y ∧ y ≤ 2147483647) (kt : x ≤ y → Rn X own ini cc nL d mc ms ret tg lo (st) h k n Q) (kf : y < x → Rn X own ini cc nL d mc ms ret p1 lo (st) h k n Q) : Rn X own ini cc nL d mc ms ret pc lo (vI y :: vI x :: st) h k n Q := by
  subst hp
  intro p l e R s m args below meth c G Z C hr ls H locs hl hw hk hn
  exact lv_icmp_le C.1 C.2.1 hd ht (fun q => kt ((sx_ile hx hy).mp q) p l e R s m args below meth c G Z C hr ls H locs hl hw hk hn) (fun q => kf (Int.not_le.mp (fun q0 => q ((sx_ile hx hy).mpr q0))) p l e R s m args below meth c G Z C hr ls H locs hl hw hk hn)
theorem sx_if_le {x off : Int} {tg : Nat} (hd : decode cc pc = .ok (.ifCond .le off, 3)) (hp : pc + 3 = p1) (ht : (pc : Int) + off = (tg : Int)) (hx : -2147483648 ≤ x ∧ x ≤ 2147483647) (kt : x ≤ 0 → Rn X own ini cc nL d mc ms ret tg lo (st) h k n Q) (kf : 0 < x → Rn X own ini cc nL d mc ms ret p1 lo (st) h k n Q) : Rn X own ini cc nL d mc ms ret pc lo (vI x :: st) h k n Q := by
  subst hp
  intro p l e R s m args below meth c G Z C hr ls H locs hl hw hk hn
  have e0 : (0 : Int32) = Int32.ofInt 0 := sx_i0
  refine lv_if_le C.1 C.2.1 hd ht (fun q => ?_) (fun q => ?_)
  · rw [e0] at q
    exact kt ((sx_ile hx (show (-2147483648 : Int) ≤ 0 ∧ (0 : Int) ≤ 2147483647 by omega)).mp q) p l e R s m args below meth c G Z C hr ls H locs hl hw hk hn
  · rw [e0] at q
    exact kf (Int.not_le.mp (fun q0 => q ((sx_ile hx (show (-2147483648 : Int) ≤ 0 ∧ (0 : Int) ≤ 2147483647 by omega)).mpr q0))) p l e R s m args below meth c G Z C hr ls H locs hl hw hk hn
theorem sx_goto {off : Int} {tg : Nat} (hd : decode cc pc = .ok (.goto off, 3)) (ht : (pc : Int) + off = (tg : Int)) (hp : p1 = tg) (K : Rn X own ini cc nL d mc ms ret tg lo (st) h k n Q) : Rn X own ini cc nL d mc ms ret pc lo (st) h k n Q := by
  subst hp
  intro p l e R s m args below meth c G Z C hr ls H locs hl hw hk hn
  exact lv_goto C.1 C.2.1 hd ht (K p l e R s m args below meth c G Z C hr ls H locs hl hw hk hn)
theorem sx_ifnull {a : Nat} {off : Int} (hd : decode cc pc = .ok (.ifnull off, 3)) (hp : pc + 3 = p1) (K : Rn X own ini cc nL d mc ms ret p1 lo (st) h k n Q) : Rn X own ini cc nL d mc ms ret pc lo (.ref a :: st) h k n Q := by
  subst hp
  intro p l e R s m args below meth c G Z C hr ls H locs hl hw hk hn
  exact lv_ifnull C.1 C.2.1 hd (K p l e R s m args below meth c G Z C hr ls H locs hl hw hk hn)
theorem sx_ifnullN {off : Int} {tg : Nat} (hd : decode cc pc = .ok (.ifnull off, 3)) (ht : (pc : Int) + off = (tg : Int)) (hp : p1 = tg) (K : Rn X own ini cc nL d mc ms ret tg lo (st) h k n Q) : Rn X own ini cc nL d mc ms ret pc lo (.null :: st) h k n Q := by
  subst hp
  intro p l e R s m args below meth c G Z C hr ls H locs hl hw hk hn
  exact lv_ifnullN C.1 C.2.1 hd ht (K p l e R s m args below meth c G Z C hr ls H locs hl hw hk hn)
theorem sx_ifnonnull {a : Nat} {off : Int} {tg : Nat} (hd : decode cc pc = .ok (.ifnonnull off, 3)) (ht : (pc : Int) + off = (tg : Int)) (hp : p1 = tg) (K : Rn X own ini cc nL d mc ms ret tg lo (st) h k n Q) : Rn X own ini cc nL d mc ms ret pc lo (.ref a :: st) h k n Q := by
  subst hp
  intro p l e R s m args below meth c G Z C hr ls H locs hl hw hk hn
  exact lv_ifnonnull C.1 C.2.1 hd ht (K p l e R s m args below meth c G Z C hr ls H locs hl hw hk hn)
theorem sx_ifnonnullN {off : Int} (hd : decode cc pc = .ok (.ifnonnull off, 3)) (hp : pc + 3 = p1) (K : Rn X own ini cc nL d mc ms ret p1 lo (st) h k n Q) : Rn X own ini cc nL d mc ms ret pc lo (.null :: st) h k n Q := by
  subst hp
  intro p l e R s m args below meth c G Z C hr ls H locs hl hw hk hn
  exact lv_ifnonnullN C.1 C.2.1 hd (K p l e R s m args below meth c G Z C hr ls H locs hl hw hk hn)
theorem sx_cmp (x y : Int64) : (lg_cmp x y).toInt = if y < x then 1 else if x = y then 0 else -1 := by
  unfold lg_cmp
  simp only [gt_iff_lt]
  split
  · rfl
  · split <;> rfl
theorem sx_lcmp_eq {x y off : Int} {tg p2 : Nat} (hd : decode cc pc = .ok (.lcmp, 1)) (hd2 : decode cc (pc + 1) = .ok (.ifCond .eq off, 3)) (hp : pc + 4 = p1) (ht : ((pc + 1 : Nat) : Int) + off = (tg : Int)) (hx : -9223372036854775808 ≤ x ∧ x ≤ 9223372036854775807) (hy : -9223372036854775808 ≤ y ∧ y ≤ 9223372036854775807) (kt : x = y → Rn X own ini cc nL d mc ms ret tg lo (st) h k n Q) (kf : x ≠ y → Rn X own ini cc nL d mc ms ret p1 lo (st) h k n Q) : Rn X own ini cc nL d mc ms ret pc lo (vJ y :: vJ x :: st) h k n Q := by
  subst hp
  intro p l e R s m args below meth c G Z C hr ls H locs hl hw hk hn
  have e1 : Int64.ofInt y < Int64.ofInt x ↔ y < x := sx_llt hy hx
  have e2 : Int64.ofInt x = Int64.ofInt y ↔ x = y := sx_leq hx hy
  have hz : (lg_cmp (Int64.ofInt x) (Int64.ofInt y)).toInt = if y < x then 1 else if x = y then 0 else -1 := by
    rw [sx_cmp]
    simp only [e1, e2]
  refine W.lcmp C.1 C.2.1 hd ?_
  refine lv_if_eq C.1 C.2.1 hd2 ht (fun q => ?_) (fun q => ?_)
  · simp only [← Int32.toInt_inj, Int32.lt_iff_toInt_lt, Int32.le_iff_toInt_le, hz, Int32.toInt_zero] at q
    refine kt ?_ p l e R s m args below meth c G Z C hr ls H locs hl hw hk hn
    repeat' split at q
    all_goals omega
  · simp only [← Int32.toInt_inj, Int32.lt_iff_toInt_lt, Int32.le_iff_toInt_le, hz, Int32.toInt_zero] at q
    refine kf ?_ p l e R s m args below meth c G Z C hr ls H locs hl hw hk hn
    repeat' split at q
    all_goals omega
theorem sx_lcmp_ne {x y off : Int} {tg p2 : Nat} (hd : decode cc pc = .ok (.lcmp, 1)) (hd2 : decode cc (pc + 1) = .ok (.ifCond .ne off, 3)) (hp : pc + 4 = p1) (ht : ((pc + 1 : Nat) : Int) + off = (tg : Int)) (hx : -9223372036854775808 ≤ x ∧ x ≤ 9223372036854775807) (hy : -9223372036854775808 ≤ y ∧ y ≤ 9223372036854775807) (kt : x ≠ y → Rn X own ini cc nL d mc ms ret tg lo (st) h k n Q) (kf : x = y → Rn X own ini cc nL d mc ms ret p1 lo (st) h k n Q) : Rn X own ini cc nL d mc ms ret pc lo (vJ y :: vJ x :: st) h k n Q := by
  subst hp
  intro p l e R s m args below meth c G Z C hr ls H locs hl hw hk hn
  have e1 : Int64.ofInt y < Int64.ofInt x ↔ y < x := sx_llt hy hx
  have e2 : Int64.ofInt x = Int64.ofInt y ↔ x = y := sx_leq hx hy
  have hz : (lg_cmp (Int64.ofInt x) (Int64.ofInt y)).toInt = if y < x then 1 else if x = y then 0 else -1 := by
    rw [sx_cmp]
    simp only [e1, e2]
  refine W.lcmp C.1 C.2.1 hd ?_
  refine lv_if_ne C.1 C.2.1 hd2 ht (fun q => ?_) (fun q => ?_)
  · simp only [← Int32.toInt_inj, Int32.lt_iff_toInt_lt, Int32.le_iff_toInt_le, hz, Int32.toInt_zero] at q
    refine kt ?_ p l e R s m args below meth c G Z C hr ls H locs hl hw hk hn
    repeat' split at q
    all_goals omega
  · simp only [← Int32.toInt_inj, Int32.lt_iff_toInt_lt, Int32.le_iff_toInt_le, hz, Int32.toInt_zero] at q
    refine kf ?_ p l e R s m args below meth c G Z C hr ls H locs hl hw hk hn
    repeat' split at q
    all_goals omega
theorem sx_lcmp_lt {x y off : Int} {tg p2 : Nat} (hd : decode cc pc = .ok (.lcmp, 1)) (hd2 : decode cc (pc + 1) = .ok (.ifCond .lt off, 3)) (hp : pc + 4 = p1) (ht : ((pc + 1 : Nat) : Int) + off = (tg : Int)) (hx : -9223372036854775808 ≤ x ∧ x ≤ 9223372036854775807) (hy : -9223372036854775808 ≤ y ∧ y ≤ 9223372036854775807) (kt : x < y → Rn X own ini cc nL d mc ms ret tg lo (st) h k n Q) (kf : y ≤ x → Rn X own ini cc nL d mc ms ret p1 lo (st) h k n Q) : Rn X own ini cc nL d mc ms ret pc lo (vJ y :: vJ x :: st) h k n Q := by
  subst hp
  intro p l e R s m args below meth c G Z C hr ls H locs hl hw hk hn
  have e1 : Int64.ofInt y < Int64.ofInt x ↔ y < x := sx_llt hy hx
  have e2 : Int64.ofInt x = Int64.ofInt y ↔ x = y := sx_leq hx hy
  have hz : (lg_cmp (Int64.ofInt x) (Int64.ofInt y)).toInt = if y < x then 1 else if x = y then 0 else -1 := by
    rw [sx_cmp]
    simp only [e1, e2]
  refine W.lcmp C.1 C.2.1 hd ?_
  refine lv_if_lt C.1 C.2.1 hd2 ht (fun q => ?_) (fun q => ?_)
  · simp only [← Int32.toInt_inj, Int32.lt_iff_toInt_lt, Int32.le_iff_toInt_le, hz, Int32.toInt_zero] at q
    refine kt ?_ p l e R s m args below meth c G Z C hr ls H locs hl hw hk hn
    repeat' split at q
    all_goals omega
  · simp only [← Int32.toInt_inj, Int32.lt_iff_toInt_lt, Int32.le_iff_toInt_le, hz, Int32.toInt_zero] at q
    refine kf ?_ p l e R s m args below meth c G Z C hr ls H locs hl hw hk hn
    repeat' split at q
    all_goals omega
theorem sx_lcmp_ge {x y off : Int} {tg p2 : Nat} (hd : decode cc pc = .ok (.lcmp, 1)) (hd2 : decode cc (pc + 1) = .ok (.ifCond .ge off, 3)) (hp : pc + 4 = p1) (ht : ((pc + 1 : Nat) : Int) + off = (tg : Int)) (hx : -9223372036854775808 ≤ x ∧ x ≤ 9223372036854775807) (hy : -9223372036854775808 ≤ y ∧ y ≤ 9223372036854775807) (kt : y ≤ x → Rn X own ini cc nL d mc ms ret tg lo (st) h k n Q) (kf : x < y → Rn X own ini cc nL d mc ms ret p1 lo (st) h k n Q) : Rn X own ini cc nL d mc ms ret pc lo (vJ y :: vJ x :: st) h k n Q := by
  subst hp
  intro p l e R s m args below meth c G Z C hr ls H locs hl hw hk hn
  have e1 : Int64.ofInt y < Int64.ofInt x ↔ y < x := sx_llt hy hx
  have e2 : Int64.ofInt x = Int64.ofInt y ↔ x = y := sx_leq hx hy
  have hz : (lg_cmp (Int64.ofInt x) (Int64.ofInt y)).toInt = if y < x then 1 else if x = y then 0 else -1 := by
    rw [sx_cmp]
    simp only [e1, e2]
  refine W.lcmp C.1 C.2.1 hd ?_
  refine lv_if_ge C.1 C.2.1 hd2 ht (fun q => ?_) (fun q => ?_)
  · simp only [← Int32.toInt_inj, Int32.lt_iff_toInt_lt, Int32.le_iff_toInt_le, hz, Int32.toInt_zero] at q
    refine kt ?_ p l e R s m args below meth c G Z C hr ls H locs hl hw hk hn
    repeat' split at q
    all_goals omega
  · simp only [← Int32.toInt_inj, Int32.lt_iff_toInt_lt, Int32.le_iff_toInt_le, hz, Int32.toInt_zero] at q
    refine kf ?_ p l e R s m args below meth c G Z C hr ls H locs hl hw hk hn
    repeat' split at q
    all_goals omega
theorem sx_lcmp_gt {x y off : Int} {tg p2 : Nat} (hd : decode cc pc = .ok (.lcmp, 1)) (hd2 : decode cc (pc + 1) = .ok (.ifCond .gt off, 3)) (hp : pc + 4 = p1) (ht : ((pc + 1 : Nat) : Int) + off = (tg : Int)) (hx : -9223372036854775808 ≤ x ∧ x ≤ 9223372036854775807) (hy : -9223372036854775808 ≤ y ∧ y ≤ 9223372036854775807) (kt : y < x → Rn X own ini cc nL d mc ms ret tg lo (st) h k n Q) (kf : x ≤ y → Rn X own ini cc nL d mc ms ret p1 lo (st) h k n Q) : Rn X own ini cc nL d mc ms ret pc lo (vJ y :: vJ x :: st) h k n Q := by
  subst hp
  intro p l e R s m args below meth c G Z C hr ls H locs hl hw hk hn
  have e1 : Int64.ofInt y < Int64.ofInt x ↔ y < x := sx_llt hy hx
  have e2 : Int64.ofInt x = Int64.ofInt y ↔ x = y := sx_leq hx hy
  have hz : (lg_cmp (Int64.ofInt x) (Int64.ofInt y)).toInt = if y < x then 1 else if x = y then 0 else -1 := by
    rw [sx_cmp]
    simp only [e1, e2]
  refine W.lcmp C.1 C.2.1 hd ?_
  refine lv_if_gt C.1 C.2.1 hd2 ht (fun q => ?_) (fun q => ?_)
  · simp only [← Int32.toInt_inj, Int32.lt_iff_toInt_lt, Int32.le_iff_toInt_le, hz, Int32.toInt_zero] at q
    refine kt ?_ p l e R s m args below meth c G Z C hr ls H locs hl hw hk hn
    repeat' split at q
    all_goals omega
  · simp only [← Int32.toInt_inj, Int32.lt_iff_toInt_lt, Int32.le_iff_toInt_le, hz, Int32.toInt_zero] at q
    refine kf ?_ p l e R s m args below meth c G Z C hr ls H locs hl hw hk hn
    repeat' split at q
    all_goals omega
theorem sx_lcmp_le {x y off : Int} {tg p2 : Nat} (hd : decode cc pc = .ok (.lcmp, 1)) (hd2 : decode cc (pc + 1) = .ok (.ifCond .le off, 3)) (hp : pc + 4 = p1) (ht : ((pc + 1 : Nat) : Int) + off = (tg : Int)) (hx : -9223372036854775808 ≤ x ∧ x ≤ 9223372036854775807) (hy : -9223372036854775808 ≤ y ∧ y ≤ 9223372036854775807) (kt : x ≤ y → Rn X own ini cc nL d mc ms ret tg lo (st) h k n Q) (kf : y < x → Rn X own ini cc nL d mc ms ret p1 lo (st) h k n Q) : Rn X own ini cc nL d mc ms ret pc lo (vJ y :: vJ x :: st) h k n Q := by
  subst hp
  intro p l e R s m args below meth c G Z C hr ls H locs hl hw hk hn
  have e1 : Int64.ofInt y < Int64.ofInt x ↔ y < x := sx_llt hy hx
  have e2 : Int64.ofInt x = Int64.ofInt y ↔ x = y := sx_leq hx hy
  have hz : (lg_cmp (Int64.ofInt x) (Int64.ofInt y)).toInt = if y < x then 1 else if x = y then 0 else -1 := by
    rw [sx_cmp]
    simp only [e1, e2]
  refine W.lcmp C.1 C.2.1 hd ?_
  refine lv_if_le C.1 C.2.1 hd2 ht (fun q => ?_) (fun q => ?_)
  · simp only [← Int32.toInt_inj, Int32.lt_iff_toInt_lt, Int32.le_iff_toInt_le, hz, Int32.toInt_zero] at q
    refine kt ?_ p l e R s m args below meth c G Z C hr ls H locs hl hw hk hn
    repeat' split at q
    all_goals omega
  · simp only [← Int32.toInt_inj, Int32.lt_iff_toInt_lt, Int32.le_iff_toInt_le, hz, Int32.toInt_zero] at q
    refine kf ?_ p l e R s m args below meth c G Z C hr ls H locs hl hw hk hn
    repeat' split at q
    all_goals omega
theorem sx_tsOut {x dflt a b : Int} {offs : Array Int} {len tg : Nat} (hd : decode cc pc = .ok (.tableswitch dflt a b offs, len)) (hx : -2147483648 ≤ x ∧ x ≤ 2147483647) (hq : x < a ∨ b < x) (ht : (pc : Int) + dflt = (tg : Int)) (hp : p1 = tg) (K : Rn X own ini cc nL d mc ms ret tg lo (st) h k n Q) : Rn X own ini cc nL d mc ms ret pc lo (vI x :: st) h k n Q := by
  subst hp
  intro p l e R s m args below meth c G Z C hr ls H locs hl hw hk hn
  exact lv_tableOut C.1 C.2.1 hd (by rw [sx_i1 hx]; exact hq) ht (K p l e R s m args below meth c G Z C hr ls H locs hl hw hk hn)
theorem sx_tsIn {x dflt a b off : Int} {offs : Array Int} {len tg : Nat} (hd : decode cc pc = .ok (.tableswitch dflt a b offs, len)) (hx : -2147483648 ≤ x ∧ x ≤ 2147483647) (hq : a ≤ x ∧ x ≤ b) (ho : offs[(x - a).toNat]? = some off) (ht : (pc : Int) + off = (tg : Int)) (hp : p1 = tg) (K : Rn X own ini cc nL d mc ms ret tg lo (st) h k n Q) : Rn X own ini cc nL d mc ms ret pc lo (vI x :: st) h k n Q := by
  subst hp
  intro p l e R s m args below meth c G Z C hr ls H locs hl hw hk hn
  exact lv_tableIn C.1 C.2.1 hd (by rw [sx_i1 hx]; omega) (by rw [sx_i1 hx]; omega) (by rw [sx_i1 hx]; exact ho) ht (K p l e R s m args below meth c G Z C hr ls H locs hl hw hk hn)
theorem sx_lsw {x dflt off : Int} {ps : Array (Int × Int)} {len tg : Nat} (hd : decode cc pc = .ok (.lookupswitch dflt ps, len)) (hx : -2147483648 ≤ x ∧ x ≤ 2147483647) (hs : (ps.toList.zip (ps.toList.drop 1)).all (fun (a, next) => a.1 < next.1) = true) (ho : Op.lookupswitch.offset ps.toList dflt x = off) (ht : (pc : Int) + off = (tg : Int)) (hp : p1 = tg) (K : Rn X own ini cc nL d mc ms ret tg lo (st) h k n Q) : Rn X own ini cc nL d mc ms ret pc lo (vI x :: st) h k n Q := by
  subst hp
  intro p l e R s m args below meth c G Z C hr ls H locs hl hw hk hn
  exact lv_lookup C.1 C.2.1 hd hs (by rw [sx_i1 hx]; exact ho) ht (K p l e R s m args below meth c G Z C hr ls H locs hl hw hk hn)
theorem sx_iret {x : Int} (hd : decode cc pc = .ok (.ireturn, 1)) (hk1 : ret = some .int) (hq : Q (some (vI x)) h) : Rn X own ini cc nL d mc ms ret pc lo ([vI x]) h k n Q := by
  intro p l e R s m args below meth c G Z C hr ls H locs hl hw hk hn
  exact hr (some (vI x)) pc ls h H locs k n hq hd (Or.inl hk1) hk hn hw
theorem sx_lret {x : Int} (hd : decode cc pc = .ok (.lreturn, 1)) (hk1 : ret = some .long) (hq : Q (some (vJ x)) h) : Rn X own ini cc nL d mc ms ret pc lo ([vJ x]) h k n Q := by
  intro p l e R s m args below meth c G Z C hr ls H locs hl hw hk hn
  exact hr (some (vJ x)) pc ls h H locs k n hq hd (hk1) hk hn hw
theorem sx_aret {x : Nat} (hd : decode cc pc = .ok (.areturn, 1)) {C0 : String} (hk1 : ret = some (.object C0)) (hq : Q (some (.ref x)) h) : Rn X own ini cc nL d mc ms ret pc lo ([.ref x]) h k n Q := by
  intro p l e R s m args below meth c G Z C hr ls H locs hl hw hk hn
  exact hr (some (.ref x)) pc ls h H locs k n hq hd (⟨_, hk1⟩) hk hn hw
theorem sx_zret {x : Int} (hd : decode cc pc = .ok (.ireturn, 1)) (hk1 : ret = some .boolean) (hx : x = 0 ∨ x = 1) (hq : Q (some (vI x)) h) : Rn X own ini cc nL d mc ms ret pc lo ([vI x]) h k n Q := by
  intro p l e R s m args below meth c G Z C hr ls H locs hl hw hk hn
  exact hr (some (vI x)) pc ls h H locs k n hq hd (Or.inr ⟨hk1, hx.elim (fun e => Or.inl (by rw [e]; rfl)) (fun e => Or.inr (by rw [e]; rfl))⟩) hk hn hw
theorem sx_aretN {C0 : String} (hd : decode cc pc = .ok (.areturn, 1)) (hk1 : ret = some (.object C0)) (hq : Q (some .null) h) : Rn X own ini cc nL d mc ms ret pc lo ([.null]) h k n Q := by
  intro p l e R s m args below meth c G Z C hr ls H locs hl hw hk hn
  exact hr (some .null) pc ls h H locs k n hq hd ⟨_, hk1⟩ hk hn hw
theorem sx_vret (hd : decode cc pc = .ok (.return_, 1)) (hk1 : ret = none) (hq : Q none h) : Rn X own ini cc nL d mc ms ret pc lo ([]) h k n Q := by
  intro p l e R s m args below meth c G Z C hr ls H locs hl hw hk hn
  exact hr none pc ls h H locs k n hq hd hk1 hk hn hw
end
