/-- a class of ours: its number, its fields -/
def sx_Cl (ci : Nat) (C : String) (T : u_T) (N : Nat) (ty : Nat → FieldType) : Prop := vwCl[ci]? = some (C, T, N) ∧ (∀ w ∈ u_ws C T N, w ∈ sx_T) ∧ (∀ k, k < N → parseFieldDescriptor (T k).2.2.1 = some (ty k)) ∧ ∀ a, a < N → ∀ b, b < N → a ≠ b → (T a).2.1 ≠ (T b).2.1
/-- a field's link out of a class: entry idx of own's pool is field kf of class ci -/
def sx_F (own : String) (idx ci : Nat) (C : String) (kf : Nat) (ty : FieldType) (fin : Bool) : Prop := ∃ (T : u_T) (N : Nat) (tys : Nat → FieldType), sx_Cl ci C T N tys ∧ kf < N ∧ Cond.fieldLink own idx (T kf).1 (T kf).2.1 (T kf).2.2.1 ∈ sx_T ∧ tys kf = ty ∧ (T kf).2.2.2 = fin ∧ (T kf).1 = C
/-- a method that is called on an object, a static one, a constructor -/
def sx_MV (y : MethodName) (cc : ByteArray) (nL : Nat) (ret : Option FieldType) (n : Nat) : Prop := Cond.code y cc nL ret ∈ sx_T ∧ Cond.instanceMethod y ∈ sx_T ∧ Cond.selects y.cls y y ∈ sx_T ∧ Cond.initialized y.cls ∈ sx_T ∧ (y.cls ≠ "java/lang/invoke/MethodHandle" ∧ y.cls ≠ "java/lang/invoke/VarHandle" ∧ (parseMethodDescriptor y.desc).map (fun d => d.parameters.length) = some n) ∧ nL ≤ 45
def sx_MS (y : MethodName) (cc : ByteArray) (nL : Nat) (ret : Option FieldType) (n : Nat) : Prop := Cond.code y cc nL ret ∈ sx_T ∧ Cond.static y ∈ sx_T ∧ Cond.initialized y.cls ∈ sx_T ∧ (y.cls ≠ "java/lang/invoke/MethodHandle" ∧ y.cls ≠ "java/lang/invoke/VarHandle" ∧ (parseMethodDescriptor y.desc).map (fun d => d.parameters.length) = some n) ∧ nL ≤ 45
def sx_MI (y : MethodName) (cc : ByteArray) (nL : Nat) (n : Nat) : Prop := Cond.code y cc nL none ∈ sx_T ∧ Cond.instanceMethod y ∈ sx_T ∧ y.name = "<init>" ∧ Cond.initialized y.cls ∈ sx_T ∧ (y.cls ≠ "java/lang/invoke/MethodHandle" ∧ y.cls ≠ "java/lang/invoke/VarHandle" ∧ (parseMethodDescriptor y.desc).map (fun d => d.parameters.length) = some n) ∧ nL ≤ 45
theorem sx_size {p : Program} {l : Launch} {e : Env} {R : Room} {s : State} {m : MethodId} {args : Array Value} {below : List Frame} {meth : Method} {c : Code} {T : State} {H : Heap} {locs : List Loc} {k n : Nat} {G : sx_G} {h : sx_H} (X : Stand p l e R s m args below meth c T locs k n) (hT : T.heap = H) (hw : sx_Wd G s h H locs k) (hE : sx_b G ≤ s.heap.size) : H.size = sx_b G + h.length := by
  obtain ⟨hP, hz, hS⟩ := hw
  have h1 : T.heap.size ≤ s.heap.size + k := X.same.2.2.1
  have h2 : s.heap.size ≤ T.heap.size := X.same.2.1
  rw [hT] at h1 h2
  cases hl : h.length with
  | zero => omega
  | succ q =>
    have hc : h[q]? = some h[q] := List.getElem?_eq_getElem (by omega)
    have h3 := (hP q _ (sx_w_at hc)).lt
    simp only [sx_ad] at h3
    omega
section
variable {X : sx_X} {own : String} {ini : Bool} {cc : ByteArray} {nL d mc ms : Nat} {ret : Option FieldType} {pc p1 : Nat} {lo : List (Option Value)} {st : List Value} {h : sx_H} {k n : Nat} {Q : Option Value → sx_H → Prop}
set_option maxHeartbeats 200000 in
theorem sx_get {a idx ci kf : Nat} {C0 : String} {ty : FieldType} {fin : Bool} {fs : List Value} {v : Value} (hd : decode cc pc = .ok (.getfield idx, 3)) (hp : pc + 3 = p1) (hf : sx_F own idx ci C0 kf ty fin) (hc : sx_at h a = some (.inr (ci, fs))) (hv : fs[kf]? = some v) (K : Rn X own ini cc nL d mc ms ret p1 lo (v :: st) h k n Q) : Rn X own ini cc nL d mc ms ret pc lo (.ref a :: st) h k n Q := by
  subst hp
  intro p l e R s m args below meth c G Z C hr ls H locs hl hw hk hn
  obtain ⟨T, N, tys, ⟨c1, c2, c3, c4⟩, f1, f2, f3, f4, f5⟩ := hf
  match a, hc with
  | 0, hc => cases hc
  | 1, hc => cases hc
  | q + 2, hc =>
    exact va_get (D := G.1) (ci := ci) (v := sx_v G v) C.1 C.2.1 C.2.2.2.2.1 c2 C.2.2.2.1 C.2.2.2.2.2.1.1 hw.1 q (sx_w_at hc) c1 kf f1 (C.2.2.2.2.1 _ f2) (fun x9 h9 => h9) (by simp [hv]) hd (K p l e R s m args below meth c G Z C hr ls H locs hl hw hk hn)
theorem sx_setw {G : sx_G} {q ci kf : Nat} {fs : List Value} {v : Value} {h : sx_H} : (sx_w G 0 h).set q (sx_ad G (q + 2), .inr (ci, (fs.map (sx_v G)).set kf (sx_v G v))) = sx_w G 0 (h.set q (.inr (ci, fs.set kf v))) := by
  rw [← sx_w_set0, ← List.map_set]
  rfl
set_option maxHeartbeats 200000 in
theorem sx_put {a idx ci kf : Nat} {C0 : String} {ty : FieldType} {fs : List Value} {v : Value} {h1 : sx_H} (hd : decode cc pc = .ok (.putfield idx, 3)) (hp : pc + 3 = p1) (hf : sx_F own idx ci C0 kf ty false) (hc : sx_at h a = some (.inr (ci, fs))) (hv : kf < fs.length) (hnr : ∀ G, narrow ty (sx_v G v) = sx_v G v) (hft : ∀ G, fits ty (sx_v G v) = true) (hs : h.set (a - 2) (.inr (ci, fs.set kf v)) = h1) (K : Rn X own ini cc nL d mc ms ret p1 lo (st) h1 k n Q) : Rn X own ini cc nL d mc ms ret pc lo (v :: .ref a :: st) h k n Q := by
  subst hp
  intro p l e R s m args below meth c G Z C hr ls H locs hl hw hk hn
  obtain ⟨T, N, tys, ⟨c1, c2, c3, c4⟩, f1, f2, f3, f4, f5⟩ := hf
  subst hs
  match a, hc with
  | 0, hc => cases hc
  | 1, hc => cases hc
  | q + 2, hc =>
    refine va_put (D := G.1) (ci := ci) (v := sx_v G v) (ty := ty) C.1 C.2.1 C.2.2.2.2.1 c2 tys c3 c4 C.2.2.2.1 C.2.2.2.2.2.1.1 hw.1 (sx_D G h) hw.2.2 q (sx_w_at hc) c1 kf f1 (C.2.2.2.2.1 _ f2) (fun x9 h9 => h9) f4 (by rw [c3 kf f1, f3]) (hnr G) (hft G) (by simpa using hv) hd (fun H1 locs1 hP hD hS => ?_)
    rw [sx_setw] at hP
    exact K p l e R s m args below meth c G Z C hr ls H1 locs1 hl ⟨hP, by simpa using hw.2.1, hS⟩ hk hn
set_option maxHeartbeats 200000 in
theorem sx_putF {a idx ci kf : Nat} {ty : FieldType} {fs : List Value} {v : Value} {h1 : sx_H} (hd : decode cc pc = .ok (.putfield idx, 3)) (hp : pc + 3 = p1) (hf : sx_F own idx ci own kf ty true) (hi : ini = true) (hc : sx_at h a = some (.inr (ci, fs))) (hv : kf < fs.length) (hnr : ∀ G, narrow ty (sx_v G v) = sx_v G v) (hft : ∀ G, fits ty (sx_v G v) = true) (hs : h.set (a - 2) (.inr (ci, fs.set kf v)) = h1) (K : Rn X own ini cc nL d mc ms ret p1 lo (st) h1 k n Q) : Rn X own ini cc nL d mc ms ret pc lo (v :: .ref a :: st) h k n Q := by
  subst hp
  intro p l e R s m args below meth c G Z C hr ls H locs hl hw hk hn
  obtain ⟨T, N, tys, ⟨c1, c2, c3, c4⟩, f1, f2, f3, f4, f5⟩ := hf
  subst hs
  match a, hc with
  | 0, hc => cases hc
  | 1, hc => cases hc
  | q + 2, hc =>
    refine va_putF (D := G.1) (ci := ci) (v := sx_v G v) (ty := ty) C.1 C.2.1 C.2.2.2.2.1 c2 tys c3 c4 C.2.2.2.1 C.2.2.2.2.2.1.1 hw.1 (sx_D G h) hw.2.2 q (sx_w_at hc) c1 kf f1 (C.2.2.2.2.1 _ f2) (fun x9 h9 => h9) f4 (C.2.2.2.2.2.2.2.2.2.2.2 hi) f5 (by rw [c3 kf f1, f3]) (hnr G) (hft G) (by simpa using hv) hd (fun H1 locs1 hP hD hS => ?_)
    rw [sx_setw] at hP
    exact K p l e R s m args below meth c G Z C hr ls H1 locs1 hl ⟨hP, by simpa using hw.2.1, hS⟩ hk hn
set_option maxHeartbeats 200000 in
theorem sx_iald {a N : Nat} {i : Int} {g : Nat → Int} (hd : decode cc pc = .ok (.iaload, 1)) (hp : pc + 1 = p1) (hc : sx_at h a = some (.inl (0, N, .inl (fun j => Int32.ofInt (g j))))) (hi : 0 ≤ i ∧ i < N) (hN : N ≤ 2147483647) (K : Rn X own ini cc nL d mc ms ret p1 lo (vI (g i.toNat) :: st) h k n Q) : Rn X own ini cc nL d mc ms ret pc lo (vI i :: .ref a :: st) h k n Q := by
  subst hp
  intro p l e R s m args below meth c G Z C hr ls H locs hl hw hk hn
  match a, hc with
  | 0, hc => cases hc
  | 1, hc => cases hc
  | q + 2, hc =>
    refine va_iald C.1 C.2.1 C.2.2.2.2.2.1.1 hw.1 q 0 (sx_w_at hc) rfl (sx_in hi (by omega)) hd ?_
    rw [sx_cl ⟨hi.1, by omega⟩]
    exact K p l e R s m args below meth c G Z C hr ls H locs hl hw hk hn
set_option maxHeartbeats 200000 in
theorem sx_bald {a N : Nat} {i : Int} {g : Nat → Int} (hd : decode cc pc = .ok (.baload, 1)) (hp : pc + 1 = p1) (hc : sx_at h a = some (.inl (2, N, .inl (fun j => Int32.ofInt (g j))))) (hi : 0 ≤ i ∧ i < N) (hN : N ≤ 2147483647) (K : Rn X own ini cc nL d mc ms ret p1 lo (vI (g i.toNat) :: st) h k n Q) : Rn X own ini cc nL d mc ms ret pc lo (vI i :: .ref a :: st) h k n Q := by
  subst hp
  intro p l e R s m args below meth c G Z C hr ls H locs hl hw hk hn
  match a, hc with
  | 0, hc => cases hc
  | 1, hc => cases hc
  | q + 2, hc =>
    refine va_bald C.1 C.2.1 C.2.2.2.2.2.1.1 hw.1 q 2 (sx_w_at hc) rfl (sx_in hi (by omega)) hd ?_
    rw [sx_cl ⟨hi.1, by omega⟩]
    exact K p l e R s m args below meth c G Z C hr ls H locs hl hw hk hn
set_option maxHeartbeats 200000 in
theorem sx_zald {a N : Nat} {i : Int} {g : Nat → Int} (hd : decode cc pc = .ok (.baload, 1)) (hp : pc + 1 = p1) (hc : sx_at h a = some (.inl (3, N, .inl (fun j => Int32.ofInt (g j))))) (hi : 0 ≤ i ∧ i < N) (hN : N ≤ 2147483647) (K : Rn X own ini cc nL d mc ms ret p1 lo (vI (g i.toNat) :: st) h k n Q) : Rn X own ini cc nL d mc ms ret pc lo (vI i :: .ref a :: st) h k n Q := by
  subst hp
  intro p l e R s m args below meth c G Z C hr ls H locs hl hw hk hn
  match a, hc with
  | 0, hc => cases hc
  | 1, hc => cases hc
  | q + 2, hc =>
    refine va_zald C.1 C.2.1 C.2.2.2.2.2.1.1 hw.1 q 3 (sx_w_at hc) rfl (sx_in hi (by omega)) hd ?_
    rw [sx_cl ⟨hi.1, by omega⟩]
    exact K p l e R s m args below meth c G Z C hr ls H locs hl hw hk hn
set_option maxHeartbeats 200000 in
theorem sx_lald {a N : Nat} {i : Int} {g : Nat → Int} (hd : decode cc pc = .ok (.laload, 1)) (hp : pc + 1 = p1) (hc : sx_at h a = some (.inl (1, N, .inr (.inl (fun j => Int64.ofInt (g j)))))) (hi : 0 ≤ i ∧ i < N) (hN : N ≤ 2147483647) (K : Rn X own ini cc nL d mc ms ret p1 lo (vJ (g i.toNat) :: st) h k n Q) : Rn X own ini cc nL d mc ms ret pc lo (vI i :: .ref a :: st) h k n Q := by
  subst hp
  intro p l e R s m args below meth c G Z C hr ls H locs hl hw hk hn
  match a, hc with
  | 0, hc => cases hc
  | 1, hc => cases hc
  | q + 2, hc =>
    refine va_lald C.1 C.2.1 C.2.2.2.2.2.1.1 hw.1 q 1 (sx_w_at hc) rfl (sx_in hi (by omega)) hd ?_
    rw [sx_cl ⟨hi.1, by omega⟩]
    exact K p l e R s m args below meth c G Z C hr ls H locs hl hw hk hn
set_option maxHeartbeats 200000 in
theorem sx_aald {a N v : Nat} {i : Int} {f : Nat → Option Nat} (hd : decode cc pc = .ok (.aaload, 1)) (hp : pc + 1 = p1) (hc : sx_at h a = some (.inl (4, N, .inr (.inr (.inr (.inr f)))))) (hi : 0 ≤ i ∧ i < N) (hN : N ≤ 2147483647) (hv : f i.toNat = some v) (K : Rn X own ini cc nL d mc ms ret p1 lo (.ref v :: st) h k n Q) : Rn X own ini cc nL d mc ms ret pc lo (vI i :: .ref a :: st) h k n Q := by
  subst hp
  intro p l e R s m args below meth c G Z C hr ls H locs hl hw hk hn
  match a, hc with
  | 0, hc => cases hc
  | 1, hc => cases hc
  | q + 2, hc =>
    refine va_aldq C.1 C.2.1 C.2.2.2.2.2.1.1 hw.1 q 4 (sx_w_at hc) rfl (sx_in hi (by omega)) hd ?_
    rw [sx_cl ⟨hi.1, by omega⟩]
    simp only [hv, Option.map_some, va_rf]
    exact K p l e R s m args below meth c G Z C hr ls H locs hl hw hk hn
set_option maxHeartbeats 200000 in
theorem sx_iald0 {i : Int} (hd : decode cc pc = .ok (.iaload, 1)) (hp : pc + 1 = p1) (hi : 0 ≤ i ∧ i < (X.1 : Nat)) (hN : (X.1 : Nat) ≤ 2147483647) (K : Rn X own ini cc nL d mc ms ret p1 lo (vI (X.2 i.toNat) :: st) h k n Q) : Rn X own ini cc nL d mc ms ret pc lo (vI i :: .ref 0 :: st) h k n Q := by
  subst hp
  intro p l e R s m args below meth c G Z C hr ls H locs hl hw hk hn
  refine va_sld C.1 C.2.1 C.2.2.2.2.2.2.1.1 (Nat.lt_of_lt_of_le C.2.2.2.2.2.2.1.2.1 C.2.2.2.2.2.2.1.2.2.2.2.2.1) (Nat.not_le.mpr C.2.2.2.2.2.2.1.2.1) hw.2.2 (sx_in hi (by omega)) hd ?_
  rw [sx_cl ⟨hi.1, by omega⟩]
  exact K p l e R s m args below meth c G Z C hr ls H locs hl hw hk hn
set_option maxHeartbeats 200000 in
theorem sx_alen0 (hd : decode cc pc = .ok (.arraylength, 1)) (hp : pc + 1 = p1) (K : Rn X own ini cc nL d mc ms ret p1 lo (vI ((X.1 : Nat) : Int) :: st) h k n Q) : Rn X own ini cc nL d mc ms ret pc lo (.ref 0 :: st) h k n Q := by
  subst hp
  intro p l e R s m args below meth c G Z C hr ls H locs hl hw hk hn
  refine va_slen C.1 C.2.1 C.2.2.2.2.2.2.1.1 (Nat.lt_of_lt_of_le C.2.2.2.2.2.2.1.2.1 C.2.2.2.2.2.2.1.2.2.2.2.2.1) (Nat.not_le.mpr C.2.2.2.2.2.2.1.2.1) hw.2.2 hd ?_
  rw [← Int32.ofInt_eq_ofNat]
  exact K p l e R s m args below meth c G Z C hr ls H locs hl hw hk hn
set_option maxHeartbeats 200000 in
theorem sx_iald1 {i : Int} (hd : decode cc pc = .ok (.iaload, 1)) (hp : pc + 1 = p1) (hi : 0 ≤ i ∧ i < (6 : Nat)) (hN : (6 : Nat) ≤ 2147483647) (K : Rn X own ini cc nL d mc ms ret p1 lo (vI (sx_most i.toNat) :: st) h k n Q) : Rn X own ini cc nL d mc ms ret pc lo (vI i :: .ref 1 :: st) h k n Q := by
  subst hp
  intro p l e R s m args below meth c G Z C hr ls H locs hl hw hk hn
  refine va_sld C.1 C.2.1 C.2.2.2.2.2.2.1.2.2.1 (Nat.lt_of_lt_of_le C.2.2.2.2.2.2.1.2.2.2.1 C.2.2.2.2.2.2.1.2.2.2.2.2.1) (Nat.not_le.mpr C.2.2.2.2.2.2.1.2.2.2.1) hw.2.2 (sx_in hi (by omega)) hd ?_
  rw [sx_cl ⟨hi.1, by omega⟩]
  exact K p l e R s m args below meth c G Z C hr ls H locs hl hw hk hn
set_option maxHeartbeats 200000 in
theorem sx_alen1 (hd : decode cc pc = .ok (.arraylength, 1)) (hp : pc + 1 = p1) (K : Rn X own ini cc nL d mc ms ret p1 lo (vI ((6 : Nat) : Int) :: st) h k n Q) : Rn X own ini cc nL d mc ms ret pc lo (.ref 1 :: st) h k n Q := by
  subst hp
  intro p l e R s m args below meth c G Z C hr ls H locs hl hw hk hn
  refine va_slen C.1 C.2.1 C.2.2.2.2.2.2.1.2.2.1 (Nat.lt_of_lt_of_le C.2.2.2.2.2.2.1.2.2.2.1 C.2.2.2.2.2.2.1.2.2.2.2.2.1) (Nat.not_le.mpr C.2.2.2.2.2.2.1.2.2.2.1) hw.2.2 hd ?_
  rw [← Int32.ofInt_eq_ofNat]
  exact K p l e R s m args below meth c G Z C hr ls H locs hl hw hk hn
set_option maxHeartbeats 200000 in
theorem sx_gets {idx : Nat} (hd : decode cc pc = .ok (.getstatic idx, 3)) (hp : pc + 3 = p1) (hf : Cond.fieldLink own idx RX6 "MOST" "[I" ∈ sx_T) (K : Rn X own ini cc nL d mc ms ret p1 lo (.ref 1 :: st) h k n Q) : Rn X own ini cc nL d mc ms ret pc lo (st) h k n Q := by
  subst hp
  intro p l e R s m args below meth c G Z C hr ls H locs hl hw hk hn
  exact va_gets C.1 C.2.1 C.2.2.2.2.2.2.1.2.2.2.2.1 hw.2.2 C.2.2.2.1 (C.2.2.2.2.1 _ hf) (fun _ q => q) hd (K p l e R s m args below meth c G Z C hr ls H locs hl hw hk hn)
set_option maxHeartbeats 200000 in
theorem sx_alen {a t N : Nat} {x} {ty : FieldType} (hd : decode cc pc = .ok (.arraylength, 1)) (hp : pc + 1 = p1) (hc : sx_at h a = some (.inl (t, N, x))) (ht : ∀ G, (sx_tys G)[t]? = some (G.2.1 t, ty)) (K : Rn X own ini cc nL d mc ms ret p1 lo (vI (N : Int) :: st) h k n Q) : Rn X own ini cc nL d mc ms ret pc lo (.ref a :: st) h k n Q := by
  subst hp
  intro p l e R s m args below meth c G Z C hr ls H locs hl hw hk hn
  match a, hc with
  | 0, hc => cases hc
  | 1, hc => cases hc
  | q + 2, hc =>
    refine va_alen C.1 C.2.1 C.2.2.2.2.2.1.1 hw.1 q t (sx_w_at hc) (ht G) (v := Int32.ofInt (N : Int)) ?_ hd (K p l e R s m args below meth c G Z C hr ls H locs hl hw hk hn)
    rw [Int32.ofInt_eq_ofNat]
    rcases x with x | x | x | x | x <;> rfl
theorem sx_seti {G : sx_G} {q t N : Nat} {f : Nat → Int32} {h : sx_H} : (sx_w G 0 h).set q (sx_ad G (q + 2), .inl (G.2.1 t, N, .inl f)) = sx_w G 0 (h.set q (.inl (t, N, .inl f))) := by
  rw [← sx_w_set0]
  rfl
theorem sx_setl {G : sx_G} {q t N : Nat} {f : Nat → Int64} {h : sx_H} : (sx_w G 0 h).set q (sx_ad G (q + 2), .inl (G.2.1 t, N, .inr (.inl f))) = sx_w G 0 (h.set q (.inl (t, N, .inr (.inl f)))) := by
  rw [← sx_w_set0]
  rfl
set_option maxHeartbeats 200000 in
theorem sx_iast {a N : Nat} {i x : Int} {g : Nat → Int} {h1 : sx_H} (hd : decode cc pc = .ok (.iastore, 1)) (hp : pc + 1 = p1) (hc : sx_at h a = some (.inl (0, N, .inl (fun j => Int32.ofInt (g j))))) (hi : 0 ≤ i ∧ i < N) (hN : N ≤ 2147483647) (hs : h.set (a - 2) (.inl (0, N, .inl (fun j => Int32.ofInt (sx_u g i.toNat x j)))) = h1) (K : Rn X own ini cc nL d mc ms ret p1 lo (st) h1 k n Q) : Rn X own ini cc nL d mc ms ret pc lo (vI x :: vI i :: .ref a :: st) h k n Q := by
  subst hp
  intro p l e R s m args below meth c G Z C hr ls H locs hl hw hk hn
  subst hs
  match a, hc with
  | 0, hc => cases hc
  | 1, hc => cases hc
  | q + 2, hc =>
    refine va_iast C.1 C.2.1 C.2.2.2.2.2.1.1 hw.1 (sx_D G h) hw.2.2 q 0 (sx_w_at hc) rfl (sx_in hi (by omega)) hd (fun H1 locs1 hP hD hS => ?_)
    rw [sx_cl ⟨hi.1, by omega⟩, sx_upd, sx_seti] at hP
    exact K p l e R s m args below meth c G Z C hr ls H1 locs1 hl ⟨hP, by simpa using hw.2.1, hS⟩ hk hn
set_option maxHeartbeats 200000 in
theorem sx_last {a N : Nat} {i x : Int} {g : Nat → Int} {h1 : sx_H} (hd : decode cc pc = .ok (.lastore, 1)) (hp : pc + 1 = p1) (hc : sx_at h a = some (.inl (1, N, .inr (.inl (fun j => Int64.ofInt (g j)))))) (hi : 0 ≤ i ∧ i < N) (hN : N ≤ 2147483647) (hs : h.set (a - 2) (.inl (1, N, .inr (.inl (fun j => Int64.ofInt (sx_u g i.toNat x j))))) = h1) (K : Rn X own ini cc nL d mc ms ret p1 lo (st) h1 k n Q) : Rn X own ini cc nL d mc ms ret pc lo (vJ x :: vI i :: .ref a :: st) h k n Q := by
  subst hp
  intro p l e R s m args below meth c G Z C hr ls H locs hl hw hk hn
  subst hs
  match a, hc with
  | 0, hc => cases hc
  | 1, hc => cases hc
  | q + 2, hc =>
    refine va_last C.1 C.2.1 C.2.2.2.2.2.1.1 hw.1 (sx_D G h) hw.2.2 q 1 (sx_w_at hc) rfl (sx_in hi (by omega)) hd (fun H1 locs1 hP hD hS => ?_)
    rw [sx_cl ⟨hi.1, by omega⟩, sx_updL, sx_setl] at hP
    exact K p l e R s m args below meth c G Z C hr ls H1 locs1 hl ⟨hP, by simpa using hw.2.1, hS⟩ hk hn
theorem sx_narB (x : Int) : vp_nar .byte (Int32.ofInt x) = Int32.ofInt (sx_b8 x) := by rw [vp_nar_byte]; exact (Int32.ofInt_toInt _).symm
theorem sx_narZ {x : Int} (h : x = 0 ∨ x = 1) : vp_nar .boolean (Int32.ofInt x) = Int32.ofInt x := by rcases h with rfl | rfl <;> decide
set_option maxHeartbeats 200000 in
theorem sx_bast {a N : Nat} {i x : Int} {g : Nat → Int} {h1 : sx_H} (hd : decode cc pc = .ok (.bastore, 1)) (hp : pc + 1 = p1) (hc : sx_at h a = some (.inl (2, N, .inl (fun j => Int32.ofInt (g j))))) (hi : 0 ≤ i ∧ i < N) (hN : N ≤ 2147483647) (hs : h.set (a - 2) (.inl (2, N, .inl (fun j => Int32.ofInt (sx_u g i.toNat (sx_b8 x) j)))) = h1) (K : Rn X own ini cc nL d mc ms ret p1 lo (st) h1 k n Q) : Rn X own ini cc nL d mc ms ret pc lo (vI x :: vI i :: .ref a :: st) h k n Q := by
  subst hp
  intro p l e R s m args below meth c G Z C hr ls H locs hl hw hk hn
  subst hs
  match a, hc with
  | 0, hc => cases hc
  | 1, hc => cases hc
  | q + 2, hc =>
    refine va_bast C.1 C.2.1 C.2.2.2.2.2.1.1 hw.1 (sx_D G h) hw.2.2 q 2 (sx_w_at hc) rfl (sx_in hi (by omega)) hd (fun H1 locs1 hP hD hS => ?_)
    rw [sx_cl ⟨hi.1, by omega⟩, sx_narB, sx_upd, sx_seti] at hP
    exact K p l e R s m args below meth c G Z C hr ls H1 locs1 hl ⟨hP, by simpa using hw.2.1, hS⟩ hk hn
set_option maxHeartbeats 200000 in
theorem sx_zast {a N : Nat} {i x : Int} {g : Nat → Int} {h1 : sx_H} (hd : decode cc pc = .ok (.bastore, 1)) (hp : pc + 1 = p1) (hc : sx_at h a = some (.inl (3, N, .inl (fun j => Int32.ofInt (g j))))) (hi : 0 ≤ i ∧ i < N) (hN : N ≤ 2147483647) (hx : x = 0 ∨ x = 1) (hs : h.set (a - 2) (.inl (3, N, .inl (fun j => Int32.ofInt (sx_u g i.toNat x j)))) = h1) (K : Rn X own ini cc nL d mc ms ret p1 lo (st) h1 k n Q) : Rn X own ini cc nL d mc ms ret pc lo (vI x :: vI i :: .ref a :: st) h k n Q := by
  subst hp
  intro p l e R s m args below meth c G Z C hr ls H locs hl hw hk hn
  subst hs
  match a, hc with
  | 0, hc => cases hc
  | 1, hc => cases hc
  | q + 2, hc =>
    refine va_zast C.1 C.2.1 C.2.2.2.2.2.1.1 hw.1 (sx_D G h) hw.2.2 q 3 (sx_w_at hc) rfl (sx_in hi (by omega)) hd (fun H1 locs1 hP hD hS => ?_)
    rw [sx_cl ⟨hi.1, by omega⟩, sx_narZ hx, sx_upd, sx_seti] at hP
    exact K p l e R s m args below meth c G Z C hr ls H1 locs1 hl ⟨hP, by simpa using hw.2.1, hS⟩ hk hn
theorem sx_seta {G : sx_G} {q t N j v : Nat} {f : Nat → Option Nat} {h : sx_H} : (sx_w G 0 h).set q (sx_ad G (q + 2), .inl (G.2.1 t, N, .inr (.inr (.inr (.inr (va_up (fun j => (f j).map (sx_ad G)) j (some (sx_ad G v)))))))) = sx_w G 0 (h.set q (.inl (t, N, .inr (.inr (.inr (.inr (va_up f j (some v)))))))) := by
  rw [← sx_w_set0]
  have : (va_up (fun j => (f j).map (sx_ad G)) j (some (sx_ad G v))) = fun i => (va_up f j (some v) i).map (sx_ad G) := by
    funext i
    unfold va_up
    split <;> rfl
  rw [this]
  rfl
set_option maxHeartbeats 200000 in
theorem sx_aast {a N qv ci : Nat} {r : vw_C} {vs : List Value} {i : Int} {f : Nat → Option Nat} {h1 : sx_H} (hd : decode cc pc = .ok (.aastore, 1)) (hp : pc + 1 = p1) (hc : sx_at h a = some (.inl (4, N, .inr (.inr (.inr (.inr f)))))) (hi : 0 ≤ i ∧ i < N) (hN : N ≤ 2147483647) (hv : h[qv]? = some (.inr (ci, vs))) (hr0 : vwCl[ci]? = some r) (hr1 : r.1 = RX7) (hs : h.set (a - 2) (.inl (4, N, .inr (.inr (.inr (.inr (va_up f i.toNat (some (qv + 2)))))))) = h1) (K : Rn X own ini cc nL d mc ms ret p1 lo (st) h1 k n Q) : Rn X own ini cc nL d mc ms ret pc lo (.ref (qv + 2) :: vI i :: .ref a :: st) h k n Q := by
  subst hp
  intro p l e R s m args below meth c G Z C hr ls H locs hl hw hk hn
  subst hs
  match a, hc with
  | 0, hc => cases hc
  | 1, hc => cases hc
  | q + 2, hc =>
    refine va_astq (r := r) C.1 C.2.1 C.2.2.2.2.2.1.1 hw.1 (sx_D G h) hw.2.2 q 4 qv ci (sx_w_at hc) (by rw [hr1]; rfl) (sx_w_at hv) hr0 (sx_in hi (by omega)) hd (fun H1 locs1 hP hD hS => ?_)
    rw [sx_cl ⟨hi.1, by omega⟩, sx_seta] at hP
    exact K p l e R s m args below meth c G Z C hr ls H1 locs1 hl ⟨hP, by simpa using hw.2.1, hS⟩ hk hn
theorem sx_push {G : sx_G} {s : State} {h : sx_H} {H H1 : Heap} {locs : List Loc} {k : Nat} {c0 : sx_C} (hw : sx_Wd G s h H locs k) (hz : H.size = sx_b G + h.length) (hE : sx_b G ≤ s.heap.size) (z1 : H1.size = H.size + 1) (o1 : ∀ q, q < H.size → H1[q]? = H[q]?) (e1 : va_at G.1 vwCl (sx_ad G (h.length + 2), sx_e G c0) H1) : sx_Wd G s (h ++ [c0]) H1 locs (k + 1) := by
  obtain ⟨hP, hq, hS⟩ := hw
  refine ⟨?_, by simp; omega, Nat.le_trans hS.1 (by omega), fun x h1 h2 => (o1 x (Nat.lt_of_lt_of_le h1 hS.1)).trans (hS.2.1 x h1 h2), hS.2.2⟩
  rw [sx_w_app]
  refine (hP.kept (fun k x hx => o1 x.1 ((hP k x hx).lt))).app (fun k x hx => ?_)
  have hk : k < 1 := (List.getElem?_eq_some_iff.mp hx).1
  rw [show k = 0 by omega] at hx
  cases hx
  rw [Nat.zero_add]
  exact e1
set_option maxHeartbeats 200000 in
theorem sx_new {idx ci N a1 k1 n1 : Nat} {C0 : String} {T : u_T} {tys : Nat → FieldType} {fs : List Value} {h1 : sx_H} (hd : decode cc pc = .ok (.new idx, 3)) (hp : pc + 3 = p1) (hc : sx_Cl ci C0 T N tys) (hcl : Cond.classLink own idx C0 ∈ sx_T) (hins : Cond.instantiable C0 N ∈ sx_T) (hini : Cond.initialized C0 ∈ sx_T) (hfs : ∀ j, j < N → defaultValue (tys j) = vp_V fs j) (hv : ∀ G, fs.map (sx_v G) = fs) (hk1 : k + 1 = k1) (hn1 : n + N = n1) (hk2 : k1 ≤ mc) (hn2 : n1 ≤ ms) (ha : h.length + 2 = a1) (hh : h ++ [.inr (ci, fs)] = h1) (K : Rn X own ini cc nL d mc ms ret p1 lo (.ref a1 :: st) h1 k1 n1 Q) : Rn X own ini cc nL d mc ms ret pc lo (st) h k n Q := by
  subst hp
  intro p l e R s m args below meth c G Z C hr ls H locs hl hw hk hn
  subst hk1 hn1 ha hh
  intro T0 hT X0
  have hz := sx_size X0 hT hw C.2.2.2.2.2.2.1.2.2.2.2.2.1
  obtain ⟨c1, c2, c3, c4⟩ := hc
  have hKn := C.2.2.2.2.2.1.1.1 ci _ c1
  have hmc := C.2.2.2.2.2.2.2.2.2.1
  have hms := C.2.2.2.2.2.2.2.2.2.2.1
  refine (?_ : W p l e R s m args below meth c H locs k n Z (F0 m pc ls (st.map (sx_v G)))) T0 hT X0
  refine W.newcK C.1 C.2.1 C.2.2.2.1 (C.2.2.2.2.1 _ hcl) (C.2.2.2.2.1 _ hins) (C.2.2.2.2.1 _ hini) rfl hd (Nat.le_trans hk2 hmc) (Nat.le_trans hn2 hms) hKn.2.1 rfl (fun H1 kC hkC e1 z1 o1 => ?_)
  have hw1 : sx_Wd G s (h ++ [.inr (ci, fs)]) H1 locs (k + 1) := by
    refine sx_push hw hz C.2.2.2.2.2.2.1.2.2.2.2.2.1 z1 o1 ?_
    show va_at G.1 vwCl (sx_b G + h.length, .inr (ci, fs.map (sx_v G))) H1
    rw [hv G, ← hz]
    exact ⟨_, c1, (u_born tys C.2.2.2.2.1 c2 hKn hkC e1 c3).to hfs⟩
  have K1 := K p l e R s m args below meth c G Z C hr ls H1 locs hl hw1 hk2 hn2
  rw [hz]
  exact K1
set_option maxHeartbeats 200000 in
theorem sx_newI {N a1 k1 n1 : Nat} {h1 : sx_H} (hd : decode cc pc = .ok (.newarray .int, 2)) (hp : pc + 2 = p1) (hcl : Cond.arrayClass .int ∈ sx_T) (hN : N ≤ 1000) (hk1 : k + 1 = k1) (hn1 : n + N = n1) (hk2 : k1 ≤ mc) (hn2 : n1 ≤ ms) (ha : h.length + 2 = a1) (hh : h ++ [.inl (0, N, .inl (fun _ => Int32.ofInt 0))] = h1) (K : Rn X own ini cc nL d mc ms ret p1 lo (.ref a1 :: st) h1 k1 n1 Q) : Rn X own ini cc nL d mc ms ret pc lo (vI (N : Int) :: st) h k n Q := by
  subst hp
  intro p l e R s m args below meth c G Z C hr ls H locs hl hw hk hn
  subst hk1 hn1 ha hh
  intro T0 hT X0
  have hz := sx_size X0 hT hw C.2.2.2.2.2.2.1.2.2.2.2.2.1
  have hmc := C.2.2.2.2.2.2.2.2.2.1
  have hms := C.2.2.2.2.2.2.2.2.2.2.1
  refine (?_ : W p l e R s m args below meth c H locs k n Z (F0 m pc ls (.int (Int32.ofInt (N : Int)) :: st.map (sx_v G)))) T0 hT X0
  refine va_newaK (atype := .int) C.1 C.2.1 (C.2.2.2.2.1 _ hcl) rfl hd rfl (n := Int32.ofInt (N : Int)) (N := N) ?_ ?_ ?_ (Nat.le_trans hk2 hmc) (Nat.le_trans hn2 hms) rfl (fun H1 cA e1 z1 o1 hAr hNm => ?_)
  · rw [sx_i0, sx_ilt (by omega) (by omega)]
    omega
  · rw [sx_cl (by omega)]
    omega
  · show N * componentBytes .int ≤ 536870912
    have : componentBytes .int ≤ 8 := by decide
    have := Nat.mul_le_mul hN this
    omega
  have hcA : cA = G.2.1 0 := by
    have h2 := (C.2.2.2.2.2.1.1.2 0 _ (show (sx_tys G)[0]? = some (G.2.1 0, .int) from rfl)).2
    have h3 : s.vm.findClass ("[" ++ (FieldType.int).toString) = some (G.2.1 0) := h2
    exact Option.some.inj (hNm.symm.trans h3)
  subst hcA
  have hw1 : sx_Wd G s (h ++ [.inl (0, N, .inl (fun _ => Int32.ofInt 0))]) H1 locs (k + 1) := by
    refine sx_push hw hz C.2.2.2.2.2.2.1.2.2.2.2.2.1 z1 o1 ?_
    show H1[sx_b G + h.length]? = some _
    rw [← hz, e1]
    rfl
  have K1 := K p l e R s m args below meth c G Z C hr ls H1 locs hl hw1 hk2 hn2
  rw [hz]
  exact K1
set_option maxHeartbeats 200000 in
theorem sx_newJ {N a1 k1 n1 : Nat} {h1 : sx_H} (hd : decode cc pc = .ok (.newarray .long, 2)) (hp : pc + 2 = p1) (hcl : Cond.arrayClass .long ∈ sx_T) (hN : N ≤ 1000) (hk1 : k + 1 = k1) (hn1 : n + N = n1) (hk2 : k1 ≤ mc) (hn2 : n1 ≤ ms) (ha : h.length + 2 = a1) (hh : h ++ [.inl (1, N, .inr (.inl (fun _ => Int64.ofInt 0)))] = h1) (K : Rn X own ini cc nL d mc ms ret p1 lo (.ref a1 :: st) h1 k1 n1 Q) : Rn X own ini cc nL d mc ms ret pc lo (vI (N : Int) :: st) h k n Q := by
  subst hp
  intro p l e R s m args below meth c G Z C hr ls H locs hl hw hk hn
  subst hk1 hn1 ha hh
  intro T0 hT X0
  have hz := sx_size X0 hT hw C.2.2.2.2.2.2.1.2.2.2.2.2.1
  have hmc := C.2.2.2.2.2.2.2.2.2.1
  have hms := C.2.2.2.2.2.2.2.2.2.2.1
  refine (?_ : W p l e R s m args below meth c H locs k n Z (F0 m pc ls (.int (Int32.ofInt (N : Int)) :: st.map (sx_v G)))) T0 hT X0
  refine va_newaK (atype := .long) C.1 C.2.1 (C.2.2.2.2.1 _ hcl) rfl hd rfl (n := Int32.ofInt (N : Int)) (N := N) ?_ ?_ ?_ (Nat.le_trans hk2 hmc) (Nat.le_trans hn2 hms) rfl (fun H1 cA e1 z1 o1 hAr hNm => ?_)
  · rw [sx_i0, sx_ilt (by omega) (by omega)]
    omega
  · rw [sx_cl (by omega)]
    omega
  · show N * componentBytes .long ≤ 536870912
    have : componentBytes .long ≤ 8 := by decide
    have := Nat.mul_le_mul hN this
    omega
  have hcA : cA = G.2.1 1 := by
    have h2 := (C.2.2.2.2.2.1.1.2 1 _ (show (sx_tys G)[1]? = some (G.2.1 1, .long) from rfl)).2
    have h3 : s.vm.findClass ("[" ++ (FieldType.long).toString) = some (G.2.1 1) := h2
    exact Option.some.inj (hNm.symm.trans h3)
  subst hcA
  have hw1 : sx_Wd G s (h ++ [.inl (1, N, .inr (.inl (fun _ => Int64.ofInt 0)))]) H1 locs (k + 1) := by
    refine sx_push hw hz C.2.2.2.2.2.2.1.2.2.2.2.2.1 z1 o1 ?_
    show H1[sx_b G + h.length]? = some _
    rw [← hz, e1]
    rfl
  have K1 := K p l e R s m args below meth c G Z C hr ls H1 locs hl hw1 hk2 hn2
  rw [hz]
  exact K1
set_option maxHeartbeats 200000 in
theorem sx_newB {N a1 k1 n1 : Nat} {h1 : sx_H} (hd : decode cc pc = .ok (.newarray .byte, 2)) (hp : pc + 2 = p1) (hcl : Cond.arrayClass .byte ∈ sx_T) (hN : N ≤ 1000) (hk1 : k + 1 = k1) (hn1 : n + N = n1) (hk2 : k1 ≤ mc) (hn2 : n1 ≤ ms) (ha : h.length + 2 = a1) (hh : h ++ [.inl (2, N, .inl (fun _ => Int32.ofInt 0))] = h1) (K : Rn X own ini cc nL d mc ms ret p1 lo (.ref a1 :: st) h1 k1 n1 Q) : Rn X own ini cc nL d mc ms ret pc lo (vI (N : Int) :: st) h k n Q := by
  subst hp
  intro p l e R s m args below meth c G Z C hr ls H locs hl hw hk hn
  subst hk1 hn1 ha hh
  intro T0 hT X0
  have hz := sx_size X0 hT hw C.2.2.2.2.2.2.1.2.2.2.2.2.1
  have hmc := C.2.2.2.2.2.2.2.2.2.1
  have hms := C.2.2.2.2.2.2.2.2.2.2.1
  refine (?_ : W p l e R s m args below meth c H locs k n Z (F0 m pc ls (.int (Int32.ofInt (N : Int)) :: st.map (sx_v G)))) T0 hT X0
  refine va_newaK (atype := .byte) C.1 C.2.1 (C.2.2.2.2.1 _ hcl) rfl hd rfl (n := Int32.ofInt (N : Int)) (N := N) ?_ ?_ ?_ (Nat.le_trans hk2 hmc) (Nat.le_trans hn2 hms) rfl (fun H1 cA e1 z1 o1 hAr hNm => ?_)
  · rw [sx_i0, sx_ilt (by omega) (by omega)]
    omega
  · rw [sx_cl (by omega)]
    omega
  · show N * componentBytes .byte ≤ 536870912
    have : componentBytes .byte ≤ 8 := by decide
    have := Nat.mul_le_mul hN this
    omega
  have hcA : cA = G.2.1 2 := by
    have h2 := (C.2.2.2.2.2.1.1.2 2 _ (show (sx_tys G)[2]? = some (G.2.1 2, .byte) from rfl)).2
    have h3 : s.vm.findClass ("[" ++ (FieldType.byte).toString) = some (G.2.1 2) := h2
    exact Option.some.inj (hNm.symm.trans h3)
  subst hcA
  have hw1 : sx_Wd G s (h ++ [.inl (2, N, .inl (fun _ => Int32.ofInt 0))]) H1 locs (k + 1) := by
    refine sx_push hw hz C.2.2.2.2.2.2.1.2.2.2.2.2.1 z1 o1 ?_
    show H1[sx_b G + h.length]? = some _
    rw [← hz, e1]
    rfl
  have K1 := K p l e R s m args below meth c G Z C hr ls H1 locs hl hw1 hk2 hn2
  rw [hz]
  exact K1
set_option maxHeartbeats 200000 in
theorem sx_newZ {N a1 k1 n1 : Nat} {h1 : sx_H} (hd : decode cc pc = .ok (.newarray .boolean, 2)) (hp : pc + 2 = p1) (hcl : Cond.arrayClass .boolean ∈ sx_T) (hN : N ≤ 1000) (hk1 : k + 1 = k1) (hn1 : n + N = n1) (hk2 : k1 ≤ mc) (hn2 : n1 ≤ ms) (ha : h.length + 2 = a1) (hh : h ++ [.inl (3, N, .inl (fun _ => Int32.ofInt 0))] = h1) (K : Rn X own ini cc nL d mc ms ret p1 lo (.ref a1 :: st) h1 k1 n1 Q) : Rn X own ini cc nL d mc ms ret pc lo (vI (N : Int) :: st) h k n Q := by
  subst hp
  intro p l e R s m args below meth c G Z C hr ls H locs hl hw hk hn
  subst hk1 hn1 ha hh
  intro T0 hT X0
  have hz := sx_size X0 hT hw C.2.2.2.2.2.2.1.2.2.2.2.2.1
  have hmc := C.2.2.2.2.2.2.2.2.2.1
  have hms := C.2.2.2.2.2.2.2.2.2.2.1
  refine (?_ : W p l e R s m args below meth c H locs k n Z (F0 m pc ls (.int (Int32.ofInt (N : Int)) :: st.map (sx_v G)))) T0 hT X0
  refine va_newaK (atype := .boolean) C.1 C.2.1 (C.2.2.2.2.1 _ hcl) rfl hd rfl (n := Int32.ofInt (N : Int)) (N := N) ?_ ?_ ?_ (Nat.le_trans hk2 hmc) (Nat.le_trans hn2 hms) rfl (fun H1 cA e1 z1 o1 hAr hNm => ?_)
  · rw [sx_i0, sx_ilt (by omega) (by omega)]
    omega
  · rw [sx_cl (by omega)]
    omega
  · show N * componentBytes .boolean ≤ 536870912
    have : componentBytes .boolean ≤ 8 := by decide
    have := Nat.mul_le_mul hN this
    omega
  have hcA : cA = G.2.1 3 := by
    have h2 := (C.2.2.2.2.2.1.1.2 3 _ (show (sx_tys G)[3]? = some (G.2.1 3, .boolean) from rfl)).2
    have h3 : s.vm.findClass ("[" ++ (FieldType.boolean).toString) = some (G.2.1 3) := h2
    exact Option.some.inj (hNm.symm.trans h3)
  subst hcA
  have hw1 : sx_Wd G s (h ++ [.inl (3, N, .inl (fun _ => Int32.ofInt 0))]) H1 locs (k + 1) := by
    refine sx_push hw hz C.2.2.2.2.2.2.1.2.2.2.2.2.1 z1 o1 ?_
    show H1[sx_b G + h.length]? = some _
    rw [← hz, e1]
    rfl
  have K1 := K p l e R s m args below meth c G Z C hr ls H1 locs hl hw1 hk2 hn2
  rw [hz]
  exact K1
set_option maxHeartbeats 200000 in
theorem sx_newA {idx N a1 k1 n1 : Nat} {h1 : sx_H} (hd : decode cc pc = .ok (.anewarray idx, 3)) (hp : pc + 3 = p1) (hcl : Cond.classLink own idx RX7 ∈ sx_T) (hN : N ≤ 1000) (hk1 : k + 1 = k1) (hn1 : n + N = n1) (hk2 : k1 ≤ mc) (hn2 : n1 ≤ ms) (ha : h.length + 2 = a1) (hh : h ++ [.inl (4, N, .inr (.inr (.inr (.inr (fun _ => none)))))] = h1) (K : Rn X own ini cc nL d mc ms ret p1 lo (.ref a1 :: st) h1 k1 n1 Q) : Rn X own ini cc nL d mc ms ret pc lo (vI (N : Int) :: st) h k n Q := by
  subst hp
  intro p l e R s m args below meth c G Z C hr ls H locs hl hw hk hn
  subst hk1 hn1 ha hh
  intro T0 hT X0
  have hz := sx_size X0 hT hw C.2.2.2.2.2.2.1.2.2.2.2.2.1
  have hmc := C.2.2.2.2.2.2.2.2.2.1
  have hms := C.2.2.2.2.2.2.2.2.2.2.1
  have hN0 : (Int32.ofInt (N : Int)).toNatClampNeg = N := by
    rw [sx_cl (by omega)]
    omega
  refine (?_ : W p l e R s m args below meth c H locs k n Z (F0 m pc ls (.int (Int32.ofInt (N : Int)) :: st.map (sx_v G)))) T0 hT X0
  refine W.anew C.1 C.2.1 C.2.2.2.1 (C.2.2.2.2.1 _ hcl) (va_AO.use C.2.2.2.2.2.1.2.1) rfl hd rfl (n := Int32.ofInt (N : Int)) ?_ (by rw [hN0]; omega) (Nat.le_trans hk2 hmc) (by rw [hN0]; exact Nat.le_trans hn2 hms) (fun cA kA comp f1 f2 f3 f4 => ?_)
  · rw [sx_i0, sx_ilt (by omega) (by omega)]
    omega
  have hcA : cA = G.2.1 4 := by
    obtain ⟨kA', comp', g1, g2, g3, g4⟩ := (C.2.2.2.2.2.1.1.2 4 _ (show (sx_tys G)[4]? = some (G.2.1 4, .object RX7) from rfl)).2
    exact Option.some.inj (f1.symm.trans g4)
  subst hcA
  rw [hN0]
  have hw1 : sx_Wd G s (h ++ [.inl (4, N, .inr (.inr (.inr (.inr (fun _ => none)))))]) (H.push { cls := G.2.1 4, slots := Array.replicate N .null, vm := .none }) locs (k + 1) := by
    refine sx_push hw hz C.2.2.2.2.2.2.1.2.2.2.2.2.1 (by simp) (fun q hq => by rw [Array.getElem?_push, if_neg (Nat.ne_of_lt hq)]) ?_
    show (H.push _)[sx_b G + h.length]? = some _
    rw [← hz, Array.getElem?_push_size, arrV_new]
    rfl
  have K1 := K p l e R s m args below meth c G Z C hr ls _ locs hl hw1 hk2 hn2
  rw [hz]
  exact K1
set_option maxHeartbeats 200000 in
theorem sx_obj {a idx : Nat} (hd : decode cc pc = .ok (.invokespecial idx, 3)) (hp : pc + 3 = p1) (hl0 : Cond.methodLink own idx objectInit ∈ sx_T) (hl1 : Cond.instanceMethod objectInit ∈ sx_T) (hl2 : Cond.code objectInit ⟨#[0xb1]⟩ 1 none ∈ sx_T) (hd1 : 1 ≤ d) (hst : (st.map fun v => v.category).sum ≤ 8) (K : Rn X own ini cc nL d mc ms ret p1 lo (st) h k n Q) : Rn X own ini cc nL d mc ms ret pc lo (.ref a :: st) h k n Q := by
  subst hp
  intro p l e R s m args below meth c G Z C hr ls H locs hl hw hk hn
  refine W.objInit C.1 C.2.1 C.2.2.2.1 (C.2.2.2.2.1 _ hl0) (C.2.2.2.2.1 _ hl1) (C.2.2.2.2.1 _ hl2) rfl (by rw [C.2.2.1]; exact hl.1) rfl hd (Nat.le_trans hd1 C.2.2.2.2.2.2.2.1) ?_ (K p l e R s m args below meth c G Z C hr ls H locs hl hw hk hn)
  have h1 := C.2.2.2.2.2.2.2.2.1
  have h2 : ((st.map (sx_v G)).map fun v => v.category).sum = (st.map fun v => v.category).sum := by
    rw [List.map_map]
    congr 1
    exact List.map_congr_left (fun v _ => sx_v_cat G v)
  show 2 * 0 + ((st.map (sx_v G)).map fun v => v.category).sum + 12 ≤ R.locals
  rw [h2]
  omega
theorem sx_mapcat (G : sx_G) (st : List Value) : ((st.map (sx_v G)).map fun v => v.category).sum = (st.map fun v => v.category).sum := by
  rw [List.map_map]
  congr 1
  exact List.map_congr_left (fun v _ => sx_v_cat G v)
theorem sx_after {p : Program} {l : Launch} {e : Env} {R : Room} {s : State} {m : MethodId} {args : Array Value} {below : List Frame} {meth : Method} {c : Code} {H : Heap} {locs : List Loc} {ls : Array Slot} {G : sx_G} {Z : State → Prop} {mc1 ms1 : Nat} {rest st0 : List Value} {a : Array Value} {Q1 : Option Value → sx_H → Prop}
    (hz : H.size = sx_b G + h.length) (hw : sx_Wd G s h H locs k)
    (hr : va_Run p l e R s m args below meth c H locs k n mc1 ms1 (F0 m pc ls st0) rest (sx_Qc G (h.length + mc1) Q1 a) (sx_A G))
    (kk : ∀ (v : Option Value) (h1 : sx_H) (H1 : Heap) (locs1 : List Loc), Q1 v h1 → sx_Wd G s h1 H1 locs1 (k + mc1) → W p l e R s m args below meth c H1 locs1 (k + mc1) (n + ms1) Z (F0 m (pc + 3) ls ((v.map (sx_v G)).toList ++ rest))) :
    W p l e R s m args below meth c H locs k n Z (F0 m pc ls st0) := by
  intro T hT X
  obtain ⟨v, st₀, t, T', L, h0, X', hL, e1, e2, ⟨⟨v1, h1, hv, hq, hP, hlen⟩, hz1, hk1⟩, stp⟩ := hr T hT X
  cases hv
  obtain ⟨hP0, hq0, hS⟩ := hw
  rw [h0] at hz1 hk1
  have hw1 : sx_Wd G s h1 T'.heap (locs ++ L) (k + mc1) := by
    refine ⟨by rw [e1]; exact hP, by rw [hlen]; omega, Nat.le_trans hS.1 (by rw [e1]; exact hz1), fun q g1 g2 => ?_, fun q hq => ?_⟩
    · rw [e1, hk1 q (Nat.lt_of_lt_of_le g1 hS.1) g2]
      exact hS.2.1 q g1 g2
    · rcases List.mem_append.mp hq with h | h
      · exact hS.2.2 q h
      · exact hL q h
  obtain ⟨t2, a1, b1⟩ := kk v1 h1 T'.heap (locs ++ L) hq hw1 T' rfl X'
  exact ⟨t2, stp t2 a1, b1⟩
set_option maxHeartbeats 200000 in
theorem sx_callVr {a ci : Nat} {rc : vw_C} {fs : List Value} {d1 mc1 ms1 idx nA k1 n1 : Nat} {y : MethodName} {cc1 : ByteArray} {nL1 : Nat} {ret1 : Option FieldType} {As st0 : List Value} {v0 : Value} {h1 : sx_H} (hd : decode cc pc = .ok (.invokevirtual idx, 3)) (hp : pc + 3 = p1) (hst : st0 = As.reverse ++ .ref a :: st) (hM : Ct X y cc1 nL1 ret1 d1 mc1 ms1 (.ref a :: As) h (sx_is (some v0) h1)) (hm : sx_MV y cc1 nL1 ret1 nA) (hlk : Cond.methodLink own idx y ∈ sx_T) (hc : sx_at h a = some (.inr (ci, fs))) (hcl : vwCl[ci]? = some rc) (hcn : rc.1 = y.cls) (hd1 : d1 + 1 ≤ d) (hnA : As.length = nA) (hrs : (st.map fun v => v.category).sum ≤ 8) (hk1 : k + mc1 = k1) (hn1 : n + ms1 = n1) (hk2 : k1 ≤ mc) (hn2 : n1 ≤ ms) (K : Rn X own ini cc nL d mc ms ret p1 lo (v0 :: st) h1 k1 n1 Q) : Rn X own ini cc nL d mc ms ret pc lo (st0) h k n Q := by
  subst hp
  intro p l e R s m args below meth c G Z C hr ls H locs hl hw hk hn
  subst hst hk1 hn1
  have hE : sx_b G ≤ s.heap.size := C.2.2.2.2.2.2.1.2.2.2.2.2.1
  intro T0 hT X0
  have hz := sx_size X0 hT hw hE
  have hpre : ∀ U : State, U.heap = H → s.WarmedH U.vm → va_Pc ((.ref a :: As).map (sx_v G)) (sx_Pre X G h) ((.ref a :: As).map (sx_v G)).toArray U := fun U hU hW => ⟨rfl, C.2.2.2.2.2.1.moved hW, by rw [hU]; exact (C.2.2.2.2.2.2.1.kept hw.2.2).moved hW.alike, by rw [hU]; exact hw.1, by rw [hU]; exact hz⟩
  have hfr := C.2.2.2.2.2.2.2.1
  have hlo := C.2.2.2.2.2.2.2.2.1
  have hmc := C.2.2.2.2.2.2.2.2.2.1
  have hms := C.2.2.2.2.2.2.2.2.2.2.1
  obtain ⟨m1, m2, m3, m4, m5, m6⟩ := hm
  have hrv : ∃ cellB : Cell, H[sx_ad G a]? = some cellB ∧ cellB.vm.isStatics = false ∧ s.vm.findClass y.cls = some cellB.cls := by
    match a, hc with
    | 0, hc => cases hc
    | 1, hc => cases hc
    | q + 2, hc =>
      have := va_recv C.2.2.2.2.2.1.1 hw.1 hcl (sx_w_at hc)
      rwa [hcn] at this
  have hrun := va_runV (l := l) (e := e) (below := below) (meth := meth) (locs := locs) (cells := k) (slots := n) (R := R) (b := sx_ad G a) (As := As.map (sx_v G)) (rest := st.map (sx_v G)) (C := y.cls) (index := idx) (own := own) (n := nA) (g := F0 m pc ls ((As.reverse ++ .ref a :: st).map (sx_v G))) (nL := nL) (cc := cc) (Ts := sx_T) ⟨C.1, C.2.1, C.2.2.1, C.2.2.2.1, C.2.2.2.2.1⟩ (hM l G)
    ⟨callB_of nA C.2.2.2.2.1 (sx_good m1) rfl rfl rfl (C.2.2.2.2.1 _ m4) (C.2.2.2.2.1 _ hlk) m5 ⟨by show d1 + 1 ≤ R.frames; omega, by show 8 + (nL1 + 11) + 64 * d1 ≤ R.locals; omega⟩, C.2.2.2.2.1 _ m2, C.2.2.2.2.1 _ m3⟩ ⟨sx_blind X G _ h, hrv, hpre⟩ rfl (by simp [hnA]) hl.1 (by simp [sx_v]) (lv_room (by rw [sx_mapcat]; exact hrs)) hd ⟨Nat.le_trans hk2 hmc, Nat.le_trans hn2 hms⟩
  refine sx_after hz hw hrun (fun v h2 H1 locs1 hq hw1 => ?_) T0 hT X0
  obtain ⟨rfl, rfl⟩ := hq
  exact K p l e R s m args below meth c G Z C hr ls H1 locs1 hl hw1 hk2 hn2
set_option maxHeartbeats 200000 in
theorem sx_callVn {a ci : Nat} {rc : vw_C} {fs : List Value} {d1 mc1 ms1 idx nA k1 n1 : Nat} {y : MethodName} {cc1 : ByteArray} {nL1 : Nat} {ret1 : Option FieldType} {As st0 : List Value} {h1 : sx_H} (hd : decode cc pc = .ok (.invokevirtual idx, 3)) (hp : pc + 3 = p1) (hst : st0 = As.reverse ++ .ref a :: st) (hM : Ct X y cc1 nL1 ret1 d1 mc1 ms1 (.ref a :: As) h (sx_is none h1)) (hm : sx_MV y cc1 nL1 ret1 nA) (hlk : Cond.methodLink own idx y ∈ sx_T) (hc : sx_at h a = some (.inr (ci, fs))) (hcl : vwCl[ci]? = some rc) (hcn : rc.1 = y.cls) (hd1 : d1 + 1 ≤ d) (hnA : As.length = nA) (hrs : (st.map fun v => v.category).sum ≤ 8) (hk1 : k + mc1 = k1) (hn1 : n + ms1 = n1) (hk2 : k1 ≤ mc) (hn2 : n1 ≤ ms) (K : Rn X own ini cc nL d mc ms ret p1 lo (st) h1 k1 n1 Q) : Rn X own ini cc nL d mc ms ret pc lo (st0) h k n Q := by
  subst hp
  intro p l e R s m args below meth c G Z C hr ls H locs hl hw hk hn
  subst hst hk1 hn1
  have hE : sx_b G ≤ s.heap.size := C.2.2.2.2.2.2.1.2.2.2.2.2.1
  intro T0 hT X0
  have hz := sx_size X0 hT hw hE
  have hpre : ∀ U : State, U.heap = H → s.WarmedH U.vm → va_Pc ((.ref a :: As).map (sx_v G)) (sx_Pre X G h) ((.ref a :: As).map (sx_v G)).toArray U := fun U hU hW => ⟨rfl, C.2.2.2.2.2.1.moved hW, by rw [hU]; exact (C.2.2.2.2.2.2.1.kept hw.2.2).moved hW.alike, by rw [hU]; exact hw.1, by rw [hU]; exact hz⟩
  have hfr := C.2.2.2.2.2.2.2.1
  have hlo := C.2.2.2.2.2.2.2.2.1
  have hmc := C.2.2.2.2.2.2.2.2.2.1
  have hms := C.2.2.2.2.2.2.2.2.2.2.1
  obtain ⟨m1, m2, m3, m4, m5, m6⟩ := hm
  have hrv : ∃ cellB : Cell, H[sx_ad G a]? = some cellB ∧ cellB.vm.isStatics = false ∧ s.vm.findClass y.cls = some cellB.cls := by
    match a, hc with
    | 0, hc => cases hc
    | 1, hc => cases hc
    | q + 2, hc =>
      have := va_recv C.2.2.2.2.2.1.1 hw.1 hcl (sx_w_at hc)
      rwa [hcn] at this
  have hrun := va_runV (l := l) (e := e) (below := below) (meth := meth) (locs := locs) (cells := k) (slots := n) (R := R) (b := sx_ad G a) (As := As.map (sx_v G)) (rest := st.map (sx_v G)) (C := y.cls) (index := idx) (own := own) (n := nA) (g := F0 m pc ls ((As.reverse ++ .ref a :: st).map (sx_v G))) (nL := nL) (cc := cc) (Ts := sx_T) ⟨C.1, C.2.1, C.2.2.1, C.2.2.2.1, C.2.2.2.2.1⟩ (hM l G)
    ⟨callB_of nA C.2.2.2.2.1 (sx_good m1) rfl rfl rfl (C.2.2.2.2.1 _ m4) (C.2.2.2.2.1 _ hlk) m5 ⟨by show d1 + 1 ≤ R.frames; omega, by show 8 + (nL1 + 11) + 64 * d1 ≤ R.locals; omega⟩, C.2.2.2.2.1 _ m2, C.2.2.2.2.1 _ m3⟩ ⟨sx_blind X G _ h, hrv, hpre⟩ rfl (by simp [hnA]) hl.1 (by simp [sx_v]) (lv_room (by rw [sx_mapcat]; exact hrs)) hd ⟨Nat.le_trans hk2 hmc, Nat.le_trans hn2 hms⟩
  refine sx_after hz hw hrun (fun v h2 H1 locs1 hq hw1 => ?_) T0 hT X0
  obtain ⟨rfl, rfl⟩ := hq
  exact K p l e R s m args below meth c G Z C hr ls H1 locs1 hl hw1 hk2 hn2
set_option maxHeartbeats 200000 in
theorem sx_callSr {d1 mc1 ms1 idx nA k1 n1 : Nat} {y : MethodName} {cc1 : ByteArray} {nL1 : Nat} {ret1 : Option FieldType} {As st0 : List Value} {v0 : Value} {h1 : sx_H} (hd : decode cc pc = .ok (.invokestatic idx, 3)) (hp : pc + 3 = p1) (hst : st0 = As.reverse ++ st) (hM : Ct X y cc1 nL1 ret1 d1 mc1 ms1 As h (sx_is (some v0) h1)) (hm : sx_MS y cc1 nL1 ret1 nA) (hlk : Cond.methodLink own idx y ∈ sx_T) (hd1 : d1 + 1 ≤ d) (hnA : As.length = nA) (hrs : (st.map fun v => v.category).sum ≤ 8) (hk1 : k + mc1 = k1) (hn1 : n + ms1 = n1) (hk2 : k1 ≤ mc) (hn2 : n1 ≤ ms) (K : Rn X own ini cc nL d mc ms ret p1 lo (v0 :: st) h1 k1 n1 Q) : Rn X own ini cc nL d mc ms ret pc lo (st0) h k n Q := by
  subst hp
  intro p l e R s m args below meth c G Z C hr ls H locs hl hw hk hn
  subst hst hk1 hn1
  have hE : sx_b G ≤ s.heap.size := C.2.2.2.2.2.2.1.2.2.2.2.2.1
  intro T0 hT X0
  have hz := sx_size X0 hT hw hE
  have hpre : ∀ U : State, U.heap = H → s.WarmedH U.vm → va_Pc (As.map (sx_v G)) (sx_Pre X G h) (As.map (sx_v G)).toArray U := fun U hU hW => ⟨rfl, C.2.2.2.2.2.1.moved hW, by rw [hU]; exact (C.2.2.2.2.2.2.1.kept hw.2.2).moved hW.alike, by rw [hU]; exact hw.1, by rw [hU]; exact hz⟩
  have hfr := C.2.2.2.2.2.2.2.1
  have hlo := C.2.2.2.2.2.2.2.2.1
  have hmc := C.2.2.2.2.2.2.2.2.2.1
  have hms := C.2.2.2.2.2.2.2.2.2.2.1
  obtain ⟨m1, m2, m4, m5, m6⟩ := hm
  have hrun := va_runS (l := l) (e := e) (below := below) (meth := meth) (locs := locs) (cells := k) (slots := n) (R := R) (As := As.map (sx_v G)) (rest := st.map (sx_v G)) (index := idx) (own := own) (n := nA) (g := F0 m pc ls ((As.reverse ++ st).map (sx_v G))) (nL := nL) (cc := cc) (Ts := sx_T) ⟨C.1, C.2.1, C.2.2.1, C.2.2.2.1, C.2.2.2.2.1⟩ (hM l G)
    ⟨callB_of nA C.2.2.2.2.1 (sx_good m1) rfl rfl rfl (C.2.2.2.2.1 _ m4) (C.2.2.2.2.1 _ hlk) m5 ⟨by show d1 + 1 ≤ R.frames; omega, by show 8 + (nL1 + 11) + 64 * d1 ≤ R.locals; omega⟩, C.2.2.2.2.1 _ m2⟩ ⟨sx_blind X G _ h, hpre⟩ rfl (by simp [hnA]) hl.1 (by simp) (lv_room (by rw [sx_mapcat]; exact hrs)) hd ⟨Nat.le_trans hk2 hmc, Nat.le_trans hn2 hms⟩
  refine sx_after hz hw hrun (fun v h2 H1 locs1 hq hw1 => ?_) T0 hT X0
  obtain ⟨rfl, rfl⟩ := hq
  exact K p l e R s m args below meth c G Z C hr ls H1 locs1 hl hw1 hk2 hn2
set_option maxHeartbeats 200000 in
theorem sx_callSn {d1 mc1 ms1 idx nA k1 n1 : Nat} {y : MethodName} {cc1 : ByteArray} {nL1 : Nat} {ret1 : Option FieldType} {As st0 : List Value} {h1 : sx_H} (hd : decode cc pc = .ok (.invokestatic idx, 3)) (hp : pc + 3 = p1) (hst : st0 = As.reverse ++ st) (hM : Ct X y cc1 nL1 ret1 d1 mc1 ms1 As h (sx_is none h1)) (hm : sx_MS y cc1 nL1 ret1 nA) (hlk : Cond.methodLink own idx y ∈ sx_T) (hd1 : d1 + 1 ≤ d) (hnA : As.length = nA) (hrs : (st.map fun v => v.category).sum ≤ 8) (hk1 : k + mc1 = k1) (hn1 : n + ms1 = n1) (hk2 : k1 ≤ mc) (hn2 : n1 ≤ ms) (K : Rn X own ini cc nL d mc ms ret p1 lo (st) h1 k1 n1 Q) : Rn X own ini cc nL d mc ms ret pc lo (st0) h k n Q := by
  subst hp
  intro p l e R s m args below meth c G Z C hr ls H locs hl hw hk hn
  subst hst hk1 hn1
  have hE : sx_b G ≤ s.heap.size := C.2.2.2.2.2.2.1.2.2.2.2.2.1
  intro T0 hT X0
  have hz := sx_size X0 hT hw hE
  have hpre : ∀ U : State, U.heap = H → s.WarmedH U.vm → va_Pc (As.map (sx_v G)) (sx_Pre X G h) (As.map (sx_v G)).toArray U := fun U hU hW => ⟨rfl, C.2.2.2.2.2.1.moved hW, by rw [hU]; exact (C.2.2.2.2.2.2.1.kept hw.2.2).moved hW.alike, by rw [hU]; exact hw.1, by rw [hU]; exact hz⟩
  have hfr := C.2.2.2.2.2.2.2.1
  have hlo := C.2.2.2.2.2.2.2.2.1
  have hmc := C.2.2.2.2.2.2.2.2.2.1
  have hms := C.2.2.2.2.2.2.2.2.2.2.1
  obtain ⟨m1, m2, m4, m5, m6⟩ := hm
  have hrun := va_runS (l := l) (e := e) (below := below) (meth := meth) (locs := locs) (cells := k) (slots := n) (R := R) (As := As.map (sx_v G)) (rest := st.map (sx_v G)) (index := idx) (own := own) (n := nA) (g := F0 m pc ls ((As.reverse ++ st).map (sx_v G))) (nL := nL) (cc := cc) (Ts := sx_T) ⟨C.1, C.2.1, C.2.2.1, C.2.2.2.1, C.2.2.2.2.1⟩ (hM l G)
    ⟨callB_of nA C.2.2.2.2.1 (sx_good m1) rfl rfl rfl (C.2.2.2.2.1 _ m4) (C.2.2.2.2.1 _ hlk) m5 ⟨by show d1 + 1 ≤ R.frames; omega, by show 8 + (nL1 + 11) + 64 * d1 ≤ R.locals; omega⟩, C.2.2.2.2.1 _ m2⟩ ⟨sx_blind X G _ h, hpre⟩ rfl (by simp [hnA]) hl.1 (by simp) (lv_room (by rw [sx_mapcat]; exact hrs)) hd ⟨Nat.le_trans hk2 hmc, Nat.le_trans hn2 hms⟩
  refine sx_after hz hw hrun (fun v h2 H1 locs1 hq hw1 => ?_) T0 hT X0
  obtain ⟨rfl, rfl⟩ := hq
  exact K p l e R s m args below meth c G Z C hr ls H1 locs1 hl hw1 hk2 hn2
set_option maxHeartbeats 200000 in
theorem sx_callI {a : Nat} {d1 mc1 ms1 idx nA k1 n1 : Nat} {y : MethodName} {cc1 : ByteArray} {nL1 : Nat} {As st0 : List Value} {h1 : sx_H} (hd : decode cc pc = .ok (.invokespecial idx, 3)) (hp : pc + 3 = p1) (hst : st0 = As.reverse ++ .ref a :: st) (hM : Ct X y cc1 nL1 none d1 mc1 ms1 (.ref a :: As) h (sx_is none h1)) (hm : sx_MI y cc1 nL1 nA) (hlk : Cond.methodLink own idx y ∈ sx_T) (hd1 : d1 + 1 ≤ d) (hnA : As.length = nA) (hrs : (st.map fun v => v.category).sum ≤ 8) (hk1 : k + mc1 = k1) (hn1 : n + ms1 = n1) (hk2 : k1 ≤ mc) (hn2 : n1 ≤ ms) (K : Rn X own ini cc nL d mc ms ret p1 lo (st) h1 k1 n1 Q) : Rn X own ini cc nL d mc ms ret pc lo (st0) h k n Q := by
  subst hp
  intro p l e R s m args below meth c G Z C hr ls H locs hl hw hk hn
  subst hst hk1 hn1
  have hE : sx_b G ≤ s.heap.size := C.2.2.2.2.2.2.1.2.2.2.2.2.1
  intro T0 hT X0
  have hz := sx_size X0 hT hw hE
  have hpre : ∀ U : State, U.heap = H → s.WarmedH U.vm → va_Pc ((.ref a :: As).map (sx_v G)) (sx_Pre X G h) ((.ref a :: As).map (sx_v G)).toArray U := fun U hU hW => ⟨rfl, C.2.2.2.2.2.1.moved hW, by rw [hU]; exact (C.2.2.2.2.2.2.1.kept hw.2.2).moved hW.alike, by rw [hU]; exact hw.1, by rw [hU]; exact hz⟩
  have hfr := C.2.2.2.2.2.2.2.1
  have hlo := C.2.2.2.2.2.2.2.2.1
  have hmc := C.2.2.2.2.2.2.2.2.2.1
  have hms := C.2.2.2.2.2.2.2.2.2.2.1
  obtain ⟨m1, m2, m3, m4, m5, m6⟩ := hm
  have hrun := va_runI (l := l) (e := e) (below := below) (meth := meth) (locs := locs) (cells := k) (slots := n) (R := R) (b := sx_ad G a) (As := As.map (sx_v G)) (rest := st.map (sx_v G)) (index := idx) (own := own) (n := nA) (g := F0 m pc ls ((As.reverse ++ .ref a :: st).map (sx_v G))) (nL := nL) (cc := cc) (Ts := sx_T) ⟨C.1, C.2.1, C.2.2.1, C.2.2.2.1, C.2.2.2.2.1⟩ (hM l G)
    ⟨callB_of nA C.2.2.2.2.1 (sx_good m1) rfl rfl rfl (C.2.2.2.2.1 _ m4) (C.2.2.2.2.1 _ hlk) m5 ⟨by show d1 + 1 ≤ R.frames; omega, by show 8 + (nL1 + 11) + 64 * d1 ≤ R.locals; omega⟩, m3, C.2.2.2.2.1 _ m2⟩ ⟨sx_blind X G _ h, hpre⟩ rfl (by simp [hnA]) hl.1 (by simp [sx_v]) (lv_room (by rw [sx_mapcat]; exact hrs)) hd ⟨Nat.le_trans hk2 hmc, Nat.le_trans hn2 hms⟩
  refine sx_after hz hw hrun (fun v h2 H1 locs1 hq hw1 => ?_) T0 hT X0
  obtain ⟨rfl, rfl⟩ := hq
  exact K p l e R s m args below meth c G Z C hr ls H1 locs1 hl hw1 hk2 hn2
set_option maxHeartbeats 200000 in
theorem sx_callIN {a : Nat} {d1 mc1 ms1 idx nA k1 n1 : Nat} {y : MethodName} {cc1 : ByteArray} {nL1 : Nat} {As st0 : List Value} {h1 : sx_H} (hd : decode cc pc = .ok (.invokespecial idx, 3)) (hp : pc + 3 = p1) (hst : st0 = As.reverse ++ .ref a :: st) (hM : Ct X y cc1 nL1 none d1 mc1 ms1 (.ref a :: As) h (sx_is none h1)) (hm : sx_MI y cc1 nL1 nA) (hlk : (own, idx, y) ∈ sx_nest) (hd1 : d1 + 1 ≤ d) (hnA : As.length = nA) (hrs : (st.map fun v => v.category).sum ≤ 8) (hk1 : k + mc1 = k1) (hn1 : n + ms1 = n1) (hk2 : k1 ≤ mc) (hn2 : n1 ≤ ms) (K : Rn X own ini cc nL d mc ms ret p1 lo (st) h1 k1 n1 Q) : Rn X own ini cc nL d mc ms ret pc lo (st0) h k n Q := by
  subst hp
  intro p l e R s m args below meth c G Z C hr ls H locs hl hw hk hn
  subst hst hk1 hn1
  have hE : sx_b G ≤ s.heap.size := C.2.2.2.2.2.2.1.2.2.2.2.2.1
  intro T0 hT X0
  have hz := sx_size X0 hT hw hE
  have hpre : ∀ U : State, U.heap = H → s.WarmedH U.vm → va_Pc ((.ref a :: As).map (sx_v G)) (sx_Pre X G h) ((.ref a :: As).map (sx_v G)).toArray U := fun U hU hW => ⟨rfl, C.2.2.2.2.2.1.moved hW, by rw [hU]; exact (C.2.2.2.2.2.2.1.kept hw.2.2).moved hW.alike, by rw [hU]; exact hw.1, by rw [hU]; exact hz⟩
  have hfr := C.2.2.2.2.2.2.2.1
  have hlo := C.2.2.2.2.2.2.2.2.1
  have hmc := C.2.2.2.2.2.2.2.2.2.1
  have hms := C.2.2.2.2.2.2.2.2.2.2.1
  obtain ⟨m1, m2, m3, m4, m5, m6⟩ := hm
  have hrun := va_runIN (l := l) (e := e) (below := below) (meth := meth) (locs := locs) (cells := k) (slots := n) (R := R) (b := sx_ad G a) (As := As.map (sx_v G)) (rest := st.map (sx_v G)) (index := idx) (own := own) (n := nA) (g := F0 m pc ls ((As.reverse ++ .ref a :: st).map (sx_v G))) (nL := nL) (cc := cc) (Ts := sx_T) ⟨C.1, C.2.1, C.2.2.1, C.2.2.2.1, C.2.2.2.2.1⟩ (hM l G)
    ⟨va_cnB nA C.2.2.2.2.1 (sx_good m1) rfl rfl rfl (C.2.2.2.2.2.1.2.2 _ hlk) (C.2.2.2.2.1 _ m4) m5 ⟨by show d1 + 1 ≤ R.frames; omega, by show 8 + (nL1 + 11) + 64 * d1 ≤ R.locals; omega⟩, m3, C.2.2.2.2.1 _ m2⟩ ⟨sx_blind X G _ h, hpre⟩ rfl (by simp [hnA]) hl.1 (by simp [sx_v]) (lv_room (by rw [sx_mapcat]; exact hrs)) hd ⟨Nat.le_trans hk2 hmc, Nat.le_trans hn2 hms⟩
  refine sx_after hz hw hrun (fun v h2 H1 locs1 hq hw1 => ?_) T0 hT X0
  obtain ⟨rfl, rfl⟩ := hq
  exact K p l e R s m args below meth c G Z C hr ls H1 locs1 hl hw1 hk2 hn2
set_option maxHeartbeats 200000 in
theorem sx_callSNr {d1 mc1 ms1 idx nA k1 n1 : Nat} {y : MethodName} {cc1 : ByteArray} {nL1 : Nat} {ret1 : Option FieldType} {As st0 : List Value} {v0 : Value} {h1 : sx_H} (hd : decode cc pc = .ok (.invokestatic idx, 3)) (hp : pc + 3 = p1) (hst : st0 = As.reverse ++ st) (hM : Ct X y cc1 nL1 ret1 d1 mc1 ms1 As h (sx_is (some v0) h1)) (hm : sx_MS y cc1 nL1 ret1 nA) (hlk : (own, idx, y) ∈ sx_nest) (hd1 : d1 + 1 ≤ d) (hnA : As.length = nA) (hrs : (st.map fun v => v.category).sum ≤ 8) (hk1 : k + mc1 = k1) (hn1 : n + ms1 = n1) (hk2 : k1 ≤ mc) (hn2 : n1 ≤ ms) (K : Rn X own ini cc nL d mc ms ret p1 lo (v0 :: st) h1 k1 n1 Q) : Rn X own ini cc nL d mc ms ret pc lo (st0) h k n Q := by
  subst hp
  intro p l e R s m args below meth c G Z C hr ls H locs hl hw hk hn
  subst hst hk1 hn1
  have hE : sx_b G ≤ s.heap.size := C.2.2.2.2.2.2.1.2.2.2.2.2.1
  intro T0 hT X0
  have hz := sx_size X0 hT hw hE
  have hpre : ∀ U : State, U.heap = H → s.WarmedH U.vm → va_Pc (As.map (sx_v G)) (sx_Pre X G h) (As.map (sx_v G)).toArray U := fun U hU hW => ⟨rfl, C.2.2.2.2.2.1.moved hW, by rw [hU]; exact (C.2.2.2.2.2.2.1.kept hw.2.2).moved hW.alike, by rw [hU]; exact hw.1, by rw [hU]; exact hz⟩
  have hfr := C.2.2.2.2.2.2.2.1
  have hlo := C.2.2.2.2.2.2.2.2.1
  have hmc := C.2.2.2.2.2.2.2.2.2.1
  have hms := C.2.2.2.2.2.2.2.2.2.2.1
  obtain ⟨m1, m2, m4, m5, m6⟩ := hm
  have hrun := va_runSN (l := l) (e := e) (below := below) (meth := meth) (locs := locs) (cells := k) (slots := n) (R := R) (As := As.map (sx_v G)) (rest := st.map (sx_v G)) (index := idx) (own := own) (n := nA) (g := F0 m pc ls ((As.reverse ++ st).map (sx_v G))) (nL := nL) (cc := cc) (Ts := sx_T) ⟨C.1, C.2.1, C.2.2.1, C.2.2.2.1, C.2.2.2.2.1⟩ (hM l G)
    ⟨va_cnB nA C.2.2.2.2.1 (sx_good m1) rfl rfl rfl (C.2.2.2.2.2.1.2.2 _ hlk) (C.2.2.2.2.1 _ m4) m5 ⟨by show d1 + 1 ≤ R.frames; omega, by show 8 + (nL1 + 11) + 64 * d1 ≤ R.locals; omega⟩, C.2.2.2.2.1 _ m2, trivial⟩ ⟨sx_blind X G _ h, hpre⟩ rfl (by simp [hnA]) hl.1 (by simp) (lv_room (by rw [sx_mapcat]; exact hrs)) hd ⟨Nat.le_trans hk2 hmc, Nat.le_trans hn2 hms⟩
  refine sx_after hz hw hrun (fun v h2 H1 locs1 hq hw1 => ?_) T0 hT X0
  obtain ⟨rfl, rfl⟩ := hq
  exact K p l e R s m args below meth c G Z C hr ls H1 locs1 hl hw1 hk2 hn2
set_option maxHeartbeats 200000 in
theorem sx_callSNn {d1 mc1 ms1 idx nA k1 n1 : Nat} {y : MethodName} {cc1 : ByteArray} {nL1 : Nat} {ret1 : Option FieldType} {As st0 : List Value} {h1 : sx_H} (hd : decode cc pc = .ok (.invokestatic idx, 3)) (hp : pc + 3 = p1) (hst : st0 = As.reverse ++ st) (hM : Ct X y cc1 nL1 ret1 d1 mc1 ms1 As h (sx_is none h1)) (hm : sx_MS y cc1 nL1 ret1 nA) (hlk : (own, idx, y) ∈ sx_nest) (hd1 : d1 + 1 ≤ d) (hnA : As.length = nA) (hrs : (st.map fun v => v.category).sum ≤ 8) (hk1 : k + mc1 = k1) (hn1 : n + ms1 = n1) (hk2 : k1 ≤ mc) (hn2 : n1 ≤ ms) (K : Rn X own ini cc nL d mc ms ret p1 lo (st) h1 k1 n1 Q) : Rn X own ini cc nL d mc ms ret pc lo (st0) h k n Q := by
  subst hp
  intro p l e R s m args below meth c G Z C hr ls H locs hl hw hk hn
  subst hst hk1 hn1
  have hE : sx_b G ≤ s.heap.size := C.2.2.2.2.2.2.1.2.2.2.2.2.1
  intro T0 hT X0
  have hz := sx_size X0 hT hw hE
  have hpre : ∀ U : State, U.heap = H → s.WarmedH U.vm → va_Pc (As.map (sx_v G)) (sx_Pre X G h) (As.map (sx_v G)).toArray U := fun U hU hW => ⟨rfl, C.2.2.2.2.2.1.moved hW, by rw [hU]; exact (C.2.2.2.2.2.2.1.kept hw.2.2).moved hW.alike, by rw [hU]; exact hw.1, by rw [hU]; exact hz⟩
  have hfr := C.2.2.2.2.2.2.2.1
  have hlo := C.2.2.2.2.2.2.2.2.1
  have hmc := C.2.2.2.2.2.2.2.2.2.1
  have hms := C.2.2.2.2.2.2.2.2.2.2.1
  obtain ⟨m1, m2, m4, m5, m6⟩ := hm
  have hrun := va_runSN (l := l) (e := e) (below := below) (meth := meth) (locs := locs) (cells := k) (slots := n) (R := R) (As := As.map (sx_v G)) (rest := st.map (sx_v G)) (index := idx) (own := own) (n := nA) (g := F0 m pc ls ((As.reverse ++ st).map (sx_v G))) (nL := nL) (cc := cc) (Ts := sx_T) ⟨C.1, C.2.1, C.2.2.1, C.2.2.2.1, C.2.2.2.2.1⟩ (hM l G)
    ⟨va_cnB nA C.2.2.2.2.1 (sx_good m1) rfl rfl rfl (C.2.2.2.2.2.1.2.2 _ hlk) (C.2.2.2.2.1 _ m4) m5 ⟨by show d1 + 1 ≤ R.frames; omega, by show 8 + (nL1 + 11) + 64 * d1 ≤ R.locals; omega⟩, C.2.2.2.2.1 _ m2, trivial⟩ ⟨sx_blind X G _ h, hpre⟩ rfl (by simp [hnA]) hl.1 (by simp) (lv_room (by rw [sx_mapcat]; exact hrs)) hd ⟨Nat.le_trans hk2 hmc, Nat.le_trans hn2 hms⟩
  refine sx_after hz hw hrun (fun v h2 H1 locs1 hq hw1 => ?_) T0 hT X0
  obtain ⟨rfl, rfl⟩ := hq
  exact K p l e R s m args below meth c G Z C hr ls H1 locs1 hl hw1 hk2 hn2
theorem sx_cpy (f g : Nat → Int) (a b c : Nat) : va_cpy (fun j => Int32.ofInt (f j)) (fun j => Int32.ofInt (g j)) a b c = fun j => Int32.ofInt (va_cpy f g a b c j) := by
  funext j
  unfold va_cpy
  split <;> rfl
set_option maxHeartbeats 200000 in
theorem sx_copyi {a0 a N0 N1 idx : Nat} {sp dp m0 : Int} {f g : Nat → Int} {h1 : sx_H} (hd : decode cc pc = .ok (.invokestatic idx, 3)) (hp : pc + 3 = p1) (hlk : Cond.methodLink own idx arraycopyName ∈ sx_T) (hnat : Cond.native arraycopyName ∈ sx_T) (hstt : Cond.static arraycopyName ∈ sx_T) (hini : Cond.initialized "java/lang/System" ∈ sx_T) (hc0 : sx_at h a0 = some (.inl (0, N0, .inl (fun j => Int32.ofInt (f j))))) (hc : sx_at h a = some (.inl (0, N1, .inl (fun j => Int32.ofInt (g j))))) (hb1 : 0 ≤ sp ∧ sp ≤ 2147483647) (hb2 : 0 ≤ dp ∧ dp ≤ 2147483647) (hb3 : 0 ≤ m0 ∧ m0 ≤ 2147483647) (hb4 : sp + m0 ≤ N0) (hb5 : dp + m0 ≤ N1) (hd1 : 1 ≤ d) (hst : (st.map fun v => v.category).sum ≤ 8) (hs : h.set (a - 2) (.inl (0, N1, .inl (fun j => Int32.ofInt (va_cpy f g sp.toNat dp.toNat m0.toNat j)))) = h1) (K : Rn X own ini cc nL d mc ms ret p1 lo (st) h1 k n Q) : Rn X own ini cc nL d mc ms ret pc lo (vI m0 :: vI dp :: .ref a :: vI sp :: .ref a0 :: st) h k n Q := by
  subst hp
  intro p l e R s m args below meth c G Z C hr ls H locs hl hw hk hn
  subst hs
  match a, hc, a0, hc0 with
  | 0, hc, _, _ => cases hc
  | 1, hc, _, _ => cases hc
  | q + 2, hc, 0, hc0 => cases hc0
  | q + 2, hc, 1, hc0 => cases hc0
  | q + 2, hc, q2 + 2, hc0 =>
    have hlo := C.2.2.2.2.2.2.2.2.1
    have e1 := sx_cl hb1
    have e2 := sx_cl hb2
    have e3 := sx_cl hb3
    have nn : ∀ z : Int, 0 ≤ z ∧ z ≤ 2147483647 → ¬ Int32.ofInt z < 0 := fun z hz => by
      rw [sx_i0, sx_ilt (by omega) (by omega)]
      omega
    refine va_copyi (ty := .int) C.1 C.2.1 (by rw [C.2.2.1]; exact hl.1.symm) C.2.2.2.1 (C.2.2.2.2.1 _ hlk) (C.2.2.2.2.1 _ hnat) (C.2.2.2.2.1 _ hstt) (C.2.2.2.2.1 _ hini) C.2.2.2.2.2.1.1 hw.1 (sx_D G h) hw.2.2 q2 q 0 0 (sx_w_at hc0) (sx_w_at hc) rfl rfl rfl (nn _ hb1) (nn _ hb2) (nn _ hb3) (by rw [e1, e3]; omega) (by rw [e2, e3]; omega) (fun _ _ => rfl) (Nat.le_trans hd1 C.2.2.2.2.2.2.2.1) ?_ hd (fun H1 locs1 hP hD hS => ?_)
    · have : nativeFrameWords "java/lang/System" "arraycopy" 5 ≤ 40 := by decide
      rw [sx_mapcat]
      omega
    · rw [e1, e2, e3, sx_cpy, sx_seti] at hP
      exact K p l e R s m args below meth c G Z C hr ls H1 locs1 hl ⟨hP, by simpa using hw.2.1, hS⟩ hk hn
end
theorem sx_sl (G : sx_G) (av : List Value) : (lg_sl (av.map (sx_v G))).length = (lg_sl av).length := by
  induction av with
  | nil => rfl
  | cons v t ih =>
    unfold lg_sl at ih ⊢
    simp only [List.map_cons, List.flatMap_cons, List.length_append, sx_v_cat, ih]
    split <;> rfl
theorem sx_ofW {l : Launch} {y : MethodName} {ws ws' : List Cond} {rm : Room} {Pc : Array Value → State → Prop} {Qc : Array Value → State → Outcome → State → Prop} {mc ms : Nat} {free : Addr → Prop} {cc : ByteArray} {maxL : Nat} {ret : Option FieldType}
    (hy : plainFor y = true) (hw : ws = Cond.code y cc maxL ret :: ws')
    (body : ∀ p e s m args below meth c s₁, BodyLoose p l y (headSpec ws rm) cc maxL ret e s m args below meth c s₁ → c.maxLocals = maxL → Pc args s →
      W p l e (headSpec ws rm).room s m args below meth c s.heap [] 0 0 (MQ below Qc args s mc ms free) (entryFrame m args maxL)) : Met l y ws rm Pc Qc mc ms free := by
  refine MetFree.of_bodySF (code := cc) (maxLocals := maxL) (ret := ret) hy ?_ ?_
  · intro args s m h hn
    obtain ⟨meth, c, h1, h2, h3, h4, h5, h6, -, -⟩ := Cond.code_spec hn (atoms_spec (ws := ws) h _ (by rw [hw]; exact List.mem_cons_self))
    exact ⟨meth, c, h1, h2, h3, h4, h5, h6⟩
  · intro p e s m args below meth c s₁ B hml hP _
    have hh0 : s₁.heap = s.heap := by rw [B.state]; rfl
    obtain ⟨t, a1, o, b1, b2, b3⟩ := body p e s m args below meth c s₁ B hml hP s₁ hh0 (Stand.of_body B)
    exact ⟨t, o, a1, b1, b2, ⟨b3.1, b3.2⟩⟩
theorem Ct.of {X : sx_X} {y : MethodName} {cc : ByteArray} {nL d mc ms : Nat} {ret : Option FieldType} {av : List Value} {h : sx_H} {Q : Option Value → sx_H → Prop} (ini : Bool) (lo : List (Option Value)) (hy : plainFor y = true) (hi : ini = true → y.name = "<init>") (hlen : (lg_sl av).length ≤ nL) (hlo : ∀ G, sx_ll G lo = lv_args 0 (av.map (sx_v G))) (hQ : ∀ v h1, Q v h1 → h1.length = h.length + mc) (K : Rn X y.cls ini cc nL d mc ms ret 0 lo [] h 0 0 Q) : Ct X y cc nL ret d mc ms av h Q := by
  intro l G
  refine sx_ofW (cc := cc) (maxL := nL) (ret := ret) hy rfl ?_
  intro p e s m args below meth c s₁ B hml hv
  obtain ⟨rfl, hK, hE, hP, hz⟩ := hv
  have hts := atoms_spec (ws := Cond.code y cc nL ret :: sx_T) B.pre
  have hown : s.vm.findClass y.cls = some m.cls := findClass_of_methodNamed B.named
  have hlocks := B.notSynchronized
  have hr := B.returns
  have hl := lv_entry (av.map (sx_v G)) (n := nL) (by rw [sx_sl]; exact hlen)
  rw [lg_entry_eq]
  generalize (lg_sl (av.map (sx_v G)) ++ List.replicate (nL - (lg_sl (av.map (sx_v G))).length) Slot.unset).toArray = ls at hl ⊢
  rw [← hlo G] at hl
  have hL : sx_L G nL lo ls := ⟨hl.1, hl.2.1, fun i v hv => hl.2.2 (i, sx_v G v) (sx_ll_mem hv)⟩
  have C : sx_Cx X y.cls ini cc nL d mc ms p (headSpec (Cond.code y cc nL ret :: sx_T) { frames := d, cells := mc, slots := ms, locals := 64 * d }).room s m _ meth c G :=
    ⟨B.exec, B.bytes, hml, hown, fun w hw => hts w (List.mem_cons_of_mem _ hw), hK, hE, Nat.le_refl _, Nat.le_refl _, Nat.le_refl _, Nat.le_refl _, fun h => by rw [← hi h]; exact (name_of_methodNamed B.named B.method).1⟩
  refine K p l e _ s m _ below meth c G _ C ?_ ls s.heap [] hL ⟨hP, by rw [hz]; rfl, va_S.rf⟩ (Nat.zero_le _) (Nat.zero_le _)
  intro v pc1 ls1 h1 H1 locs1 k1 n1 hq hi1 hok hk1 hn1 hw1
  have hfr : ∀ q ∈ locs1, sx_A G q.base := hw1.2.2.2.2
  have hend : ∀ t : State, t.heap = H1 → s.WarmedH t.vm → sx_Qc G (h.length + mc) Q (av.map (sx_v G)).toArray s (.returned (v.map (sx_v G))) t := fun t ht hW => ⟨⟨v, h1, rfl, hq, by rw [ht]; exact hw1.1, hQ v h1 hq⟩, hw1.2.2.F ht⟩
  refine W.widen (k := mc) (n := ms) hk1 hn1 ?_
  match v, hi1, hok with
  | none, hi1, hok => exact W.vret B.exec B.bytes (by rw [hr]; exact hok) hend hfr hi1
  | some (.int x), hi1, hok =>
    rcases hok with hok | ⟨hok, hx⟩
    · exact W.iret B.exec B.bytes (by rw [hr]; exact hok) hend hfr hi1
    · exact W.zret (ty := .boolean) B.exec B.bytes (by rw [hr]; exact hok) (by rcases hx with rfl | rfl <;> decide) hend hfr hi1
  | some (.long x), hi1, hok => exact W.lret B.exec B.bytes (by rw [hr]; exact hok) hend hfr hi1
  | some (.ref x), hi1, ⟨C0, hok⟩ => exact W.aret B.exec B.bytes (by rw [hr]; exact hok) (Or.inl ⟨_, rfl⟩) (Or.inr ⟨_, rfl⟩) hend hfr hi1
  | some .null, hi1, ⟨C0, hok⟩ => exact W.aret B.exec B.bytes (by rw [hr]; exact hok) (Or.inl ⟨_, rfl⟩) (Or.inl rfl) hend hfr hi1
