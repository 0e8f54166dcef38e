/-! THE WORLD OF ONE OBJECT: n cells one behind the other from o on; cell i is S i (ints of array i) (longs of array i) (int fields of object i). So the state is three memories: iA, lA (arrays by cell and place), fI (int and boolean fields by cell and slot). -/
abbrev wM : Type := (Nat → Nat → Int32) × (Nat → Nat → Int64) × (Nat → Nat → Int32)
abbrev wS : Type := Nat → (Nat → Int32) → (Nat → Int64) → (Nat → Int32) → va_E
def wl (S : wS) (o n : Nat) (M : wM) : va_W := (List.range n).map (fun i => (o + i, S i (M.1 i) (M.2.1 i) (M.2.2 i)))
def wP (D : va_G) (cl : List vw_C) (S : wS) (o n : Nat) (M : wM) (H : Heap) : Prop := va_P D cl (wl S o n M) H
/-- which cells a method may change: the world's, and those that come from sz on -/
def wA (o n sz : Nat) : Nat → Prop := fun q => (o ≤ q ∧ q < o + n) ∨ sz ≤ q
theorem wl_at {S : wS} {o n : Nat} {M : wM} {i : Nat} (hi : i < n) : (wl S o n M)[i]? = some (o + i, S i (M.1 i) (M.2.1 i) (M.2.2 i)) := by
  simp [wl, hi]
theorem wl_ex {S : wS} {o n : Nat} {M : wM} {k : Nat} {q : Nat × va_E} (h : (wl S o n M)[k]? = some q) : k < n ∧ q = (o + k, S k (M.1 k) (M.2.1 k) (M.2.2 k)) := by
  by_cases hk : k < n
  · rw [wl_at hk] at h
    exact ⟨hk, (Option.some.inj h).symm⟩
  · have : (wl S o n M)[k]? = none := by simp [wl, hk]
    rw [this] at h
    cases h
theorem wP_of {D : va_G} {cl : List vw_C} {S : wS} {o n : Nat} {M : wM} {H : Heap} (h : ∀ i, i < n → va_at D cl (o + i, S i (M.1 i) (M.2.1 i) (M.2.2 i)) H) : wP D cl S o n M H := by
  intro k q hq
  obtain ⟨hk, rfl⟩ := wl_ex hq
  exact h k hk
theorem wP_at {D : va_G} {cl : List vw_C} {S : wS} {o n : Nat} {M : wM} {H : Heap} (h : wP D cl S o n M H) {i : Nat} (hi : i < n) : va_at D cl (o + i, S i (M.1 i) (M.2.1 i) (M.2.2 i)) H := h i _ (wl_at hi)
theorem wP_lt {D : va_G} {cl : List vw_C} {S : wS} {o n : Nat} {M : wM} {H : Heap} (h : wP D cl S o n M H) {i : Nat} (hi : i < n) : o + i < H.size := (wP_at h hi).lt
theorem wP_kept {D : va_G} {cl : List vw_C} {S : wS} {o n : Nat} {M : wM} {H H1 : Heap} (h : wP D cl S o n M H) (hq : ∀ i, i < n → H1[o + i]? = H[o + i]?) : wP D cl S o n M H1 := wP_of (fun i hi => (wP_at h hi).kept (hq i hi))
theorem wl_D {A : Nat → Prop} {S : wS} {o n : Nat} {M : wM} (hA : ∀ i, i < n → A (o + i)) : va_D A (wl S o n M) := by
  refine ⟨fun i j p q hp hq e => ?_, fun k q hq => ?_⟩
  · obtain ⟨hi, rfl⟩ := wl_ex hp
    obtain ⟨hj, rfl⟩ := wl_ex hq
    have e' : o + i = o + j := e
    omega
  · obtain ⟨hk, rfl⟩ := wl_ex hq
    exact hA k hk
theorem wl_set {S : wS} {o n : Nat} {M M' : wM} {i : Nat} {e : va_E} (he : S i (M'.1 i) (M'.2.1 i) (M'.2.2 i) = e) (ho : ∀ q, q ≠ i → M'.1 q = M.1 q ∧ M'.2.1 q = M.2.1 q ∧ M'.2.2 q = M.2.2 q) : (wl S o n M).set i (o + i, e) = wl S o n M' := by
  apply List.ext_getElem?
  intro k
  by_cases hk : k < n
  · rw [wl_at hk]
    by_cases hki : i = k
    · subst hki
      have hl : i < (wl S o n M).length := by simp [wl, hk]
      rw [List.getElem?_set_self hl, he]
    · rw [List.getElem?_set_ne hki, wl_at hk]
      obtain ⟨e1, e2, e3⟩ := ho k (fun z => hki z.symm)
      rw [e1, e2, e3]
  · have h1 : (wl S o n M')[k]? = none := by simp [wl, hk]
    have h2 : ((wl S o n M).set i (o + i, e))[k]? = none := by simp [wl, hk]
    rw [h1, h2]
/-- a memory with one place changed -/
def up2 {α : Type} (f : Nat → Nat → α) (i k : Nat) (x : α) : Nat → Nat → α := fun a b => if a = i then (if b = k then x else f a b) else f a b
theorem up2_s {α : Type} (f : Nat → Nat → α) (i k : Nat) (x : α) : up2 f i k x i k = x := by simp [up2]
theorem up2_o {α : Type} (f : Nat → Nat → α) (i k : Nat) (x : α) {a : Nat} (h : a ≠ i) : up2 f i k x a = f a := by funext b; simp [up2, h]
theorem up2_k {α : Type} (f : Nat → Nat → α) (i k : Nat) (x : α) {a b : Nat} (h : b ≠ k) : up2 f i k x a b = f a b := by
  simp [up2, h]
theorem up2_r {α : Type} (f : Nat → Nat → α) (i k : Nat) (x : α) : up2 f i k x i = fun b => if b = k then x else f i b := by funext b; simp [up2]
def wI (M : wM) (i k : Nat) (x : Int32) : wM := (up2 M.1 i k x, M.2.1, M.2.2)
def wL (M : wM) (i k : Nat) (x : Int64) : wM := (M.1, up2 M.2.1 i k x, M.2.2)
def wF (M : wM) (i k : Nat) (x : Int32) : wM := (M.1, M.2.1, up2 M.2.2 i k x)
theorem wI_o {M : wM} {i k : Nat} {x : Int32} (q : Nat) (h : q ≠ i) : (wI M i k x).1 q = M.1 q ∧ (wI M i k x).2.1 q = M.2.1 q ∧ (wI M i k x).2.2 q = M.2.2 q := ⟨up2_o _ _ _ _ h, rfl, rfl⟩
theorem wL_o {M : wM} {i k : Nat} {x : Int64} (q : Nat) (h : q ≠ i) : (wL M i k x).1 q = M.1 q ∧ (wL M i k x).2.1 q = M.2.1 q ∧ (wL M i k x).2.2 q = M.2.2 q := ⟨rfl, up2_o _ _ _ _ h, rfl⟩
theorem wF_o {M : wM} {i k : Nat} {x : Int32} (q : Nat) (h : q ≠ i) : (wF M i k x).1 q = M.1 q ∧ (wF M i k x).2.1 q = M.2.1 q ∧ (wF M i k x).2.2 q = M.2.2 q := ⟨rfl, rfl, up2_o _ _ _ _ h⟩
theorem w_inc (k : Nat) : nI k + Int32.ofInt 1 = nI (k + 1) := (nI_succ k).symm
section WROWS
variable {p : Program} {l : Launch} {e : Env} {R : Room} {s : State} {m : MethodId} {args : Array Value} {below : List Frame} {meth : Method} {c : Code} {H : Heap} {locs : List Loc} {cells slots : Nat} {Q : State → Prop}
variable {cc : ByteArray} {pc : Nat} {ls : Array Slot} {rest : List Value} {D : va_G} {cl : List vw_C} {A : Nat → Prop} {tys : List (ClassId × FieldType)} {H0 : Heap} {S : wS} {o n : Nat} {M : wM}
/-- the int, or long, on top by another name -/
theorem w_topi {x y : Int32} (h : x = y) (kk : W p l e R s m args below meth c H locs cells slots Q (F0 m pc ls (.int y :: rest))) : W p l e R s m args below meth c H locs cells slots Q (F0 m pc ls (.int x :: rest)) := by rw [h]; exact kk
theorem w_topl {x y : Int64} (h : x = y) (kk : W p l e R s m args below meth c H locs cells slots Q (F0 m pc ls (.long y :: rest))) : W p l e R s m args below meth c H locs cells slots Q (F0 m pc ls (.long x :: rest)) := by rw [h]; exact kk
/-- getfield of the object in cell i -/
theorem w_get (hexec : p.tables.exec = Jvm.exec) (hb : c.code = cc) {own C : String} {T : u_T} {N ci index : Nat} {Ts : List Cond} (hts : ∀ w ∈ Ts, w.before args s = true) (hin : ∀ w ∈ u_ws C T N, w ∈ Ts) (hown : s.vm.findClass own = some m.cls) (hK : va_K D cl tys s) (hP : wP D cl S o n M H) (i : Nat) (hi : i < n) {fs : List Value} (he : S i (M.1 i) (M.2.1 i) (M.2.2 i) = .inr (ci, fs)) (hc : cl[ci]? = some (C, T, N)) (k : Nat) (hk : k < N) (hlink : (Cond.fieldLink own index (T k).1 (T k).2.1 (T k).2.2.1).before args s = true) {v : Value} (hv : fs[k]? = some v) (hdg : decode cc pc = .ok (.getfield index, 3))
    (kk : W p l e R s m args below meth c H locs cells slots Q (F0 m (pc + 3) ls (v :: rest))) : W p l e R s m args below meth c H locs cells slots Q (F0 m pc ls (.ref (o + i) :: rest)) :=
  va_get (D := D) (ws := wl S o n M) hexec hb hts hin hown hK hP i (by rw [wl_at hi, he]) hc k hk hlink (fun _ h => h) hv hdg kk
/-- putfield of an int or boolean -/
theorem w_put (hexec : p.tables.exec = Jvm.exec) (hb : c.code = cc) {own C : String} {T : u_T} {N ci index : Nat} {Ts : List Cond} (hts : ∀ w ∈ Ts, w.before args s = true) (hin : ∀ w ∈ u_ws C T N, w ∈ Ts) (ty0 : Nat → FieldType) (hty : ∀ k, k < N → parseFieldDescriptor (T k).2.2.1 = some (ty0 k)) (hnm : ∀ a, a < N → ∀ b, b < N → a ≠ b → (T a).2.1 ≠ (T b).2.1) (hown : s.vm.findClass own = some m.cls) (hK : va_K D cl tys s) (hP : wP D cl S o n M H) (hW : ∀ i, i < n → A (o + i)) (hS : va_S A H0 H locs) (i : Nat) (hi : i < n) {fs : List Value} (he : S i (M.1 i) (M.2.1 i) (M.2.2 i) = .inr (ci, fs)) (hc : cl[ci]? = some (C, T, N)) (k : Nat) (hk : k < N) (hlink : (Cond.fieldLink own index (T k).1 (T k).2.1 (T k).2.2.1).before args s = true) (hfin : (T k).2.2.2 = false) {x : Int32} (hn : narrow (ty0 k) (.int x) = .int x) (hfit : fits (ty0 k) (.int x) = true) (hl : k < fs.length)
    (he' : S i (M.1 i) (M.2.1 i) ((wF M i k x).2.2 i) = .inr (ci, fs.set k (.int x))) (hdg : decode cc pc = .ok (.putfield index, 3))
    (kk : ∀ (H1 : Heap) (locs1 : List Loc), wP D cl S o n (wF M i k x) H1 → va_S A H0 H1 locs1 → W p l e R s m args below meth c H1 locs1 cells slots Q (F0 m (pc + 3) ls rest)) : W p l e R s m args below meth c H locs cells slots Q (F0 m pc ls (.int x :: .ref (o + i) :: rest)) :=
  va_put (D := D) (ws := wl S o n M) hexec hb hts hin ty0 hty hnm hown hK hP (wl_D hW) hS i (by rw [wl_at hi, he]) hc k hk hlink (fun _ h => h) hfin (hty k hk) hn hfit hl hdg
    (fun H1 locs1 hP1 _ hS1 => kk H1 locs1 (by rw [wl_set (M := M) (M' := wF M i k x) he' (fun q h => wF_o q h)] at hP1; exact hP1) hS1)
theorem w_iald (hexec : p.tables.exec = Jvm.exec) (hb : c.code = cc) (hK : va_K D cl tys s) (hP : wP D cl S o n M H) (i t0 : Nat) (hi : i < n) {cA : ClassId} {N : Nat} {f : Nat → Int32} (he : S i (M.1 i) (M.2.1 i) (M.2.2 i) = .inl (cA, N, .inl f)) (ht : tys[t0]? = some (cA, .int)) {k : Nat} (hk : k < N) (hN : N < 2147483648) (hdg : decode cc pc = .ok (.iaload, 1))
    (kk : W p l e R s m args below meth c H locs cells slots Q (F0 m (pc + 1) ls (.int (f k) :: rest))) : W p l e R s m args below meth c H locs cells slots Q (F0 m pc ls (.int (nI k) :: .ref (o + i) :: rest)) :=
  va_iald (D := D) (ws := wl S o n M) hexec hb hK hP i t0 (by rw [wl_at hi, he]) ht (vp_in_nI hk hN) hdg (by rw [nI_clamp (show k < 2 ^ 31 by omega)]; exact kk)
theorem w_zald (hexec : p.tables.exec = Jvm.exec) (hb : c.code = cc) (hK : va_K D cl tys s) (hP : wP D cl S o n M H) (i t0 : Nat) (hi : i < n) {cA : ClassId} {N : Nat} {f : Nat → Int32} (he : S i (M.1 i) (M.2.1 i) (M.2.2 i) = .inl (cA, N, .inl f)) (ht : tys[t0]? = some (cA, .boolean)) {k : Nat} (hk : k < N) (hN : N < 2147483648) (hdg : decode cc pc = .ok (.baload, 1))
    (kk : W p l e R s m args below meth c H locs cells slots Q (F0 m (pc + 1) ls (.int (f k) :: rest))) : W p l e R s m args below meth c H locs cells slots Q (F0 m pc ls (.int (nI k) :: .ref (o + i) :: rest)) :=
  va_zald (D := D) (ws := wl S o n M) hexec hb hK hP i t0 (by rw [wl_at hi, he]) ht (vp_in_nI hk hN) hdg (by rw [nI_clamp (show k < 2 ^ 31 by omega)]; exact kk)
theorem w_lald (hexec : p.tables.exec = Jvm.exec) (hb : c.code = cc) (hK : va_K D cl tys s) (hP : wP D cl S o n M H) (i t0 : Nat) (hi : i < n) {cA : ClassId} {N : Nat} {f : Nat → Int64} (he : S i (M.1 i) (M.2.1 i) (M.2.2 i) = .inl (cA, N, .inr (.inl f))) (ht : tys[t0]? = some (cA, .long)) {k : Nat} (hk : k < N) (hN : N < 2147483648) (hdg : decode cc pc = .ok (.laload, 1))
    (kk : W p l e R s m args below meth c H locs cells slots Q (F0 m (pc + 1) ls (.long (f k) :: rest))) : W p l e R s m args below meth c H locs cells slots Q (F0 m pc ls (.int (nI k) :: .ref (o + i) :: rest)) :=
  va_lald (D := D) (ws := wl S o n M) hexec hb hK hP i t0 (by rw [wl_at hi, he]) ht (vp_in_nI hk hN) hdg (by rw [nI_clamp (show k < 2 ^ 31 by omega)]; exact kk)
theorem w_aald (hexec : p.tables.exec = Jvm.exec) (hb : c.code = cc) (hK : va_K D cl tys s) (hP : wP D cl S o n M H) (i t0 : Nat) (hi : i < n) {cA : ClassId} {C : String} {N : Nat} {f : Nat → Option Nat} (he : S i (M.1 i) (M.2.1 i) (M.2.2 i) = .inl (cA, N, .inr (.inr (.inr (.inr f))))) (ht : tys[t0]? = some (cA, .object C)) {k : Nat} (hk : k < N) (hN : N < 2147483648) {a : Nat} (hf : f k = some a) (hdg : decode cc pc = .ok (.aaload, 1))
    (kk : W p l e R s m args below meth c H locs cells slots Q (F0 m (pc + 1) ls (.ref a :: rest))) : W p l e R s m args below meth c H locs cells slots Q (F0 m pc ls (.int (nI k) :: .ref (o + i) :: rest)) :=
  va_aldq (D := D) (ws := wl S o n M) (C := C) hexec hb hK hP i t0 (by rw [wl_at hi, he]) ht (vp_in_nI hk hN) hdg (by rw [nI_clamp (show k < 2 ^ 31 by omega), hf]; exact kk)
theorem w_iast (hexec : p.tables.exec = Jvm.exec) (hb : c.code = cc) (hK : va_K D cl tys s) (hP : wP D cl S o n M H) (hW : ∀ i, i < n → A (o + i)) (hS : va_S A H0 H locs) (i t0 : Nat) (hi : i < n) {cA : ClassId} {N : Nat} (he : ∀ f, S i f (M.2.1 i) (M.2.2 i) = .inl (cA, N, .inl f)) (ht : tys[t0]? = some (cA, .int)) {k : Nat} {x : Int32} (hk : k < N) (hN : N < 2147483648) (hdg : decode cc pc = .ok (.iastore, 1))
    (kk : ∀ (H1 : Heap) (locs1 : List Loc), wP D cl S o n (wI M i k x) H1 → va_S A H0 H1 locs1 → W p l e R s m args below meth c H1 locs1 cells slots Q (F0 m (pc + 1) ls rest)) : W p l e R s m args below meth c H locs cells slots Q (F0 m pc ls (.int x :: .int (nI k) :: .ref (o + i) :: rest)) :=
  va_iast (D := D) (ws := wl S o n M) (f := M.1 i) hexec hb hK hP (wl_D hW) hS i t0 (by rw [wl_at hi, he]) ht (vp_in_nI hk hN) hdg
    (fun H1 locs1 hP1 _ hS1 => kk H1 locs1 (by
      rw [nI_clamp (show k < 2 ^ 31 by omega)] at hP1
      rw [wl_set (M := M) (M' := wI M i k x) ((he _).trans (by rw [show (wI M i k x).1 i = upd (M.1 i) k x from up2_r _ _ _ _])) (fun q h => wI_o q h)] at hP1
      exact hP1) hS1)
theorem w_zast (hexec : p.tables.exec = Jvm.exec) (hb : c.code = cc) (hK : va_K D cl tys s) (hP : wP D cl S o n M H) (hW : ∀ i, i < n → A (o + i)) (hS : va_S A H0 H locs) (i t0 : Nat) (hi : i < n) {cA : ClassId} {N : Nat} (he : ∀ f, S i f (M.2.1 i) (M.2.2 i) = .inl (cA, N, .inl f)) (ht : tys[t0]? = some (cA, .boolean)) {x : Int32} (hx : vp_nar .boolean x = x) {k : Nat} (hk : k < N) (hN : N < 2147483648) (hdg : decode cc pc = .ok (.bastore, 1))
    (kk : ∀ (H1 : Heap) (locs1 : List Loc), wP D cl S o n (wI M i k x) H1 → va_S A H0 H1 locs1 → W p l e R s m args below meth c H1 locs1 cells slots Q (F0 m (pc + 1) ls rest)) : W p l e R s m args below meth c H locs cells slots Q (F0 m pc ls (.int x :: .int (nI k) :: .ref (o + i) :: rest)) :=
  va_zast (D := D) (ws := wl S o n M) (f := M.1 i) hexec hb hK hP (wl_D hW) hS i t0 (by rw [wl_at hi, he]) ht (vp_in_nI hk hN) hdg
    (fun H1 locs1 hP1 _ hS1 => kk H1 locs1 (by
      rw [nI_clamp (show k < 2 ^ 31 by omega)] at hP1
      rw [hx, wl_set (M := M) (M' := wI M i k x) ((he _).trans (by rw [show (wI M i k x).1 i = upd (M.1 i) k x from up2_r _ _ _ _])) (fun q h => wI_o q h)] at hP1
      exact hP1) hS1)
theorem w_last (hexec : p.tables.exec = Jvm.exec) (hb : c.code = cc) (hK : va_K D cl tys s) (hP : wP D cl S o n M H) (hW : ∀ i, i < n → A (o + i)) (hS : va_S A H0 H locs) (i t0 : Nat) (hi : i < n) {cA : ClassId} {N : Nat} (he : ∀ f, S i (M.1 i) f (M.2.2 i) = .inl (cA, N, .inr (.inl f))) (ht : tys[t0]? = some (cA, .long)) {k : Nat} {x : Int64} (hk : k < N) (hN : N < 2147483648) (hdg : decode cc pc = .ok (.lastore, 1))
    (kk : ∀ (H1 : Heap) (locs1 : List Loc), wP D cl S o n (wL M i k x) H1 → va_S A H0 H1 locs1 → W p l e R s m args below meth c H1 locs1 cells slots Q (F0 m (pc + 1) ls rest)) : W p l e R s m args below meth c H locs cells slots Q (F0 m pc ls (.long x :: .int (nI k) :: .ref (o + i) :: rest)) :=
  va_last (D := D) (ws := wl S o n M) (f := M.2.1 i) hexec hb hK hP (wl_D hW) hS i t0 (by rw [wl_at hi, he]) ht (vp_in_nI hk hN) hdg
    (fun H1 locs1 hP1 _ hS1 => kk H1 locs1 (by
      rw [nI_clamp (show k < 2 ^ 31 by omega)] at hP1
      rw [wl_set (M := M) (M' := wL M i k x) ((he _).trans (by rw [show (wL M i k x).2.1 i = vp_updL (M.2.1 i) k x from up2_r _ _ _ _])) (fun q h => wL_o q h)] at hP1
      exact hP1) hS1)
end WROWS
/-! CALLS in such a world -/
def wB (D : va_G) (cl : List vw_C) (tys : List (ClassId × FieldType)) (S : wS) (o n : Nat) (M : wM) (sz : Nat) : State → Prop := fun U => U.heap.size = sz ∧ wP D cl S o n M U.heap ∧ va_K D cl tys U
def wQ (D : va_G) (cl : List vw_C) (tys : List (ClassId × FieldType)) (S : wS) (o n : Nat) : wM → State → Prop := fun M t => wP D cl S o n M t.heap ∧ va_K D cl tys t
theorem wA_le {o n sz sz' q : Nat} (h : sz ≤ sz') (hq : wA o n sz' q) : wA o n sz q := by
  rcases hq with h1 | h1
  · exact Or.inl h1
  · exact Or.inr (Nat.le_trans h h1)
theorem wA_in {o n sz i : Nat} (hi : i < n) : wA o n sz (o + i) := Or.inl ⟨by omega, by omega⟩
theorem w_blind {av : List Value} {D : va_G} {cl : List vw_C} {tys : List (ClassId × FieldType)} {S : wS} {o n : Nat} {M : wM} {sz : Nat} : FrameBlind (va_Pc av (wB D cl tys S o n M sz)) := fun a U g mk q => ⟨q.1, q.2.1, q.2.2.1, va_K.moved (u := U) (U := U.calling g mk a) (Vm.Alike.refl U.vm) q.2.2.2⟩
section WCALLS
variable {p : Program} {l : Launch} {e : Env} {R : Room} {s : State} {m : MethodId} {args : Array Value} {below : List Frame} {meth : Method} {c : Code} {H : Heap} {locs : List Loc} {cells slots : Nat} {Q : State → Prop}
variable {y : MethodName} {bytes cc : ByteArray} {maxL nL mc ms k index pc : Nat} {ret : Option FieldType} {ws : List Cond} {rm : Room} {Ts : List Cond} {own C : String} {As rest st0 : List Value} {ls : Array Slot}
variable {D : va_G} {cl : List vw_C} {tys : List (ClassId × FieldType)} {S : wS} {o n i ci N : Nat} {M : wM} {T : u_T} {fs : List Value} {A0 : Nat → Prop}
theorem w_recv (hK : va_K D cl tys s) (hP : wP D cl S o n M H) (hi : i < n) (he : S i (M.1 i) (M.2.1 i) (M.2.2 i) = .inr (ci, fs)) (hc : cl[ci]? = some (C, T, N)) : ∃ cell : Cell, H[o + i]? = some cell ∧ cell.vm.isStatics = false ∧ s.vm.findClass C = some cell.cls :=
  va_recv (q := (C, T, N)) hK hP hc (q0 := i) (by rw [wl_at hi, he])
theorem w_preS {av : List Value} (hK : va_K D cl tys s) (hP : wP D cl S o n M H) : PreS s H (va_Pc av (wB D cl tys S o n M H.size)) av := ⟨w_blind, fun U hU hW => ⟨rfl, by rw [hU], by rw [hU]; exact hP, va_K.moved hW.alike hK⟩⟩
theorem w_preV (hK : va_K D cl tys s) (hP : wP D cl S o n M H) (hi : i < n) (he : S i (M.1 i) (M.2.1 i) (M.2.2 i) = .inr (ci, fs)) (hc : cl[ci]? = some (C, T, N)) : PreV s H C (o + i) (va_Pc (.ref (o + i) :: As) (wB D cl tys S o n M H.size)) As :=
  ⟨w_blind, w_recv hK hP hi he hc, (w_preS hK hP).2⟩
theorem w_Vi {post : Int32 → wM → Prop} (CF : CallFix p m c cc nL s args Ts own) (hM : Met l y ws rm (va_Pc (.ref (o + i) :: As) (wB D cl tys S o n M H.size)) (va_Qi post (wQ D cl tys S o n) (wA o n H.size)) mc ms (wA o n H.size)) (cw : CallW R s args own C index y bytes maxL ret ws rm mc ms k)
    (hK : va_K D cl tys s) (hP : wP D cl S o n M H) (hi : i < n) (he : S i (M.1 i) (M.2.1 i) (M.2.2 i) = .inr (ci, fs)) (hc : cl[ci]? = some (C, T, N)) (hn : As.length = k) (hsize : ls.size = nL) (hst : st0 = As.reverse ++ .ref (o + i) :: rest) (hr : (rest.map fun v => v.category).sum ≤ 8) (hdg : decode cc pc = .ok (.invokevirtual index, 3)) (hf : cells + mc ≤ R.cells ∧ slots + ms ≤ R.slots)
    (hS : va_S A0 s.heap H locs) (hA0 : ∀ q, wA o n H.size q → A0 q)
    (kk : ∀ (r : Int32) (M1 : wM) (H1 : Heap) (locs1 : List Loc), post r M1 → wP D cl S o n M1 H1 → H.size ≤ H1.size → (∀ q : Nat, q < H.size → ¬ wA o n H.size q → H1[q]? = H[q]?) → va_S A0 s.heap H1 locs1 → W p l e R s m args below meth c H1 locs1 (cells + mc) (slots + ms) Q (F0 m (pc + 3) ls (.int r :: rest))) :
    W p l e R s m args below meth c H locs cells slots Q (F0 m pc ls st0) :=
  va_calli (va_runV (g := F0 m pc ls st0) CF hM cw (w_preV hK hP hi he hc) rfl hn hsize hst (lv_room hr) hdg hf) hS (fun q _ h => hA0 q h) hA0 (fun r M1 t H1 locs1 ht _ hw hB hz hk hS1 => kk r M1 H1 locs1 hw (by rw [← ht]; exact hB.1) hz hk hS1)
theorem w_Vl {post : Int64 → wM → Prop} (CF : CallFix p m c cc nL s args Ts own) (hM : Met l y ws rm (va_Pc (.ref (o + i) :: As) (wB D cl tys S o n M H.size)) (va_Ql post (wQ D cl tys S o n) (wA o n H.size)) mc ms (wA o n H.size)) (cw : CallW R s args own C index y bytes maxL ret ws rm mc ms k)
    (hK : va_K D cl tys s) (hP : wP D cl S o n M H) (hi : i < n) (he : S i (M.1 i) (M.2.1 i) (M.2.2 i) = .inr (ci, fs)) (hc : cl[ci]? = some (C, T, N)) (hn : As.length = k) (hsize : ls.size = nL) (hst : st0 = As.reverse ++ .ref (o + i) :: rest) (hr : (rest.map fun v => v.category).sum ≤ 8) (hdg : decode cc pc = .ok (.invokevirtual index, 3)) (hf : cells + mc ≤ R.cells ∧ slots + ms ≤ R.slots)
    (hS : va_S A0 s.heap H locs) (hA0 : ∀ q, wA o n H.size q → A0 q)
    (kk : ∀ (r : Int64) (M1 : wM) (H1 : Heap) (locs1 : List Loc), post r M1 → wP D cl S o n M1 H1 → H.size ≤ H1.size → (∀ q : Nat, q < H.size → ¬ wA o n H.size q → H1[q]? = H[q]?) → va_S A0 s.heap H1 locs1 → W p l e R s m args below meth c H1 locs1 (cells + mc) (slots + ms) Q (F0 m (pc + 3) ls (.long r :: rest))) :
    W p l e R s m args below meth c H locs cells slots Q (F0 m pc ls st0) :=
  va_calll (va_runV (g := F0 m pc ls st0) CF hM cw (w_preV hK hP hi he hc) rfl hn hsize hst (lv_room hr) hdg hf) hS (fun q _ h => hA0 q h) hA0 (fun r M1 t H1 locs1 ht _ hw hB hz hk hS1 => kk r M1 H1 locs1 hw (by rw [← ht]; exact hB.1) hz hk hS1)
theorem w_Vv {post : wM → Prop} (CF : CallFix p m c cc nL s args Ts own) (hM : Met l y ws rm (va_Pc (.ref (o + i) :: As) (wB D cl tys S o n M H.size)) (va_Qv post (wQ D cl tys S o n) (wA o n H.size)) mc ms (wA o n H.size)) (cw : CallW R s args own C index y bytes maxL ret ws rm mc ms k)
    (hK : va_K D cl tys s) (hP : wP D cl S o n M H) (hi : i < n) (he : S i (M.1 i) (M.2.1 i) (M.2.2 i) = .inr (ci, fs)) (hc : cl[ci]? = some (C, T, N)) (hn : As.length = k) (hsize : ls.size = nL) (hst : st0 = As.reverse ++ .ref (o + i) :: rest) (hr : (rest.map fun v => v.category).sum ≤ 8) (hdg : decode cc pc = .ok (.invokevirtual index, 3)) (hf : cells + mc ≤ R.cells ∧ slots + ms ≤ R.slots)
    (hS : va_S A0 s.heap H locs) (hA0 : ∀ q, wA o n H.size q → A0 q)
    (kk : ∀ (M1 : wM) (H1 : Heap) (locs1 : List Loc), post M1 → wP D cl S o n M1 H1 → H.size ≤ H1.size → (∀ q : Nat, q < H.size → ¬ wA o n H.size q → H1[q]? = H[q]?) → va_S A0 s.heap H1 locs1 → W p l e R s m args below meth c H1 locs1 (cells + mc) (slots + ms) Q (F0 m (pc + 3) ls rest)) :
    W p l e R s m args below meth c H locs cells slots Q (F0 m pc ls st0) :=
  va_callv (va_runV (g := F0 m pc ls st0) CF hM cw (w_preV hK hP hi he hc) rfl hn hsize hst (lv_room hr) hdg hf) hS (fun q _ h => hA0 q h) hA0 (fun M1 t H1 locs1 ht _ hw hB hz hk hS1 => kk M1 H1 locs1 hw (by rw [← ht]; exact hB.1) hz hk hS1)
end WCALLS
