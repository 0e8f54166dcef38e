/-! THE WORLD AS IT IS MADE: the cells from o on, n of them, nothing behind them -/
def gP (D : va_G) (cl : List vw_C) (E : Nat → va_E) (o n : Nat) (H : Heap) : Prop := H.size = o + n ∧ ∀ i, i < n → va_at D cl (o + i, E i) H
def gu (E : Nat → va_E) (i : Nat) (x : va_E) : Nat → va_E := fun j => if j = i then x else E j
def gj (E : Nat → va_E) (n : Nat) (F : Nat → va_E) : Nat → va_E := fun j => if j < n then E j else F (j - n)
theorem gu_s {E : Nat → va_E} {i : Nat} {x : va_E} : gu E i x i = x := if_pos rfl
theorem gu_ne {E : Nat → va_E} {i j : Nat} {x : va_E} (h : j ≠ i) : gu E i x j = E j := if_neg h
theorem gj_lt {E F : Nat → va_E} {n j : Nat} (h : j < n) : gj E n F j = E j := if_pos h
theorem gj_ge {E F : Nat → va_E} {n j k : Nat} (h : j = n + k) : gj E n F j = F k := by
  subst h
  unfold gj
  rw [if_neg (by omega), Nat.add_sub_cancel_left]
theorem gP_eq {D : va_G} {cl : List vw_C} {E E' : Nat → va_E} {o n : Nat} {H : Heap} (h : gP D cl E o n H) (he : ∀ i, i < n → E i = E' i) : gP D cl E' o n H := ⟨h.1, fun i hi => by rw [← he i hi]; exact h.2 i hi⟩
theorem gP_w {D : va_G} {cl : List vw_C} {E : Nat → va_E} {o n : Nat} {M : wM} {H : Heap} (h : gP D cl E o n H) : wP D cl (fun i _ _ _ => E i) o n M H := wP_of h.2
theorem gP_push {D : va_G} {cl : List vw_C} {E : Nat → va_E} {o n : Nat} {H H1 : Heap} {x : va_E} (h : gP D cl E o n H) (hz : H1.size = o + n + 1) (ho : ∀ q, q < o + n → H1[q]? = H[q]?) (hx : va_at D cl (o + n, x) H1) : gP D cl (gu E n x) o (n + 1) H1 := by
  refine ⟨by omega, fun i hi => ?_⟩
  by_cases e : i = n
  · subst e; rw [gu_s]; exact hx
  · rw [gu_ne e]; exact (h.2 i (by omega)).kept (ho _ (by show o + i < o + n; omega))
theorem gP_set {D : va_G} {cl : List vw_C} {E : Nat → va_E} {o n i : Nat} {H H1 : Heap} {x : va_E} (h : gP D cl E o n H) (hz : H1.size = H.size) (ho : ∀ q, q ≠ o + i → H1[q]? = H[q]?) (hx : va_at D cl (o + i, x) H1) : gP D cl (gu E i x) o n H1 := by
  refine ⟨hz.trans h.1, fun j hj => ?_⟩
  by_cases e : j = i
  · subst e; rw [gu_s]; exact hx
  · rw [gu_ne e]; exact (h.2 j hj).kept (ho _ (by show o + j ≠ o + i; omega))
theorem va_S.push {A : Nat → Prop} {H0 H H1 : Heap} {locs : List Loc} {h : Nat} (hS : va_S A H0 H locs) (hh : H.size = h) (hz : H1.size = h + 1) (ho : ∀ q, q < h → H1[q]? = H[q]?) : va_S A H0 H1 locs :=
  ⟨Nat.le_trans hS.1 (by omega), fun x h1 h2 => (ho x (by have := hS.1; omega)).trans (hS.2.1 x h1 h2), hS.2.2⟩
section GROW
variable {p : Program} {l : Launch} {e : Env} {R : Room} {s : State} {m : MethodId} {args : Array Value} {below : List Frame} {meth : Method} {c : Code} {H : Heap} {locs : List Loc} {cells slots : Nat} {Q : State → Prop}
variable {cc : ByteArray} {pc : Nat} {ls : Array Slot} {rest st0 : List Value} {D : va_G} {cl : List vw_C} {A : Nat → Prop} {tys : List (ClassId × FieldType)} {H0 : Heap} {E E1 : Nat → va_E} {o n : Nat}
theorem g_newa (hexec : p.tables.exec = Jvm.exec) (hb : c.code = cc) {atype : ArrayType} (harr : (Cond.arrayClass (newarray.typeOf atype)).before args s = true) {ty : FieldType} (hty : newarray.typeOf atype = ty) (hK : va_K D cl tys s) (hG : gP D cl E o n H) (hS : va_S A H0 H locs) (t0 : Nat) {cA : ClassId} (ht : tys[t0]? = some (cA, ty)) (hpr : va_RA s cA ty → s.vm.findClass ("[" ++ ty.toString) = some cA)
    {x : Int32} {N' : Nat} {a0 : vp_A} (ha : vp_cell cA a0 = arrV cA N' (fun _ => defaultValue ty)) (hn : ¬ x < 0) (hN : x.toNatClampNeg = N') (hbytes : N' * componentBytes ty ≤ 536870912) (hcells : cells + 1 ≤ R.cells) (hslots : slots + N' ≤ R.slots) (hdg : decode cc pc = .ok (.newarray atype, 2))
    (kk : ∀ (H1 : Heap), gP D cl (gu E n (.inl (cA, a0))) o (n + 1) H1 → va_S A H0 H1 locs → W p l e R s m args below meth c H1 locs (cells + 1) (slots + N') Q (F0 m (pc + 2) ls (.ref (o + n) :: rest))) : W p l e R s m args below meth c H locs cells slots Q (F0 m pc ls (.int x :: rest)) := by
  subst hty
  refine va_newaK hexec hb harr rfl hdg rfl hn hN hbytes hcells hslots hG.1 fun H1 cA' e1 z1 o1 hAr hNm => ?_
  have hc : cA' = cA := Option.some.inj (hNm.symm.trans (hpr (hK.2 t0 _ ht).2))
  subst hc
  refine kk H1 (gP_push hG z1 o1 ?_) (hS.push hG.1 z1 o1)
  show H1[o + n]? = some (vp_cell _ _)
  rw [ha]
  exact e1
theorem g_new {c0 : Code} (hexec : p.tables.exec = Jvm.exec) (hb : c0.code = cc) {own C : String} {T : u_T} {N ci index : Nat} {Ts : List Cond} (hts : ∀ w ∈ Ts, w.before args s = true) (hin : ∀ w ∈ u_ws C T N, w ∈ Ts) (ty : Nat → FieldType) (hty : ∀ k, k < N → parseFieldDescriptor (T k).2.2.1 = some (ty k)) (hown : s.vm.findClass own = some m.cls) (hcl : (Cond.classLink own index C).before args s = true) (hinst : (Cond.instantiable C N).before args s = true) (hini : (Cond.initialized C).before args s = true)
    (hK : va_K D cl tys s) (hG : gP D cl E o n H) (hS : va_S A H0 H locs) (hc : cl[ci]? = some (C, T, N)) {fs : List Value} (hfs : ∀ j, j < N → defaultValue (ty j) = vp_V fs j) (hcells : cells + 1 ≤ R.cells) (hslots : slots + N ≤ R.slots) (hdg : decode cc pc = .ok (.new index, 3))
    (kk : ∀ (H1 : Heap), gP D cl (gu E n (.inr (ci, fs))) o (n + 1) H1 → va_S A H0 H1 locs → W p l e R s m args below meth c0 H1 locs (cells + 1) (slots + N) Q (F0 m (pc + 3) ls (.ref (o + n) :: rest))) : W p l e R s m args below meth c0 H locs cells slots Q (F0 m pc ls rest) := by
  have hKn := hK.1 ci _ hc
  refine W.newcK hexec hb hown hcl hinst hini rfl hdg hcells hslots hKn.2.1 hG.1 fun H1 kC hkC e1 z1 o1 => ?_
  exact kk H1 (gP_push hG z1 o1 ⟨_, hc, (u_born ty hts hin hKn hkC e1 hty).to hfs⟩) (hS.push hG.1 z1 o1)
theorem g_anew (hexec : p.tables.exec = Jvm.exec) (hb : c.code = cc) {own C : String} {index : Nat} (hown : s.vm.findClass own = some m.cls) (hclink : (Cond.classLink own index C).before args s = true) (hover : va_AO C s) (hK : va_K D cl tys s) (hG : gP D cl E o n H) (hS : va_S A H0 H locs) (t0 : Nat) {cA : ClassId} (ht : tys[t0]? = some (cA, .object C))
    {x : Int32} {N' : Nat} (hn : ¬ x < 0) (hN : x.toNatClampNeg = N') (hbytes : N' * 4 ≤ 536870912) (hcells : cells + 1 ≤ R.cells) (hslots : slots + N' ≤ R.slots) (hdg : decode cc pc = .ok (.anewarray index, 3))
    (kk : ∀ (H1 : Heap), gP D cl (gu E n (.inl (cA, N', .inr (.inr (.inr (.inr (fun _ => none))))))) o (n + 1) H1 → va_S A H0 H1 locs → W p l e R s m args below meth c H1 locs (cells + 1) (slots + N') Q (F0 m (pc + 3) ls (.ref (o + n) :: rest))) : W p l e R s m args below meth c H locs cells slots Q (F0 m pc ls (.int x :: rest)) := by
  subst hN
  refine W.anew hexec hb hown hclink (va_AO.use hover) rfl hdg rfl hn hbytes hcells hslots fun cA' kA comp f1 f2 f3 f4 => ?_
  obtain ⟨kA2, comp2, g1, g2, g3, g4⟩ := (hK.2 t0 _ ht).2
  have hc : cA' = cA := Option.some.inj (f1.symm.trans g4)
  subst hc
  generalize hH1 : H.push ({ cls := cA', slots := Array.replicate x.toNatClampNeg .null, vm := .none } : Cell) = H1
  have z1 : H1.size = o + n + 1 := by rw [← hH1, Array.size_push, hG.1]
  have e1 : H1[o + n]? = some (arrV cA' x.toNatClampNeg (fun _ => .null)) := by rw [← hH1, ← hG.1, Array.getElem?_push_size, ← arrV_new]
  have o1 : ∀ q : Nat, q < o + n → H1[q]? = H[q]? := fun q hq => by rw [← hH1, Array.getElem?_push, if_neg (by rw [hG.1]; omega)]
  rw [hG.1]
  refine kk H1 (gP_push hG z1 o1 ?_) (hS.push hG.1 z1 o1)
  show H1[o + n]? = some (vp_cell _ _)
  rw [vp_cell_q]
  exact e1
theorem g_put (hexec : p.tables.exec = Jvm.exec) (hb : c.code = cc) {own C : String} {T : u_T} {N ci index : Nat} {Ts : List Cond} (hts : ∀ w ∈ Ts, w.before args s = true) (hin : ∀ w ∈ u_ws C T N, w ∈ Ts) (ty0 : Nat → FieldType) (hty : ∀ k, k < N → parseFieldDescriptor (T k).2.2.1 = some (ty0 k)) (hnm : ∀ a, a < N → ∀ b, b < N → a ≠ b → (T a).2.1 ≠ (T b).2.1) (hown : s.vm.findClass own = some m.cls) (hK : va_K D cl tys s) (hG : gP D cl E o n H) (hA : ∀ q, o ≤ q → A q) (hS0 : va_S A H0 H locs) (i : Nat) (hi9 : i < n) {fs : List Value} (he : E i = .inr (ci, fs)) (hc : cl[ci]? = some (C, T, N)) (k : Nat) (hk : k < N) (hlink : (Cond.fieldLink own index (T k).1 (T k).2.1 (T k).2.2.1).before args s = true) (hfin : (T k).2.2.2 = false) {v : Value} (hn : narrow (ty0 k) v = v) (hfit : fits (ty0 k) v = true) (hl : k < fs.length)
    (hdg : decode cc pc = .ok (.putfield index, 3)) (kk : ∀ (H1 : Heap) (locs1 : List Loc), gP D cl (gu E i (.inr (ci, fs.set k v))) o n H1 → va_S A H0 H1 locs1 → W p l e R s m args below meth c H1 locs1 cells slots Q (F0 m (pc + 3) ls rest)) : W p l e R s m args below meth c H locs cells slots Q (F0 m pc ls (v :: .ref (o + i) :: rest)) := by
  have hap := va_apart (own := own) hts hin ty0 hty hnm hK hc
  have hat := hG.2 i hi9
  rw [he] at hat
  obtain ⟨r, h1, cell, q1, q2, q3, q4⟩ := hat
  have hr : r = (C, T, N) := Option.some.inj (h1.symm.trans hc)
  subst hr
  obtain ⟨hS, hfc, kC, hkC, hkind⟩ := hK.1 ci _ hc
  obtain ⟨cf, kf, fi, f, hi, hsl⟩ := hS k hk
  have hlay := hts _ (hin _ (u_in_lay hk))
  unfold u_lay at hlay
  rw [if_neg (by rw [hfin]; decide)] at hlay
  have hst := (u_facts hfc hkC (u_lays hts hin hk) hi).1
  have h6 := u_store hfc hkC hkind hlay hi (hty k hk) hn hfit
  refine W.putK hexec hb (f := f) ⟨hown, hlink, ⟨_, _, _, hi⟩, hst⟩ (by rw [q2]; exact h6) q1 q3 (by rw [hsl]; exact k2_hasslot (q4 k hk)) rfl rfl hdg fun H' e1 e2 e3 => ?_
  rw [hsl] at e1 ⊢
  exact kk H' _ (gP_set hG e2 e3 ⟨_, hc, t_OB.to (V := updV (vp_V fs) k v) ⟨_, e1, q2, q3, t_set q4 hap hk v⟩ (fun j _ => vp_updV_set hl v j)⟩) (hS0.put e2 e3 (hA _ (Nat.le_add_right _ _)))
theorem g_putF (hexec : p.tables.exec = Jvm.exec) (hb : c.code = cc) {own C : String} {T : u_T} {N ci index : Nat} {Ts : List Cond} (hts : ∀ w ∈ Ts, w.before args s = true) (hin : ∀ w ∈ u_ws C T N, w ∈ Ts) (ty0 : Nat → FieldType) (hty : ∀ k, k < N → parseFieldDescriptor (T k).2.2.1 = some (ty0 k)) (hnm : ∀ a, a < N → ∀ b, b < N → a ≠ b → (T a).2.1 ≠ (T b).2.1) (hown : s.vm.findClass own = some m.cls) (hK : va_K D cl tys s) (hG : gP D cl E o n H) (hA : ∀ q, o ≤ q → A q) (hS0 : va_S A H0 H locs) (i : Nat) (hi9 : i < n) {fs : List Value} (he : E i = .inr (ci, fs)) (hc : cl[ci]? = some (C, T, N)) (k : Nat) (hk : k < N) (hlink : (Cond.fieldLink own index (T k).1 (T k).2.1 (T k).2.2.1).before args s = true) (hfin : (T k).2.2.2 = true) (hin2 : meth.name = "<init>") (hdecl : (T k).1 = own) {v : Value} (hn : narrow (ty0 k) v = v) (hfit : fits (ty0 k) v = true) (hl : k < fs.length)
    (hdg : decode cc pc = .ok (.putfield index, 3)) (kk : ∀ (H1 : Heap) (locs1 : List Loc), gP D cl (gu E i (.inr (ci, fs.set k v))) o n H1 → va_S A H0 H1 locs1 → W p l e R s m args below meth c H1 locs1 cells slots Q (F0 m (pc + 3) ls rest)) : W p l e R s m args below meth c H locs cells slots Q (F0 m pc ls (v :: .ref (o + i) :: rest)) := by
  have hap := va_apart (own := own) hts hin ty0 hty hnm hK hc
  have hat := hG.2 i hi9
  rw [he] at hat
  obtain ⟨r, h1, cell, q1, q2, q3, q4⟩ := hat
  have hr : r = (C, T, N) := Option.some.inj (h1.symm.trans hc)
  subst hr
  obtain ⟨hS, hfc, kC, hkC, hkind⟩ := hK.1 ci _ hc
  obtain ⟨cf, kf, fi, f, hi, hsl⟩ := hS k hk
  have hlay := hts _ (hin _ (u_in_lay hk))
  unfold u_lay at hlay
  rw [if_pos hfin] at hlay
  have hst := (u_facts hfc hkC (u_lays hts hin hk) hi).1
  have hcf : m.cls = cf := by
    obtain ⟨_, _, c', _, _, _, -, -, hf', -, -, -, hown2, -⟩ := Cond.laysFinal_spec hlay
    have e1 : c' = cf := by have := hi.symm.trans hf'; simp at this; exact this.1.symm
    rw [hdecl] at hown2
    rw [← e1]; exact Option.some.inj (hown.symm.trans hown2)
  have h6 := u_fits hfc hkC hkind (Or.inr hlay) hi (hty k hk) hn hfit
  refine W.putFinK hexec hb hown hlink hi hst hcf hin2 (by rw [q2]; exact h6) q1 q3 (by rw [hsl]; exact k2_hasslot (q4 k hk)) rfl rfl hdg fun H' e1 e2 e3 => ?_
  rw [hsl] at e1 ⊢
  exact kk H' _ (gP_set hG e2 e3 ⟨_, hc, t_OB.to (V := updV (vp_V fs) k v) ⟨_, e1, q2, q3, t_set q4 hap hk v⟩ (fun j _ => vp_updV_set hl v j)⟩) (hS0.put e2 e3 (hA _ (Nat.le_add_right _ _)))
theorem g_aast (hexec : p.tables.exec = Jvm.exec) (hb : c.code = cc) (hK : va_K D cl tys s) (hG : gP D cl E o n H) (hA : ∀ q, o ≤ q → A q) (hS : va_S A H0 H locs) (i t0 j ci : Nat) (hi : i < n) (hj : j < n) {cA : ClassId} {r : vw_C} {N k : Nat} {vs : List Value} {f : Nat → Option Nat} (ha : E i = .inl (cA, N, .inr (.inr (.inr (.inr f))))) (ht : tys[t0]? = some (cA, .object r.1)) (hv : E j = .inr (ci, vs)) (hc : cl[ci]? = some r) (hk : k < N) (hkb : k < 2147483648) (hdg : decode cc pc = .ok (.aastore, 1))
    (kk : ∀ (H1 : Heap) (locs1 : List Loc), gP D cl (gu E i (.inl (cA, N, .inr (.inr (.inr (.inr (va_up f k (some (o + j))))))))) o n H1 → va_S A H0 H1 locs1 → W p l e R s m args below meth c H1 locs1 cells slots Q (F0 m (pc + 1) ls rest)) : W p l e R s m args below meth c H locs cells slots Q (F0 m pc ls (.ref (o + j) :: .int (nI k) :: .ref (o + i) :: rest)) := by
  have hkt : (nI k).toNatClampNeg = k := nI_clamp hkb
  have h0 : ¬ nI k < 0 := nI_pos hkb
  have hva := hG.2 j hj
  rw [hv] at hva
  obtain ⟨r', hr', cellV, g1, g2, g3, -⟩ := hva
  have hia := hG.2 i hi
  rw [ha] at hia
  have hcls := (hK.1 ci r hc).2
  obtain ⟨kA, comp, k1, k2, k3, -⟩ := (hK.2 t0 _ ht).2
  have hcomp : comp = D.1 ci := Option.some.inj (k3.symm.trans hcls.1)
  subst hcomp
  obtain ⟨kC, hkC, -⟩ := hcls.2
  refine W.aast hexec hb hia (fun q h => by cases h) (fun h => by cases h) k1 k2 rfl hkC ⟨h0, by show _ < (arrV _ _ _).slots.size; rw [arrV_size, hkt]; exact hk⟩ g1 (fun q h => by rw [g3] at h; cases h) (by rw [g2]; exact hkC) (by rw [g2]; exact va_assign hcls) rfl rfl hdg fun H1 e z oq => ?_
  refine kk H1 _ (gP_set hG z oq ?_) (hS.put z oq (hA _ (Nat.le_add_right _ _)))
  show H1[o + i]? = some (vp_cell _ _)
  rw [e, hkt]
  rw [vp_cell_q, vp_cell_q, arrV_store]
  congr 2
  funext q
  by_cases hq : q = k
  · subst hq
    simp [updV, va_up, va_rf]
  · simp [updV, va_up, hq]
/-- behind a constructor of the newest cell -/
theorem g_callv {mc ms k : Nat} {a : Array Value} {e0 : va_E} (hr : va_Run p l e R s m args below meth c H locs cells slots mc ms (F0 m pc ls st0) rest (va_Qv (fun _ : Unit => True) (fun _ t => gP D cl E1 (o + n) k t.heap ∧ va_K D cl tys t) (fun q => o + n ≤ q) a) (fun q => o + n ≤ q)) (hG : gP D cl (gu E n e0) o (n + 1) H) (hS : va_S A H0 H locs) (hA : ∀ q, o ≤ q → A q)
    (kk : ∀ (H1 : Heap) (locs1 : List Loc), gP D cl (gj E n E1) o (n + k) H1 → va_S A H0 H1 locs1 → W p l e R s m args below meth c H1 locs1 (cells + mc) (slots + ms) Q (F0 m (pc + 3) ls rest)) : W p l e R s m args below meth c H locs cells slots Q (F0 m pc ls st0) := by
  refine va_callv hr hS (fun q _ h => hA q (by omega)) (fun q h => hA q (by omega)) (fun _ t H1 locs1 ht _ _ hB hz hk hS1 => kk H1 locs1 ?_ hS1)
  obtain ⟨⟨b1, b2⟩, -⟩ := hB
  rw [ht] at b1 b2
  refine ⟨by omega, fun i hi => ?_⟩
  by_cases q : i < n
  · have h1 := hG.2 i (by omega)
    rw [gu_ne (by omega)] at h1
    rw [gj_lt q]
    exact h1.kept (hk (o + i) (by rw [hG.1]; omega) (by omega))
  · obtain ⟨d, rfl⟩ : ∃ d, i = n + d := ⟨i - n, by omega⟩
    rw [gj_ge rfl, ← Nat.add_assoc]
    exact b2 d (by omega)
end GROW
