/-! THE LAW: the class's world at o, the reference's at o2 = o + 217, out at qo = o + 234, all that lies from o on is new. -/
abbrev nP (D : va_G) (cA : Nat → ClassId) (o : Nat) (M : wM) (H : Heap) : Prop := wP D cls_ (SM o cA) o 17 M H
/-- two ints as a long -/
def lg2 (a b : Int32) : Int64 := (a.toInt64 <<< ((32 : Int32).toInt64 &&& 63)) ||| (b.toInt64 &&& 4294967295)
def LC (p : Program) (l : Launch) (s : State) (m : MethodId) (args : Array Value) (c : Code) (D : va_G) (cA : Nat → ClassId) (o o2 qo b L : Nat) (xs : Nat → Int32) : Prop :=
  p.tables.exec = Jvm.exec ∧ c.code = c_W_law ∧ c.maxLocals = 8 ∧ s.vm.findClass "ShopDesksLaw" = some m.cls ∧ (∀ w ∈ wm y_X_init c_X_init 2 none, w.before args s = true) ∧ va_K D cls_ (tys_ cA) s ∧ xG (fun q => o ≤ q) s ∧ xN s ∧ va_X b L xs s s.heap ∧ b < s.heap.size ∧ l.stackTraces = false ∧ o = s.heap.size ∧ o2 = o + 217 ∧ qo = o + 234 ∧ L < 2147483648
theorem lc_add (i k : Nat) {j : Int32} (h : j = nI k) : nI i + j = nI (i + k) := by rw [h]; exact nI_add i k
section LROWS
variable {p : Program} {l : Launch} {e : Env} {R : Room} {s : State} {m : MethodId} {args : Array Value} {below : List Frame} {meth : Method} {c : Code} {H : Heap} {locs : List Loc} {cells slots : Nat} {Q : State → Prop}
variable {y : MethodName} {bytes cc : ByteArray} {maxL nL mc ms k index pc : Nat} {ret : Option FieldType} {ws : List Cond} {rm : Room} {Ts : List Cond} {own : String} {As rest st0 : List Value} {ls : Array Slot} {hh : List (Nat × Nat × Nat × Nat)}
variable {D : va_G} {cA : Nat → ClassId} {o o2 qo b L : Nat} {xs : Nat → Int32} {M N : wM} {f : Nat → Int64}
/-- script[k] -/
theorem lc_ld (hexec : p.tables.exec = Jvm.exec) (hb : c.code = cc) (hX : va_X b L xs s s.heap) (hbl : b < s.heap.size) (ho : o = s.heap.size) (hS : va_S (fun q => o ≤ q) s.heap H locs) {i : Nat} (hi : i < L) (hL : L < 2147483648) (hdg : decode cc pc = .ok (.iaload, 1))
    (kk : W p l e R s m args below meth c H locs cells slots Q (F0 m (pc + 1) ls (.int (xs i) :: rest))) : W p l e R s m args below meth c H locs cells slots Q (F0 m pc ls (.int (nI i) :: .ref b :: rest)) :=
  va_sld (A := fun q => o ≤ q) hexec hb hX hbl (fun h => by omega) hS (vp_in_nI hi hL) hdg (by rw [nI_clamp (show i < 2 ^ 31 by omega)]; exact kk)
/-- out[0] -/
theorem lc_out (hexec : p.tables.exec = Jvm.exec) (hb : c.code = cc) (hK : va_K D cls_ (tys_ cA) s) (hO : oP D cA qo f H) (hdg : decode cc pc = .ok (.laload, 1))
    (kk : W p l e R s m args below meth c H locs cells slots Q (F0 m (pc + 1) ls (.long (f 0) :: rest))) : W p l e R s m args below meth c H locs cells slots Q (F0 m pc ls (.int 0 :: .ref qo :: rest)) :=
  va_lald (D := D) (ws := [(qo, oE cA f)]) hexec hb hK (va_P1 hO) 0 1 (cA := cA 1) (n := 1) (f := f) rfl rfl (i := 0) (show ¬ ((0 : Int32) < 0 ∨ 1 ≤ (0 : Int32).toNatClampNeg) by decide) hdg (by rw [show (0 : Int32).toNatClampNeg = 0 by decide]; exact kk)
/-- a call of one of the law's own methods -/
theorem lc_S {post : Int32 → wM × (Nat → Int64) → Prop} (CF : CallFix p m c cc nL s args Ts own) (hM : Met l y ws rm (va_Pc As (oB D cA o qo M f H.size)) (va_Qi post (oQ D cA o qo) (oA o qo H.size)) mc ms (oA o qo H.size)) (cw : vx_CSW R s args own index y bytes maxL ret hh ws rm mc ms k)
    (hK : va_K D cls_ (tys_ cA) s) (hG : xG (fun q => o ≤ q) s) (hN : xN s) (ho : o = s.heap.size) (ho2 : o2 = o + 217) (hqo : qo = o + 234) (hP : xP D cA o M H) (hP2 : nP D cA o2 N H) (hO : oP D cA qo f H) (hS : va_S (fun q => o ≤ q) s.heap H locs)
    (hn : As.length = k) (hsize : ls.size = nL) (hst : st0 = As.reverse ++ rest) (hr : (rest.map fun v => v.category).sum ≤ 8) (hdg : decode cc pc = .ok (.invokestatic index, 3)) (hf : cells + mc ≤ R.cells ∧ slots + ms ≤ R.slots)
    (kk : ∀ (r : Int32) (u : wM × (Nat → Int64)) (H1 : Heap) (locs1 : List Loc), post r u → xP D cA o u.1 H1 → nP D cA o2 N H1 → oP D cA qo u.2 H1 → va_S (fun q => o ≤ q) s.heap H1 locs1 → W p l e R s m args below meth c H1 locs1 (cells + mc) (slots + ms) Q (F0 m (pc + 3) ls (.int r :: rest))) :
    W p l e R s m args below meth c H locs cells slots Q (F0 m pc ls st0) := by
  have hA : ∀ a, oA o qo H.size a → o ≤ a := by
    intro a h
    have h1 := hS.1
    rcases h with (h | h) | h <;> omega
  exact va_calli (vx_runSW (g := F0 m pc ls st0) CF hM cw (o_pre hK hP hO (Or.inr (by omega)) hG hS hA hN) rfl hn hsize hst (lv_room hr) hdg hf) hS (fun a _ h => hA a h) hA
    (fun r u t H1 locs1 ht _ hw hB hz hk hS1 => kk r u H1 locs1 hw (by rw [← ht]; exact hB.1) (wP_kept hP2 (fun i hi => hk _ (wP_lt hP2 hi) (by
      have h1 : o2 + i < H.size := wP_lt hP2 hi
      intro h
      rcases h with (h | h) | h <;> omega))) (by rw [← ht]; exact hB.2.1) hS1)
theorem lc_Vi {post : Int32 → wM → Prop} (CF : CallFix p m c cc nL s args Ts own) (hM : Met l y ws rm (va_Pc (.ref (o2 + 0) :: As) (mB D cA o2 N H.size)) (va_Qi post (mQ D cA o2) (mA o2 H.size)) mc ms (mA o2 H.size)) (cw : CallW R s args own R_M index y bytes maxL ret ws rm mc ms k)
    (hK : va_K D cls_ (tys_ cA) s) (ho : o = s.heap.size) (ho2 : o2 = o + 217) (hqo : qo = o + 234) (hP : xP D cA o M H) (hP2 : nP D cA o2 N H) (hO : oP D cA qo f H) (hS : va_S (fun q => o ≤ q) s.heap H locs)
    (hn : As.length = k) (hsize : ls.size = nL) (hst : st0 = As.reverse ++ .ref (o2 + 0) :: rest) (hr : (rest.map fun v => v.category).sum ≤ 8) (hdg : decode cc pc = .ok (.invokevirtual index, 3)) (hf : cells + mc ≤ R.cells ∧ slots + ms ≤ R.slots)
    (kk : ∀ (r : Int32) (N1 : wM) (H1 : Heap) (locs1 : List Loc), post r N1 → xP D cA o M H1 → nP D cA o2 N1 H1 → oP D cA qo f H1 → va_S (fun q => o ≤ q) s.heap H1 locs1 → W p l e R s m args below meth c H1 locs1 (cells + mc) (slots + ms) Q (F0 m (pc + 3) ls (.int r :: rest))) :
    W p l e R s m args below meth c H locs cells slots Q (F0 m pc ls st0) :=
  w_Vi (S := SM o2 cA) (o := o2) (n := 17) (i := 0) CF hM cw hK hP2 (by decide) SM_0 rfl hn hsize hst hr hdg hf hS (fun a h => by
      have h1 := hS.1
      rcases h with h | h <;> (show o ≤ a; omega))
    (fun r N1 H1 locs1 hw hP2' hz hk hS' => kk r N1 H1 locs1 hw (wP_kept hP (fun i hi => hk _ (wP_lt hP hi) (by
      have h1 : o + i < H.size := wP_lt hP hi
      intro h
      rcases h with h | h <;> omega))) hP2' (hO.kept (hk qo hO.lt (by
      have h1 : qo < H.size := hO.lt
      intro h
      rcases h with h | h <;> omega))) hS')
theorem lc_Vl {post : Int64 → wM → Prop} (CF : CallFix p m c cc nL s args Ts own) (hM : Met l y ws rm (va_Pc (.ref (o2 + 0) :: As) (mB D cA o2 N H.size)) (va_Ql post (mQ D cA o2) (mA o2 H.size)) mc ms (mA o2 H.size)) (cw : CallW R s args own R_M index y bytes maxL ret ws rm mc ms k)
    (hK : va_K D cls_ (tys_ cA) s) (ho : o = s.heap.size) (ho2 : o2 = o + 217) (hqo : qo = o + 234) (hP : xP D cA o M H) (hP2 : nP D cA o2 N H) (hO : oP D cA qo f H) (hS : va_S (fun q => o ≤ q) s.heap H locs)
    (hn : As.length = k) (hsize : ls.size = nL) (hst : st0 = As.reverse ++ .ref (o2 + 0) :: rest) (hr : (rest.map fun v => v.category).sum ≤ 8) (hdg : decode cc pc = .ok (.invokevirtual index, 3)) (hf : cells + mc ≤ R.cells ∧ slots + ms ≤ R.slots)
    (kk : ∀ (r : Int64) (N1 : wM) (H1 : Heap) (locs1 : List Loc), post r N1 → xP D cA o M H1 → nP D cA o2 N1 H1 → oP D cA qo f H1 → va_S (fun q => o ≤ q) s.heap H1 locs1 → W p l e R s m args below meth c H1 locs1 (cells + mc) (slots + ms) Q (F0 m (pc + 3) ls (.long r :: rest))) :
    W p l e R s m args below meth c H locs cells slots Q (F0 m pc ls st0) :=
  w_Vl (S := SM o2 cA) (o := o2) (n := 17) (i := 0) CF hM cw hK hP2 (by decide) SM_0 rfl hn hsize hst hr hdg hf hS (fun a h => by
      have h1 := hS.1
      rcases h with h | h <;> (show o ≤ a; omega))
    (fun r N1 H1 locs1 hw hP2' hz hk hS' => kk r N1 H1 locs1 hw (wP_kept hP (fun i hi => hk _ (wP_lt hP hi) (by
      have h1 : o + i < H.size := wP_lt hP hi
      intro h
      rcases h with h | h <;> omega))) hP2' (hO.kept (hk qo hO.lt (by
      have h1 : qo < H.size := hO.lt
      intro h
      rcases h with h | h <;> omega))) hS')
end LROWS
