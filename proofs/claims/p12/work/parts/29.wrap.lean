/-! THE LAW'S OWN METHODS: 'try { out[0] = x.f(..); } catch (E e) { return k; } .. return 0;'. The class's world at o; out, an array of one long, at q. -/
def wmW (y : MethodName) (c : ByteArray) (n : Nat) (r : Option FieldType) (hh : List (Nat × Nat × Nat × Nat)) : List Cond := Cond.codeWith y c n r hh :: aw
theorem wmW_x {y y' : MethodName} {c c' : ByteArray} {n n' : Nat} {r r' : Option FieldType} {hh : List (Nat × Nat × Nat × Nat)} {args : Array Value} {s : State} (h : Cond.code y' c' n' r' ∈ aw) (hts : ∀ w ∈ wmW y c n r hh, w.before args s = true) : ∀ w ∈ wm y' c' n' r', w.before args s = true := fun w hw => (List.mem_cons.mp hw).elim (fun e => by rw [e]; exact hts _ (List.mem_cons_of_mem _ h)) (fun e => hts _ (List.mem_cons_of_mem _ e))
theorem wmW_good {y y' : MethodName} {c c' : ByteArray} {n n' : Nat} {r r' : Option FieldType} {hh : List (Nat × Nat × Nat × Nat)} (h : Cond.codeWith y' c' n' r' hh ∈ aw) : GoodIn (wm y c n r) (wmW y' c' n' r' hh) := fun w hw => (List.mem_cons.mp hw).elim (fun e => e ▸ ⟨List.mem_cons_of_mem _ h, aw_good h⟩) (fun e => ⟨List.mem_cons_of_mem _ e, aw_good e⟩)
theorem kSW {s : State} {args : Array Value} {R rm : Room} {ym y : MethodName} {cm bytes : ByteArray} {nm maxL idx mc ms : Nat} {rr ret : Option FieldType} {own : String} {hh : List (Nat × Nat × Nat × Nat)} (hts : ∀ w ∈ wm ym cm nm rr, w.before args s = true) (n : Nat) (hc : Cond.codeWith y bytes maxL ret hh ∈ aw) (hl : Cond.methodLink own idx y ∈ aw) (hi : Cond.static y ∈ aw) (hn : Cond.initialized y.cls ∈ aw) (hd : notMH y n) (hrc : rm.cells = mc) (hrs : rm.slots = ms) (hR : rm.frames + 1 ≤ R.frames ∧ 8 + (maxL + 11) + rm.locals ≤ R.locals) : vx_CSW R s args own idx y bytes maxL ret hh (wmW y bytes maxL ret hh) rm mc ms n :=
  ⟨⟨hrc, hrs, hR.1, hR.2, pay_in hts (wmW_good hc), List.mem_cons_self⟩, hts _ (al hc), hts _ (al hn), ⟨hd.1, hd.2.1⟩, fun sig h => by
    have h2 := hd.2.2
    rw [h] at h2
    exact (Option.some.inj h2).symm, hts _ (al hl), hts _ (al hi)⟩
theorem met_ofWH {l : Launch} {y : MethodName} {ws ws' : List Cond} {rm : Room} {Pc : Array Value → State → Prop} {Qc : Array Value → State → Outcome → State → Prop} {mc ms : Nat} {free : Addr → Prop} {cc : ByteArray} {maxL : Nat} {ret : Option FieldType} {hh : List (Nat × Nat × Nat × Nat)}
    (hy : plainName y.cls = true) (hw : ws = Cond.codeWith y cc maxL ret hh :: ws')
    (body : ∀ p e s m args below meth c s₁, BodyLoose p l y (headSpec ws rm) cc maxL ret e s m args below meth c s₁ → c.maxLocals = maxL → c.exceptionTable.toList = tableOf hh → Pc args s →
      W p l e (headSpec ws rm).room s m args below meth c s.heap [] 0 0 (MQ below Qc args s mc ms free) (entryFrame m args maxL)) : Met l y ws rm Pc Qc mc ms free := by
  refine MetFree.of_bodyS (code := cc) (maxLocals := maxL) (ret := ret) hy ?_ ?_
  · intro args s m h hn
    obtain ⟨m9, meth, c, hn9, h1, h2, h3, h4, -, h5, h6, -⟩ := Cond.codeWith_spec (atoms_spec (ws := ws) h _ (by rw [hw]; exact List.mem_cons_self))
    cases hn.symm.trans hn9
    exact ⟨meth, c, h1, h2, h3, h4, h5, h6⟩
  · intro p e s m args below meth c s₁ B hml hP _
    have hh0 : s₁.heap = s.heap := by rw [B.state]; rfl
    have ht : c.exceptionTable.toList = tableOf hh := vx_table (x := y) B (atoms_spec (ws := ws) B.pre _ (by rw [hw]; exact List.mem_cons_self))
    obtain ⟨t, a1, o, b1, b2, b3⟩ := body p e s m args below meth c s₁ B hml ht hP s₁ hh0 (Stand.of_body B)
    exact ⟨t, o, a1, b1, b2, ⟨b3.1, b3.2⟩⟩
theorem va_P_app {D : va_G} {cl : List vw_C} {a b : va_W} {H : Heap} (ha : va_P D cl a H) (hb : va_P D cl b H) : va_P D cl (a ++ b) H := by
  intro k q hq
  by_cases h : k < a.length
  · rw [List.getElem?_append_left h] at hq; exact ha k q hq
  · rw [List.getElem?_append_right (Nat.le_of_not_lt h)] at hq; exact hb _ q hq
theorem va_P_l {D : va_G} {cl : List vw_C} {a b : va_W} {H : Heap} (h : va_P D cl (a ++ b) H) : va_P D cl a H := by
  intro k q hq
  refine h k q ?_
  have hk : k < a.length := (List.getElem?_eq_some_iff.mp hq).1
  rw [List.getElem?_append_left hk]; exact hq
theorem va_P_r {D : va_G} {cl : List vw_C} {a b : va_W} {H : Heap} (h : va_P D cl (a ++ b) H) : va_P D cl b H := by
  intro k q hq
  refine h (a.length + k) q ?_
  rw [List.getElem?_append_right (Nat.le_add_right _ _), Nat.add_sub_cancel_left]; exact hq
theorem va_P1 {D : va_G} {cl : List vw_C} {x : Nat × va_E} {H : Heap} (h : va_at D cl x H) : va_P D cl [x] H := by
  intro k z hz
  cases k with
  | zero =>
    have h1 : some x = some z := hz
    cases h1
    exact h
  | succ k => simp at hz
theorem va_D_1 {A : Nat → Prop} {a : va_W} {x : Nat × va_E} (h : va_D A a) (hx : A x.1) (hn : ∀ (k : Nat) (z : Nat × va_E), a[k]? = some z → z.1 ≠ x.1) : va_D A (a ++ [x]) := by
  have key : ∀ (k : Nat) (z : Nat × va_E), (a ++ [x])[k]? = some z → a[k]? = some z ∨ (k = a.length ∧ z = x) := by
    intro k z hz
    by_cases hk : k < a.length
    · rw [List.getElem?_append_left hk] at hz; exact Or.inl hz
    · rw [List.getElem?_append_right (Nat.le_of_not_lt hk)] at hz
      cases hd : k - a.length with
      | zero =>
        rw [hd] at hz
        have h1 : some x = some z := hz
        exact Or.inr ⟨by omega, (Option.some.inj h1).symm⟩
      | succ d => rw [hd] at hz; simp at hz
  refine ⟨fun i j p q hp hq e => ?_, fun k z hz => ?_⟩
  · rcases key i p hp with h1 | ⟨h1, h3⟩
    · rcases key j q hq with h2 | ⟨h2, h4⟩
      · exact h.1 i j p q h1 h2 e
      · rw [h4] at e; exact absurd e (hn i p h1)
    · rcases key j q hq with h2 | ⟨h2, h4⟩
      · rw [h3] at e; exact absurd e.symm (hn j q h2)
      · omega
  · rcases key k z hz with h1 | ⟨-, h1⟩
    · exact h.2 k z h1
    · rw [h1]; exact hx
theorem set_last {a : va_W} {x y : Nat × va_E} : (a ++ [x]).set a.length y = a ++ [y] := by simp
def oE (cA : Nat → ClassId) (f : Nat → Int64) : va_E := .inl (cA 1, 1, .inr (.inl f))
abbrev oP (D : va_G) (cA : Nat → ClassId) (q : Nat) (f : Nat → Int64) (H : Heap) : Prop := va_at D cls_ (q, oE cA f) H
def oA (o q sz : Nat) : Nat → Prop := fun a => xA o sz a ∨ a = q
abbrev x3 : List String := ["java/lang/IndexOutOfBoundsException", "java/lang/IllegalArgumentException", "java/lang/IllegalStateException"]
def xN (U : State) : Prop := ∀ E ∈ x3, ∀ E' ∈ x3, E ≠ E' → va_Nc E E' U
theorem x3_cast {A : Nat → Prop} {s : State} {args : Array Value} {E : String} (hG : xG A s) (hE : E ∈ x3) : (Cond.castable E E).before args s = true := by
  have h : Cond.castable E E ∈ xBad := by
    simp only [x3, List.mem_cons, List.not_mem_nil, or_false] at hE
    rcases hE with rfl | rfl | rfl <;> simp [xBad]
  exact va_Nw.use (xBad_ot _ h) (hG.2.2.2 _ h)
def oB (D : va_G) (cA : Nat → ClassId) (o q : Nat) (M : wM) (f : Nat → Int64) (sz : Nat) : State → Prop := fun U => (U.heap.size = sz ∧ xP D cA o M U.heap ∧ va_K D cls_ (tys_ cA) U) ∧ oP D cA q f U.heap ∧ (q < o ∨ o + 217 ≤ q) ∧ xG (oA o q sz) U ∧ xN U
def oQ (D : va_G) (cA : Nat → ClassId) (o q : Nat) : wM × (Nat → Int64) → State → Prop := fun u t => xP D cA o u.1 t.heap ∧ oP D cA q u.2 t.heap ∧ va_K D cls_ (tys_ cA) t
/-- what such a method gives: 0 and the answer in out, or the number of what was thrown, and nothing is changed -/
def oPost {α : Type} (post : α → wM → Prop) (cv : α → Int64) (pE : String → Prop) (hs : List (Int32 × String)) (M : wM) (f : Nat → Int64) : Int32 → wM × (Nat → Int64) → Prop := fun r u => (r = 0 ∧ ∃ r0, post r0 u.1 ∧ u.2 0 = cv r0) ∨ (u = (M, f) ∧ ∃ h ∈ hs, r = h.1 ∧ pE h.2)
/-- the answers agree -/
def cmpOk {α : Type} (cv : α → Int64) (rk : Int32) (f : Nat → Int64) (rb : α) (N1 : wM) : Prop := N1.2.2 0 0 = rk ∧ (rk = 0 → f 0 = cv rb)
theorem o_blind {av : List Value} {D : va_G} {cA : Nat → ClassId} {o q : Nat} {M : wM} {f : Nat → Int64} {sz : Nat} : FrameBlind (va_Pc av (oB D cA o q M f sz)) := fun a U g mk h => ⟨h.1, ⟨h.2.1.1, h.2.1.2.1, va_K.moved (u := U) (U := U.calling g mk a) (Vm.Alike.refl U.vm) h.2.1.2.2⟩, h.2.2.1, h.2.2.2.1, xG_blind h.2.2.2.2.1, fun E hE E' hE' ne => va_Nc.moved (u := U) (U := U.calling g mk a) (Vm.Alike.refl U.vm) (h.2.2.2.2.2 E hE E' hE' ne)⟩
theorem o_pre {av : List Value} {D : va_G} {cA : Nat → ClassId} {o q : Nat} {M : wM} {f : Nat → Int64} {s : State} {H : Heap} {locs : List Loc} {A0 : Nat → Prop} (hK : va_K D cls_ (tys_ cA) s) (hP : xP D cA o M H) (hO : oP D cA q f H) (hne : q < o ∨ o + 217 ≤ q) (hG : xG A0 s) (hS : va_S A0 s.heap H locs) (hA : ∀ a, oA o q H.size a → A0 a) (hN : xN s) : PreS s H (va_Pc av (oB D cA o q M f H.size)) av :=
  ⟨o_blind, fun U hU hW => ⟨rfl, ⟨by rw [hU], by rw [hU]; exact hP, va_K.moved hW.alike hK⟩, by rw [hU]; exact hO, hne, xG_call hG hS hA hU hW, fun E hE E' hE' ne => va_Nc.moved hW.alike (hN E hE E' hE' ne)⟩⟩
theorem o_ne {o q sz : Nat} (hne : q < o ∨ o + 217 ≤ q) (h : q < sz) : ¬ wA o 217 sz q := by
  intro z
  rcases z with z | z <;> omega
theorem updL_s {f : Nat → Int64} {x : Int64} : vp_updL f 0 x 0 = x := if_pos rfl
section OROWS
variable {p : Program} {l : Launch} {e : Env} {R : Room} {s : State} {m : MethodId} {args : Array Value} {below : List Frame} {meth : Method} {c : Code} {H : Heap} {locs : List Loc} {cells slots : Nat} {Q : State → Prop}
variable {y : MethodName} {bytes cc : ByteArray} {maxL nL mc ms k index pc : Nat} {ret : Option FieldType} {ws : List Cond} {rm : Room} {Ts : List Cond} {own : String} {As rest st0 : List Value} {ls : Array Slot}
variable {D : va_G} {cA : Nat → ClassId} {o q : Nat} {M : wM} {f : Nat → Int64} {pE : String → Prop}
theorem ow_Vi {post : Int32 → wM → Prop} (CF : CallFix p m c cc nL s args Ts own) (hM : vx_Met l y ws rm (va_Pc (.ref (o + 0) :: As) (xBx D cA o M H.size)) (va_Qi post (xQ D cA o) (xA o H.size)) (xE D cA o M H.size pE) mc ms (xA o H.size)) (cw : CallW R s args own R_X index y bytes maxL ret ws rm mc ms k)
    (hK : va_K D cls_ (tys_ cA) s) (hP : xP D cA o M H) (hO : oP D cA q f H) (hne : q < o ∨ o + 217 ≤ q) (hG : xG (oA o q s.heap.size) s) (hS : va_S (oA o q s.heap.size) s.heap H locs) (hn : As.length = k) (hsize : ls.size = nL) (hst : st0 = As.reverse ++ .ref (o + 0) :: rest) (hr : (rest.map fun v => v.category).sum ≤ 8) (hdg : decode cc pc = .ok (.invokevirtual index, 3)) (hf : cells + mc ≤ R.cells ∧ slots + ms ≤ R.slots)
    (kx : ∀ (E : String) (ce : Cell) (q9 : Addr) (H1 : Heap) (locs1 : List Loc), pE E → xP D cA o M H1 → oP D cA q f H1 → va_S (oA o q s.heap.size) s.heap H1 locs1 → H1[q9]? = some ce → ce.vm = .none → s.vm.findClass E = some ce.cls → vx_W p l e R s m args below meth c H1 locs1 (cells + mc) (slots + ms) Q (F0 m pc ls rest) q9)
    (kk : ∀ (r : Int32) (M1 : wM) (H1 : Heap) (locs1 : List Loc), post r M1 → xP D cA o M1 H1 → oP D cA q f H1 → va_S (oA o q s.heap.size) s.heap H1 locs1 → W p l e R s m args below meth c H1 locs1 (cells + mc) (slots + ms) Q (F0 m (pc + 3) ls (.int r :: rest))) :
    W p l e R s m args below meth c H locs cells slots Q (F0 m pc ls st0) :=
  vx_calli (vx_runV (g := F0 m pc ls st0) CF hM cw ⟨wx_blind, w_recv (i := 0) hK hP (by decide) SX_0 rfl, fun U hU hW => ⟨rfl, ((w_preS (av := []) hK hP).2 U hU hW).2, xG_call hG hS (fun a h => Or.inl (wA_le hS.1 h)) hU hW⟩⟩ rfl hn hsize hst (lv_room hr) hdg hf) hS (fun a _ h => Or.inl (wA_le hS.1 h)) (fun a h => Or.inl (wA_le hS.1 h)) (fun a _ h => Or.inl (wA_le hS.1 h))
    (fun E ce q9 u t H1 locs1 ht _ _ hB hz hk hS1 hcell hcv hcl => kx E ce q9 H1 locs1 hB.1 (by rw [← ht]; exact hB.2.1) (hO.kept (hk q hO.lt (o_ne hne hO.lt))) hS1 hcell hcv hcl)
    (fun r M1 t H1 locs1 ht _ hw hB hz hk hS1 => kk r M1 H1 locs1 hw (by rw [← ht]; exact hB.1) (hO.kept (hk q hO.lt (o_ne hne hO.lt))) hS1)
theorem ow_Vl {post : Int64 → wM → Prop} (CF : CallFix p m c cc nL s args Ts own) (hM : vx_Met l y ws rm (va_Pc (.ref (o + 0) :: As) (xBx D cA o M H.size)) (va_Ql post (xQ D cA o) (xA o H.size)) (xE D cA o M H.size pE) mc ms (xA o H.size)) (cw : CallW R s args own R_X index y bytes maxL ret ws rm mc ms k)
    (hK : va_K D cls_ (tys_ cA) s) (hP : xP D cA o M H) (hO : oP D cA q f H) (hne : q < o ∨ o + 217 ≤ q) (hG : xG (oA o q s.heap.size) s) (hS : va_S (oA o q s.heap.size) s.heap H locs) (hn : As.length = k) (hsize : ls.size = nL) (hst : st0 = As.reverse ++ .ref (o + 0) :: rest) (hr : (rest.map fun v => v.category).sum ≤ 8) (hdg : decode cc pc = .ok (.invokevirtual index, 3)) (hf : cells + mc ≤ R.cells ∧ slots + ms ≤ R.slots)
    (kx : ∀ (E : String) (ce : Cell) (q9 : Addr) (H1 : Heap) (locs1 : List Loc), pE E → xP D cA o M H1 → oP D cA q f H1 → va_S (oA o q s.heap.size) s.heap H1 locs1 → H1[q9]? = some ce → ce.vm = .none → s.vm.findClass E = some ce.cls → vx_W p l e R s m args below meth c H1 locs1 (cells + mc) (slots + ms) Q (F0 m pc ls rest) q9)
    (kk : ∀ (r : Int64) (M1 : wM) (H1 : Heap) (locs1 : List Loc), post r M1 → xP D cA o M1 H1 → oP D cA q f H1 → va_S (oA o q s.heap.size) s.heap H1 locs1 → W p l e R s m args below meth c H1 locs1 (cells + mc) (slots + ms) Q (F0 m (pc + 3) ls (.long r :: rest))) :
    W p l e R s m args below meth c H locs cells slots Q (F0 m pc ls st0) :=
  vx_calll (vx_runV (g := F0 m pc ls st0) CF hM cw ⟨wx_blind, w_recv (i := 0) hK hP (by decide) SX_0 rfl, fun U hU hW => ⟨rfl, ((w_preS (av := []) hK hP).2 U hU hW).2, xG_call hG hS (fun a h => Or.inl (wA_le hS.1 h)) hU hW⟩⟩ rfl hn hsize hst (lv_room hr) hdg hf) hS (fun a _ h => Or.inl (wA_le hS.1 h)) (fun a h => Or.inl (wA_le hS.1 h)) (fun a _ h => Or.inl (wA_le hS.1 h))
    (fun E ce q9 u t H1 locs1 ht _ _ hB hz hk hS1 hcell hcv hcl => kx E ce q9 H1 locs1 hB.1 (by rw [← ht]; exact hB.2.1) (hO.kept (hk q hO.lt (o_ne hne hO.lt))) hS1 hcell hcv hcl)
    (fun r M1 t H1 locs1 ht _ hw hB hz hk hS1 => kk r M1 H1 locs1 hw (by rw [← ht]; exact hB.1) (hO.kept (hk q hO.lt (o_ne hne hO.lt))) hS1)
/-- out[0] = x -/
theorem ow_last (hexec : p.tables.exec = Jvm.exec) (hb : c.code = cc) (hK : va_K D cls_ (tys_ cA) s) (hP : xP D cA o M H) (hO : oP D cA q f H) (hne : q < o ∨ o + 217 ≤ q) (hS : va_S (oA o q s.heap.size) s.heap H locs) {x : Int64} (hdg : decode cc pc = .ok (.lastore, 1))
    (kk : ∀ (H1 : Heap) (locs1 : List Loc), xP D cA o M H1 → oP D cA q (vp_updL f 0 x) H1 → va_S (oA o q s.heap.size) s.heap H1 locs1 → W p l e R s m args below meth c H1 locs1 cells slots Q (F0 m (pc + 1) ls rest)) : W p l e R s m args below meth c H locs cells slots Q (F0 m pc ls (.long x :: .int 0 :: .ref q :: rest)) := by
  have hD : va_D (oA o q s.heap.size) (wl (SX o cA) o 217 M ++ [(q, oE cA f)]) := va_D_1 (wl_D (fun i hi => Or.inl (wA_in hi))) (Or.inr rfl) (fun k z hz => by
    obtain ⟨hk, rfl⟩ := wl_ex hz
    show o + k ≠ q
    omega)
  refine va_last (D := D) (ws := wl (SX o cA) o 217 M ++ [(q, oE cA f)]) hexec hb hK (va_P_app hP (va_P1 hO)) hD hS (wl (SX o cA) o 217 M).length 1 (cA := cA 1) (n := 1) (f := f) (by simp [oE]) rfl (i := 0) (x := x) (show ¬ ((0 : Int32) < 0 ∨ 1 ≤ (0 : Int32).toNatClampNeg) by decide) hdg (fun H1 locs1 hP1 _ hS1 => ?_)
  rw [show (0 : Int32).toNatClampNeg = 0 by decide, set_last] at hP1
  exact kk H1 locs1 (va_P_l hP1) ((va_P_r hP1) 0 _ rfl) hS1
/-- caught by the row x of the table; the rows ahead name other classes -/
theorem wr_catch {E : String} {ce : Cell} {q9 : Addr} {hh : List (Nat × Nat × Nat × Nat)} (hown : s.vm.findClass "ShopDesksLaw" = some m.cls) (htab : c.exceptionTable.toList = tableOf hh) (pre : List (String × (Nat × Nat × Nat × Nat))) (x : Nat × Nat × Nat × Nat) (suf : List (Nat × Nat × Nat × Nat)) (hsplit : hh = pre.map (fun z => z.2) ++ x :: suf)
    (hpre : ∀ z ∈ pre, z.2.2.2.2 ≠ 0 ∧ z.1 ∈ x3 ∧ E ≠ z.1 ∧ (Cond.classLink "ShopDesksLaw" z.2.2.2.2 z.1).before args s = true) (hE : E ∈ x3) (hN : xN s) (hx1 : x.1 ≤ pc) (hx2 : pc < x.2.1) (h0 : x.2.2.2 ≠ 0) (hlink : (Cond.classLink "ShopDesksLaw" x.2.2.2 E).before args s = true) (hcast : (Cond.castable E E).before args s = true)
    (hcell : H[q9]? = some ce) (hv : ce.vm = .none) (hcl : s.vm.findClass E = some ce.cls) (kk : W p l e R s m args below meth c H locs cells slots Q (F0 m x.2.2.1 ls [.ref q9])) : vx_W p l e R s m args below meth c H locs cells slots Q (F0 m pc ls rest) q9 := by
  refine vx_catch (own := "ShopDesksLaw") (name := E) hown (tableOf (pre.map (fun z => z.2))) ⟨x.1, x.2.1, x.2.2.1, x.2.2.2⟩ (tableOf suf) (by rw [htab, hsplit]; simp [tableOf]) (fun z hz => ?_) ?_ h0 hlink hcast hcell hv hcl kk
  · obtain ⟨y, hy, rfl⟩ := List.mem_map.mp hz
    obtain ⟨y', hy', rfl⟩ := List.mem_map.mp hy
    obtain ⟨h1, h2, h3, h4⟩ := hpre y' hy'
    exact Or.inr ⟨h1, y'.1, h4, hN E hE _ h2 h3⟩
  · show (decide (x.1 ≤ pc) && decide (pc < x.2.1)) = true
    rw [decide_eq_true hx1, decide_eq_true hx2]
    rfl
end OROWS
