def xTexts : List (Nat × String) := [(225, "there is no such teller"), (227, "there is no such thing"), (229, "there is no such kind"), (59, "there are 300 tellings"), (68, "there are 8 sets"), (237, "there is no such set"), (93, "k is below 0"), (102, "there are not so many tellings"), (105, "mark or k is below 0"), (107, "what is not 0, 1 or 2"), (231, "there is no such person"), (133, "the person has no right to that kind"), (235, "day is not 0 .. 3599"), (244, "there are 60 entries"), (242, "there is no such entry"), (233, "there is no such account"), (161, "cents are not -1000000000 .. 1000000000"), (175, "the entry has 6 rows, or is closed"), (181, "the entry is closed"), (199, "month is not 0 .. 119"), (207, "there is no such number"), (219, "it is reversed, or reverses")]
/-! calls by the words of all tables; methods that may throw -/
theorem al {y : MethodName} {c : ByteArray} {n : Nat} {r : Option FieldType} {w : Cond} (h : w ∈ aw) : w ∈ wm y c n r := List.mem_cons_of_mem _ h
abbrev notMH (y : MethodName) (n : Nat) : Prop := y.cls ≠ "java/lang/invoke/MethodHandle" ∧ y.cls ≠ "java/lang/invoke/VarHandle" ∧ (parseMethodDescriptor y.desc).map (fun d => d.parameters.length) = some n
section KW
variable {s : State} {args : Array Value} {R rm : Room} {ym y : MethodName} {cm bytes : ByteArray} {nm maxL idx mc ms : Nat} {rr ret : Option FieldType} {own C : String}
theorem kV (hts : ∀ w ∈ wm ym cm nm rr, w.before args s = true) (n : Nat) (hc : Cond.code y bytes maxL ret ∈ aw) (hl : Cond.methodLink own idx y ∈ aw) (hi : Cond.instanceMethod y ∈ aw) (hs : Cond.selects C y y ∈ aw) (hn : Cond.initialized y.cls ∈ aw) (hd : notMH y n) (hrc : rm.cells = mc) (hrs : rm.slots = ms) (hR : rm.frames + 1 ≤ R.frames ∧ 8 + (maxL + 11) + rm.locals ≤ R.locals) : CallW R s args own C idx y bytes maxL ret (wm y bytes maxL ret) rm mc ms n :=
  ⟨callB_of n hts (wm_good hc) rfl hrc hrs (hts _ (al hn)) (hts _ (al hl)) hd hR, hts _ (al hi), hts _ (al hs)⟩
theorem kS (hts : ∀ w ∈ wm ym cm nm rr, w.before args s = true) (n : Nat) (hc : Cond.code y bytes maxL ret ∈ aw) (hl : Cond.methodLink own idx y ∈ aw) (hi : Cond.static y ∈ aw) (hn : Cond.initialized y.cls ∈ aw) (hd : notMH y n) (hrc : rm.cells = mc) (hrs : rm.slots = ms) (hR : rm.frames + 1 ≤ R.frames ∧ 8 + (maxL + 11) + rm.locals ≤ R.locals) : CallB R s args own idx y bytes maxL ret (wm y bytes maxL ret) rm mc ms n ∧ (Cond.static y).before args s = true :=
  ⟨callB_of n hts (wm_good hc) rfl hrc hrs (hts _ (al hn)) (hts _ (al hl)) hd hR, hts _ (al hi)⟩
end KW
/-- what a throw needs of the start: two statics of Throwable that lie apart from A, and the texts -/
def xStr (U : State) : Prop := ∀ q ∈ xTexts, ∃ a, vk_R "ShopDesks" q.1 q.2 a U
def xG (A : Nat → Prop) (U : State) : Prop := vx_Zq Bundle.tN "UNASSIGNED_STACK" Bundle.steD A U U.heap ∧ vx_Zq Bundle.tN "SUPPRESSED_SENTINEL" Bundle.listD A U U.heap ∧ xStr U
theorem xG_call {A0 A1 : Nat → Prop} {s U : State} {H : Heap} {locs : List Loc} (h : xG A0 s) (hS : va_S A0 s.heap H locs) (hA : ∀ q, A1 q → A0 q) (hU : U.heap = H) (hW : s.WarmedH U.vm) : xG A1 U := by
  obtain ⟨h1, h2, h3⟩ := h
  refine ⟨?_, ?_, fun q hq => ?_⟩
  · rw [hU]; exact (vx_Zq.moved hW.alike (h1.kept hS.2.1)).narrow hA
  · rw [hU]; exact (vx_Zq.moved hW.alike (h2.kept hS.2.1)).narrow hA
  · obtain ⟨a, ha⟩ := h3 q hq
    exact ⟨a, vk_R.warm hW ha⟩
theorem xG_blind {A : Nat → Prop} {U : State} {g : JFrame} {mk : MethodId} {a : Array Value} (h : xG A U) : xG A (U.calling g mk a) := by
  obtain ⟨h1, h2, h3⟩ := h
  refine ⟨vx_Zq.moved (u := U) (U := U.calling g mk a) (Vm.Alike.refl U.vm) h1, vx_Zq.moved (u := U) (U := U.calling g mk a) (Vm.Alike.refl U.vm) h2, fun q hq => ?_⟩
  obtain ⟨b, hb⟩ := h3 q hq
  exact ⟨b, vk_R.same (u := U) rfl hb⟩
def wBx (D : va_G) (cl : List vw_C) (tys : List (ClassId × FieldType)) (S : wS) (o n : Nat) (M : wM) (sz : Nat) : State → Prop := fun U => wB D cl tys S o n M sz U ∧ xG (wA o n sz) U
def xX (D : va_G) (cl : List vw_C) (tys : List (ClassId × FieldType)) (S : wS) (o n : Nat) (M : wM) (sz : Nat) (pE : String → Prop) : String → State → State → Prop := vx_X (fun (_ : Unit) => True) (fun E _ t => pE E ∧ wQ D cl tys S o n M t) (wA o n sz)
theorem wx_blind {av : List Value} {D : va_G} {cl : List vw_C} {tys : List (ClassId × FieldType)} {S : wS} {o n : Nat} {M : wM} {sz : Nat} : FrameBlind (va_Pc av (wBx D cl tys S o n M sz)) := fun a U g mk q => ⟨q.1, (w_blind (av := av) a U g mk ⟨q.1, q.2.1⟩).2, xG_blind q.2.2⟩
section XCALLS
variable {p : Program} {l : Launch} {e : Env} {R : Room} {s : State} {m : MethodId} {args : Array Value} {below : List Frame} {meth : Method} {c : Code} {H : Heap} {locs : List Loc} {cells slots : Nat}
variable {y : MethodName} {bytes cc : ByteArray} {maxL nL mc ms mc' ms' k index pc : Nat} {ret : Option FieldType} {ws : List Cond} {rm : Room} {Ts : List Cond} {own C : String} {As rest st0 : List Value} {ls : Array Slot}
variable {D : va_G} {cl : List vw_C} {tys : List (ClassId × FieldType)} {S : wS} {o n i ci N : Nat} {M : wM} {T : u_T} {fs : List Value} {pE pE' : String → Prop} {Qc : Array Value → State → Outcome → State → Prop}
theorem wx_preS {av : List Value} (hK : va_K D cl tys s) (hP : wP D cl S o n M H) (hG : xG (wA o n s.heap.size) s) (hS : va_S (wA o n s.heap.size) s.heap H locs) : PreS s H (va_Pc av (wBx D cl tys S o n M H.size)) av :=
  ⟨wx_blind, fun U hU hW => ⟨rfl, ((w_preS (av := av) hK hP).2 U hU hW).2, xG_call hG hS (fun q h => wA_le hS.1 h) hU hW⟩⟩
/-- what was thrown goes out of this method too -/
theorem x_out {E : String} {ce : Cell} {q9 : Addr} (hout : ∀ x ∈ c.exceptionTable.toList, covers x pc = false) (hlocks : meth.locks = false) (hK : va_K D cl tys s) (hP : wP D cl S o n M H) (hS : va_S (wA o n s.heap.size) s.heap H locs) (hcell : H[q9]? = some ce) (hcv : ce.vm = .none) (hcl : s.vm.findClass E = some ce.cls) (hpE : pE' E) (hc : cells ≤ mc') (hs : slots ≤ ms') :
    vx_W p l e R s m args below meth c H locs cells slots (vx_MQ below Qc (xX D cl tys S o n M s.heap.size pE') args s mc' ms' (wA o n s.heap.size)) (F0 m pc ls rest) q9 :=
  vx_out hout hlocks hcell hcv hcl (fun t ht ha => ⟨(), trivial, ⟨hpE, by rw [ht]; exact hP, va_K.moved ha hK⟩, hS.F ht⟩) hS.2.2 hc hs
/-- a static method that may throw, and gives nothing -/
theorem x_Sv {post : wM → Prop} (CF : CallFix p m c cc nL s args Ts own) (hM : vx_Met l y ws rm (va_Pc As (wBx D cl tys S o n M H.size)) (va_Qv post (wQ D cl tys S o n) (wA o n H.size)) (xX D cl tys S o n M H.size pE) mc ms (wA o n H.size)) (cw : CallB R s args own index y bytes maxL ret ws rm mc ms k ∧ (Cond.static y).before args s = true)
    (hK : va_K D cl tys s) (hP : wP D cl S o n M H) (hG : xG (wA o n s.heap.size) s) (hS : va_S (wA o n s.heap.size) s.heap H locs) (hn : As.length = k) (hsize : ls.size = nL) (hst : st0 = As.reverse ++ rest) (hr : (rest.map fun v => v.category).sum ≤ 8) (hdg : decode cc pc = .ok (.invokestatic index, 3)) (hf : cells + mc ≤ R.cells ∧ slots + ms ≤ R.slots)
    (hout : ∀ x ∈ c.exceptionTable.toList, covers x pc = false) (hlocks : meth.locks = false) (hpE : ∀ E, pE E → pE' E) (hc : cells + mc ≤ mc') (hs : slots + ms ≤ ms')
    (kk : ∀ (M1 : wM) (H1 : Heap) (locs1 : List Loc), post M1 → wP D cl S o n M1 H1 → va_S (wA o n s.heap.size) s.heap H1 locs1 → W p l e R s m args below meth c H1 locs1 (cells + mc) (slots + ms) (vx_MQ below Qc (xX D cl tys S o n M s.heap.size pE') args s mc' ms' (wA o n s.heap.size)) (F0 m (pc + 3) ls rest)) :
    W p l e R s m args below meth c H locs cells slots (vx_MQ below Qc (xX D cl tys S o n M s.heap.size pE') args s mc' ms' (wA o n s.heap.size)) (F0 m pc ls st0) :=
  vx_callv (vx_runS (g := F0 m pc ls st0) CF hM cw (wx_preS hK hP hG hS) rfl hn hsize hst (lv_room hr) hdg hf) hS (fun q _ h => wA_le hS.1 h) (fun q h => wA_le hS.1 h) (fun q _ h => wA_le hS.1 h)
    (fun E ce q9 u t H1 locs1 ht _ _ hB hz hk hS1 hcell hcv hcl => x_out hout hlocks hK (by rw [← ht]; exact hB.2.1) hS1 hcell hcv hcl (hpE E hB.1) hc hs)
    (fun M1 t H1 locs1 ht _ hw hB hz hk hS1 => kk M1 H1 locs1 hw (by rw [← ht]; exact hB.1) hS1)
/-- a method of an object that may throw, and gives nothing -/
theorem x_Vv {post : wM → Prop} (CF : CallFix p m c cc nL s args Ts own) (hM : vx_Met l y ws rm (va_Pc (.ref (o + i) :: As) (wBx D cl tys S o n M H.size)) (va_Qv post (wQ D cl tys S o n) (wA o n H.size)) (xX D cl tys S o n M H.size pE) mc ms (wA o n H.size)) (cw : CallW R s args own C index y bytes maxL ret ws rm mc ms k)
    (hK : va_K D cl tys s) (hP : wP D cl S o n M H) (hG : xG (wA o n s.heap.size) s) (hS : va_S (wA o n s.heap.size) s.heap H locs) (hi : i < n) (he : S i (M.1 i) (M.2.1 i) (M.2.2 i) = .inr (ci, fs)) (hcl : cl[ci]? = some (C, T, N)) (hn : As.length = k) (hsize : ls.size = nL) (hst : st0 = As.reverse ++ .ref (o + i) :: rest) (hr : (rest.map fun v => v.category).sum ≤ 8) (hdg : decode cc pc = .ok (.invokevirtual index, 3)) (hf : cells + mc ≤ R.cells ∧ slots + ms ≤ R.slots)
    (hout : ∀ x ∈ c.exceptionTable.toList, covers x pc = false) (hlocks : meth.locks = false) (hpE : ∀ E, pE E → pE' E) (hc : cells + mc ≤ mc') (hs : slots + ms ≤ ms')
    (kk : ∀ (M1 : wM) (H1 : Heap) (locs1 : List Loc), post M1 → wP D cl S o n M1 H1 → va_S (wA o n s.heap.size) s.heap H1 locs1 → W p l e R s m args below meth c H1 locs1 (cells + mc) (slots + ms) (vx_MQ below Qc (xX D cl tys S o n M s.heap.size pE') args s mc' ms' (wA o n s.heap.size)) (F0 m (pc + 3) ls rest)) :
    W p l e R s m args below meth c H locs cells slots (vx_MQ below Qc (xX D cl tys S o n M s.heap.size pE') args s mc' ms' (wA o n s.heap.size)) (F0 m pc ls st0) :=
  vx_callv (vx_runV (g := F0 m pc ls st0) CF hM cw ⟨wx_blind, w_recv hK hP hi he hcl, (wx_preS hK hP hG hS).2⟩ rfl hn hsize hst (lv_room hr) hdg hf) hS (fun q _ h => wA_le hS.1 h) (fun q h => wA_le hS.1 h) (fun q _ h => wA_le hS.1 h)
    (fun E ce q9 u t H1 locs1 ht _ _ hB hz hk hS1 hcell hcv hcl => x_out hout hlocks hK (by rw [← ht]; exact hB.2.1) hS1 hcell hcv hcl (hpE E hB.1) hc hs)
    (fun M1 t H1 locs1 ht _ hw hB hz hk hS1 => kk M1 H1 locs1 hw (by rw [← ht]; exact hB.1) hS1)
end XCALLS
