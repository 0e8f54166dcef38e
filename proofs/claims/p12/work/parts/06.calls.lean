def xTexts : List (Nat × String) := [(225, "there is no such teller"), (227, "there is no such thing"), (229, "there is no such kind"), (59, "there are 300 tellings"), (68, "there are 8 sets"), (237, "there is no such set"), (93, "k is below 0"), (102, "there are not so many tellings"), (105, "mark or k is below 0"), (107, "what is not 0, 1 or 2"), (231, "there is no such person"), (133, "the person has no right to that kind"), (235, "day is not 0 .. 3599"), (244, "there are 60 entries"), (242, "there is no such entry"), (233, "there is no such account"), (161, "cents are not -1000000000 .. 1000000000"), (175, "the entry has 6 rows, or is closed"), (181, "the entry is closed"), (199, "month is not 0 .. 119"), (207, "there is no such number"), (219, "it is reversed, or reverses")]
/-! calls by the words of all tables; methods that may throw -/
theorem al {y : MethodName} {c : ByteArray} {n : Nat} {r : Option FieldType} {w : Cond} (h : w ∈ aw) : w ∈ wm y c n r := List.mem_cons_of_mem _ h
abbrev notMH (y : MethodName) (n : Nat) : Prop := y.cls ≠ "java/lang/invoke/MethodHandle" ∧ y.cls ≠ "java/lang/invoke/VarHandle" ∧ (parseMethodDescriptor y.desc).map (fun d => d.parameters.length) = some n
section KW
variable {s : State} {args : Array Value} {R rm : Room} {ym y : MethodName} {cm bytes : ByteArray} {nm maxL idx mc ms : Nat} {rr ret : Option FieldType} {own C : String}
theorem kV (hts : ∀ w ∈ wm ym cm nm rr, w.before args s = true) (n : Nat) (hc : Cond.code y bytes maxL ret ∈ aw) (hl : Cond.methodLink own idx y ∈ aw) (hi : Cond.instanceMethod y ∈ aw) (hs : Cond.selects C y y ∈ aw) (hn : Cond.initialized y.cls ∈ aw) (hd : notMH y n) (hrc : rm.cells = mc) (hrs : rm.slots = ms) (hR : rm.frames + 1 ≤ R.frames ∧ 8 + (maxL + 11) + rm.locals ≤ R.locals) : CallW R s args own C idx y bytes maxL ret (wm y bytes maxL ret) rm mc ms n :=
  ⟨callB_of n hts (wm_good hc) rfl hrc hrs (hts _ (al hn)) (hts _ (al hl)) hd hR, hts _ (al hi), hts _ (al hs)⟩
theorem kS (hts : ∀ w ∈ wm ym cm nm rr, w.before args s = true) (n : Nat) (hc : Cond.code y bytes maxL ret ∈ aw) (hl : Cond.methodLink own idx y ∈ aw) (hi : Cond.static y ∈ aw) (hn : Cond.initialized y.cls ∈ aw) (hd : notMH y n) (hrc : rm.cells = mc) (hrs : rm.slots = ms) (hR : rm.frames + 1 ≤ R.frames ∧ 8 + (maxL + 11) + rm.locals ≤ R.locals) : CallB R s args own idx y bytes maxL ret (wm y bytes maxL ret) rm mc ms n ∧ (Cond.static y).before args s = true :=
  ⟨callB_of n hts (wm_good hc) rfl hrc hrs (hts _ (al hn)) (hts _ (al hl)) hd hR, hts _ (al hi)⟩
end KW
/-- what a throw needs of the start: two statics of Throwable that lie apart from A, and the texts -/
def xStr (U : State) : Prop := ∀ q ∈ xTexts, ∃ a, vk_R "ShopDesks" q.1 q.2 a U
def xBad : List Cond := [.castable "java/lang/IndexOutOfBoundsException" "java/lang/IndexOutOfBoundsException", .castable "java/lang/IllegalArgumentException" "java/lang/IllegalArgumentException", .castable "java/lang/IllegalStateException" "java/lang/IllegalStateException", .declares ⟨"java/lang/RuntimeException", "<init>", "(Ljava/lang/String;)V"⟩, .declares ⟨"java/lang/Exception", "<init>", "(Ljava/lang/String;)V"⟩, .declares ⟨"java/lang/Throwable", "<init>", "(Ljava/lang/String;)V"⟩]
theorem xBad_warm {s U : State} (hW : s.WarmedH U.vm) (h : ∀ w ∈ xBad, va_Nw w s) : ∀ w ∈ xBad, va_Nw w U := by
  intro w hw
  have h0 := h w hw
  simp only [xBad, List.mem_cons, List.not_mem_nil, or_false] at hw
  rcases hw with rfl | rfl | rfl | rfl | rfl | rfl
  · exact va_Nw.warmC hW h0
  · exact va_Nw.warmC hW h0
  · exact va_Nw.warmC hW h0
  · exact va_Nw.warmD hW h0
  · exact va_Nw.warmD hW h0
  · exact va_Nw.warmD hW h0
theorem xBad_ot : ∀ w ∈ xBad, w.onTables = true := by decide +kernel
def xG (A : Nat → Prop) (U : State) : Prop := vx_Zq Bundle.tN "UNASSIGNED_STACK" Bundle.steD A U U.heap ∧ vx_Zq Bundle.tN "SUPPRESSED_SENTINEL" Bundle.listD A U U.heap ∧ xStr U ∧ ∀ w ∈ xBad, va_Nw w U
theorem xG_call {A0 A1 : Nat → Prop} {s U : State} {H : Heap} {locs : List Loc} (h : xG A0 s) (hS : va_S A0 s.heap H locs) (hA : ∀ q, A1 q → A0 q) (hU : U.heap = H) (hW : s.WarmedH U.vm) : xG A1 U := by
  obtain ⟨h1, h2, h3, h4⟩ := h
  refine ⟨?_, ?_, fun q hq => ?_, xBad_warm hW h4⟩
  · rw [hU]; exact (vx_Zq.moved hW.alike (h1.kept hS.2.1)).narrow hA
  · rw [hU]; exact (vx_Zq.moved hW.alike (h2.kept hS.2.1)).narrow hA
  · obtain ⟨a, ha⟩ := h3 q hq
    exact ⟨a, vk_R.warm hW ha⟩
theorem xG_blind {A : Nat → Prop} {U : State} {g : JFrame} {mk : MethodId} {a : Array Value} (h : xG A U) : xG A (U.calling g mk a) := by
  obtain ⟨h1, h2, h3, h4⟩ := h
  refine ⟨vx_Zq.moved (u := U) (U := U.calling g mk a) (Vm.Alike.refl U.vm) h1, vx_Zq.moved (u := U) (U := U.calling g mk a) (Vm.Alike.refl U.vm) h2, fun q hq => ?_, fun w hw => va_Nw.same (xBad_ot w hw) (u := U) rfl (h4 w hw)⟩
  obtain ⟨b, hb⟩ := h3 q hq
  exact ⟨b, vk_R.same (u := U) rfl hb⟩
def wBx (D : va_G) (cl : List vw_C) (tys : List (ClassId × FieldType)) (S : wS) (o n : Nat) (M : wM) (sz : Nat) : State → Prop := fun U => wB D cl tys S o n M sz U ∧ xG (wA o n sz) U
def xX (D : va_G) (cl : List vw_C) (tys : List (ClassId × FieldType)) (S : wS) (o n : Nat) (M : wM) (sz : Nat) (pE : String → Prop) : String → State → State → Prop := vx_X (fun (_ : Unit) => True) (fun E _ t => pE E ∧ wQ D cl tys S o n M t) (wA o n sz)
theorem wx_blind {av : List Value} {D : va_G} {cl : List vw_C} {tys : List (ClassId × FieldType)} {S : wS} {o n : Nat} {M : wM} {sz : Nat} : FrameBlind (va_Pc av (wBx D cl tys S o n M sz)) := fun a U g mk q => ⟨q.1, (w_blind (av := av) a U g mk ⟨q.1, q.2.1⟩).2, xG_blind q.2.2⟩
section XCALLS
variable {p : Program} {l : Launch} {e : Env} {R : Room} {s : State} {m : MethodId} {args : Array Value} {below : List Frame} {meth : Method} {c : Code} {H : Heap} {locs : List Loc} {cells slots : Nat}
variable {y : MethodName} {bytes cc : ByteArray} {maxL nL mc ms mc' ms' k index pc : Nat} {ret : Option FieldType} {ws : List Cond} {rm : Room} {Ts : List Cond} {own C : String} {As rest st0 : List Value} {ls : Array Slot}
variable {D : va_G} {cl : List vw_C} {tys : List (ClassId × FieldType)} {S : wS} {o n i ci N : Nat} {M : wM} {T : u_T} {fs : List Value} {pE pE' : String → Prop} {Qc : Array Value → State → Outcome → State → Prop}
theorem wx_preS {av : List Value} (hK : va_K D cl tys s) (hP : wP D cl S o n M H) (hG : xG (wA o n s.heap.size) s) (hS : va_S (wA o n s.heap.size) s.heap H locs) : PreS s H (va_Pc av (wBx D cl tys S o n M H.size)) av :=
  ⟨wx_blind, fun U hU hW => ⟨rfl, ((w_preS (av := av) hK hP).2 U hU hW).2, xG_call hG hS (fun q h => wA_le hS.1 h) hU hW⟩⟩
/-- what was thrown goes out of this method too -/
theorem x_out {E : String} {ce : Cell} {q9 : Addr} (hout : ∀ x ∈ c.exceptionTable.toList, covers x pc = false) (hlocks : meth.locks = false) (hK : va_K D cl tys s) (hP : wP D cl S o n M H) (hS : va_S (wA o n s.heap.size) s.heap H locs) (hcell : H[q9]? = some ce) (hcv : ce.vm = .none) (hcl : s.vm.findClass E = some ce.cls) (hpE : pE' E) (hc : cells ≤ mc') (hs : slots ≤ ms') :
    vx_W p l e R s m args below meth c H locs cells slots (vx_MQ below Qc (xX D cl tys S o n M s.heap.size pE') args s mc' ms' (wA o n s.heap.size)) (F0 m pc ls rest) q9 :=
  vx_out hout hlocks hcell hcv hcl (fun t ht ha => ⟨(), trivial, ⟨hpE, by rw [ht]; exact hP, va_K.moved ha hK⟩, hS.F ht⟩) hS.2.2 hc hs
/-- a static method that may throw, and gives nothing -/
theorem x_Sv {post : wM → Prop} (CF : CallFix p m c cc nL s args Ts own) (hM : vx_Met l y ws rm (va_Pc As (wBx D cl tys S o n M H.size)) (va_Qv post (wQ D cl tys S o n) (wA o n H.size)) (xX D cl tys S o n M H.size pE) mc ms (wA o n H.size)) (cw : CallB R s args own index y bytes maxL ret ws rm mc ms k ∧ (Cond.static y).before args s = true)
    (hK : va_K D cl tys s) (hP : wP D cl S o n M H) (hG : xG (wA o n s.heap.size) s) (hS : va_S (wA o n s.heap.size) s.heap H locs) (hn : As.length = k) (hsize : ls.size = nL) (hst : st0 = As.reverse ++ rest) (hr : (rest.map fun v => v.category).sum ≤ 8) (hdg : decode cc pc = .ok (.invokestatic index, 3)) (hf : cells + mc ≤ R.cells ∧ slots + ms ≤ R.slots)
    (hout : ∀ x ∈ c.exceptionTable.toList, covers x pc = false) (hlocks : meth.locks = false) (hpE : ∀ E, pE E → pE' E) (hc : cells + mc ≤ mc') (hs : slots + ms ≤ ms')
    (kk : ∀ (M1 : wM) (H1 : Heap) (locs1 : List Loc), post M1 → wP D cl S o n M1 H1 → va_S (wA o n s.heap.size) s.heap H1 locs1 → W p l e R s m args below meth c H1 locs1 (cells + mc) (slots + ms) (vx_MQ below Qc (xX D cl tys S o n M s.heap.size pE') args s mc' ms' (wA o n s.heap.size)) (F0 m (pc + 3) ls rest)) :
    W p l e R s m args below meth c H locs cells slots (vx_MQ below Qc (xX D cl tys S o n M s.heap.size pE') args s mc' ms' (wA o n s.heap.size)) (F0 m pc ls st0) :=
  vx_callv (vx_runS (g := F0 m pc ls st0) CF hM cw (wx_preS hK hP hG hS) rfl hn hsize hst (lv_room hr) hdg hf) hS (fun q _ h => wA_le hS.1 h) (fun q h => wA_le hS.1 h) (fun q _ h => wA_le hS.1 h)
    (fun E ce q9 u t H1 locs1 ht _ _ hB hz hk hS1 hcell hcv hcl => x_out hout hlocks hK (by rw [← ht]; exact hB.2.1) hS1 hcell hcv hcl (hpE E hB.1) hc hs)
    (fun M1 t H1 locs1 ht _ hw hB hz hk hS1 => kk M1 H1 locs1 hw (by rw [← ht]; exact hB.1) hS1)
/-- a method of an object that may throw, and gives nothing -/
theorem x_Vv {post : wM → Prop} (CF : CallFix p m c cc nL s args Ts own) (hM : vx_Met l y ws rm (va_Pc (.ref (o + i) :: As) (wBx D cl tys S o n M H.size)) (va_Qv post (wQ D cl tys S o n) (wA o n H.size)) (xX D cl tys S o n M H.size pE) mc ms (wA o n H.size)) (cw : CallW R s args own C index y bytes maxL ret ws rm mc ms k)
    (hK : va_K D cl tys s) (hP : wP D cl S o n M H) (hG : xG (wA o n s.heap.size) s) (hS : va_S (wA o n s.heap.size) s.heap H locs) (hi : i < n) (he : S i (M.1 i) (M.2.1 i) (M.2.2 i) = .inr (ci, fs)) (hcl : cl[ci]? = some (C, T, N)) (hn : As.length = k) (hsize : ls.size = nL) (hst : st0 = As.reverse ++ .ref (o + i) :: rest) (hr : (rest.map fun v => v.category).sum ≤ 8) (hdg : decode cc pc = .ok (.invokevirtual index, 3)) (hf : cells + mc ≤ R.cells ∧ slots + ms ≤ R.slots)
    (hout : ∀ x ∈ c.exceptionTable.toList, covers x pc = false) (hlocks : meth.locks = false) (hpE : ∀ E, pE E → pE' E) (hc : cells + mc ≤ mc') (hs : slots + ms ≤ ms')
    (kk : ∀ (M1 : wM) (H1 : Heap) (locs1 : List Loc), post M1 → wP D cl S o n M1 H1 → va_S (wA o n s.heap.size) s.heap H1 locs1 → W p l e R s m args below meth c H1 locs1 (cells + mc) (slots + ms) (vx_MQ below Qc (xX D cl tys S o n M s.heap.size pE') args s mc' ms' (wA o n s.heap.size)) (F0 m (pc + 3) ls rest)) :
    W p l e R s m args below meth c H locs cells slots (vx_MQ below Qc (xX D cl tys S o n M s.heap.size pE') args s mc' ms' (wA o n s.heap.size)) (F0 m pc ls st0) :=
  vx_callv (vx_runV (g := F0 m pc ls st0) CF hM cw ⟨wx_blind, w_recv hK hP hi he hcl, (wx_preS hK hP hG hS).2⟩ rfl hn hsize hst (lv_room hr) hdg hf) hS (fun q _ h => wA_le hS.1 h) (fun q h => wA_le hS.1 h) (fun q _ h => wA_le hS.1 h)
    (fun E ce q9 u t H1 locs1 ht _ _ hB hz hk hS1 hcell hcv hcl => x_out hout hlocks hK (by rw [← ht]; exact hB.2.1) hS1 hcell hcv hcl (hpE E hB.1) hc hs)
    (fun M1 t H1 locs1 ht _ hw hB hz hk hS1 => kk M1 H1 locs1 hw (by rw [← ht]; exact hB.1) hS1)
end XCALLS
theorem hat_X_104_in : ∀ w ∈ (vx_atS "ShopDesks" 104 "java/lang/IndexOutOfBoundsException" ["java/lang/RuntimeException", "java/lang/Exception"]).filter goodWord, w ∈ aw := by decide +kernel
theorem hat_X_104 {ym : MethodName} {cm : ByteArray} {nm : Nat} {rr : Option FieldType} {args : Array Value} {s : State} {A : Nat → Prop} (hts : ∀ w ∈ wm ym cm nm rr, w.before args s = true) (hG : xG A s) : ∀ w ∈ vx_atS "ShopDesks" 104 "java/lang/IndexOutOfBoundsException" ["java/lang/RuntimeException", "java/lang/Exception"], w.before args s = true :=
  vx_hat (B := xBad) (fun w hw => hts w (al (hat_X_104_in w hw))) (by decide +kernel) (fun w hw => va_Nw.use (xBad_ot w hw) (hG.2.2.2 w hw))
theorem hot_X_104 {ik : Nat} : ∀ w ∈ Cond.classLink "ShopDesks" ik "java/lang/IndexOutOfBoundsException" :: Cond.initialized "java/lang/IndexOutOfBoundsException" :: vx_atS "ShopDesks" 104 "java/lang/IndexOutOfBoundsException" ["java/lang/RuntimeException", "java/lang/Exception"], vx_ot w = true := by
  intro w hw
  rcases List.mem_cons.mp hw with rfl | hw
  · rfl
  · rcases List.mem_cons.mp hw with rfl | hw
    · rfl
    · exact (show ∀ w ∈ vx_atS "ShopDesks" 104 "java/lang/IndexOutOfBoundsException" ["java/lang/RuntimeException", "java/lang/Exception"], vx_ot w = true by decide +kernel) w hw
theorem hat_X_95_in : ∀ w ∈ (vx_atS "ShopDesks" 95 "java/lang/IllegalArgumentException" ["java/lang/RuntimeException", "java/lang/Exception"]).filter goodWord, w ∈ aw := by decide +kernel
theorem hat_X_95 {ym : MethodName} {cm : ByteArray} {nm : Nat} {rr : Option FieldType} {args : Array Value} {s : State} {A : Nat → Prop} (hts : ∀ w ∈ wm ym cm nm rr, w.before args s = true) (hG : xG A s) : ∀ w ∈ vx_atS "ShopDesks" 95 "java/lang/IllegalArgumentException" ["java/lang/RuntimeException", "java/lang/Exception"], w.before args s = true :=
  vx_hat (B := xBad) (fun w hw => hts w (al (hat_X_95_in w hw))) (by decide +kernel) (fun w hw => va_Nw.use (xBad_ot w hw) (hG.2.2.2 w hw))
theorem hot_X_95 {ik : Nat} : ∀ w ∈ Cond.classLink "ShopDesks" ik "java/lang/IllegalArgumentException" :: Cond.initialized "java/lang/IllegalArgumentException" :: vx_atS "ShopDesks" 95 "java/lang/IllegalArgumentException" ["java/lang/RuntimeException", "java/lang/Exception"], vx_ot w = true := by
  intro w hw
  rcases List.mem_cons.mp hw with rfl | hw
  · rfl
  · rcases List.mem_cons.mp hw with rfl | hw
    · rfl
    · exact (show ∀ w ∈ vx_atS "ShopDesks" 95 "java/lang/IllegalArgumentException" ["java/lang/RuntimeException", "java/lang/Exception"], vx_ot w = true by decide +kernel) w hw
theorem hat_X_61_in : ∀ w ∈ (vx_atS "ShopDesks" 61 "java/lang/IllegalStateException" ["java/lang/RuntimeException", "java/lang/Exception"]).filter goodWord, w ∈ aw := by decide +kernel
theorem hat_X_61 {ym : MethodName} {cm : ByteArray} {nm : Nat} {rr : Option FieldType} {args : Array Value} {s : State} {A : Nat → Prop} (hts : ∀ w ∈ wm ym cm nm rr, w.before args s = true) (hG : xG A s) : ∀ w ∈ vx_atS "ShopDesks" 61 "java/lang/IllegalStateException" ["java/lang/RuntimeException", "java/lang/Exception"], w.before args s = true :=
  vx_hat (B := xBad) (fun w hw => hts w (al (hat_X_61_in w hw))) (by decide +kernel) (fun w hw => va_Nw.use (xBad_ot w hw) (hG.2.2.2 w hw))
theorem hot_X_61 {ik : Nat} : ∀ w ∈ Cond.classLink "ShopDesks" ik "java/lang/IllegalStateException" :: Cond.initialized "java/lang/IllegalStateException" :: vx_atS "ShopDesks" 61 "java/lang/IllegalStateException" ["java/lang/RuntimeException", "java/lang/Exception"], vx_ot w = true := by
  intro w hw
  rcases List.mem_cons.mp hw with rfl | hw
  · rfl
  · rcases List.mem_cons.mp hw with rfl | hw
    · rfl
    · exact (show ∀ w ∈ vx_atS "ShopDesks" 61 "java/lang/IllegalStateException" ["java/lang/RuntimeException", "java/lang/Exception"], vx_ot w = true by decide +kernel) w hw
/-- 'throw new E("text")' in a method of the class whose memory is M still -/
theorem x_throwS {p : Program} {l : Launch} {e : Env} {R : Room} {s : State} {m : MethodId} {args : Array Value} {below : List Frame} {meth : Method} {c : Code} {H : Heap} {locs : List Loc} {cells slots : Nat} {cc : ByteArray} {pc ik is ic mc ms sa : Nat} {ls : Array Slot} {rest : List Value} {cls text : String} {D : va_G} {cl : List vw_C} {tys : List (ClassId × FieldType)} {S : wS} {o n : Nat} {M : wM} {pE : String → Prop} {Qc : Array Value → State → Outcome → State → Prop}
    (hexec : p.tables.exec = Jvm.exec) (hb : c.code = cc) (hl : l.stackTraces = false) (hown : s.vm.findClass "ShopDesks" = some m.cls) (hk : (Cond.classLink "ShopDesks" ik cls).before args s = true) (hini : (Cond.initialized cls).before args s = true) (hstr : vk_R "ShopDesks" is text sa s) (hat : ∀ w ∈ vx_atS "ShopDesks" ic cls ["java/lang/RuntimeException", "java/lang/Exception"], w.before args s = true)
    (hot : ∀ w ∈ Cond.classLink "ShopDesks" ik cls :: Cond.initialized cls :: vx_atS "ShopDesks" ic cls ["java/lang/RuntimeException", "java/lang/Exception"], vx_ot w = true) (hfit : Bundle.fit cls = true) (hG : xG (wA o n s.heap.size) s) (hK : va_K D cl tys s) (hP : wP D cl S o n M H) (hS : va_S (wA o n s.heap.size) s.heap H locs) (hsize : ls.size = c.maxLocals)
    (d0 : decode cc pc = .ok (.new ik, 3)) (d3 : decode cc (pc + 3) = .ok (.dup, 1)) (d4 : decode cc (pc + 4) = .ok (.ldc is, 2)) (d6 : decode cc (pc + 6) = .ok (.invokespecial ic, 3)) (d9 : decode cc (pc + 9) = .ok (.athrow, 1)) (hout : ∀ x ∈ c.exceptionTable.toList, covers x (pc + 9) = false)
    (hRf : 5 < R.frames) (hRl : (rest.map fun v => v.category).sum + 82 ≤ R.locals) (hRc : cells + 1 ≤ R.cells) (hRs : slots + 6 ≤ R.slots) (hlocks : meth.locks = false) (hpE : pE cls) (hc : cells + 1 ≤ mc) (hs : slots + 6 ≤ ms) :
    W p l e R s m args below meth c H locs cells slots (vx_MQ below Qc (xX D cl tys S o n M s.heap.size pE) args s mc ms (wA o n s.heap.size)) (F0 m pc ls rest) :=
  vx_throwS (names := ["java/lang/RuntimeException", "java/lang/Exception"]) hexec hb hl hown hfit (by decide) hk hini hstr hat hot hG.1 hG.2.1 hS hsize d0 d3 d4 d6 d9 hout hRf hRl hRc hRs hlocks (fun t ha hz hkk => ⟨(), trivial, ⟨hpE, wP_kept hP (fun i hi => hkk _ (wP_lt hP hi)), va_K.moved ha hK⟩, Nat.le_trans hS.1 hz, fun q h1 h2 => (hkk q (Nat.lt_of_lt_of_le h1 hS.1)).trans (hS.2.1 q h1 h2)⟩) hS.2.2 hc hs
/-- 'throw new E("text")' in a method of the class whose memory is M still -/
theorem x_throwSW {p : Program} {l : Launch} {e : Env} {R : Room} {s : State} {m : MethodId} {args : Array Value} {below : List Frame} {meth : Method} {c : Code} {H : Heap} {locs : List Loc} {cells slots : Nat} {cc : ByteArray} {pc ik is ic mc ms sa : Nat} {ls : Array Slot} {rest : List Value} {cls text : String} {D : va_G} {cl : List vw_C} {tys : List (ClassId × FieldType)} {S : wS} {o n : Nat} {M : wM} {pE : String → Prop} {Qc : Array Value → State → Outcome → State → Prop}
    (hexec : p.tables.exec = Jvm.exec) (hb : c.code = cc) (hl : l.stackTraces = false) (hown : s.vm.findClass "ShopDesks" = some m.cls) (hk : (Cond.classLink "ShopDesks" ik cls).before args s = true) (hini : (Cond.initialized cls).before args s = true) (hstr : vk_R "ShopDesks" is text sa s) (hat : ∀ w ∈ vx_atS "ShopDesks" ic cls ["java/lang/RuntimeException", "java/lang/Exception"], w.before args s = true)
    (hot : ∀ w ∈ Cond.classLink "ShopDesks" ik cls :: Cond.initialized cls :: vx_atS "ShopDesks" ic cls ["java/lang/RuntimeException", "java/lang/Exception"], vx_ot w = true) (hfit : Bundle.fit cls = true) (hG : xG (wA o n s.heap.size) s) (hK : va_K D cl tys s) (hP : wP D cl S o n M H) (hS : va_S (wA o n s.heap.size) s.heap H locs) (hsize : ls.size = c.maxLocals)
    (d0 : decode cc pc = .ok (.new ik, 3)) (d3 : decode cc (pc + 3) = .ok (.dup, 1)) (d4 : decode cc (pc + 4) = .ok (.ldc_w is, 3)) (d7 : decode cc (pc + 7) = .ok (.invokespecial ic, 3)) (d10 : decode cc (pc + 10) = .ok (.athrow, 1)) (hout : ∀ x ∈ c.exceptionTable.toList, covers x (pc + 10) = false)
    (hRf : 5 < R.frames) (hRl : (rest.map fun v => v.category).sum + 82 ≤ R.locals) (hRc : cells + 1 ≤ R.cells) (hRs : slots + 6 ≤ R.slots) (hlocks : meth.locks = false) (hpE : pE cls) (hc : cells + 1 ≤ mc) (hs : slots + 6 ≤ ms) :
    W p l e R s m args below meth c H locs cells slots (vx_MQ below Qc (xX D cl tys S o n M s.heap.size pE) args s mc ms (wA o n s.heap.size)) (F0 m pc ls rest) :=
  vx_throwSW (names := ["java/lang/RuntimeException", "java/lang/Exception"]) hexec hb hl hown hfit (by decide) hk hini hstr hat hot hG.1 hG.2.1 hS hsize d0 d3 d4 d7 d10 hout hRf hRl hRc hRs hlocks (fun t ha hz hkk => ⟨(), trivial, ⟨hpE, wP_kept hP (fun i hi => hkk _ (wP_lt hP hi)), va_K.moved ha hK⟩, Nat.le_trans hS.1 hz, fun q h1 h2 => (hkk q (Nat.lt_of_lt_of_le h1 hS.1)).trans (hS.2.1 q h1 h2)⟩) hS.2.2 hc hs
