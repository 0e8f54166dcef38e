section
-- ===== PART A: goes FIRST, ahead of the names: the tables' words, and 'selects' of the private methods out of them =====
/-- a private method of a class that the tables say can be made, by its rows of tables_1 -/
def lw_okq (q : MethodName × Nat) : Prop := (q.1.cls ≠ "java/lang/invoke/MethodHandle" ∧ q.1.cls ≠ "java/lang/invoke/VarHandle") ∧ Cond.instantiable q.1.cls q.2 ∈ tables_1 ∧ Cond.privateMethod q.1 ∈ tables_1 ∧ Cond.instanceMethod q.1 ∈ tables_1
theorem lw_p0 : lw_okq (⟨"java/lang/Throwable", "fillInStackTrace", "(I)Ljava/lang/Throwable;"⟩, 6) := ⟨⟨by decide +kernel, by decide +kernel⟩, List.mem_of_getElem? (i := 218) (by decide +kernel), List.mem_of_getElem? (i := 216) (by decide +kernel), List.mem_of_getElem? (i := 217) (by decide +kernel)⟩
theorem lw_p1 : lw_okq (⟨"ShopDesks$TellingSet", "insertByNumber", "(I)V"⟩, 5) := ⟨⟨by decide +kernel, by decide +kernel⟩, List.mem_of_getElem? (i := 62) (by decide +kernel), List.mem_of_getElem? (i := 307) (by decide +kernel), List.mem_of_getElem? (i := 308) (by decide +kernel)⟩
theorem lw_p2 : lw_okq (⟨"ShopDesks", "needSet", "(I)V"⟩, 5) := ⟨⟨by decide +kernel, by decide +kernel⟩, List.mem_of_getElem? (i := 14) (by decide +kernel), List.mem_of_getElem? (i := 318) (by decide +kernel), List.mem_of_getElem? (i := 319) (by decide +kernel)⟩
theorem lw_p3 : lw_okq (⟨"ShopDesks$TellingSet", "sumOfCounts", "(IJI)J"⟩, 5) := ⟨⟨by decide +kernel, by decide +kernel⟩, List.mem_of_getElem? (i := 62) (by decide +kernel), List.mem_of_getElem? (i := 349) (by decide +kernel), List.mem_of_getElem? (i := 350) (by decide +kernel)⟩
theorem lw_p4 : lw_okq (⟨"ShopDesks$TellingSet", "knownMark", "(IJI)J"⟩, 5) := ⟨⟨by decide +kernel, by decide +kernel⟩, List.mem_of_getElem? (i := 62) (by decide +kernel), List.mem_of_getElem? (i := 357) (by decide +kernel), List.mem_of_getElem? (i := 358) (by decide +kernel)⟩
theorem lw_p5 : lw_okq (⟨"ShopDesks$TellingSet", "settling", "(IJI)I"⟩, 5) := ⟨⟨by decide +kernel, by decide +kernel⟩, List.mem_of_getElem? (i := 62) (by decide +kernel), List.mem_of_getElem? (i := 361) (by decide +kernel), List.mem_of_getElem? (i := 362) (by decide +kernel)⟩
theorem lw_p6 : lw_okq (⟨"ShopDesks$TellingSet", "latest", "(IIJI)I"⟩, 5) := ⟨⟨by decide +kernel, by decide +kernel⟩, List.mem_of_getElem? (i := 62) (by decide +kernel), List.mem_of_getElem? (i := 365) (by decide +kernel), List.mem_of_getElem? (i := 366) (by decide +kernel)⟩
theorem lw_p7 : lw_okq (⟨"ShopDesks$TellingSet", "hasUnlikeMarks", "(IJI)Z"⟩, 5) := ⟨⟨by decide +kernel, by decide +kernel⟩, List.mem_of_getElem? (i := 62) (by decide +kernel), List.mem_of_getElem? (i := 373) (by decide +kernel), List.mem_of_getElem? (i := 374) (by decide +kernel)⟩
theorem lw_p8 : lw_okq (⟨"ShopDesks$TellingSet", "valueOrZero", "(I)J"⟩, 5) := ⟨⟨by decide +kernel, by decide +kernel⟩, List.mem_of_getElem? (i := 62) (by decide +kernel), List.mem_of_getElem? (i := 377) (by decide +kernel), List.mem_of_getElem? (i := 378) (by decide +kernel)⟩
theorem lw_p9 : lw_okq (⟨"ShopDesks", "needRoomForEntry", "()V"⟩, 5) := ⟨⟨by decide +kernel, by decide +kernel⟩, List.mem_of_getElem? (i := 14) (by decide +kernel), List.mem_of_getElem? (i := 461) (by decide +kernel), List.mem_of_getElem? (i := 462) (by decide +kernel)⟩
theorem lw_p10 : lw_okq (⟨"ShopDesks", "needEntry", "(I)V"⟩, 5) := ⟨⟨by decide +kernel, by decide +kernel⟩, List.mem_of_getElem? (i := 14) (by decide +kernel), List.mem_of_getElem? (i := 477) (by decide +kernel), List.mem_of_getElem? (i := 478) (by decide +kernel)⟩
theorem lw_p11 : lw_okq (⟨"ShopDesksModel", "find", "(IJ)I"⟩, 22) := ⟨⟨by decide +kernel, by decide +kernel⟩, List.mem_of_getElem? (i := 562) (by decide +kernel), List.mem_of_getElem? (i := 651) (by decide +kernel), List.mem_of_getElem? (i := 652) (by decide +kernel)⟩
theorem lw_p12 : lw_okq (⟨"ShopDesksModel", "isSet", "(I)Z"⟩, 22) := ⟨⟨by decide +kernel, by decide +kernel⟩, List.mem_of_getElem? (i := 562) (by decide +kernel), List.mem_of_getElem? (i := 663) (by decide +kernel), List.mem_of_getElem? (i := 664) (by decide +kernel)⟩
theorem lw_p13 : lw_okq (⟨"ShopDesksModel", "has", "(II)Z"⟩, 22) := ⟨⟨by decide +kernel, by decide +kernel⟩, List.mem_of_getElem? (i := 562) (by decide +kernel), List.mem_of_getElem? (i := 667) (by decide +kernel), List.mem_of_getElem? (i := 668) (by decide +kernel)⟩
theorem lw_p14 : lw_okq (⟨"ShopDesksModel", "add", "(II)V"⟩, 22) := ⟨⟨by decide +kernel, by decide +kernel⟩, List.mem_of_getElem? (i := 562) (by decide +kernel), List.mem_of_getElem? (i := 671) (by decide +kernel), List.mem_of_getElem? (i := 672) (by decide +kernel)⟩
theorem lw_p15 : lw_okq (⟨"ShopDesksModel", "known", "(IIIIJ)J"⟩, 22) := ⟨⟨by decide +kernel, by decide +kernel⟩, List.mem_of_getElem? (i := 562) (by decide +kernel), List.mem_of_getElem? (i := 683) (by decide +kernel), List.mem_of_getElem? (i := 684) (by decide +kernel)⟩
def lw_privs_1 : List (MethodName × Nat) := [(⟨"java/lang/Throwable", "fillInStackTrace", "(I)Ljava/lang/Throwable;"⟩, 6), (⟨"ShopDesks$TellingSet", "insertByNumber", "(I)V"⟩, 5), (⟨"ShopDesks", "needSet", "(I)V"⟩, 5), (⟨"ShopDesks$TellingSet", "sumOfCounts", "(IJI)J"⟩, 5), (⟨"ShopDesks$TellingSet", "knownMark", "(IJI)J"⟩, 5), (⟨"ShopDesks$TellingSet", "settling", "(IJI)I"⟩, 5), (⟨"ShopDesks$TellingSet", "latest", "(IIJI)I"⟩, 5), (⟨"ShopDesks$TellingSet", "hasUnlikeMarks", "(IJI)Z"⟩, 5), (⟨"ShopDesks$TellingSet", "valueOrZero", "(I)J"⟩, 5), (⟨"ShopDesks", "needRoomForEntry", "()V"⟩, 5), (⟨"ShopDesks", "needEntry", "(I)V"⟩, 5), (⟨"ShopDesksModel", "find", "(IJ)I"⟩, 22), (⟨"ShopDesksModel", "isSet", "(I)Z"⟩, 22), (⟨"ShopDesksModel", "has", "(II)Z"⟩, 22), (⟨"ShopDesksModel", "add", "(II)V"⟩, 22), (⟨"ShopDesksModel", "known", "(IIIIJ)J"⟩, 22)]
theorem lw_r1 : ∀ q ∈ lw_privs_1, lw_okq q := List.forall_mem_cons.mpr ⟨lw_p0, List.forall_mem_cons.mpr ⟨lw_p1, List.forall_mem_cons.mpr ⟨lw_p2, List.forall_mem_cons.mpr ⟨lw_p3, List.forall_mem_cons.mpr ⟨lw_p4, List.forall_mem_cons.mpr ⟨lw_p5, List.forall_mem_cons.mpr ⟨lw_p6, List.forall_mem_cons.mpr ⟨lw_p7, List.forall_mem_cons.mpr ⟨lw_p8, List.forall_mem_cons.mpr ⟨lw_p9, List.forall_mem_cons.mpr ⟨lw_p10, List.forall_mem_cons.mpr ⟨lw_p11, List.forall_mem_cons.mpr ⟨lw_p12, List.forall_mem_cons.mpr ⟨lw_p13, List.forall_mem_cons.mpr ⟨lw_p14, List.forall_mem_cons.mpr ⟨lw_p15, fun _ h => absurd h List.not_mem_nil⟩⟩⟩⟩⟩⟩⟩⟩⟩⟩⟩⟩⟩⟩⟩⟩
theorem lw_p16 : lw_okq (⟨"ShopDesksModel", "speaks", "(IIIJ)Z"⟩, 22) := ⟨⟨by decide +kernel, by decide +kernel⟩, List.mem_of_getElem? (i := 562) (by decide +kernel), List.mem_of_getElem? (i := 687) (by decide +kernel), List.mem_of_getElem? (i := 688) (by decide +kernel)⟩
theorem lw_p17 : lw_okq (⟨"ShopDesksModel", "isSettled", "(IIIJ)Z"⟩, 22) := ⟨⟨by decide +kernel, by decide +kernel⟩, List.mem_of_getElem? (i := 562) (by decide +kernel), List.mem_of_getElem? (i := 691) (by decide +kernel), List.mem_of_getElem? (i := 692) (by decide +kernel)⟩
theorem lw_p18 : lw_okq (⟨"ShopDesksModel", "latest", "(IIIIJ)I"⟩, 22) := ⟨⟨by decide +kernel, by decide +kernel⟩, List.mem_of_getElem? (i := 562) (by decide +kernel), List.mem_of_getElem? (i := 695) (by decide +kernel), List.mem_of_getElem? (i := 696) (by decide +kernel)⟩
theorem lw_p19 : lw_okq (⟨"ShopDesksModel", "later", "(II)I"⟩, 22) := ⟨⟨by decide +kernel, by decide +kernel⟩, List.mem_of_getElem? (i := 562) (by decide +kernel), List.mem_of_getElem? (i := 699) (by decide +kernel), List.mem_of_getElem? (i := 700) (by decide +kernel)⟩
theorem lw_p20 : lw_okq (⟨"ShopDesksModel", "areUnlike", "(IIIJ)Z"⟩, 22) := ⟨⟨by decide +kernel, by decide +kernel⟩, List.mem_of_getElem? (i := 562) (by decide +kernel), List.mem_of_getElem? (i := 706) (by decide +kernel), List.mem_of_getElem? (i := 707) (by decide +kernel)⟩
theorem lw_p21 : lw_okq (⟨"ShopDesksModel", "open", "(I)I"⟩, 22) := ⟨⟨by decide +kernel, by decide +kernel⟩, List.mem_of_getElem? (i := 562) (by decide +kernel), List.mem_of_getElem? (i := 745) (by decide +kernel), List.mem_of_getElem? (i := 746) (by decide +kernel)⟩
theorem lw_p22 : lw_okq (⟨"ShopDesksModel", "isEntry", "(I)Z"⟩, 22) := ⟨⟨by decide +kernel, by decide +kernel⟩, List.mem_of_getElem? (i := 562) (by decide +kernel), List.mem_of_getElem? (i := 753) (by decide +kernel), List.mem_of_getElem? (i := 754) (by decide +kernel)⟩
theorem lw_p23 : lw_okq (⟨"ShopDesksModel", "addRow", "(IIJ)V"⟩, 22) := ⟨⟨by decide +kernel, by decide +kernel⟩, List.mem_of_getElem? (i := 562) (by decide +kernel), List.mem_of_getElem? (i := 759) (by decide +kernel), List.mem_of_getElem? (i := 760) (by decide +kernel)⟩
theorem lw_p24 : lw_okq (⟨"ShopDesksModel", "closeNow", "(I)V"⟩, 22) := ⟨⟨by decide +kernel, by decide +kernel⟩, List.mem_of_getElem? (i := 562) (by decide +kernel), List.mem_of_getElem? (i := 767) (by decide +kernel), List.mem_of_getElem? (i := 768) (by decide +kernel)⟩
def lw_privs_2 : List (MethodName × Nat) := [(⟨"ShopDesksModel", "speaks", "(IIIJ)Z"⟩, 22), (⟨"ShopDesksModel", "isSettled", "(IIIJ)Z"⟩, 22), (⟨"ShopDesksModel", "latest", "(IIIIJ)I"⟩, 22), (⟨"ShopDesksModel", "later", "(II)I"⟩, 22), (⟨"ShopDesksModel", "areUnlike", "(IIIJ)Z"⟩, 22), (⟨"ShopDesksModel", "open", "(I)I"⟩, 22), (⟨"ShopDesksModel", "isEntry", "(I)Z"⟩, 22), (⟨"ShopDesksModel", "addRow", "(IIJ)V"⟩, 22), (⟨"ShopDesksModel", "closeNow", "(I)V"⟩, 22)]
theorem lw_r2 : ∀ q ∈ lw_privs_2, lw_okq q := List.forall_mem_cons.mpr ⟨lw_p16, List.forall_mem_cons.mpr ⟨lw_p17, List.forall_mem_cons.mpr ⟨lw_p18, List.forall_mem_cons.mpr ⟨lw_p19, List.forall_mem_cons.mpr ⟨lw_p20, List.forall_mem_cons.mpr ⟨lw_p21, List.forall_mem_cons.mpr ⟨lw_p22, List.forall_mem_cons.mpr ⟨lw_p23, List.forall_mem_cons.mpr ⟨lw_p24, fun _ h => absurd h List.not_mem_nil⟩⟩⟩⟩⟩⟩⟩⟩⟩
def lw_privs : List (MethodName × Nat) := lw_privs_1 ++ (lw_privs_2)
def lw_tbl : List Cond := k2_sels lw_privs ++ tables_1
theorem lw_privs_ok : ∀ q ∈ lw_privs, lw_okq q := by
  show ∀ q ∈ lw_privs_1 ++ (lw_privs_2), lw_okq q
  exact List.forall_mem_append.mpr ⟨lw_r1, lw_r2⟩
-- ===== end of PART A =====
end
section
/-! ===== BEGIN words of one list among another's, by their places ===== -/
theorem goodIn_r {big : List Cond} (ws : List Cond) (ps : List Nat) (hp : ws = ps.filterMap (fun i => big[i]?)) (h : ws.all goodWord = true) : GoodIn big ws := by
  intro w hw
  have h1 := List.all_eq_true.mp h w hw
  rw [hp] at hw
  obtain ⟨i, -, hi⟩ := List.mem_filterMap.mp hw
  have hm : w ∈ big := by first | exact List.mem_of_getElem? hi | exact List.getElem?_mem hi
  exact ⟨hm, good_of_word h1⟩
theorem goodIn_app {big a b : List Cond} (ha : GoodIn big a) (hb : GoodIn big b) : GoodIn big (a ++ b) := fun w h => (List.mem_append.mp h).elim (ha w) (hb w)
theorem goodIn_ca {big a b : List Cond} {c : Cond} (ha : GoodIn big (c :: a)) (hb : GoodIn big b) : GoodIn big (c :: (a ++ b)) := fun w h => (List.mem_cons.mp h).elim (fun e => ha w (List.mem_cons.mpr (Or.inl e))) (fun h => (List.mem_append.mp h).elim (fun h => ha w (List.mem_cons.mpr (Or.inr h))) (hb w))
theorem goodIn_sub {big ws : List Cond} (hm : ∀ w ∈ ws, w ∈ big) (h : ws.all goodWord = true) : GoodIn big ws := fun w hw => ⟨hm w hw, good_of_word (List.all_eq_true.mp h w hw)⟩
/-! ===== END ===== -/

/-! ===== BEGIN exceptions that leave a method, and their catching by the caller (launches without stack traces) ===== -/
section VXA
/-! The laws vx_back, vx_callV, vx_callS, vx_callSW, vx_throw0, vx_throwS follow proofs of the library, with one case more: JvmDerived/Free/Laws.lean (Back.of_free), Shelf42/LK1.lean (callV, callS), Shelf/KitTraced.lean (throwNew0V, throwNewS). -/
/-- where a method has thrown q: the class by its name, the cell, what was written, the world -/
def vx_T (XC : String → State → State → Prop) (st : State) (q : Addr) (t : State) (mc ms : Nat) (free : Addr → Prop) : Prop :=
  ∃ (E : String) (ce : Cell) (L : List Loc), XC E st t ∧ t.heap[q]? = some ce ∧ ce.vm = .none ∧ st.vm.findClass E = some ce.cls ∧ st.WarmedH t.vm ∧ st.sameButNew ({ t with vm := st.vm } : State) L mc ms ∧ ∀ z ∈ L, free z.base
def vx_Q (Qc : Array Value → State → Outcome → State → Prop) (XC : String → State → State → Prop) (mc ms : Nat) (free : Addr → Prop) : Array Value → State → Outcome → State → Prop := fun a st o t =>
  (Qc a st o t ∧ ∃ L, FrameEnd st o t L mc ms ∧ ∀ q ∈ L, free q.base) ∨ ∃ q, o = .threw q ∧ vx_T XC st q t mc ms free
/-- a callee that returns or throws -/
def vx_Met (l : Launch) (y : MethodName) (ws : List Cond) (rm : Room) (Pc : Array Value → State → Prop) (Qc : Array Value → State → Outcome → State → Prop) (XC : String → State → State → Prop) (mc ms : Nat) (free : Addr → Prop) : Prop :=
  MetFree l y (headSpec ws rm) Pc (fun _ _ _ _ _ => True) (vx_Q Qc XC mc ms free)
def vx_Post (XC : String → State → State → Prop) (mc ms : Nat) (free : Addr → Prop) : Pt → Array Value → Addr → Pt → Prop := fun A a q B =>
  ∃ (g : JFrame) (mk : MethodId) (t : State) (L : List Loc) (E : String) (ce : Cell), B.U.heap = t.heap ∧ B.U.vm = t.vm ∧ XC E (A.U.calling g mk a) t ∧ t.heap[q]? = some ce ∧ ce.vm = .none ∧ A.U.vm.findClass E = some ce.cls ∧ B.locs = A.locs ++ L ∧ (∀ z ∈ L, free z.base) ∧ B.cells = A.cells + mc ∧ B.slots = A.slots + ms
def vx_Back (l : Launch) (R : Room) (p : Program) (e : Env) (below : List Frame) (s : State) (sargs : Array Value) (y : MethodName) (len W9 : Nat)
    (Pre : Pt → Array Value → Prop) (Post : Pt → Array Value → Option Value → Pt → Prop) (PostX : Pt → Array Value → Addr → Pt → Prop) : Prop :=
  ∀ (m : MethodId) (meth : Method) (c : Code) (A : Pt) (g : JFrame) (ig : Instr) (mk : MethodId) (a : Array Value),
    Stand p l e R s m sargs below meth c A.U A.locs A.cells A.slots → g.method = m → g.locals.size = c.maxLocals → decode c.code g.pc = .ok (ig, len) →
    2 * g.monitorRoom + (g.stack.map fun v => v.category).sum ≤ W9 → A.U.methodNamed? y = some mk → Pre A a →
    (∃ (v : Option Value) (B : Pt), Stand p l e R s m sargs below meth c B.U B.locs B.cells B.slots ∧ Post A a v B ∧
      Steps p.tables e below (doInvoke e (A.U.setTop g) [] mk a).1 (B.U.setTop { g with pc := g.pc + len, stack := v.toList ++ g.stack })) ∨
    (∃ (q : Addr) (B : Pt), Stand p l e R s m sargs below meth c B.U B.locs B.cells B.slots ∧ PostX A a q B ∧
      Steps p.tables e below (doInvoke e (A.U.setTop g) [] mk a).1 ((B.U.setTop g).pushFrame (.throwing q)))
section Payer
variable {l : Launch} {R : Room} {p : Program} {e : Env} {below : List Frame} {s : State} {sargs : Array Value} {y : MethodName} {len W9 : Nat}
theorem vx_back {ws : List Cond} {rm : Room} {Pc : Array Value → State → Prop} {Qc : Array Value → State → Outcome → State → Prop} {XC : String → State → State → Prop} {mc ms : Nat} {free : Addr → Prop} {bytes : ByteArray} {maxL : Nat} {ret : Option FieldType}
    (hM : vx_Met l y ws rm Pc Qc XC mc ms free) (hblind : FrameBlind Pc) (hrc : rm.cells = mc) (hrs : rm.slots = ms)
    (hframes : rm.frames + 1 ≤ R.frames) (hlocals : W9 + (maxL + 11) + rm.locals ≤ R.locals)
    (hws : ∀ w ∈ ws, ∀ a' U, s.WarmedH U.vm → w.before a' U = true) (hcode : Cond.code y bytes maxL ret ∈ ws) (hinit : ∀ a' U, s.WarmedH U.vm → (Cond.initialized y.cls).before a' U = true) :
    vx_Back l R p e below s sargs y len W9 (PreOf R mc ms Pc) (PostOf Qc mc ms free) (vx_Post XC mc ms free) := by
  intro m meth c A g ig mk a X hg hsize hdg hW hn hp
  have h1 : (headSpec ws rm).pre.before a A.U = true := atoms_intro fun w hw => hws w hw _ _ X.warmed
  have h2 : (Cond.code y bytes maxL ret).before a A.U = true := hws _ hcode _ _ X.warmed
  have h3 : (Cond.initialized y.cls).before a A.U = true := hinit _ _ X.warmed
  have h4 : A.cells + (headSpec ws rm).room.cells ≤ R.cells := by rw [show (headSpec ws rm).room.cells = mc from hrc]; exact hp.1
  have h5 : A.slots + (headSpec ws rm).room.slots ≤ R.slots := by rw [show (headSpec ws rm).room.slots = ms from hrs]; exact hp.2.1
  have hPc : Pc a (A.U.calling g mk a) := hblind _ _ _ _ hp.2.2
  obtain ⟨U, Ls, c0, s0⟩ := A
  dsimp only [Pt.U, Pt.locs, Pt.cells, Pt.slots] at h1 h2 h3 h4 h5 X hn hPc ⊢
  obtain ⟨methY, cY, hmY, hcY, -, hlY, -, -, -, -⟩ := Cond.code_spec hn h2
  obtain ⟨kY, hkY, -⟩ := className_of_methodNamed hn
  have hinitY : kY.init = .initialized := Cond.initialized_spec (findClass_of_methodNamed hn) hkY h3
  have h : At U g.method c below := by rw [hg]; exact X.here
  have hlocals9 : W9 + (maxL + 11) + (headSpec ws rm).room.locals ≤ R.locals := hlocals
  have happ : (headSpec ws rm).appliesLoose y e.platform (U.calling g mk a) = true :=
    Spec.appliesLoose_calling (g := g) h hdg hn hkY hinitY
      (X.room_calling (g := g) (R' := (headSpec ws rm).room) hsize hmY hcY hframes (by rw [hlY]; omega) h4 h5) h1
  obtain ⟨mid, hmid⟩ := h.above
  have hfr : (U.setTop g).frames = (.java g :: mid) ++ below := by rw [State.frames_setTop' g h.top, hmid]; rfl
  obtain ⟨o, s₂, hsteps, -, hend, hq⟩ := Steps.callFree hM p X.admits X.cas X.clock (acts := []) hfr happ hPc trivial
  have hq' : vx_Q Qc XC mc ms free a (U.calling g mk a) o s₂ := hq
  rw [State.frames_setTop' g h.top] at hend
  obtain ⟨g₀, hg0⟩ := Option.isSome_iff_exists.mp h.top
  obtain ⟨r, hr⟩ := State.topJava?_eq_some.mp hg0
  have hr' : (({ U with heap := s₂.heap, slotsUsed := s₂.slotsUsed } : State).setVm s₂.vm).frames = .java g₀ :: r := hr
  rcases hq' with ⟨hqc, L, hfe, hL⟩ | ⟨q, rfl, E, ce, L, hx, hce, hcv, hcl, hW₂, hsm, hL⟩
  · obtain ⟨⟨v, rfl⟩, hW₂, e2, q2, q3, q4, q5, q6⟩ := id hfe
    have e3 : s₂ = ({ (U.calling g mk a).setFrames s₂.frames with heap := s₂.heap, slotsUsed := s₂.slotsUsed } : State).setVm s₂.vm := by
      have : s₂ = ({ s₂ with vm := (U.calling g mk a).vm } : State).setVm s₂.vm := rfl
      rw [e2] at this
      exact this
    obtain ⟨c₂, i₂, len₂, hc₂, hd₂, hf₂⟩ := hend
    have hW' : U.WarmedH s₂.vm := hW₂
    have hcc : c₂ = c := by
      have h1 : s₂.code? g.method = U.code? g.method := by
        rw [State.code?_eq, State.code?_eq, hW'.alike.method?]
      exact Option.some.inj (hc₂.symm.trans (h1.trans h.code))
    subst hcc
    have hlen : len₂ = len := by rw [hdg] at hd₂; cases hd₂; rfl
    subst hlen
    have hs₂ : s₂ = (({ U with heap := s₂.heap, slotsUsed := s₂.slotsUsed } : State).setVm s₂.vm).setTop { g with pc := g.pc + len₂, stack := v.toList ++ g.stack } := by
      refine e3.trans ?_
      rw [hf₂, State.calling_eq h.top, State.setFrames_setFrames, State.setTop_of_frames _ hr', hr]
      rfl
    have hsame : U.sameButNew ({ U with heap := s₂.heap, slotsUsed := s₂.slotsUsed } : State) L mc ms := by
      refine ⟨?_, q2, q3, q4, q5, q6⟩
      obtain ⟨t, ht, -⟩ := State.frames_cons hr
      show ({ U with heap := s₂.heap, slotsUsed := s₂.slotsUsed } : State) = { U.setFrames U.frames with heap := s₂.heap, slotsUsed := s₂.slotsUsed }
      rw [State.setFrames_self ht]
    subst hg
    refine Or.inl ⟨v, ⟨(({ U with heap := s₂.heap, slotsUsed := s₂.slotsUsed } : State).setVm s₂.vm), Ls ++ L, c0 + mc, s0 + ms⟩,
      ⟨X.admits, X.cas, X.clock, X.frames, X.room, X.hears, X.method, X.code, (X.here.setHeapUsed s₂.heap s₂.slotsUsed).setVm hW'.alike, X.tail, State.WarmedH.trans X.warmed hW', X.limits, X.bytes, X.same.trans (hsame.setVm s.vm)⟩,
      ⟨g, mk, s₂, L, rfl, rfl, hqc, rfl, hL, rfl, rfl⟩, ?_⟩
    show Steps p.tables e below _ ((({ U with heap := s₂.heap, slotsUsed := s₂.slotsUsed } : State).setVm s₂.vm).setTop { g with pc := g.pc + len₂, stack := v.toList ++ g.stack })
    rw [← hs₂]
    exact hsteps
  · obtain ⟨e2, q2, q3, q4, q5, q6⟩ := id hsm
    have e3 : s₂ = ({ (U.calling g mk a).setFrames s₂.frames with heap := s₂.heap, slotsUsed := s₂.slotsUsed } : State).setVm s₂.vm := by
      have : s₂ = ({ s₂ with vm := (U.calling g mk a).vm } : State).setVm s₂.vm := rfl
      rw [e2] at this
      exact this
    have hf₂ : s₂.frames = .throwing q :: .java g :: U.frames.tail := hend
    have hW' : U.WarmedH s₂.vm := hW₂
    have hs₂ : s₂ = ((({ U with heap := s₂.heap, slotsUsed := s₂.slotsUsed } : State).setVm s₂.vm).setTop g).pushFrame (.throwing q) := by
      refine e3.trans ?_
      rw [hf₂, State.calling_eq h.top, State.setFrames_setFrames, State.pushFrame, State.frames_setTop _ hr', State.setTop_of_frames _ hr', State.setFrames_setFrames, hr]
      rfl
    have hsame : U.sameButNew ({ U with heap := s₂.heap, slotsUsed := s₂.slotsUsed } : State) L mc ms := by
      refine ⟨?_, q2, q3, q4, q5, q6⟩
      obtain ⟨t, ht, -⟩ := State.frames_cons hr
      show ({ U with heap := s₂.heap, slotsUsed := s₂.slotsUsed } : State) = { U.setFrames U.frames with heap := s₂.heap, slotsUsed := s₂.slotsUsed }
      rw [State.setFrames_self ht]
    subst hg
    refine Or.inr ⟨q, ⟨(({ U with heap := s₂.heap, slotsUsed := s₂.slotsUsed } : State).setVm s₂.vm), Ls ++ L, c0 + mc, s0 + ms⟩,
      ⟨X.admits, X.cas, X.clock, X.frames, X.room, X.hears, X.method, X.code, (X.here.setHeapUsed s₂.heap s₂.slotsUsed).setVm hW'.alike, X.tail, State.WarmedH.trans X.warmed hW', X.limits, X.bytes, X.same.trans (hsame.setVm s.vm)⟩,
      ⟨g, mk, s₂, L, E, ce, rfl, rfl, hx, hce, hcv, hcl, rfl, hL, rfl, rfl⟩, ?_⟩
    show Steps p.tables e below _ (((({ U with heap := s₂.heap, slotsUsed := s₂.slotsUsed } : State).setVm s₂.vm).setTop g).pushFrame (.throwing q))
    rw [← hs₂]
    exact hsteps
end Payer
section Calls
variable {p : Program} {l : Launch} {e : Env} {R : Room} {s : State} {m : MethodId} {args : Array Value} {below : List Frame} {meth : Method} {c : Code} {T : State} {locs : List Loc} {cells slots : Nat}
theorem vx_callV (X : Stand p l e R s m args below meth c T locs cells slots) (hexec : p.tables.exec = Jvm.exec) {own C : String} {index : Nat} {y : MethodName} {bytes : ByteArray} {maxL : Nat} {ret : Option FieldType}
    (hown : s.vm.findClass own = some m.cls) (hlink : (Cond.methodLink own index y).before args s = true) (hinst : (Cond.instanceMethod y).before args s = true) (hsel : (Cond.selects C y y).before args s = true)
    (hcode : (Cond.code y bytes maxL ret).before args s = true) (hy : y.cls ≠ "java/lang/invoke/MethodHandle" ∧ y.cls ≠ "java/lang/invoke/VarHandle")
    {W9 : Nat} {Pre : Pt → Array Value → Prop} {Post : Pt → Array Value → Option Value → Pt → Prop} {PostX : Pt → Array Value → Addr → Pt → Prop} (hK : vx_Back l R p e below s args y 3 W9 Pre Post PostX)
    {b : Addr} {cellB : Cell} (hcell : T.heap[b]? = some cellB) (hobj : cellB.vm.isStatics = false) (hcls : s.vm.findClass C = some cellB.cls)
    {g : JFrame} (hg : g.method = m) (hsize : g.locals.size = c.maxLocals) {argsL rest : List Value} (hlen : ∀ sig, parseMethodDescriptor y.desc = some sig → argsL.length = sig.parameters.length)
    (hstack : g.stack = argsL.reverse ++ .ref b :: rest) (hW : 2 * g.monitorRoom + (rest.map fun v => v.category).sum ≤ W9) (hdg : decode c.code g.pc = .ok (.invokevirtual index, 3))
    (hpre : ∀ vm₁, s.WarmedH vm₁ → Pre ⟨T.setVm vm₁, locs, cells, slots⟩ (Value.ref b :: argsL).toArray) :
    (∃ (v : Option Value) (vm₁ : Vm) (B : Pt), s.WarmedH vm₁ ∧ Stand p l e R s m args below meth c B.U B.locs B.cells B.slots ∧ Post ⟨T.setVm vm₁, locs, cells, slots⟩ (Value.ref b :: argsL).toArray v B ∧
      ∀ target, Steps p.tables e below (B.U.setTop { g with pc := g.pc + 3, stack := v.toList ++ rest }) target → Steps p.tables e below (T.setTop g) target) ∨
    (∃ (q : Addr) (vm₁ : Vm) (B : Pt), s.WarmedH vm₁ ∧ Stand p l e R s m args below meth c B.U B.locs B.cells B.slots ∧ PostX ⟨T.setVm vm₁, locs, cells, slots⟩ (Value.ref b :: argsL).toArray q B ∧
      Steps p.tables e below (T.setTop g) ((B.U.setTop { g with stack := rest }).pushFrame (.throwing q))) := by
  obtain ⟨mk, methM, hnamed, hmethM, hstM, habM⟩ := Cond.instanceMethod_spec hinst
  obtain ⟨methM', cM, hmethM', -, -, -, -, -, -, hsigM⟩ := Cond.code_spec hnamed hcode
  cases hmethM.symm.trans hmethM'
  obtain ⟨c2, r2, m2, q1, q2, q3, q4, kP, hkP, hkPi⟩ := Cond.selects_spec hsel
  cases hcls.symm.trans q1
  cases (State.methodFound?_of_named hnamed hy).symm.trans q2
  cases hnamed.symm.trans q3
  have hselP : selectMethod e.platform s.vm cellB.cls mk = .method mk := by rw [Launch.admits_selectMethod X.admits]; exact q4
  obtain ⟨vm₁, X₁, hstep₁⟩ := X.invokevirtual hexec hown hlink hnamed hmethM hstM hkP hkPi hy (a := b) (cell := cellB) hcell
    (fun z h => by rw [h] at hobj; cases hobj) hselP hmethM habM hkP hkPi (g := g) hg (argsL := argsL) (rest := rest) (hlen _ hsigM) hstack hdg
  rcases hK m meth c ⟨T.setVm vm₁, locs, cells, slots⟩ { g with stack := rest } (.invokevirtual index) mk (Value.ref b :: argsL).toArray X₁ hg hsize hdg hW (X₁.named hnamed) (hpre vm₁ X₁.warmed) with ⟨v, B, X', hpost, hsteps⟩ | ⟨q, B, X', hpost, hsteps⟩
  · exact Or.inl ⟨v, vm₁, B, X₁.warmed, X', hpost, fun target h => hstep₁ _ fun acts => by rw [doInvoke_state]; exact hsteps.trans h⟩
  · exact Or.inr ⟨q, vm₁, B, X₁.warmed, X', hpost, hstep₁ _ fun acts => by rw [doInvoke_state]; exact hsteps⟩
theorem vx_callS (X : Stand p l e R s m args below meth c T locs cells slots) (hexec : p.tables.exec = Jvm.exec) {own : String} {index : Nat} {y : MethodName} {bytes : ByteArray} {maxL : Nat} {ret : Option FieldType}
    (hown : s.vm.findClass own = some m.cls) (hlink : (Cond.methodLink own index y).before args s = true) (hstat : (Cond.static y).before args s = true) (hinit : (Cond.initialized y.cls).before args s = true)
    (hcode : (Cond.code y bytes maxL ret).before args s = true) (hy : y.cls ≠ "java/lang/invoke/MethodHandle" ∧ y.cls ≠ "java/lang/invoke/VarHandle")
    {W9 : Nat} {Pre : Pt → Array Value → Prop} {Post : Pt → Array Value → Option Value → Pt → Prop} {PostX : Pt → Array Value → Addr → Pt → Prop} (hK : vx_Back l R p e below s args y 3 W9 Pre Post PostX)
    {g : JFrame} (hg : g.method = m) (hsize : g.locals.size = c.maxLocals) {argsL rest : List Value} (hlen : ∀ sig, parseMethodDescriptor y.desc = some sig → argsL.length = sig.parameters.length)
    (hstack : g.stack = argsL.reverse ++ rest) (hW : 2 * g.monitorRoom + (rest.map fun v => v.category).sum ≤ W9) (hdg : decode c.code g.pc = .ok (.invokestatic index, 3))
    (hpre : ∀ vm₁, s.WarmedH vm₁ → Pre ⟨T.setVm vm₁, locs, cells, slots⟩ argsL.toArray) :
    (∃ (v : Option Value) (vm₁ : Vm) (B : Pt), s.WarmedH vm₁ ∧ Stand p l e R s m args below meth c B.U B.locs B.cells B.slots ∧ Post ⟨T.setVm vm₁, locs, cells, slots⟩ argsL.toArray v B ∧
      ∀ target, Steps p.tables e below (B.U.setTop { g with pc := g.pc + 3, stack := v.toList ++ rest }) target → Steps p.tables e below (T.setTop g) target) ∨
    (∃ (q : Addr) (vm₁ : Vm) (B : Pt), s.WarmedH vm₁ ∧ Stand p l e R s m args below meth c B.U B.locs B.cells B.slots ∧ PostX ⟨T.setVm vm₁, locs, cells, slots⟩ argsL.toArray q B ∧
      Steps p.tables e below (T.setTop g) ((B.U.setTop { g with stack := rest }).pushFrame (.throwing q))) := by
  obtain ⟨mk, hnamed⟩ := Cond.code_named hcode
  obtain ⟨methM, cM, hmethM, -, -, -, -, -, -, hsigM⟩ := Cond.code_spec hnamed hcode
  have hstatic : methM.isStatic = true := Cond.static_spec hnamed hmethM hstat
  obtain ⟨kP, hkP, -⟩ := className_of_methodNamed hnamed
  have hinitP : kP.init = .initialized := Cond.initialized_spec (findClass_of_methodNamed hnamed) hkP hinit
  obtain ⟨vm₁, X₁, hstep₁⟩ := X.invokestatic hexec hown hlink hnamed hmethM hstatic hkP hinitP hy (g := g) hg (argsL := argsL) (rest := rest) (hlen _ hsigM) hstack hdg
  rcases hK m meth c ⟨T.setVm vm₁, locs, cells, slots⟩ { g with stack := rest } (.invokestatic index) mk argsL.toArray X₁ hg hsize hdg hW (X₁.named hnamed) (hpre vm₁ X₁.warmed) with ⟨v, B, X', hpost, hsteps⟩ | ⟨q, B, X', hpost, hsteps⟩
  · exact Or.inl ⟨v, vm₁, B, X₁.warmed, X', hpost, fun target h => hstep₁ _ fun acts => by rw [doInvoke_state]; exact hsteps.trans h⟩
  · exact Or.inr ⟨q, vm₁, B, X₁.warmed, X', hpost, hstep₁ _ fun acts => by rw [doInvoke_state]; exact hsteps⟩
end Calls
theorem vx_cls {s : State} {T : State} {vm₁ : Vm} {E : String} {k : ClassId} (hW : s.WarmedH vm₁) (h : (T.setVm vm₁).vm.findClass E = some k) : s.vm.findClass E = some k := by
  have h1 : vm₁.findClass E = some k := h
  rw [hW.alike.findClass] at h1
  exact h1
/-- the method's frame g, with q thrown over it -/
def vx_W (p : Program) (l : Launch) (e : Env) (R : Room) (s : State) (m : MethodId) (args : Array Value) (below : List Frame) (meth : Method) (c : Code) (H : Heap) (locs : List Loc) (cells slots : Nat) (Q : State → Prop) (g : JFrame) (q : Addr) : Prop :=
  ∀ T : State, T.heap = H → Stand p l e R s m args below meth c T locs cells slots → ∃ t, Steps p.tables e below ((T.setTop g).pushFrame (.throwing q)) t ∧ Q t
def vx_Run (p : Program) (l : Launch) (e : Env) (R : Room) (s : State) (m : MethodId) (args : Array Value) (below : List Frame) (meth : Method) (c : Code) (H : Heap) (locs : List Loc) (cells slots mc ms : Nat) (g : JFrame) (rest : List Value) (Qa : State → Outcome → State → Prop) (XC : String → State → State → Prop) (free : Addr → Prop) : Prop :=
  ∀ T : State, T.heap = H → Stand p l e R s m args below meth c T locs cells slots →
    (∃ (v : Option Value) (st₀ t T' : State) (L : List Loc), st₀.heap = H ∧ Stand p l e R s m args below meth c T' (locs ++ L) (cells + mc) (slots + ms) ∧ (∀ q ∈ L, free q.base) ∧ T'.heap = t.heap ∧ T'.vm = t.vm ∧ Qa st₀ (.returned v) t ∧
      Goes p e below T g T' { g with pc := g.pc + 3, stack := v.toList ++ rest }) ∨
    (∃ (q : Addr) (st₀ t T' : State) (L : List Loc) (E : String) (ce : Cell), st₀.heap = H ∧ Stand p l e R s m args below meth c T' (locs ++ L) (cells + mc) (slots + ms) ∧ (∀ z ∈ L, free z.base) ∧ T'.heap = t.heap ∧ T'.vm = t.vm ∧ XC E st₀ t ∧ t.heap[q]? = some ce ∧ ce.vm = .none ∧ s.vm.findClass E = some ce.cls ∧
      Steps p.tables e below (T.setTop g) ((T'.setTop { g with stack := rest }).pushFrame (.throwing q)))
def vx_X {S : Type} (px : S → Prop) (B : String → S → State → Prop) (A : Nat → Prop) : String → State → State → Prop := fun E st t => ∃ u : S, px u ∧ B E u t ∧ va_F A st t
section Runs
variable {p : Program} {l : Launch} {e : Env} {R : Room} {s : State} {m : MethodId} {args : Array Value} {below : List Frame} {meth : Method} {c : Code} {H : Heap} {locs : List Loc} {cells slots : Nat}
variable {y : MethodName} {bytes cc : ByteArray} {maxL nL mc ms n index : Nat} {ret : Option FieldType} {ws : List Cond} {rm : Room} {Pc : Array Value → State → Prop} {Qc : Array Value → State → Outcome → State → Prop} {XC : String → State → State → Prop} {free : Addr → Prop} {Ts : List Cond} {own C : String} {b : Addr} {As rest : List Value} {g : JFrame}
theorem vx_callBack (cb : CallB R s args own index y bytes maxL ret ws rm mc ms n) (hM : vx_Met l y ws rm Pc Qc XC mc ms free) (hbl : FrameBlind Pc) : vx_Back l R p e below s args y 3 8 (PreOf R mc ms Pc) (PostOf Qc mc ms free) (vx_Post XC mc ms free) := by
  obtain ⟨hrc, hrs, hfr, hlo, hws, hcw, -, hini, -⟩ := cb
  exact vx_back (bytes := bytes) (maxL := maxL) (ret := ret) hM hbl hrc hrs hfr hlo hws hcw (fun a' U hW => word_at hW (Or.inl (by first | rfl | simp [Cond.onTables, Cond.keeps, Cond.steady])) hini)
theorem vx_runV (S : CallFix p m c cc nL s args Ts own) (hM : vx_Met l y ws rm Pc Qc XC mc ms free) (cw : CallW R s args own C index y bytes maxL ret ws rm mc ms n) (hp : PreV s H C b Pc As)
    (hg : g.method = m) (hn : As.length = n) (hsize : g.locals.size = nL) (hstack : g.stack = As.reverse ++ .ref b :: rest) (hW : 2 * g.monitorRoom + (rest.map fun v => v.category).sum ≤ 8) (hdg : decode cc g.pc = .ok (.invokevirtual index, 3)) (hf : cells + mc ≤ R.cells ∧ slots + ms ≤ R.slots) :
    vx_Run p l e R s m args below meth c H locs cells slots mc ms g rest (Qc (Value.ref b :: As).toArray) XC free := by
  have hK : vx_Back l R p e below s args y 3 8 (PreOf R mc ms Pc) (PostOf Qc mc ms free) (vx_Post XC mc ms free) := vx_callBack cw.1 hM hp.1
  obtain ⟨⟨-, -, -, -, -, -, hcode, -, hy, hlen, hl⟩, hin, hse⟩ := cw
  obtain ⟨hx, hb, hml, ho, -⟩ := S
  obtain ⟨-, ⟨cellB, hcB, hoB, hclB⟩, hPc⟩ := hp
  intro T hT X
  rcases vx_callV X hx (C := C) (bytes := bytes) (maxL := maxL) (ret := ret) ho hl hin hse hcode hy hK (by rw [hT]; exact hcB) hoB hclB hg (hsize.trans hml.symm) (argsL := As) (rest := rest) (fun sig h => hn.trans (hlen sig h)) hstack hW (by rw [hb]; exact hdg)
    (fun vm₁ hW₁ => ⟨hf.1, hf.2, hPc (T.setVm vm₁) hT hW₁⟩) with ⟨v, vm₁, ⟨U', l2, c2, s2⟩, hW₁, X', ⟨g', mk, t, L, e1, e2, hq, h1, hL, h2, h3⟩, st⟩ | ⟨q, vm₁, ⟨U', l2, c2, s2⟩, hW₁, X', ⟨g', mk, t, L, E, ce, e1, e2, hq, hce, hcv, hcl, h1, hL, h2, h3⟩, st⟩
  · dsimp only [Pt.U, Pt.locs, Pt.cells, Pt.slots] at X' e1 e2 h1 h2 h3 st
    subst h1; subst h2; subst h3
    exact Or.inl ⟨v, (T.setVm vm₁).calling g' mk (Value.ref b :: As).toArray, t, U', L, hT, X', hL, e1, e2, hq, st⟩
  · dsimp only [Pt.U, Pt.locs, Pt.cells, Pt.slots] at X' e1 e2 h1 h2 h3 st hcl
    subst h1; subst h2; subst h3
    exact Or.inr ⟨q, (T.setVm vm₁).calling g' mk (Value.ref b :: As).toArray, t, U', L, E, ce, hT, X', hL, e1, e2, hq, hce, hcv, vx_cls hW₁ hcl, st⟩
theorem vx_runS (S : CallFix p m c cc nL s args Ts own) (hM : vx_Met l y ws rm Pc Qc XC mc ms free) (cw : CallB R s args own index y bytes maxL ret ws rm mc ms n ∧ (Cond.static y).before args s = true) (hp : PreS s H Pc As)
    (hg : g.method = m) (hn : As.length = n) (hsize : g.locals.size = nL) (hstack : g.stack = As.reverse ++ rest) (hW : 2 * g.monitorRoom + (rest.map fun v => v.category).sum ≤ 8) (hdg : decode cc g.pc = .ok (.invokestatic index, 3)) (hf : cells + mc ≤ R.cells ∧ slots + ms ≤ R.slots) :
    vx_Run p l e R s m args below meth c H locs cells slots mc ms g rest (Qc As.toArray) XC free := by
  have hK : vx_Back l R p e below s args y 3 8 (PreOf R mc ms Pc) (PostOf Qc mc ms free) (vx_Post XC mc ms free) := vx_callBack cw.1 hM hp.1
  obtain ⟨⟨-, -, -, -, -, -, hcode, hini, hy, hlen, hl⟩, hstt⟩ := cw
  obtain ⟨hx, hb, hml, ho, -⟩ := S
  intro T hT X
  rcases vx_callS X hx (bytes := bytes) (maxL := maxL) (ret := ret) ho hl hstt hini hcode hy hK hg (hsize.trans hml.symm) (argsL := As) (rest := rest) (fun sig h => hn.trans (hlen sig h)) hstack hW (by rw [hb]; exact hdg)
    (fun vm₁ hW₁ => ⟨hf.1, hf.2, hp.2 (T.setVm vm₁) hT hW₁⟩) with ⟨v, vm₁, ⟨U', l2, c2, s2⟩, hW₁, X', ⟨g', mk, t, L, e1, e2, hq, h1, hL, h2, h3⟩, st⟩ | ⟨q, vm₁, ⟨U', l2, c2, s2⟩, hW₁, X', ⟨g', mk, t, L, E, ce, e1, e2, hq, hce, hcv, hcl, h1, hL, h2, h3⟩, st⟩
  · dsimp only [Pt.U, Pt.locs, Pt.cells, Pt.slots] at X' e1 e2 h1 h2 h3 st
    subst h1; subst h2; subst h3
    exact Or.inl ⟨v, (T.setVm vm₁).calling g' mk As.toArray, t, U', L, hT, X', hL, e1, e2, hq, st⟩
  · dsimp only [Pt.U, Pt.locs, Pt.cells, Pt.slots] at X' e1 e2 h1 h2 h3 st hcl
    subst h1; subst h2; subst h3
    exact Or.inr ⟨q, (T.setVm vm₁).calling g' mk As.toArray, t, U', L, E, ce, hT, X', hL, e1, e2, hq, hce, hcv, vx_cls hW₁ hcl, st⟩
end Runs
section Rows
variable {p : Program} {l : Launch} {e : Env} {R : Room} {s : State} {m : MethodId} {args : Array Value} {below : List Frame} {meth : Method} {c : Code} {H : Heap} {locs : List Loc} {cells slots : Nat} {Q : State → Prop}
variable {mc ms : Nat} {free : Addr → Prop} {A0 A1 : Nat → Prop} {H0 : Heap} {a : Array Value} {pc : Nat} {ls : Array Slot} {st0 rest : List Value}
theorem vx_keep {st₀ t T' : State} {L : List Loc} (h0 : st₀.heap = H) (e1 : T'.heap = t.heap) (hS : va_S A0 H0 H locs) (hA : ∀ q, q < H.size → A1 q → A0 q) (hf : ∀ q, free q → A0 q) (hL : ∀ q ∈ L, free q.base) (hF : va_F A1 st₀ t) :
    H.size ≤ T'.heap.size ∧ (∀ q : Nat, q < H.size → ¬ A1 q → T'.heap[q]? = H[q]?) ∧ va_S A0 H0 T'.heap (locs ++ L) := by
  obtain ⟨hz, hk⟩ := hF
  rw [h0] at hz hk
  exact ⟨by rw [e1]; exact hz, fun q h1 h2 => by rw [e1]; exact hk q h1 h2,
    ⟨Nat.le_trans hS.1 (by rw [e1]; exact hz), fun q h1 h2 => by rw [e1, hk q (Nat.lt_of_lt_of_le h1 hS.1) (fun z => h2 (hA q (Nat.lt_of_lt_of_le h1 hS.1) z))]; exact hS.2.1 q h1 h2, fun q hq => by
      rcases List.mem_append.mp hq with h | h
      · exact hS.2.2 q h
      · exact hf _ (hL q h)⟩⟩
theorem vx_calli {S SX : Type} {post : Int32 → S → Prop} {px : SX → Prop} {B : S → State → Prop} {BX : String → SX → State → Prop} {AX : Nat → Prop} (hr : vx_Run p l e R s m args below meth c H locs cells slots mc ms (F0 m pc ls st0) rest (va_Qi post B A1 a) (vx_X px BX AX) free) (hS : va_S A0 H0 H locs) (hA : ∀ q, q < H.size → A1 q → A0 q) (hf : ∀ q, free q → A0 q) (hAX : ∀ q, q < H.size → AX q → A0 q)
    (kx : ∀ (E : String) (ce : Cell) (q9 : Addr) (u : SX) (t : State) (H1 : Heap) (locs1 : List Loc), t.heap = H1 → s.vm.Alike t.vm → px u → BX E u t → H.size ≤ H1.size → (∀ q : Nat, q < H.size → ¬ AX q → H1[q]? = H[q]?) → va_S A0 H0 H1 locs1 → H1[q9]? = some ce → ce.vm = .none → s.vm.findClass E = some ce.cls → vx_W p l e R s m args below meth c H1 locs1 (cells + mc) (slots + ms) Q (F0 m pc ls rest) q9)
    (kk : ∀ (r : Int32) (u : S) (t : State) (H1 : Heap) (locs1 : List Loc), t.heap = H1 → s.vm.Alike t.vm → post r u → B u t → H.size ≤ H1.size → (∀ q : Nat, q < H.size → ¬ A1 q → H1[q]? = H[q]?) → va_S A0 H0 H1 locs1 → W p l e R s m args below meth c H1 locs1 (cells + mc) (slots + ms) Q (F0 m (pc + 3) ls (.int r :: rest))) : W p l e R s m args below meth c H locs cells slots Q (F0 m pc ls st0) := by
  intro T hT X
  rcases hr T hT X with ⟨v, st₀, t, T', L, h0, X', hL, e1, e2, ⟨⟨r, u, hv, hp, hb⟩, hF⟩, st⟩ | ⟨q, st₀, t, T', L, E, ce, h0, X', hL, e1, e2, ⟨u, hp, hb, hF⟩, hce, hcv, hcl, st⟩
  · cases hv
    obtain ⟨k1, k2, k3⟩ := vx_keep h0 e1 hS hA hf hL hF
    obtain ⟨t2, a1, b1⟩ := kk r u t T'.heap (locs ++ L) e1.symm (by rw [← e2]; exact X'.warmed.alike) hp hb k1 k2 k3 T' rfl X'
    exact ⟨t2, st t2 a1, b1⟩
  · obtain ⟨k1, k2, k3⟩ := vx_keep h0 e1 hS hAX hf hL hF
    obtain ⟨t2, a1, b1⟩ := kx E ce q u t T'.heap (locs ++ L) e1.symm (by rw [← e2]; exact X'.warmed.alike) hp hb k1 k2 k3 (by rw [e1]; exact hce) hcv hcl T' rfl X'
    exact ⟨t2, st.trans a1, b1⟩
theorem vx_calll {S SX : Type} {post : Int64 → S → Prop} {px : SX → Prop} {B : S → State → Prop} {BX : String → SX → State → Prop} {AX : Nat → Prop} (hr : vx_Run p l e R s m args below meth c H locs cells slots mc ms (F0 m pc ls st0) rest (va_Ql post B A1 a) (vx_X px BX AX) free) (hS : va_S A0 H0 H locs) (hA : ∀ q, q < H.size → A1 q → A0 q) (hf : ∀ q, free q → A0 q) (hAX : ∀ q, q < H.size → AX q → A0 q)
    (kx : ∀ (E : String) (ce : Cell) (q9 : Addr) (u : SX) (t : State) (H1 : Heap) (locs1 : List Loc), t.heap = H1 → s.vm.Alike t.vm → px u → BX E u t → H.size ≤ H1.size → (∀ q : Nat, q < H.size → ¬ AX q → H1[q]? = H[q]?) → va_S A0 H0 H1 locs1 → H1[q9]? = some ce → ce.vm = .none → s.vm.findClass E = some ce.cls → vx_W p l e R s m args below meth c H1 locs1 (cells + mc) (slots + ms) Q (F0 m pc ls rest) q9)
    (kk : ∀ (r : Int64) (u : S) (t : State) (H1 : Heap) (locs1 : List Loc), t.heap = H1 → s.vm.Alike t.vm → post r u → B u t → H.size ≤ H1.size → (∀ q : Nat, q < H.size → ¬ A1 q → H1[q]? = H[q]?) → va_S A0 H0 H1 locs1 → W p l e R s m args below meth c H1 locs1 (cells + mc) (slots + ms) Q (F0 m (pc + 3) ls (.long r :: rest))) : W p l e R s m args below meth c H locs cells slots Q (F0 m pc ls st0) := by
  intro T hT X
  rcases hr T hT X with ⟨v, st₀, t, T', L, h0, X', hL, e1, e2, ⟨⟨r, u, hv, hp, hb⟩, hF⟩, st⟩ | ⟨q, st₀, t, T', L, E, ce, h0, X', hL, e1, e2, ⟨u, hp, hb, hF⟩, hce, hcv, hcl, st⟩
  · cases hv
    obtain ⟨k1, k2, k3⟩ := vx_keep h0 e1 hS hA hf hL hF
    obtain ⟨t2, a1, b1⟩ := kk r u t T'.heap (locs ++ L) e1.symm (by rw [← e2]; exact X'.warmed.alike) hp hb k1 k2 k3 T' rfl X'
    exact ⟨t2, st t2 a1, b1⟩
  · obtain ⟨k1, k2, k3⟩ := vx_keep h0 e1 hS hAX hf hL hF
    obtain ⟨t2, a1, b1⟩ := kx E ce q u t T'.heap (locs ++ L) e1.symm (by rw [← e2]; exact X'.warmed.alike) hp hb k1 k2 k3 (by rw [e1]; exact hce) hcv hcl T' rfl X'
    exact ⟨t2, st.trans a1, b1⟩
theorem vx_callf {S SX : Type} {post : UInt32 → S → Prop} {px : SX → Prop} {B : S → State → Prop} {BX : String → SX → State → Prop} {AX : Nat → Prop} (hr : vx_Run p l e R s m args below meth c H locs cells slots mc ms (F0 m pc ls st0) rest (va_Qf post B A1 a) (vx_X px BX AX) free) (hS : va_S A0 H0 H locs) (hA : ∀ q, q < H.size → A1 q → A0 q) (hf : ∀ q, free q → A0 q) (hAX : ∀ q, q < H.size → AX q → A0 q)
    (kx : ∀ (E : String) (ce : Cell) (q9 : Addr) (u : SX) (t : State) (H1 : Heap) (locs1 : List Loc), t.heap = H1 → s.vm.Alike t.vm → px u → BX E u t → H.size ≤ H1.size → (∀ q : Nat, q < H.size → ¬ AX q → H1[q]? = H[q]?) → va_S A0 H0 H1 locs1 → H1[q9]? = some ce → ce.vm = .none → s.vm.findClass E = some ce.cls → vx_W p l e R s m args below meth c H1 locs1 (cells + mc) (slots + ms) Q (F0 m pc ls rest) q9)
    (kk : ∀ (r : UInt32) (u : S) (t : State) (H1 : Heap) (locs1 : List Loc), t.heap = H1 → s.vm.Alike t.vm → post r u → B u t → H.size ≤ H1.size → (∀ q : Nat, q < H.size → ¬ A1 q → H1[q]? = H[q]?) → va_S A0 H0 H1 locs1 → W p l e R s m args below meth c H1 locs1 (cells + mc) (slots + ms) Q (F0 m (pc + 3) ls (.float r :: rest))) : W p l e R s m args below meth c H locs cells slots Q (F0 m pc ls st0) := by
  intro T hT X
  rcases hr T hT X with ⟨v, st₀, t, T', L, h0, X', hL, e1, e2, ⟨⟨r, u, hv, hp, hb⟩, hF⟩, st⟩ | ⟨q, st₀, t, T', L, E, ce, h0, X', hL, e1, e2, ⟨u, hp, hb, hF⟩, hce, hcv, hcl, st⟩
  · cases hv
    obtain ⟨k1, k2, k3⟩ := vx_keep h0 e1 hS hA hf hL hF
    obtain ⟨t2, a1, b1⟩ := kk r u t T'.heap (locs ++ L) e1.symm (by rw [← e2]; exact X'.warmed.alike) hp hb k1 k2 k3 T' rfl X'
    exact ⟨t2, st t2 a1, b1⟩
  · obtain ⟨k1, k2, k3⟩ := vx_keep h0 e1 hS hAX hf hL hF
    obtain ⟨t2, a1, b1⟩ := kx E ce q u t T'.heap (locs ++ L) e1.symm (by rw [← e2]; exact X'.warmed.alike) hp hb k1 k2 k3 (by rw [e1]; exact hce) hcv hcl T' rfl X'
    exact ⟨t2, st.trans a1, b1⟩
theorem vx_calld {S SX : Type} {post : UInt64 → S → Prop} {px : SX → Prop} {B : S → State → Prop} {BX : String → SX → State → Prop} {AX : Nat → Prop} (hr : vx_Run p l e R s m args below meth c H locs cells slots mc ms (F0 m pc ls st0) rest (va_Qd post B A1 a) (vx_X px BX AX) free) (hS : va_S A0 H0 H locs) (hA : ∀ q, q < H.size → A1 q → A0 q) (hf : ∀ q, free q → A0 q) (hAX : ∀ q, q < H.size → AX q → A0 q)
    (kx : ∀ (E : String) (ce : Cell) (q9 : Addr) (u : SX) (t : State) (H1 : Heap) (locs1 : List Loc), t.heap = H1 → s.vm.Alike t.vm → px u → BX E u t → H.size ≤ H1.size → (∀ q : Nat, q < H.size → ¬ AX q → H1[q]? = H[q]?) → va_S A0 H0 H1 locs1 → H1[q9]? = some ce → ce.vm = .none → s.vm.findClass E = some ce.cls → vx_W p l e R s m args below meth c H1 locs1 (cells + mc) (slots + ms) Q (F0 m pc ls rest) q9)
    (kk : ∀ (r : UInt64) (u : S) (t : State) (H1 : Heap) (locs1 : List Loc), t.heap = H1 → s.vm.Alike t.vm → post r u → B u t → H.size ≤ H1.size → (∀ q : Nat, q < H.size → ¬ A1 q → H1[q]? = H[q]?) → va_S A0 H0 H1 locs1 → W p l e R s m args below meth c H1 locs1 (cells + mc) (slots + ms) Q (F0 m (pc + 3) ls (.double r :: rest))) : W p l e R s m args below meth c H locs cells slots Q (F0 m pc ls st0) := by
  intro T hT X
  rcases hr T hT X with ⟨v, st₀, t, T', L, h0, X', hL, e1, e2, ⟨⟨r, u, hv, hp, hb⟩, hF⟩, st⟩ | ⟨q, st₀, t, T', L, E, ce, h0, X', hL, e1, e2, ⟨u, hp, hb, hF⟩, hce, hcv, hcl, st⟩
  · cases hv
    obtain ⟨k1, k2, k3⟩ := vx_keep h0 e1 hS hA hf hL hF
    obtain ⟨t2, a1, b1⟩ := kk r u t T'.heap (locs ++ L) e1.symm (by rw [← e2]; exact X'.warmed.alike) hp hb k1 k2 k3 T' rfl X'
    exact ⟨t2, st t2 a1, b1⟩
  · obtain ⟨k1, k2, k3⟩ := vx_keep h0 e1 hS hAX hf hL hF
    obtain ⟨t2, a1, b1⟩ := kx E ce q u t T'.heap (locs ++ L) e1.symm (by rw [← e2]; exact X'.warmed.alike) hp hb k1 k2 k3 (by rw [e1]; exact hce) hcv hcl T' rfl X'
    exact ⟨t2, st.trans a1, b1⟩
theorem vx_callv {S SX : Type} {post : S → Prop} {px : SX → Prop} {B : S → State → Prop} {BX : String → SX → State → Prop} {AX : Nat → Prop} (hr : vx_Run p l e R s m args below meth c H locs cells slots mc ms (F0 m pc ls st0) rest (va_Qv post B A1 a) (vx_X px BX AX) free) (hS : va_S A0 H0 H locs) (hA : ∀ q, q < H.size → A1 q → A0 q) (hf : ∀ q, free q → A0 q) (hAX : ∀ q, q < H.size → AX q → A0 q)
    (kx : ∀ (E : String) (ce : Cell) (q9 : Addr) (u : SX) (t : State) (H1 : Heap) (locs1 : List Loc), t.heap = H1 → s.vm.Alike t.vm → px u → BX E u t → H.size ≤ H1.size → (∀ q : Nat, q < H.size → ¬ AX q → H1[q]? = H[q]?) → va_S A0 H0 H1 locs1 → H1[q9]? = some ce → ce.vm = .none → s.vm.findClass E = some ce.cls → vx_W p l e R s m args below meth c H1 locs1 (cells + mc) (slots + ms) Q (F0 m pc ls rest) q9)
    (kk : ∀ (u : S) (t : State) (H1 : Heap) (locs1 : List Loc), t.heap = H1 → s.vm.Alike t.vm → post u → B u t → H.size ≤ H1.size → (∀ q : Nat, q < H.size → ¬ A1 q → H1[q]? = H[q]?) → va_S A0 H0 H1 locs1 → W p l e R s m args below meth c H1 locs1 (cells + mc) (slots + ms) Q (F0 m (pc + 3) ls (rest))) : W p l e R s m args below meth c H locs cells slots Q (F0 m pc ls st0) := by
  intro T hT X
  rcases hr T hT X with ⟨v, st₀, t, T', L, h0, X', hL, e1, e2, ⟨⟨u, hv, hp, hb⟩, hF⟩, st⟩ | ⟨q, st₀, t, T', L, E, ce, h0, X', hL, e1, e2, ⟨u, hp, hb, hF⟩, hce, hcv, hcl, st⟩
  · cases hv
    obtain ⟨k1, k2, k3⟩ := vx_keep h0 e1 hS hA hf hL hF
    obtain ⟨t2, a1, b1⟩ := kk u t T'.heap (locs ++ L) e1.symm (by rw [← e2]; exact X'.warmed.alike) hp hb k1 k2 k3 T' rfl X'
    exact ⟨t2, st t2 a1, b1⟩
  · obtain ⟨k1, k2, k3⟩ := vx_keep h0 e1 hS hAX hf hL hF
    obtain ⟨t2, a1, b1⟩ := kx E ce q u t T'.heap (locs ++ L) e1.symm (by rw [← e2]; exact X'.warmed.alike) hp hb k1 k2 k3 (by rw [e1]; exact hce) hcv hcl T' rfl X'
    exact ⟨t2, st.trans a1, b1⟩
/-- caught by the row x of this method's table; the rows ahead don't take it -/
theorem vx_catch {own name : String} {E : String} {ce : Cell} {q : Addr} (hown : s.vm.findClass own = some m.cls) (pre : List ExceptionTableEntry) (x : ExceptionTableEntry) (suf : List ExceptionTableEntry) (hsplit : c.exceptionTable.toList = pre ++ x :: suf)
    (hpass : ∀ z ∈ pre, covers z pc = false ∨ (z.catchType ≠ 0 ∧ ∃ nm : String, (Cond.classLink own z.catchType nm).before args s = true ∧ va_Nc E nm s)) (hx : covers x pc = true) (h0 : x.catchType ≠ 0)
    (hlink : (Cond.classLink own x.catchType name).before args s = true) (hcast : (Cond.castable E name).before args s = true) (hcell : H[q]? = some ce) (hv : ce.vm = .none) (hcl : s.vm.findClass E = some ce.cls)
    (kk : W p l e R s m args below meth c H locs cells slots Q (F0 m x.handlerPc ls [.ref q])) : vx_W p l e R s m args below meth c H locs cells slots Q (F0 m pc ls rest) q := by
  intro T hT X
  have hpl : e.platform.magicAccessors = ({} : Platform).magicAccessors := by rw [X.admits.platform]
  obtain ⟨c3, c4, hc3, hc4, hasg⟩ := Cond.castable_spec hcast
  cases Option.some.inj (hc3.symm.trans hcl)
  obtain ⟨c5, hc5, hcl5⟩ := Cond.classLink_spec hown hlink e.platform hpl
  cases Option.some.inj (hc4.symm.trans hc5)
  obtain ⟨vm', X', st⟩ := X.thenCaughtThrough q (g := F0 m pc ls rest) rfl (Steps.refl _) (by rw [hT]; exact hcell) (by rw [hv]; rfl) (by obtain ⟨k9, h9, -⟩ := Vm.findClass_spec hcl; exact ⟨k9, h9⟩) pre x suf hsplit
    (fun z hz => by
      rcases hpass z hz with h | ⟨hz0, nm, hl1, hn1⟩
      · exact Or.inl h
      · obtain ⟨c6, hc6, hcl6⟩ := Cond.classLink_spec hown hl1 e.platform hpl
        obtain ⟨a8, b8, h1, h2, h3⟩ := hn1
        cases Option.some.inj (h1.symm.trans hcl)
        cases Option.some.inj (h2.symm.trans hc6)
        exact Or.inr ⟨hz0, _, hcl6, h3⟩) hx (Or.inr ⟨h0, c4, hcl5, hasg⟩)
  obtain ⟨t, a1, b1⟩ := kk (T.setVm vm') hT X'
  exact ⟨t, st.trans a1, b1⟩
end Rows
section Ends
variable {p : Program} {l : Launch} {e : Env} {R : Room} {s : State} {m : MethodId} {args : Array Value} {below : List Frame} {meth : Method} {c : Code} {H : Heap} {locs : List Loc} {cells slots : Nat} {Q : State → Prop}
variable {mc ms : Nat} {free : Addr → Prop} {A0 A1 : Nat → Prop} {H0 : Heap} {a : Array Value} {ls : Array Slot} {st0 rest : List Value}
variable {Qc : Array Value → State → Outcome → State → Prop} {XC : String → State → State → Prop}
/-- what a body that may throw owes at its end -/
def vx_MQ (below : List Frame) (Qc : Array Value → State → Outcome → State → Prop) (XC : String → State → State → Prop) (a : Array Value) (s : State) (mc ms : Nat) (free : Addr → Prop) : State → Prop := fun t =>
  ∃ o, t.status = .running ∧ Ended t below o ∧ vx_Q Qc XC mc ms free a s o t
theorem vx_ret {g : JFrame} {mc ms : Nat} (k : W p l e R s m args below meth c H locs cells slots (MQ below Qc args s mc ms free) g) : W p l e R s m args below meth c H locs cells slots (vx_MQ below Qc XC args s mc ms free) g := by
  intro T hT X
  obtain ⟨t, a1, o, b1, b2, b3, b4⟩ := k T hT X
  exact ⟨t, a1, o, b1, b2, Or.inl ⟨b3, b4⟩⟩
/-- not caught here: it goes on to the caller -/
theorem vx_widen {g : JFrame} {q : Addr} {k n : Nat} (h1 : cells ≤ k) (h2 : slots ≤ n) (kk : vx_W p l e R s m args below meth c H locs k n Q g q) : vx_W p l e R s m args below meth c H locs cells slots Q g q := fun T hT X => kk T hT (stand_widen X h1 h2)
theorem vx_out {pc : Nat} {E : String} {ce : Cell} {q : Addr} {mc ms : Nat} (hout : ∀ x ∈ c.exceptionTable.toList, covers x pc = false) (hlocks : meth.locks = false) (hcell : H[q]? = some ce) (hv : ce.vm = .none) (hcl : s.vm.findClass E = some ce.cls)
    (hx : ∀ t : State, t.heap = H → s.vm.Alike t.vm → XC E s t) (hf : ∀ z ∈ locs, free z.base) (hc : cells ≤ mc) (hs : slots ≤ ms) :
    vx_W p l e R s m args below meth c H locs cells slots (vx_MQ below Qc XC args s mc ms free) (F0 m pc ls rest) q := by
  intro T hT X
  obtain ⟨st1, hrun, hend, hW, hsm⟩ := X.leaveThrown q (g := F0 m pc ls rest) rfl rfl rfl hout hlocks
  have hcell9 : (T.setFrames (.throwing q :: below)).heap[q]? = some ce := by
    show T.heap[q]? = some ce
    rw [hT]; exact hcell
  exact ⟨_, st1, .threw q, hrun, hend, Or.inr ⟨q, rfl, E, ce, locs, hx _ hT hW.alike, hcell9, hv, hcl, hW, hsm.mono hc hs, hf⟩⟩
theorem vx_frame {U : State} {k n : Nat} (h : s.sameButNew ({ U with vm := s.vm } : State) locs k n) : s.heap.size ≤ U.heap.size ∧ ∀ q : Nat, q < s.heap.size → (∀ z ∈ locs, z.base ≠ q) → U.heap[q]? = s.heap[q]? := by
  obtain ⟨-, h2, -, -, -, h6⟩ := h
  refine ⟨h2, fun q hq hz => ?_⟩
  obtain ⟨c9, e1, e2, e3, e4⟩ := h6 q _ (Array.getElem?_eq_getElem hq)
  have hs : c9.slots = (s.heap[q]).slots := Array.ext_getElem? fun i => e4 i fun hm => hz _ hm rfl
  have h9 : c9 = s.heap[q] := by
    rw [hs] at e2
    exact e2
  have e5 : U.heap[q]? = some c9 := e1
  rw [e5, h9, Array.getElem?_eq_getElem hq]
/-- the words of a throw but the four that speak of the heap -/
def vx_no (w : Cond) : Bool := decide (w ≠ .isRef (.static Bundle.tN "UNASSIGNED_STACK" Bundle.steD)) && decide (w ≠ .isRef (.static Bundle.tN "SUPPRESSED_SENTINEL" Bundle.listD)) && decide (w ≠ .laysStatic Bundle.tN "UNASSIGNED_STACK" Bundle.steD) && decide (w ≠ .laysStatic Bundle.tN "SUPPRESSED_SENTINEL" Bundle.listD)
def vx_at0 (own : String) (ic : Nat) (X : String) (names : List String) : List Cond := (Bundle.ownAtoms0 own ic X names).filter vx_no
def vx_atS (own : String) (ic : Nat) (X : String) (names : List String) : List Cond := (Bundle.ownAtoms own ic X names).filter vx_no
/-- a word that the tables alone decide, or a good one -/
def vx_ot (w : Cond) : Bool := w.onTables || goodWord w
theorem vx_ot_at {args a' : Array Value} {s U : State} {w : Cond} (hW : s.WarmedH U.vm) (hvm : s.vm = U.vm) (hg : vx_ot w = true) (h : w.before args s = true) : w.before a' U = true := by
  simp only [vx_ot, Bool.or_eq_true] at hg
  rcases hg with hg | hg
  · exact va_tabs hg hvm h
  · exact word_at hW (good_of_word hg) h
/-- a list's words: the good ones out of the method's own list, the others by premises of their own -/
theorem vx_hat {args : Array Value} {s : State} {L B : List Cond} (h1 : ∀ w ∈ L.filter goodWord, w.before args s = true) (h2 : ∀ w ∈ L.filter (fun w => !goodWord w), w ∈ B) (h3 : ∀ w ∈ B, w.before args s = true) : ∀ w ∈ L, w.before args s = true := by
  intro w hw
  by_cases g : goodWord w = true
  · exact h1 w (List.mem_filter.mpr ⟨hw, g⟩)
  · refine h3 w (h2 w (List.mem_filter.mpr ⟨hw, ?_⟩))
    show (!goodWord w) = true
    cases hgw : goodWord w
    · rfl
    · exact absurd hgw g
theorem vx_c {args : Array Value} {s : State} {w : Cond} {B : List Cond} (h : w.before args s = true) (t : ∀ w ∈ B, w.before args s = true) : ∀ w' ∈ w :: B, w'.before args s = true := fun w' h' => (List.mem_cons.mp h').elim (fun e => by rw [e]; exact h) (t w')
theorem vx_n {args : Array Value} {s : State} : ∀ w ∈ ([] : List Cond), w.before args s = true := fun _ h => nomatch h
theorem vx_own {args : Array Value} {s : State} {L : List Cond} (h1 : ∀ w ∈ L.filter vx_no, w.before args s = true)
    (hU : (Cond.isRef (.static Bundle.tN "UNASSIGNED_STACK" Bundle.steD)).before args s = true) (hN : (Cond.isRef (.static Bundle.tN "SUPPRESSED_SENTINEL" Bundle.listD)).before args s = true)
    (lU : (Cond.laysStatic Bundle.tN "UNASSIGNED_STACK" Bundle.steD).before args s = true) (lN : (Cond.laysStatic Bundle.tN "SUPPRESSED_SENTINEL" Bundle.listD).before args s = true) : ∀ w ∈ L, w.before args s = true := by
  intro w hw
  by_cases e1 : w = .isRef (.static Bundle.tN "UNASSIGNED_STACK" Bundle.steD)
  · rw [e1]; exact hU
  · by_cases e2 : w = .isRef (.static Bundle.tN "SUPPRESSED_SENTINEL" Bundle.listD)
    · rw [e2]; exact hN
    · by_cases e3 : w = .laysStatic Bundle.tN "UNASSIGNED_STACK" Bundle.steD
      · rw [e3]; exact lU
      · by_cases e4 : w = .laysStatic Bundle.tN "SUPPRESSED_SENTINEL" Bundle.listD
        · rw [e4]; exact lN
        · exact h1 w (List.mem_filter.mpr ⟨hw, by unfold vx_no; rw [decide_eq_true e1, decide_eq_true e2, decide_eq_true e3, decide_eq_true e4]; rfl⟩)
/-- where a static field lies, its class's statics cell in H -/
def vx_L (C n d : String) (A : Nat → Prop) (U : State) (H : Heap) : Prop := ∃ (c : ClassId) (k : Class) (i : Nat) (f : Field) (a : Nat) (cell : Cell), U.vm.findClass C = some c ∧ U.fieldFound? C n d = some (c, k, i, f) ∧ f.isStatic = true ∧ k.statics = some a ∧ H[a]? = some cell ∧ cell.vm.isStatics = true ∧ cell.cls = c ∧ f.slot < cell.slots.size ∧ k.staticTypes[f.slot]? = some f.type ∧ ¬ A a
theorem vx_L.moved {C n d : String} {A : Nat → Prop} {u U : State} {H : Heap} (hvm : u.vm.Alike U.vm) (h : vx_L C n d A u H) : vx_L C n d A U H := by
  obtain ⟨c, k, i, f, a, cell, h1, h2, h3, h4, h5, h6, h7, h8, h9, h10⟩ := h
  obtain ⟨k', hi', he⟩ := State.fieldFound?_setVm hvm h2
  exact ⟨c, k', i, f, a, cell, by rw [hvm.findClass]; exact h1, hi', h3, by rw [he]; exact h4, h5, h6, h7, h8, by rw [he]; exact h9, h10⟩
theorem vx_L.kept {C n d : String} {A : Nat → Prop} {U : State} {H H1 : Heap} (h : vx_L C n d A U H) (hq : ∀ a : Nat, a < H.size → ¬ A a → H1[a]? = H[a]?) : vx_L C n d A U H1 := by
  obtain ⟨c, k, i, f, a, cell, h1, h2, h3, h4, h5, h6, h7, h8, h9, h10⟩ := h
  exact ⟨c, k, i, f, a, cell, h1, h2, h3, h4, by rw [hq a (Array.getElem?_eq_some_iff.mp h5).1 h10]; exact h5, h6, h7, h8, h9, h10⟩
theorem vx_L.narrow {C n d : String} {A B : Nat → Prop} {U : State} {H : Heap} (h : vx_L C n d A U H) (hAB : ∀ q, B q → A q) : vx_L C n d B U H := by
  obtain ⟨c, k, i, f, a, cell, h1, h2, h3, h4, h5, h6, h7, h8, h9, h10⟩ := h
  exact ⟨c, k, i, f, a, cell, h1, h2, h3, h4, h5, h6, h7, h8, h9, fun z => h10 (hAB _ z)⟩
theorem vx_L.word {C n d : String} {A : Nat → Prop} {s : State} {args : Array Value} (h : vx_L C n d A s s.heap) : (Cond.laysStatic C n d).before args s = true := by
  obtain ⟨c, k, i, f, a, cell, h1, h2, h3, h4, h5, h6, h7, h8, h9, -⟩ := h
  show (Cond.laysStatic C n d).holds args s none s [] = true
  exact Cond.laysStatic_of h1 h2 h3 h4 h5 h6 h7 h8 h9
/-- .. and what it holds: null or some reference -/
def vx_Zq (C n d : String) (A : Nat → Prop) (U : State) (H : Heap) : Prop := va_Zq C n d A U H ∧ vx_L C n d A U H
theorem vx_Zq.moved {C n d : String} {A : Nat → Prop} {u U : State} {H : Heap} (hvm : u.vm.Alike U.vm) (h : vx_Zq C n d A u H) : vx_Zq C n d A U H := ⟨va_Zq.moved hvm h.1, vx_L.moved hvm h.2⟩
theorem vx_Zq.kept {C n d : String} {A : Nat → Prop} {U : State} {H H1 : Heap} (h : vx_Zq C n d A U H) (hq : ∀ a : Nat, a < H.size → ¬ A a → H1[a]? = H[a]?) : vx_Zq C n d A U H1 := ⟨va_Zq.kept h.1 hq, vx_L.kept h.2 hq⟩
theorem vx_Zq.narrow {C n d : String} {A B : Nat → Prop} {U : State} {H : Heap} (h : vx_Zq C n d A U H) (hAB : ∀ q, B q → A q) : vx_Zq C n d B U H := ⟨va_Zq.narrow h.1 hAB, vx_L.narrow h.2 hAB⟩
theorem vx_Zqof {args : Array Value} {s : State} {C n d : String} {A : Nat → Prop} (hl : (Cond.laysStatic C n d).before args s = true) (hini : (Cond.initialized C).before args s = true) (h : (Cond.isRef (.static C n d)).before args s = true) (hA : ∀ a : Nat, a < s.heap.size → ¬ A a) : vx_Zq C n d A s s.heap := by
  refine ⟨va_Zqof hl hini h hA, ?_⟩
  obtain ⟨c, k, i, f, a, cell, h1, h2, h3, h4, h5, h6, h7, h8, h9⟩ := Cond.laysStatic_spec hl
  exact ⟨c, k, i, f, a, cell, h1, h2, h3, h4, h5, h6, h7, h8, h9, hA a (Array.getElem?_eq_some_iff.mp h5).1⟩
theorem vx_isRef {C n d : String} {v : Value} {A : Nat → Prop} {s : State} {args : Array Value} (h : va_Z C n d v A s s.heap) (hv : v.isRef = true) : (Cond.isRef (.static C n d)).before args s = true := by
  obtain ⟨cf, kf, fi, f, a, cell, h1, h2, h3, h4, h5, h6, h7, -⟩ := h
  have he : (Term.static C n d).eval args s none [] s = some v := by
    simp [Term.eval, State.fieldNamed?, h1, h2, h4, h5, h6, h7]
  simp only [Cond.before, Cond.holds, Cond.value, he]
  cases v <;> simp_all [Value.isRef]
theorem vx_isRefq {C n d : String} {A : Nat → Prop} {s : State} {args : Array Value} (h : va_Zq C n d A s s.heap) : (Cond.isRef (.static C n d)).before args s = true := by
  rcases h with h | ⟨t, h⟩
  · exact vx_isRef h rfl
  · exact vx_isRef h rfl
/-- the same frame, seen from here: as if the method were called anew in this heap -/
theorem vx_rebase {T : State} (X : Stand p l e R s m args below meth c T locs cells slots) {R' : Room} (hf : R'.frames ≤ R.frames) (hl : R'.locals ≤ R.locals) (hc : cells + R'.cells ≤ R.cells) (hs : slots + R'.slots ≤ R.slots) :
    Stand p l e R' ((T.setVm s.vm).setFrames (.invoking m args :: below)) m args below meth c T [] 0 0 := by
  have htop : (T.setVm s.vm).topJava?.isSome := X.here.top
  have hF : ((T.setVm s.vm).setFrames (.invoking m args :: below)).frames = .invoking m args :: below := State.frames_setFrames _ (State.cur_lt_of_top htop)
  obtain ⟨g₀, hg0⟩ := Option.isSome_iff_exists.mp htop
  obtain ⟨r, hr⟩ := State.topJava?_eq_some.mp hg0
  have hl9 : e.platform.stackLimits (T.setVm s.vm).me = e.platform.stackLimits s.me := X.limits
  have hb9 : (T.setVm s.vm).me.stackBytes = s.me.stackBytes := X.bytes
  refine ⟨X.admits, X.cas, X.clock, hF, ?_, X.hears, X.method, X.code, X.here, X.tail, X.warmed, ?_, ?_, ?_⟩
  · have h := X.room
    have hU : ((T.setVm s.vm).setFrames (.invoking m args :: below)).localsInUse = s.localsInUse := by
      rw [State.localsInUse_invoking hF (meth := meth) (c := c) X.method X.code, State.localsInUse_invoking X.frames X.method X.code]
    simp only [State.hasRoom, Bool.and_eq_true, decide_eq_true_eq] at h ⊢
    obtain ⟨⟨⟨⟨h1, h2, h3, h4, h5, h6⟩, h7⟩, h8⟩, h9⟩ := h
    rw [X.frames, List.length_cons] at h2 h3
    have q1 := X.heapSize
    have q2 := X.used
    simp only [hF, hU, List.length_cons, State.stackLimits_setFrames, State.stackBytes_setFrames, hl9, hb9]
    refine ⟨⟨⟨⟨by omega, by omega, by omega, by omega, by omega, h6⟩, ?_⟩, ?_⟩, X.book⟩
    · show T.heap.size + R'.cells ≤ e.platform.maxCells
      omega
    · show T.slotsUsed + R'.slots ≤ e.platform.maxSlots
      omega
  · rw [State.stackLimits_setFrames]; rfl
  · rw [State.stackBytes_setFrames]; rfl
  · refine ⟨?_, Nat.le_refl _, Nat.le_refl _, ?_, ?_, fun a c9 h9 => ⟨c9, h9, rfl, rfl, fun _ _ => rfl⟩⟩
    · obtain ⟨t, ht, -⟩ := State.frames_cons hr
      show T.setVm s.vm = { ((T.setVm s.vm).setFrames (.invoking m args :: below)).setFrames (T.setVm s.vm).frames with heap := T.heap, slotsUsed := T.slotsUsed }
      rw [State.setFrames_setFrames, State.setFrames_self ht]
      rfl
    · show T.slotsUsed = T.slotsUsed + ((T.heap.toList.drop T.heap.size).map (·.slots.size)).sum
      rw [List.drop_eq_nil_of_le (Nat.le_of_eq Array.length_toList)]
      rfl
    · show ((T.heap.toList.drop T.heap.size).map (·.slots.size)).sum ≤ 0
      rw [List.drop_eq_nil_of_le (Nat.le_of_eq Array.length_toList)]
      exact Nat.le_refl _
/-- 'throw new E()': new; dup; invokespecial; athrow -/
theorem vx_throw0 {cc : ByteArray} {pc : Nat} (hexec : p.tables.exec = Jvm.exec) (hb : c.code = cc) (hl : l.stackTraces = false) {own cls : String} {names : List String} {ik ic mc ms : Nat} {A : Nat → Prop}
    (hown : s.vm.findClass own = some m.cls) (hcls : Bundle.fit cls = true) (hnames : ∀ n ∈ names, Bundle.fit n = true)
    (hk : (Cond.classLink own ik cls).before args s = true) (hini : (Cond.initialized cls).before args s = true) (hat : ∀ w ∈ vx_at0 own ic cls names, w.before args s = true)
    (hgood : ∀ w ∈ Cond.classLink own ik cls :: Cond.initialized cls :: vx_at0 own ic cls names, vx_ot w = true)
    (hU : vx_Zq Bundle.tN "UNASSIGNED_STACK" Bundle.steD A s s.heap) (hN : vx_Zq Bundle.tN "SUPPRESSED_SENTINEL" Bundle.listD A s s.heap) (hS : va_S A s.heap H locs) (hsize : ls.size = c.maxLocals)
    (d0 : decode cc pc = .ok (.new ik, 3)) (d3 : decode cc (pc + 3) = .ok (.dup, 1)) (d4 : decode cc (pc + 4) = .ok (.invokespecial ic, 3)) (d7 : decode cc (pc + 7) = .ok (.athrow, 1))
    (hout : ∀ x ∈ c.exceptionTable.toList, covers x (pc + 7) = false)
    (hRframes : names.length + 3 < R.frames) (hRlocals : (rest.map fun v => v.category).sum + (13 * (names.length + 1) + 42) ≤ R.locals) (hRcells : cells + 1 ≤ R.cells) (hRslots : slots + 6 ≤ R.slots) (hlocks : meth.locks = false)
    (hx : ∀ t : State, s.vm.Alike t.vm → H.size ≤ t.heap.size → (∀ q : Nat, q < H.size → t.heap[q]? = H[q]?) → XC cls s t)
    (hf : ∀ z ∈ locs, free z.base) (hc : cells + 1 ≤ mc) (hs : slots + 6 ≤ ms) :
    W p l e R s m args below meth c H locs cells slots (vx_MQ below Qc XC args s mc ms free) (F0 m pc ls rest) := by
  intro T hT X
  have htr : e.platform.stackTraces = false := (show e.platform.stackTraces = l.stackTraces by rw [X.admits.platform]).trans hl
  have Y := vx_rebase X (R' := { frames := R.frames, locals := R.locals, cells := 1, slots := 6 }) (Nat.le_refl _) (Nat.le_refl _) hRcells hRslots
  obtain ⟨s', hA⟩ : ∃ z, z = (T.setVm s.vm).setFrames (.invoking m args :: below) := ⟨_, rfl⟩
  rw [← hA] at Y
  have hvm : s'.vm = s.vm := by rw [hA]; rfl
  have hhp : s'.heap = H := by rw [hA]; exact hT
  have hW0 : s.WarmedH s'.vm := by rw [hvm]; exact State.WarmedH.refl s
  have hat' : ∀ w ∈ vx_at0 own ic cls names, w.before args s' = true := fun w hw => vx_ot_at hW0 hvm.symm (hgood w (List.mem_cons_of_mem _ (List.mem_cons_of_mem _ hw))) (hat w hw)
  have hk' : (Cond.classLink own ik cls).before args s' = true := vx_ot_at hW0 hvm.symm (hgood _ List.mem_cons_self) hk
  have hini' : (Cond.initialized cls).before args s' = true := vx_ot_at hW0 hvm.symm (hgood _ (List.mem_cons_of_mem _ List.mem_cons_self)) hini
  have hU' : vx_Zq Bundle.tN "UNASSIGNED_STACK" Bundle.steD A s' s'.heap := by rw [hhp]; exact vx_Zq.moved hW0.alike (hU.kept hS.2.1)
  have hN' : vx_Zq Bundle.tN "SUPPRESSED_SENTINEL" Bundle.listD A s' s'.heap := by rw [hhp]; exact vx_Zq.moved hW0.alike (hN.kept hS.2.1)
  have h : ∀ w ∈ Bundle.ownAtoms0 own ic cls names, w.before args s' = true := vx_own hat' (vx_isRefq hU'.1) (vx_isRefq hN'.1) hU'.2.word hN'.2.word
  have hown' : s'.vm.findClass own = some m.cls := by rw [hvm]; exact hown
  have hins : (Cond.instantiable cls 6).before args s' = true := h _ (by simp [Bundle.ownAtoms0])
  obtain ⟨vm₁, cX, kX, hfX, hkX, -, -, X₁, st1⟩ := Y.newCold hexec (own := own) (C := cls) (index := ik) (n := 6) hown' hk' hins hini'
    (g := F0 m pc ls rest) rfl (by rw [hb]; exact d0) (Nat.le_refl _) (Nat.le_refl _)
  generalize hT1 : (T.setVm vm₁).pushCell { cls := cX, slots := kX.instanceTypes.map defaultValue, vm := .none } = T1 at X₁ st1
  have hcat : (Value.ref T.heap.size).category = 1 := rfl
  have hcellA : T1.heap[T.heap.size]? = some (freshCell cX kX) := by rw [← hT1]; exact State.heap_pushCell_size _ _
  have d3' : decode c.code (pc + 3) = .ok (.dup, 1) := by rw [hb]; exact d3
  obtain ⟨U, hsteps, hrun, hend, hW, hsame, ce, hce, hO⟩ := X₁.ctorThrow0 hexec htr (own := own) (cls := cls) (names := names) (ic := ic) hown' hcls hnames h (fun x hx => nomatch hx) hfX hkX hcellA (by rw [hhp, hT]; exact Nat.le_refl _)
    (g := { method := m, pc := pc + 4, locals := ls, stack := .ref T.heap.size :: .ref T.heap.size :: rest, locked := none }) rfl hsize rfl rfl (rest := rest) rfl
    (by rw [hb]; exact d4) (by rw [hb]; exact d7) hout hRframes (by simp only [List.map_cons, List.sum_cons, hcat]; omega) hlocks
  obtain ⟨f1, f2⟩ := vx_frame hsame
  rw [hhp] at f1 f2
  have hWs : s.WarmedH U.vm := State.WarmedH.trans hW0 hW
  have hcl : s.vm.findClass cls = some ce.cls := by
    have h9 := hO.cls
    rw [hvm] at h9
    exact h9
  have hall : s.sameButNew ({ U with vm := s.vm } : State) locs mc ms := by
    subst hA
    obtain ⟨e1, e2⟩ := hsame
    rw [State.setFrames_setFrames] at e1
    have h2 : (T.setVm s.vm).sameButNew ({ U with vm := s.vm } : State) [] (0 + 1) (0 + 6) := ⟨e1, e2⟩
    have h3 := X.same.trans h2
    rw [List.append_nil] at h3
    exact h3.mono hc hs
  refine ⟨U, ?_, .threw T.heap.size, hrun, hend, Or.inr ⟨T.heap.size, rfl, cls, ce, locs, hx U hWs.alike f1 (fun q hq => f2 q hq (fun z hz => nomatch hz)), hce, hO.vm, hcl, hWs, hall, hf⟩⟩
  refine st1 _ ?_
  show Steps p.tables e below (T1.setTop { method := m, pc := pc + 3, locals := ls, stack := .ref T.heap.size :: rest, locked := none }) _
  jvm_step X₁.here [X₁.here.top, hexec, d3', Value.category]
  exact hsteps
/-- 'throw new E("text")': new; dup; ldc; invokespecial; athrow -/
theorem vx_throwS {cc : ByteArray} {pc : Nat} (hexec : p.tables.exec = Jvm.exec) (hb : c.code = cc) (hl : l.stackTraces = false) {own cls text : String} {names : List String} {ik is ic mc ms sa : Nat} {A : Nat → Prop}
    (hown : s.vm.findClass own = some m.cls) (hcls : Bundle.fit cls = true) (hnames : ∀ n ∈ names, Bundle.fit n = true)
    (hk : (Cond.classLink own ik cls).before args s = true) (hini : (Cond.initialized cls).before args s = true) (hstr : vk_R own is text sa s) (hat : ∀ w ∈ vx_atS own ic cls names, w.before args s = true)
    (hgood : ∀ w ∈ Cond.classLink own ik cls :: Cond.initialized cls :: vx_atS own ic cls names, vx_ot w = true)
    (hU : vx_Zq Bundle.tN "UNASSIGNED_STACK" Bundle.steD A s s.heap) (hN : vx_Zq Bundle.tN "SUPPRESSED_SENTINEL" Bundle.listD A s s.heap) (hS : va_S A s.heap H locs) (hsize : ls.size = c.maxLocals)
    (d0 : decode cc pc = .ok (.new ik, 3)) (d3 : decode cc (pc + 3) = .ok (.dup, 1)) (d4 : decode cc (pc + 4) = .ok (.ldc is, 2)) (d6 : decode cc (pc + 6) = .ok (.invokespecial ic, 3)) (d9 : decode cc (pc + 9) = .ok (.athrow, 1))
    (hout : ∀ x ∈ c.exceptionTable.toList, covers x (pc + 9) = false)
    (hRframes : names.length + 3 < R.frames) (hRlocals : (rest.map fun v => v.category).sum + (13 * (names.length + 1) + 43) ≤ R.locals) (hRcells : cells + 1 ≤ R.cells) (hRslots : slots + 6 ≤ R.slots) (hlocks : meth.locks = false)
    (hx : ∀ t : State, s.vm.Alike t.vm → H.size ≤ t.heap.size → (∀ q : Nat, q < H.size → t.heap[q]? = H[q]?) → XC cls s t)
    (hf : ∀ z ∈ locs, free z.base) (hc : cells + 1 ≤ mc) (hs : slots + 6 ≤ ms) :
    W p l e R s m args below meth c H locs cells slots (vx_MQ below Qc XC args s mc ms free) (F0 m pc ls rest) := by
  intro T hT X
  have htr : e.platform.stackTraces = false := (show e.platform.stackTraces = l.stackTraces by rw [X.admits.platform]).trans hl
  have Y := vx_rebase X (R' := { frames := R.frames, locals := R.locals, cells := 1, slots := 6 }) (Nat.le_refl _) (Nat.le_refl _) hRcells hRslots
  obtain ⟨s', hA⟩ : ∃ z, z = (T.setVm s.vm).setFrames (.invoking m args :: below) := ⟨_, rfl⟩
  rw [← hA] at Y
  have hvm : s'.vm = s.vm := by rw [hA]; rfl
  have hhp : s'.heap = H := by rw [hA]; exact hT
  have hW0 : s.WarmedH s'.vm := by rw [hvm]; exact State.WarmedH.refl s
  have hat' : ∀ w ∈ vx_atS own ic cls names, w.before args s' = true := fun w hw => vx_ot_at hW0 hvm.symm (hgood w (List.mem_cons_of_mem _ (List.mem_cons_of_mem _ hw))) (hat w hw)
  have hk' : (Cond.classLink own ik cls).before args s' = true := vx_ot_at hW0 hvm.symm (hgood _ List.mem_cons_self) hk
  have hini' : (Cond.initialized cls).before args s' = true := vx_ot_at hW0 hvm.symm (hgood _ (List.mem_cons_of_mem _ List.mem_cons_self)) hini
  have hU' : vx_Zq Bundle.tN "UNASSIGNED_STACK" Bundle.steD A s' s'.heap := by rw [hhp]; exact vx_Zq.moved hW0.alike (hU.kept hS.2.1)
  have hN' : vx_Zq Bundle.tN "SUPPRESSED_SENTINEL" Bundle.listD A s' s'.heap := by rw [hhp]; exact vx_Zq.moved hW0.alike (hN.kept hS.2.1)
  have h : ∀ w ∈ Bundle.ownAtoms own ic cls names, w.before args s' = true := vx_own hat' (vx_isRefq hU'.1) (vx_isRefq hN'.1) hU'.2.word hN'.2.word
  have hown' : s'.vm.findClass own = some m.cls := by rw [hvm]; exact hown
  have hins : (Cond.instantiable cls 6).before args s' = true := h _ (by simp [Bundle.ownAtoms])
  obtain ⟨vm₁, cX, kX, hfX, hkX, -, -, X₁, st1⟩ := Y.newCold hexec (own := own) (C := cls) (index := ik) (n := 6) hown' hk' hins hini'
    (g := F0 m pc ls rest) rfl (by rw [hb]; exact d0) (Nat.le_refl _) (Nat.le_refl _)
  generalize hT1 : (T.setVm vm₁).pushCell { cls := cX, slots := kX.instanceTypes.map defaultValue, vm := .none } = T1 at X₁ st1
  have hcat : (Value.ref T.heap.size).category = 1 := rfl
  have hcellA : T1.heap[T.heap.size]? = some (freshCell cX kX) := by rw [← hT1]; exact State.heap_pushCell_size _ _
  have d3' : decode c.code (pc + 3) = .ok (.dup, 1) := by rw [hb]; exact d3
  have d4' : decode c.code (pc + 4) = .ok (.ldc is, 2) := by rw [hb]; exact d4
  have hstr' : vk_R own is text sa s' := vk_R.warm hW0 hstr
  obtain ⟨U, hsteps, hrun, hend, hW, hsame, ce, hce, hO⟩ := X₁.ctorThrowS hexec htr (own := own) (cls := cls) (names := names) (ic := ic) hown' hcls hnames h (fun x hx => nomatch hx) hfX hkX hcellA (by rw [hhp, hT]; exact Nat.le_refl _) (msg := .ref sa) rfl
    (g := { method := m, pc := pc + 6, locals := ls, stack := .ref sa :: .ref T.heap.size :: .ref T.heap.size :: rest, locked := none }) rfl hsize rfl rfl (rest := rest) rfl
    (by rw [hb]; exact d6) (by rw [hb]; exact d9) hout hRframes (by simp only [List.map_cons, List.sum_cons, hcat]; omega) hlocks
  obtain ⟨f1, f2⟩ := vx_frame hsame
  rw [hhp] at f1 f2
  have hWs : s.WarmedH U.vm := State.WarmedH.trans hW0 hW
  have hcl : s.vm.findClass cls = some ce.cls := by
    have h9 := hO.cls
    rw [hvm] at h9
    exact h9
  have hall : s.sameButNew ({ U with vm := s.vm } : State) locs mc ms := by
    subst hA
    obtain ⟨e1, e2⟩ := hsame
    rw [State.setFrames_setFrames] at e1
    have h2 : (T.setVm s.vm).sameButNew ({ U with vm := s.vm } : State) [] (0 + 1) (0 + 6) := ⟨e1, e2⟩
    have h3 := X.same.trans h2
    rw [List.append_nil] at h3
    exact h3.mono hc hs
  refine ⟨U, ?_, .threw T.heap.size, hrun, hend, Or.inr ⟨T.heap.size, rfl, cls, ce, locs, hx U hWs.alike f1 (fun q hq => f2 q hq (fun z hz => nomatch hz)), hce, hO.vm, hcl, hWs, hall, hf⟩⟩
  refine st1 _ ?_
  show Steps p.tables e below (T1.setTop { method := m, pc := pc + 3, locals := ls, stack := .ref T.heap.size :: rest, locked := none }) _
  jvm_step X₁.here [X₁.here.top, hexec, d3', Value.category]
  exact X₁.ldcString hexec (own := own) (text := text) (index := is) (a := sa) hown' hstr'.1 hstr'.2
    (g := { method := m, pc := pc + 4, locals := ls, stack := .ref T.heap.size :: .ref T.heap.size :: rest, locked := none }) rfl d4' _ hsteps
/-- 'throw new E("text")', the text by a wide index -/
theorem vx_throwSW {cc : ByteArray} {pc : Nat} (hexec : p.tables.exec = Jvm.exec) (hb : c.code = cc) (hl : l.stackTraces = false) {own cls text : String} {names : List String} {ik is ic mc ms sa : Nat} {A : Nat → Prop}
    (hown : s.vm.findClass own = some m.cls) (hcls : Bundle.fit cls = true) (hnames : ∀ n ∈ names, Bundle.fit n = true)
    (hk : (Cond.classLink own ik cls).before args s = true) (hini : (Cond.initialized cls).before args s = true) (hstr : vk_R own is text sa s) (hat : ∀ w ∈ vx_atS own ic cls names, w.before args s = true)
    (hgood : ∀ w ∈ Cond.classLink own ik cls :: Cond.initialized cls :: vx_atS own ic cls names, vx_ot w = true)
    (hU : vx_Zq Bundle.tN "UNASSIGNED_STACK" Bundle.steD A s s.heap) (hN : vx_Zq Bundle.tN "SUPPRESSED_SENTINEL" Bundle.listD A s s.heap) (hS : va_S A s.heap H locs) (hsize : ls.size = c.maxLocals)
    (d0 : decode cc pc = .ok (.new ik, 3)) (d3 : decode cc (pc + 3) = .ok (.dup, 1)) (d4 : decode cc (pc + 4) = .ok (.ldc_w is, 3)) (d7 : decode cc (pc + 7) = .ok (.invokespecial ic, 3)) (d10 : decode cc (pc + 10) = .ok (.athrow, 1))
    (hout : ∀ x ∈ c.exceptionTable.toList, covers x (pc + 10) = false)
    (hRframes : names.length + 3 < R.frames) (hRlocals : (rest.map fun v => v.category).sum + (13 * (names.length + 1) + 43) ≤ R.locals) (hRcells : cells + 1 ≤ R.cells) (hRslots : slots + 6 ≤ R.slots) (hlocks : meth.locks = false)
    (hx : ∀ t : State, s.vm.Alike t.vm → H.size ≤ t.heap.size → (∀ q : Nat, q < H.size → t.heap[q]? = H[q]?) → XC cls s t)
    (hf : ∀ z ∈ locs, free z.base) (hc : cells + 1 ≤ mc) (hs : slots + 6 ≤ ms) :
    W p l e R s m args below meth c H locs cells slots (vx_MQ below Qc XC args s mc ms free) (F0 m pc ls rest) := by
  intro T hT X
  have htr : e.platform.stackTraces = false := (show e.platform.stackTraces = l.stackTraces by rw [X.admits.platform]).trans hl
  have Y := vx_rebase X (R' := { frames := R.frames, locals := R.locals, cells := 1, slots := 6 }) (Nat.le_refl _) (Nat.le_refl _) hRcells hRslots
  obtain ⟨s', hA⟩ : ∃ z, z = (T.setVm s.vm).setFrames (.invoking m args :: below) := ⟨_, rfl⟩
  rw [← hA] at Y
  have hvm : s'.vm = s.vm := by rw [hA]; rfl
  have hhp : s'.heap = H := by rw [hA]; exact hT
  have hW0 : s.WarmedH s'.vm := by rw [hvm]; exact State.WarmedH.refl s
  have hat' : ∀ w ∈ vx_atS own ic cls names, w.before args s' = true := fun w hw => vx_ot_at hW0 hvm.symm (hgood w (List.mem_cons_of_mem _ (List.mem_cons_of_mem _ hw))) (hat w hw)
  have hk' : (Cond.classLink own ik cls).before args s' = true := vx_ot_at hW0 hvm.symm (hgood _ List.mem_cons_self) hk
  have hini' : (Cond.initialized cls).before args s' = true := vx_ot_at hW0 hvm.symm (hgood _ (List.mem_cons_of_mem _ List.mem_cons_self)) hini
  have hU' : vx_Zq Bundle.tN "UNASSIGNED_STACK" Bundle.steD A s' s'.heap := by rw [hhp]; exact vx_Zq.moved hW0.alike (hU.kept hS.2.1)
  have hN' : vx_Zq Bundle.tN "SUPPRESSED_SENTINEL" Bundle.listD A s' s'.heap := by rw [hhp]; exact vx_Zq.moved hW0.alike (hN.kept hS.2.1)
  have h : ∀ w ∈ Bundle.ownAtoms own ic cls names, w.before args s' = true := vx_own hat' (vx_isRefq hU'.1) (vx_isRefq hN'.1) hU'.2.word hN'.2.word
  have hown' : s'.vm.findClass own = some m.cls := by rw [hvm]; exact hown
  have hins : (Cond.instantiable cls 6).before args s' = true := h _ (by simp [Bundle.ownAtoms])
  obtain ⟨vm₁, cX, kX, hfX, hkX, -, -, X₁, st1⟩ := Y.newCold hexec (own := own) (C := cls) (index := ik) (n := 6) hown' hk' hins hini'
    (g := F0 m pc ls rest) rfl (by rw [hb]; exact d0) (Nat.le_refl _) (Nat.le_refl _)
  generalize hT1 : (T.setVm vm₁).pushCell { cls := cX, slots := kX.instanceTypes.map defaultValue, vm := .none } = T1 at X₁ st1
  have hcat : (Value.ref T.heap.size).category = 1 := rfl
  have hcellA : T1.heap[T.heap.size]? = some (freshCell cX kX) := by rw [← hT1]; exact State.heap_pushCell_size _ _
  have d3' : decode c.code (pc + 3) = .ok (.dup, 1) := by rw [hb]; exact d3
  have d4' : decode c.code (pc + 4) = .ok (.ldc_w is, 3) := by rw [hb]; exact d4
  have hstr' : vk_R own is text sa s' := vk_R.warm hW0 hstr
  obtain ⟨U, hsteps, hrun, hend, hW, hsame, ce, hce, hO⟩ := X₁.ctorThrowS hexec htr (own := own) (cls := cls) (names := names) (ic := ic) hown' hcls hnames h (fun x hx => nomatch hx) hfX hkX hcellA (by rw [hhp, hT]; exact Nat.le_refl _) (msg := .ref sa) rfl
    (g := { method := m, pc := pc + 7, locals := ls, stack := .ref sa :: .ref T.heap.size :: .ref T.heap.size :: rest, locked := none }) rfl hsize rfl rfl (rest := rest) rfl
    (by rw [hb]; exact d7) (by rw [hb]; exact d10) hout hRframes (by simp only [List.map_cons, List.sum_cons, hcat]; omega) hlocks
  obtain ⟨f1, f2⟩ := vx_frame hsame
  rw [hhp] at f1 f2
  have hWs : s.WarmedH U.vm := State.WarmedH.trans hW0 hW
  have hcl : s.vm.findClass cls = some ce.cls := by
    have h9 := hO.cls
    rw [hvm] at h9
    exact h9
  have hall : s.sameButNew ({ U with vm := s.vm } : State) locs mc ms := by
    subst hA
    obtain ⟨e1, e2⟩ := hsame
    rw [State.setFrames_setFrames] at e1
    have h2 : (T.setVm s.vm).sameButNew ({ U with vm := s.vm } : State) [] (0 + 1) (0 + 6) := ⟨e1, e2⟩
    have h3 := X.same.trans h2
    rw [List.append_nil] at h3
    exact h3.mono hc hs
  refine ⟨U, ?_, .threw T.heap.size, hrun, hend, Or.inr ⟨T.heap.size, rfl, cls, ce, locs, hx U hWs.alike f1 (fun q hq => f2 q hq (fun z hz => nomatch hz)), hce, hO.vm, hcl, hWs, hall, hf⟩⟩
  refine st1 _ ?_
  show Steps p.tables e below (T1.setTop { method := m, pc := pc + 3, locals := ls, stack := .ref T.heap.size :: rest, locked := none }) _
  jvm_step X₁.here [X₁.here.top, hexec, d3', Value.category]
  exact X₁.ldcStringW hexec (own := own) (text := text) (index := is) (a := sa) hown' hstr'.1 hstr'.2
    (g := { method := m, pc := pc + 4, locals := ls, stack := .ref T.heap.size :: .ref T.heap.size :: rest, locked := none }) rfl d4' _ hsteps
end Ends
section Bodies
variable {l : Launch}
theorem vx_ofW {y : MethodName} {ws ws' : List Cond} {rm : Room} {Pc : Array Value → State → Prop} {Qc : Array Value → State → Outcome → State → Prop} {XC : String → State → State → Prop} {mc ms : Nat} {free : Addr → Prop} {cc : ByteArray} {maxL : Nat} {ret : Option FieldType}
    (hy : plainName y.cls = true) (hw : ws = Cond.code y cc maxL ret :: ws')
    (body : ∀ p e s m args below meth c s₁, BodyLoose p l y (headSpec ws rm) cc maxL ret e s m args below meth c s₁ → c.maxLocals = maxL → (∀ x ∈ c.exceptionTable.toList, False) → Pc args s →
      W p l e (headSpec ws rm).room s m args below meth c s.heap [] 0 0 (vx_MQ below Qc XC args s mc ms free) (entryFrame m args maxL)) : vx_Met l y ws rm Pc Qc XC mc ms free := by
  refine MetFree.of_bodyS (code := cc) (maxLocals := maxL) (ret := ret) hy ?_ ?_
  · intro args s m h hn
    obtain ⟨meth, c, h1, h2, h3, h4, h5, h6, -, -⟩ := Cond.code_spec hn (atoms_spec (ws := ws) h _ (by rw [hw]; exact List.mem_cons_self))
    exact ⟨meth, c, h1, h2, h3, h4, h5, h6⟩
  · intro p e s m args below meth c s₁ B hml hP _
    have hh0 : s₁.heap = s.heap := by rw [B.state]; rfl
    have ht : ∀ x ∈ c.exceptionTable.toList, False := by
      obtain ⟨meth9, c9, h1, h2, -, -, -, -, h7, -⟩ := Cond.code_spec B.named (atoms_spec (ws := ws) B.pre _ (by rw [hw]; exact List.mem_cons_self))
      cases Option.some.inj (h1.symm.trans B.method)
      cases Option.some.inj (h2.symm.trans (Stand.of_body B).code)
      intro x hx
      rw [Array.isEmpty_iff.mp h7] at hx
      cases hx
    obtain ⟨t, a1, o, b1, b2, b3⟩ := body p e s m args below meth c s₁ B hml ht hP s₁ hh0 (Stand.of_body B)
    exact ⟨t, o, a1, b1, b2, b3⟩
/-- the table of a body with handlers -/
theorem vx_table {p : Program} {x y : MethodName} {S : Spec} {cc bytes : ByteArray} {maxL maxL' : Nat} {ret ret' : Option FieldType} {e : Env} {s s₁ : State} {m : MethodId} {args : Array Value} {below : List Frame} {meth : Method} {c : Code} {hh : List (Nat × Nat × Nat × Nat)}
    (B : BodyLoose p l y S cc maxL ret e s m args below meth c s₁) (h : (Cond.codeWith y bytes maxL' ret' hh).before args s = true) : c.exceptionTable.toList = tableOf hh := by
  obtain ⟨m9, meth9, c9, hn9, h1, h2, -, -, h6, -⟩ := Cond.codeWith_spec h
  cases Option.some.inj (hn9.symm.trans B.named)
  cases Option.some.inj (h1.symm.trans B.method)
  cases Option.some.inj (h2.symm.trans (Stand.of_body B).code)
  rw [← h6, table_eq]
end Bodies
end VXA
/-! ===== END ===== -/
/-! ===== BEGIN a static call of a method with an exception table ===== -/
section VXS
variable {p : Program} {l : Launch} {e : Env} {R : Room} {s : State} {m : MethodId} {args : Array Value} {below : List Frame} {meth : Method} {c : Code} {T : State} {H : Heap} {locs : List Loc} {cells slots : Nat}
abbrev vx_CSW (R : Room) (s : State) (args : Array Value) (own : String) (index : Nat) (y : MethodName) (bytes : ByteArray) (maxL : Nat) (ret : Option FieldType) (hh : List (Nat × Nat × Nat × Nat)) (ws : List Cond) (rm : Room) (mc ms n : Nat) : Prop :=
  (rm.cells = mc ∧ rm.slots = ms ∧ rm.frames + 1 ≤ R.frames ∧ 8 + (maxL + 11) + rm.locals ≤ R.locals ∧ (∀ w ∈ ws, ∀ (a' : Array Value) (U : State), s.WarmedH U.vm → w.before a' U = true) ∧ Cond.codeWith y bytes maxL ret hh ∈ ws) ∧
  (Cond.codeWith y bytes maxL ret hh).before args s = true ∧ (Cond.initialized y.cls).before args s = true ∧ (y.cls ≠ "java/lang/invoke/MethodHandle" ∧ y.cls ≠ "java/lang/invoke/VarHandle") ∧
  (∀ sig, parseMethodDescriptor y.desc = some sig → n = sig.parameters.length) ∧ (Cond.methodLink own index y).before args s = true ∧ (Cond.static y).before args s = true
theorem vx_cwSW {own : String} {index maxL mc ms : Nat} {y : MethodName} {bytes : ByteArray} {ret : Option FieldType} {hh : List (Nat × Nat × Nat × Nat)} {Ts ws ws' : List Cond} {rm : Room} (n : Nat) (ht : ∀ w ∈ Ts, w.before args s = true) (hT : GoodIn Ts (va_wsS own index y ws)) (hw : ws = Cond.codeWith y bytes maxL ret hh :: ws') (hrc : rm.cells = mc) (hrs : rm.slots = ms)
    (hd : y.cls ≠ "java/lang/invoke/MethodHandle" ∧ y.cls ≠ "java/lang/invoke/VarHandle" ∧ (parseMethodDescriptor y.desc).map (fun d => d.parameters.length) = some n) (hR : rm.frames + 1 ≤ R.frames ∧ 8 + (maxL + 11) + rm.locals ≤ R.locals) :
    vx_CSW R s args own index y bytes maxL ret hh ws rm mc ms n := by
  have ok : ∀ w ∈ va_wsS own index y ws, w.before args s = true := fun w h => ht w (hT w h).1
  have hG : GoodIn Ts ws := fun w h => hT w (by unfold va_wsS; exact List.mem_append_right _ h)
  have hc : Cond.codeWith y bytes maxL ret hh ∈ ws := by rw [hw]; exact List.mem_cons_self
  refine ⟨⟨hrc, hrs, hR.1, hR.2, pay_in ht hG, hc⟩, ht _ (hG _ hc).1, ok _ (by simp [va_wsS]), ⟨hd.1, hd.2.1⟩, fun sig h => ?_, ok _ (by simp [va_wsS]), ok _ (by simp [va_wsS])⟩
  have h2 := hd.2.2
  rw [h] at h2
  exact (Option.some.inj h2).symm
theorem vx_callSW (X : Stand p l e R s m args below meth c T locs cells slots) (hexec : p.tables.exec = Jvm.exec) {own : String} {index : Nat} {y : MethodName} {bytes : ByteArray} {maxL : Nat} {ret : Option FieldType} {hh : List (Nat × Nat × Nat × Nat)}
    (hown : s.vm.findClass own = some m.cls) (hlink : (Cond.methodLink own index y).before args s = true) (hstat : (Cond.static y).before args s = true) (hinit : (Cond.initialized y.cls).before args s = true)
    (hcode : (Cond.codeWith y bytes maxL ret hh).before args s = true) (hy : y.cls ≠ "java/lang/invoke/MethodHandle" ∧ y.cls ≠ "java/lang/invoke/VarHandle")
    {W9 : Nat} {Pre : Pt → Array Value → Prop} {Post : Pt → Array Value → Option Value → Pt → Prop} (hK : Back l R p e below s args y 3 W9 Pre Post)
    {g : JFrame} (hg : g.method = m) (hsize : g.locals.size = c.maxLocals) {argsL rest : List Value} (hlen : ∀ sig, parseMethodDescriptor y.desc = some sig → argsL.length = sig.parameters.length)
    (hstack : g.stack = argsL.reverse ++ rest) (hW : 2 * g.monitorRoom + (rest.map fun v => v.category).sum ≤ W9) (hdg : decode c.code g.pc = .ok (.invokestatic index, 3))
    (hpre : ∀ vm₁, s.WarmedH vm₁ → Pre ⟨T.setVm vm₁, locs, cells, slots⟩ argsL.toArray) :
    ∃ (v : Option Value) (vm₁ : Vm) (B : Pt), s.WarmedH vm₁ ∧ Stand p l e R s m args below meth c B.U B.locs B.cells B.slots ∧ Post ⟨T.setVm vm₁, locs, cells, slots⟩ argsL.toArray v B ∧
      ∀ target, Steps p.tables e below (B.U.setTop { g with pc := g.pc + 3, stack := v.toList ++ rest }) target → Steps p.tables e below (T.setTop g) target := by
  obtain ⟨mk, methM, cM, hnamed, hmethM, -, -, -, -, -, -, hsigM⟩ := Cond.codeWith_spec hcode
  have hstatic : methM.isStatic = true := Cond.static_spec hnamed hmethM hstat
  obtain ⟨kP, hkP, -⟩ := className_of_methodNamed hnamed
  have hinitP : kP.init = .initialized := Cond.initialized_spec (findClass_of_methodNamed hnamed) hkP hinit
  obtain ⟨vm₁, X₁, hstep₁⟩ := X.invokestatic hexec hown hlink hnamed hmethM hstatic hkP hinitP hy (g := g) hg (argsL := argsL) (rest := rest) (hlen _ hsigM) hstack hdg
  obtain ⟨v, B, X', hpost, hsteps⟩ := hK m meth c ⟨T.setVm vm₁, locs, cells, slots⟩ { g with stack := rest } (.invokestatic index) mk argsL.toArray X₁ hg hsize hdg hW (X₁.named hnamed) (hpre vm₁ X₁.warmed)
  exact ⟨v, vm₁, B, X₁.warmed, X', hpost, fun target h => hstep₁ _ fun acts => by rw [doInvoke_state]; exact hsteps.trans h⟩
theorem vx_runSW {y : MethodName} {bytes cc : ByteArray} {maxL nL mc ms n index : Nat} {ret : Option FieldType} {hh : List (Nat × Nat × Nat × Nat)} {ws : List Cond} {rm : Room} {Pc : Array Value → State → Prop} {Qc : Array Value → State → Outcome → State → Prop} {free : Addr → Prop} {Ts : List Cond} {own : String} {As rest : List Value} {g : JFrame}
    (S : CallFix p m c cc nL s args Ts own) (hM : Met l y ws rm Pc Qc mc ms free) (cw : vx_CSW R s args own index y bytes maxL ret hh ws rm mc ms n) (hp : PreS s H Pc As)
    (hg : g.method = m) (hn : As.length = n) (hsize : g.locals.size = nL) (hstack : g.stack = As.reverse ++ rest) (hW : 2 * g.monitorRoom + (rest.map fun v => v.category).sum ≤ 8) (hdg : decode cc g.pc = .ok (.invokestatic index, 3)) (hf : cells + mc ≤ R.cells ∧ slots + ms ≤ R.slots) :
    va_Run p l e R s m args below meth c H locs cells slots mc ms g rest (Qc As.toArray) (free) := by
  obtain ⟨⟨hrc, hrs, hfr, hlo, hws, hcw⟩, hcode, hini, hy, hlen, hl, hstt⟩ := cw
  have hK : Back l R p e below s args y 3 8 (PreOf R mc ms Pc) (PostOf Qc mc ms free) := va_backW (hh := hh) (bytes := bytes) (maxL := maxL) (ret := ret) hM hp.1 hrc hrs hfr hlo hws hcw (fun a' U hW => word_at hW (Or.inl (by first | rfl | simp [Cond.onTables, Cond.keeps, Cond.steady])) hini)
  obtain ⟨hx, hb, hml, ho, -⟩ := S
  intro T hT X
  obtain ⟨v, vm₁, ⟨U', l2, c2, s2⟩, hW₁, X', ⟨g', mk, t, L, e1, e2, hq, h1, hL, h2, h3⟩, st⟩ := vx_callSW X hx (hh := hh) (bytes := bytes) (maxL := maxL) (ret := ret) ho hl hstt hini hcode hy hK hg (hsize.trans hml.symm) (argsL := As) (rest := rest) (fun sig h => hn.trans (hlen sig h)) hstack hW (by rw [hb]; exact hdg)
    (fun vm₁ hW₁ => ⟨hf.1, hf.2, hp.2 (T.setVm vm₁) hT hW₁⟩)
  dsimp only [Pt.U, Pt.locs, Pt.cells, Pt.slots] at X' e1 e2 h1 h2 h3 st
  subst h1; subst h2; subst h3
  exact ⟨v, (T.setVm vm₁).calling g' mk As.toArray, t, U', L, hT, X', hL, e1, e2, hq, st⟩
/-- not caught here, past rows that name other classes: it goes on to the caller -/
theorem vx_outP {p : Program} {l : Launch} {e : Env} {R : Room} {s : State} {m : MethodId} {args : Array Value} {below : List Frame} {meth : Method} {c : Code} {H : Heap} {locs : List Loc} {cells slots : Nat} {free : Addr → Prop} {ls : Array Slot} {rest : List Value} {Qc : Array Value → State → Outcome → State → Prop} {XC : String → State → State → Prop}
    {pc : Nat} {own E : String} {ce : Cell} {q : Addr} {mc ms : Nat} (hown : s.vm.findClass own = some m.cls) (hlocks : meth.locks = false)
    (hpass : ∀ z ∈ c.exceptionTable.toList, covers z pc = false ∨ (z.catchType ≠ 0 ∧ ∃ nm : String, (Cond.classLink own z.catchType nm).before args s = true ∧ va_Nc E nm s)) (hcell : H[q]? = some ce) (hv : ce.vm = .none) (hcl : s.vm.findClass E = some ce.cls)
    (hx : ∀ t : State, t.heap = H → s.vm.Alike t.vm → XC E s t) (hf : ∀ z ∈ locs, free z.base) (hc : cells ≤ mc) (hs : slots ≤ ms) :
    vx_W p l e R s m args below meth c H locs cells slots (vx_MQ below Qc XC args s mc ms free) (F0 m pc ls rest) q := by
  intro T hT X
  have hpl : e.platform.magicAccessors = ({} : Platform).magicAccessors := by rw [X.admits.platform]
  obtain ⟨vm', hW', X', st⟩ := X.outThrough hlocks q (g := F0 m pc ls rest) rfl rfl rfl (cell := ce) (by rw [hT]; exact hcell) (by rw [hv]; rfl)
    (by obtain ⟨k9, h9, -⟩ := Vm.findClass_spec hcl; exact ⟨k9, h9⟩) (fun z hz => by
      rcases hpass z hz with h | ⟨hz0, nm, hl1, hn1⟩
      · exact Or.inl h
      · obtain ⟨c6, hc6, hcl6⟩ := Cond.classLink_spec hown hl1 e.platform hpl
        obtain ⟨a8, b8, h1, h2, h3⟩ := hn1
        cases Option.some.inj (h1.symm.trans hcl)
        cases Option.some.inj (h2.symm.trans hc6)
        exact Or.inr ⟨hz0, _, hcl6, h3⟩)
  obtain ⟨g₀, hfr⟩ := X'.frames_eq
  have hcell9 : ((T.setVm vm').setFrames (.throwing q :: below)).heap[q]? = some ce := by
    show T.heap[q]? = some ce
    rw [hT]; exact hcell
  have hend : Ended ((T.setVm vm').setFrames (.throwing q :: below)) below (.threw q) := State.frames_setFrames _ (State.cur_lt_of_frames hfr)
  refine ⟨(T.setVm vm').setFrames (.throwing q :: below), ?_, .threw q, X'.here.running, hend, Or.inr ⟨q, rfl, E, ce, locs, hx _ hT (X'.ends _).1.alike, hcell9, hv, hcl, (X'.ends _).1, (X'.ends _).2.mono hc hs, hf⟩⟩
  rw [X.pushThrowing_eq]
  exact st
/-- a thing of a world lies in the heap -/
theorem vx_lt {D : va_G} {cl : List vw_C} {ws : va_W} {H1 : Heap} (h : va_P D cl ws H1) {k : Nat} {q : Nat × va_E} (hk : ws[k]? = some q) : q.1 < H1.size := (h k q hk).lt
end VXS
/-! ===== END ===== -/
/-! ===== BEGIN methods with a table of their own: called by a name, returning or throwing ===== -/
section VXH
/-! vx_backW, vx_callVX, vx_callSX, vx_callVW, vx_runVW, vx_runVX, vx_runSX, vx_ofWH follow the same proofs as their sisters above (Free/Laws.lean, Shelf42/LK1.lean); vx_outP calls Shelf42/NT130.lean (outThrough). -/
section
variable {l : Launch} {R : Room} {p : Program} {e : Env} {below : List Frame} {s : State} {sargs : Array Value} {y : MethodName} {len W9 : Nat}
theorem vx_backW {ws : List Cond} {rm : Room} {Pc : Array Value → State → Prop} {Qc : Array Value → State → Outcome → State → Prop} {XC : String → State → State → Prop} {mc ms : Nat} {free : Addr → Prop} {bytes : ByteArray} {maxL : Nat} {ret : Option FieldType} {hh : List (Nat × Nat × Nat × Nat)}
    (hM : vx_Met l y ws rm Pc Qc XC mc ms free) (hblind : FrameBlind Pc) (hrc : rm.cells = mc) (hrs : rm.slots = ms)
    (hframes : rm.frames + 1 ≤ R.frames) (hlocals : W9 + (maxL + 11) + rm.locals ≤ R.locals)
    (hws : ∀ w ∈ ws, ∀ a' U, s.WarmedH U.vm → w.before a' U = true) (hcode : Cond.codeWith y bytes maxL ret hh ∈ ws) (hinit : ∀ a' U, s.WarmedH U.vm → (Cond.initialized y.cls).before a' U = true) :
    vx_Back l R p e below s sargs y len W9 (PreOf R mc ms Pc) (PostOf Qc mc ms free) (vx_Post XC mc ms free) := by
  intro m meth c A g ig mk a X hg hsize hdg hW hn hp
  have h1 : (headSpec ws rm).pre.before a A.U = true := atoms_intro fun w hw => hws w hw _ _ X.warmed
  have h2 : (Cond.codeWith y bytes maxL ret hh).before a A.U = true := hws _ hcode _ _ X.warmed
  have h3 : (Cond.initialized y.cls).before a A.U = true := hinit _ _ X.warmed
  have h4 : A.cells + (headSpec ws rm).room.cells ≤ R.cells := by rw [show (headSpec ws rm).room.cells = mc from hrc]; exact hp.1
  have h5 : A.slots + (headSpec ws rm).room.slots ≤ R.slots := by rw [show (headSpec ws rm).room.slots = ms from hrs]; exact hp.2.1
  have hPc : Pc a (A.U.calling g mk a) := hblind _ _ _ _ hp.2.2
  obtain ⟨U, Ls, c0, s0⟩ := A
  dsimp only [Pt.U, Pt.locs, Pt.cells, Pt.slots] at h1 h2 h3 h4 h5 X hn hPc ⊢
  obtain ⟨m9, methY, cY, hn9, hmY, hcY, -, hlY, -⟩ := Cond.codeWith_spec h2
  cases Option.some.inj (hn9.symm.trans hn)
  obtain ⟨kY, hkY, -⟩ := className_of_methodNamed hn
  have hinitY : kY.init = .initialized := Cond.initialized_spec (findClass_of_methodNamed hn) hkY h3
  have h : At U g.method c below := by rw [hg]; exact X.here
  have hlocals9 : W9 + (maxL + 11) + (headSpec ws rm).room.locals ≤ R.locals := hlocals
  have happ : (headSpec ws rm).appliesLoose y e.platform (U.calling g mk a) = true :=
    Spec.appliesLoose_calling (g := g) h hdg hn hkY hinitY
      (X.room_calling (g := g) (R' := (headSpec ws rm).room) hsize hmY hcY hframes (by rw [hlY]; omega) h4 h5) h1
  obtain ⟨mid, hmid⟩ := h.above
  have hfr : (U.setTop g).frames = (.java g :: mid) ++ below := by rw [State.frames_setTop' g h.top, hmid]; rfl
  obtain ⟨o, s₂, hsteps, -, hend, hq⟩ := Steps.callFree hM p X.admits X.cas X.clock (acts := []) hfr happ hPc trivial
  have hq' : vx_Q Qc XC mc ms free a (U.calling g mk a) o s₂ := hq
  rw [State.frames_setTop' g h.top] at hend
  obtain ⟨g₀, hg0⟩ := Option.isSome_iff_exists.mp h.top
  obtain ⟨r, hr⟩ := State.topJava?_eq_some.mp hg0
  have hr' : (({ U with heap := s₂.heap, slotsUsed := s₂.slotsUsed } : State).setVm s₂.vm).frames = .java g₀ :: r := hr
  rcases hq' with ⟨hqc, L, hfe, hL⟩ | ⟨q, rfl, E, ce, L, hx, hce, hcv, hcl, hW₂, hsm, hL⟩
  · obtain ⟨⟨v, rfl⟩, hW₂, e2, q2, q3, q4, q5, q6⟩ := id hfe
    have e3 : s₂ = ({ (U.calling g mk a).setFrames s₂.frames with heap := s₂.heap, slotsUsed := s₂.slotsUsed } : State).setVm s₂.vm := by
      have : s₂ = ({ s₂ with vm := (U.calling g mk a).vm } : State).setVm s₂.vm := rfl
      rw [e2] at this
      exact this
    obtain ⟨c₂, i₂, len₂, hc₂, hd₂, hf₂⟩ := hend
    have hW' : U.WarmedH s₂.vm := hW₂
    have hcc : c₂ = c := by
      have h1 : s₂.code? g.method = U.code? g.method := by
        rw [State.code?_eq, State.code?_eq, hW'.alike.method?]
      exact Option.some.inj (hc₂.symm.trans (h1.trans h.code))
    subst hcc
    have hlen : len₂ = len := by rw [hdg] at hd₂; cases hd₂; rfl
    subst hlen
    have hs₂ : s₂ = (({ U with heap := s₂.heap, slotsUsed := s₂.slotsUsed } : State).setVm s₂.vm).setTop { g with pc := g.pc + len₂, stack := v.toList ++ g.stack } := by
      refine e3.trans ?_
      rw [hf₂, State.calling_eq h.top, State.setFrames_setFrames, State.setTop_of_frames _ hr', hr]
      rfl
    have hsame : U.sameButNew ({ U with heap := s₂.heap, slotsUsed := s₂.slotsUsed } : State) L mc ms := by
      refine ⟨?_, q2, q3, q4, q5, q6⟩
      obtain ⟨t, ht, -⟩ := State.frames_cons hr
      show ({ U with heap := s₂.heap, slotsUsed := s₂.slotsUsed } : State) = { U.setFrames U.frames with heap := s₂.heap, slotsUsed := s₂.slotsUsed }
      rw [State.setFrames_self ht]
    subst hg
    refine Or.inl ⟨v, ⟨(({ U with heap := s₂.heap, slotsUsed := s₂.slotsUsed } : State).setVm s₂.vm), Ls ++ L, c0 + mc, s0 + ms⟩,
      ⟨X.admits, X.cas, X.clock, X.frames, X.room, X.hears, X.method, X.code, (X.here.setHeapUsed s₂.heap s₂.slotsUsed).setVm hW'.alike, X.tail, State.WarmedH.trans X.warmed hW', X.limits, X.bytes, X.same.trans (hsame.setVm s.vm)⟩,
      ⟨g, mk, s₂, L, rfl, rfl, hqc, rfl, hL, rfl, rfl⟩, ?_⟩
    show Steps p.tables e below _ ((({ U with heap := s₂.heap, slotsUsed := s₂.slotsUsed } : State).setVm s₂.vm).setTop { g with pc := g.pc + len₂, stack := v.toList ++ g.stack })
    rw [← hs₂]
    exact hsteps
  · obtain ⟨e2, q2, q3, q4, q5, q6⟩ := id hsm
    have e3 : s₂ = ({ (U.calling g mk a).setFrames s₂.frames with heap := s₂.heap, slotsUsed := s₂.slotsUsed } : State).setVm s₂.vm := by
      have : s₂ = ({ s₂ with vm := (U.calling g mk a).vm } : State).setVm s₂.vm := rfl
      rw [e2] at this
      exact this
    have hf₂ : s₂.frames = .throwing q :: .java g :: U.frames.tail := hend
    have hW' : U.WarmedH s₂.vm := hW₂
    have hs₂ : s₂ = ((({ U with heap := s₂.heap, slotsUsed := s₂.slotsUsed } : State).setVm s₂.vm).setTop g).pushFrame (.throwing q) := by
      refine e3.trans ?_
      rw [hf₂, State.calling_eq h.top, State.setFrames_setFrames, State.pushFrame, State.frames_setTop _ hr', State.setTop_of_frames _ hr', State.setFrames_setFrames, hr]
      rfl
    have hsame : U.sameButNew ({ U with heap := s₂.heap, slotsUsed := s₂.slotsUsed } : State) L mc ms := by
      refine ⟨?_, q2, q3, q4, q5, q6⟩
      obtain ⟨t, ht, -⟩ := State.frames_cons hr
      show ({ U with heap := s₂.heap, slotsUsed := s₂.slotsUsed } : State) = { U.setFrames U.frames with heap := s₂.heap, slotsUsed := s₂.slotsUsed }
      rw [State.setFrames_self ht]
    subst hg
    refine Or.inr ⟨q, ⟨(({ U with heap := s₂.heap, slotsUsed := s₂.slotsUsed } : State).setVm s₂.vm), Ls ++ L, c0 + mc, s0 + ms⟩,
      ⟨X.admits, X.cas, X.clock, X.frames, X.room, X.hears, X.method, X.code, (X.here.setHeapUsed s₂.heap s₂.slotsUsed).setVm hW'.alike, X.tail, State.WarmedH.trans X.warmed hW', X.limits, X.bytes, X.same.trans (hsame.setVm s.vm)⟩,
      ⟨g, mk, s₂, L, E, ce, rfl, rfl, hx, hce, hcv, hcl, rfl, hL, rfl, rfl⟩, ?_⟩
    show Steps p.tables e below _ (((({ U with heap := s₂.heap, slotsUsed := s₂.slotsUsed } : State).setVm s₂.vm).setTop g).pushFrame (.throwing q))
    rw [← hs₂]
    exact hsteps
end
variable {p : Program} {l : Launch} {e : Env} {R : Room} {s : State} {m : MethodId} {args : Array Value} {below : List Frame} {meth : Method} {c : Code} {T : State} {H : Heap} {locs : List Loc} {cells slots : Nat}
theorem vx_callVX (X : Stand p l e R s m args below meth c T locs cells slots) (hexec : p.tables.exec = Jvm.exec) {own C : String} {index : Nat} {y : MethodName} {bytes : ByteArray} {maxL : Nat} {ret : Option FieldType} {hh : List (Nat × Nat × Nat × Nat)}
    (hown : s.vm.findClass own = some m.cls) (hlink : (Cond.methodLink own index y).before args s = true) (hinst : (Cond.instanceMethod y).before args s = true) (hsel : (Cond.selects C y y).before args s = true)
    (hcode : (Cond.codeWith y bytes maxL ret hh).before args s = true) (hy : y.cls ≠ "java/lang/invoke/MethodHandle" ∧ y.cls ≠ "java/lang/invoke/VarHandle")
    {W9 : Nat} {Pre : Pt → Array Value → Prop} {Post : Pt → Array Value → Option Value → Pt → Prop} {PostX : Pt → Array Value → Addr → Pt → Prop} (hK : vx_Back l R p e below s args y 3 W9 Pre Post PostX)
    {b : Addr} {cellB : Cell} (hcell : T.heap[b]? = some cellB) (hobj : cellB.vm.isStatics = false) (hcls : s.vm.findClass C = some cellB.cls)
    {g : JFrame} (hg : g.method = m) (hsize : g.locals.size = c.maxLocals) {argsL rest : List Value} (hlen : ∀ sig, parseMethodDescriptor y.desc = some sig → argsL.length = sig.parameters.length)
    (hstack : g.stack = argsL.reverse ++ .ref b :: rest) (hW : 2 * g.monitorRoom + (rest.map fun v => v.category).sum ≤ W9) (hdg : decode c.code g.pc = .ok (.invokevirtual index, 3))
    (hpre : ∀ vm₁, s.WarmedH vm₁ → Pre ⟨T.setVm vm₁, locs, cells, slots⟩ (Value.ref b :: argsL).toArray) :
    (∃ (v : Option Value) (vm₁ : Vm) (B : Pt), s.WarmedH vm₁ ∧ Stand p l e R s m args below meth c B.U B.locs B.cells B.slots ∧ Post ⟨T.setVm vm₁, locs, cells, slots⟩ (Value.ref b :: argsL).toArray v B ∧
      ∀ target, Steps p.tables e below (B.U.setTop { g with pc := g.pc + 3, stack := v.toList ++ rest }) target → Steps p.tables e below (T.setTop g) target) ∨
    (∃ (q : Addr) (vm₁ : Vm) (B : Pt), s.WarmedH vm₁ ∧ Stand p l e R s m args below meth c B.U B.locs B.cells B.slots ∧ PostX ⟨T.setVm vm₁, locs, cells, slots⟩ (Value.ref b :: argsL).toArray q B ∧
      Steps p.tables e below (T.setTop g) ((B.U.setTop { g with stack := rest }).pushFrame (.throwing q))) := by
  obtain ⟨mk, methM, hnamed, hmethM, hstM, habM⟩ := Cond.instanceMethod_spec hinst
  obtain ⟨m8, methM', cM, hn8, hmethM', -, -, -, -, -, -, hsigM⟩ := Cond.codeWith_spec hcode
  cases Option.some.inj (hn8.symm.trans hnamed)
  cases hmethM.symm.trans hmethM'
  obtain ⟨c2, r2, m2, q1, q2, q3, q4, kP, hkP, hkPi⟩ := Cond.selects_spec hsel
  cases hcls.symm.trans q1
  cases (State.methodFound?_of_named hnamed hy).symm.trans q2
  cases hnamed.symm.trans q3
  have hselP : selectMethod e.platform s.vm cellB.cls mk = .method mk := by rw [Launch.admits_selectMethod X.admits]; exact q4
  obtain ⟨vm₁, X₁, hstep₁⟩ := X.invokevirtual hexec hown hlink hnamed hmethM hstM hkP hkPi hy (a := b) (cell := cellB) hcell
    (fun z h => by rw [h] at hobj; cases hobj) hselP hmethM habM hkP hkPi (g := g) hg (argsL := argsL) (rest := rest) (hlen _ hsigM) hstack hdg
  rcases hK m meth c ⟨T.setVm vm₁, locs, cells, slots⟩ { g with stack := rest } (.invokevirtual index) mk (Value.ref b :: argsL).toArray X₁ hg hsize hdg hW (X₁.named hnamed) (hpre vm₁ X₁.warmed) with ⟨v, B, X', hpost, hsteps⟩ | ⟨q, B, X', hpost, hsteps⟩
  · exact Or.inl ⟨v, vm₁, B, X₁.warmed, X', hpost, fun target h => hstep₁ _ fun acts => by rw [doInvoke_state]; exact hsteps.trans h⟩
  · exact Or.inr ⟨q, vm₁, B, X₁.warmed, X', hpost, hstep₁ _ fun acts => by rw [doInvoke_state]; exact hsteps⟩
theorem vx_callSX (X : Stand p l e R s m args below meth c T locs cells slots) (hexec : p.tables.exec = Jvm.exec) {own : String} {index : Nat} {y : MethodName} {bytes : ByteArray} {maxL : Nat} {ret : Option FieldType} {hh : List (Nat × Nat × Nat × Nat)}
    (hown : s.vm.findClass own = some m.cls) (hlink : (Cond.methodLink own index y).before args s = true) (hstat : (Cond.static y).before args s = true) (hinit : (Cond.initialized y.cls).before args s = true)
    (hcode : (Cond.codeWith y bytes maxL ret hh).before args s = true) (hy : y.cls ≠ "java/lang/invoke/MethodHandle" ∧ y.cls ≠ "java/lang/invoke/VarHandle")
    {W9 : Nat} {Pre : Pt → Array Value → Prop} {Post : Pt → Array Value → Option Value → Pt → Prop} {PostX : Pt → Array Value → Addr → Pt → Prop} (hK : vx_Back l R p e below s args y 3 W9 Pre Post PostX)
    {g : JFrame} (hg : g.method = m) (hsize : g.locals.size = c.maxLocals) {argsL rest : List Value} (hlen : ∀ sig, parseMethodDescriptor y.desc = some sig → argsL.length = sig.parameters.length)
    (hstack : g.stack = argsL.reverse ++ rest) (hW : 2 * g.monitorRoom + (rest.map fun v => v.category).sum ≤ W9) (hdg : decode c.code g.pc = .ok (.invokestatic index, 3))
    (hpre : ∀ vm₁, s.WarmedH vm₁ → Pre ⟨T.setVm vm₁, locs, cells, slots⟩ argsL.toArray) :
    (∃ (v : Option Value) (vm₁ : Vm) (B : Pt), s.WarmedH vm₁ ∧ Stand p l e R s m args below meth c B.U B.locs B.cells B.slots ∧ Post ⟨T.setVm vm₁, locs, cells, slots⟩ argsL.toArray v B ∧
      ∀ target, Steps p.tables e below (B.U.setTop { g with pc := g.pc + 3, stack := v.toList ++ rest }) target → Steps p.tables e below (T.setTop g) target) ∨
    (∃ (q : Addr) (vm₁ : Vm) (B : Pt), s.WarmedH vm₁ ∧ Stand p l e R s m args below meth c B.U B.locs B.cells B.slots ∧ PostX ⟨T.setVm vm₁, locs, cells, slots⟩ argsL.toArray q B ∧
      Steps p.tables e below (T.setTop g) ((B.U.setTop { g with stack := rest }).pushFrame (.throwing q))) := by
  obtain ⟨mk, methM, cM, hnamed, hmethM, -, -, -, -, -, -, hsigM⟩ := Cond.codeWith_spec hcode
  have hstatic : methM.isStatic = true := Cond.static_spec hnamed hmethM hstat
  obtain ⟨kP, hkP, -⟩ := className_of_methodNamed hnamed
  have hinitP : kP.init = .initialized := Cond.initialized_spec (findClass_of_methodNamed hnamed) hkP hinit
  obtain ⟨vm₁, X₁, hstep₁⟩ := X.invokestatic hexec hown hlink hnamed hmethM hstatic hkP hinitP hy (g := g) hg (argsL := argsL) (rest := rest) (hlen _ hsigM) hstack hdg
  rcases hK m meth c ⟨T.setVm vm₁, locs, cells, slots⟩ { g with stack := rest } (.invokestatic index) mk argsL.toArray X₁ hg hsize hdg hW (X₁.named hnamed) (hpre vm₁ X₁.warmed) with ⟨v, B, X', hpost, hsteps⟩ | ⟨q, B, X', hpost, hsteps⟩
  · exact Or.inl ⟨v, vm₁, B, X₁.warmed, X', hpost, fun target h => hstep₁ _ fun acts => by rw [doInvoke_state]; exact hsteps.trans h⟩
  · exact Or.inr ⟨q, vm₁, B, X₁.warmed, X', hpost, hstep₁ _ fun acts => by rw [doInvoke_state]; exact hsteps⟩
theorem vx_callVW (X : Stand p l e R s m args below meth c T locs cells slots) (hexec : p.tables.exec = Jvm.exec) {own C : String} {index : Nat} {y : MethodName} {bytes : ByteArray} {maxL : Nat} {ret : Option FieldType} {hh : List (Nat × Nat × Nat × Nat)}
    (hown : s.vm.findClass own = some m.cls) (hlink : (Cond.methodLink own index y).before args s = true) (hinst : (Cond.instanceMethod y).before args s = true) (hsel : (Cond.selects C y y).before args s = true)
    (hcode : (Cond.codeWith y bytes maxL ret hh).before args s = true) (hy : y.cls ≠ "java/lang/invoke/MethodHandle" ∧ y.cls ≠ "java/lang/invoke/VarHandle")
    {W9 : Nat} {Pre : Pt → Array Value → Prop} {Post : Pt → Array Value → Option Value → Pt → Prop} (hK : Back l R p e below s args y 3 W9 Pre Post)
    {b : Addr} {cellB : Cell} (hcell : T.heap[b]? = some cellB) (hobj : cellB.vm.isStatics = false) (hcls : s.vm.findClass C = some cellB.cls)
    {g : JFrame} (hg : g.method = m) (hsize : g.locals.size = c.maxLocals) {argsL rest : List Value} (hlen : ∀ sig, parseMethodDescriptor y.desc = some sig → argsL.length = sig.parameters.length)
    (hstack : g.stack = argsL.reverse ++ .ref b :: rest) (hW : 2 * g.monitorRoom + (rest.map fun v => v.category).sum ≤ W9) (hdg : decode c.code g.pc = .ok (.invokevirtual index, 3))
    (hpre : ∀ vm₁, s.WarmedH vm₁ → Pre ⟨T.setVm vm₁, locs, cells, slots⟩ (Value.ref b :: argsL).toArray) :
    ∃ (v : Option Value) (vm₁ : Vm) (B : Pt), s.WarmedH vm₁ ∧ Stand p l e R s m args below meth c B.U B.locs B.cells B.slots ∧ Post ⟨T.setVm vm₁, locs, cells, slots⟩ (Value.ref b :: argsL).toArray v B ∧
      ∀ target, Steps p.tables e below (B.U.setTop { g with pc := g.pc + 3, stack := v.toList ++ rest }) target → Steps p.tables e below (T.setTop g) target := by
  obtain ⟨mk, methM, hnamed, hmethM, hstM, habM⟩ := Cond.instanceMethod_spec hinst
  obtain ⟨m8, methM', cM, hn8, hmethM', -, -, -, -, -, -, hsigM⟩ := Cond.codeWith_spec hcode
  cases Option.some.inj (hn8.symm.trans hnamed)
  cases hmethM.symm.trans hmethM'
  obtain ⟨c2, r2, m2, q1, q2, q3, q4, kP, hkP, hkPi⟩ := Cond.selects_spec hsel
  cases hcls.symm.trans q1
  cases (State.methodFound?_of_named hnamed hy).symm.trans q2
  cases hnamed.symm.trans q3
  have hselP : selectMethod e.platform s.vm cellB.cls mk = .method mk := by rw [Launch.admits_selectMethod X.admits]; exact q4
  obtain ⟨vm₁, X₁, hstep₁⟩ := X.invokevirtual hexec hown hlink hnamed hmethM hstM hkP hkPi hy (a := b) (cell := cellB) hcell
    (fun z h => by rw [h] at hobj; cases hobj) hselP hmethM habM hkP hkPi (g := g) hg (argsL := argsL) (rest := rest) (hlen _ hsigM) hstack hdg
  obtain ⟨v, B, X', hpost, hsteps⟩ := hK m meth c ⟨T.setVm vm₁, locs, cells, slots⟩ { g with stack := rest } (.invokevirtual index) mk (Value.ref b :: argsL).toArray X₁ hg hsize hdg hW (X₁.named hnamed) (hpre vm₁ X₁.warmed)
  exact ⟨v, vm₁, B, X₁.warmed, X', hpost, fun target h => hstep₁ _ fun acts => by rw [doInvoke_state]; exact hsteps.trans h⟩
abbrev vx_CVW (R : Room) (s : State) (args : Array Value) (own C : String) (index : Nat) (y : MethodName) (bytes : ByteArray) (maxL : Nat) (ret : Option FieldType) (hh : List (Nat × Nat × Nat × Nat)) (ws : List Cond) (rm : Room) (mc ms n : Nat) : Prop :=
  (rm.cells = mc ∧ rm.slots = ms ∧ rm.frames + 1 ≤ R.frames ∧ 8 + (maxL + 11) + rm.locals ≤ R.locals ∧ (∀ w ∈ ws, ∀ (a' : Array Value) (U : State), s.WarmedH U.vm → w.before a' U = true) ∧ Cond.codeWith y bytes maxL ret hh ∈ ws) ∧
  (Cond.codeWith y bytes maxL ret hh).before args s = true ∧ (Cond.initialized y.cls).before args s = true ∧ (y.cls ≠ "java/lang/invoke/MethodHandle" ∧ y.cls ≠ "java/lang/invoke/VarHandle") ∧
  (∀ sig, parseMethodDescriptor y.desc = some sig → n = sig.parameters.length) ∧ (Cond.methodLink own index y).before args s = true ∧ (Cond.instanceMethod y).before args s = true ∧ (Cond.selects C y y).before args s = true
theorem vx_cwVW {own C : String} {index maxL mc ms : Nat} {y : MethodName} {bytes : ByteArray} {ret : Option FieldType} {hh : List (Nat × Nat × Nat × Nat)} {Ts ws ws' : List Cond} {rm : Room} (n : Nat) (ht : ∀ w ∈ Ts, w.before args s = true) (hT : GoodIn Ts (wsV own index C y ws)) (hw : ws = Cond.codeWith y bytes maxL ret hh :: ws') (hrc : rm.cells = mc) (hrs : rm.slots = ms)
    (hd : y.cls = C ∧ y.cls ≠ "java/lang/invoke/MethodHandle" ∧ y.cls ≠ "java/lang/invoke/VarHandle" ∧ (parseMethodDescriptor y.desc).map (fun d => d.parameters.length) = some n) (hR : rm.frames + 1 ≤ R.frames ∧ 8 + (maxL + 11) + rm.locals ≤ R.locals) :
    vx_CVW R s args own C index y bytes maxL ret hh ws rm mc ms n := by
  obtain ⟨hC, hd⟩ := hd
  subst hC
  have ok : ∀ w ∈ wsV own index y.cls y ws, w.before args s = true := fun w h => ht w (hT w h).1
  have hG : GoodIn Ts ws := fun w h => hT w (by unfold wsV; exact List.mem_append_right _ h)
  have hc : Cond.codeWith y bytes maxL ret hh ∈ ws := by rw [hw]; exact List.mem_cons_self
  refine ⟨⟨hrc, hrs, hR.1, hR.2, pay_in ht hG, hc⟩, ht _ (hG _ hc).1, ok _ (by simp [wsV]), ⟨hd.1, hd.2.1⟩, fun sig h => ?_, ok _ (by simp [wsV]), ok _ (by simp [wsV]), ok _ (by simp [wsV])⟩
  have h2 := hd.2.2
  rw [h] at h2
  exact (Option.some.inj h2).symm
theorem vx_runVW {y : MethodName} {bytes cc : ByteArray} {maxL nL mc ms n index : Nat} {ret : Option FieldType} {hh : List (Nat × Nat × Nat × Nat)} {ws : List Cond} {rm : Room} {Pc : Array Value → State → Prop} {Qc : Array Value → State → Outcome → State → Prop} {free : Addr → Prop} {Ts : List Cond} {own C : String} {b : Addr} {As rest : List Value} {g : JFrame}
    (S : CallFix p m c cc nL s args Ts own) (hM : Met l y ws rm Pc Qc mc ms free) (cw : vx_CVW R s args own C index y bytes maxL ret hh ws rm mc ms n) (hp : PreV s H C b Pc As)
    (hg : g.method = m) (hn : As.length = n) (hsize : g.locals.size = nL) (hstack : g.stack = As.reverse ++ .ref b :: rest) (hW : 2 * g.monitorRoom + (rest.map fun v => v.category).sum ≤ 8) (hdg : decode cc g.pc = .ok (.invokevirtual index, 3)) (hf : cells + mc ≤ R.cells ∧ slots + ms ≤ R.slots) :
    va_Run p l e R s m args below meth c H locs cells slots mc ms g rest (Qc (Value.ref b :: As).toArray) free := by
  obtain ⟨⟨hrc, hrs, hfr, hlo, hws, hcw⟩, hcode, hini, hy, hlen, hl, hin, hse⟩ := cw
  have hK : Back l R p e below s args y 3 8 (PreOf R mc ms Pc) (PostOf Qc mc ms free) := va_backW (hh := hh) (bytes := bytes) (maxL := maxL) (ret := ret) hM hp.1 hrc hrs hfr hlo hws hcw (fun a' U hW => word_at hW (Or.inl (by first | rfl | simp [Cond.onTables, Cond.keeps, Cond.steady])) hini)
  obtain ⟨hx, hb, hml, ho, -⟩ := S
  obtain ⟨-, ⟨cellB, hcB, hoB, hclB⟩, hPc⟩ := hp
  intro T hT X
  obtain ⟨v, vm₁, ⟨U', l2, c2, s2⟩, hW₁, X', ⟨g', mk, t, L, e1, e2, hq, h1, hL, h2, h3⟩, st⟩ := vx_callVW X hx (C := C) (hh := hh) (bytes := bytes) (maxL := maxL) (ret := ret) ho hl hin hse hcode hy hK (by rw [hT]; exact hcB) hoB hclB hg (hsize.trans hml.symm) (argsL := As) (rest := rest) (fun sig h => hn.trans (hlen sig h)) hstack hW (by rw [hb]; exact hdg)
    (fun vm₁ hW₁ => ⟨hf.1, hf.2, hPc (T.setVm vm₁) hT hW₁⟩)
  dsimp only [Pt.U, Pt.locs, Pt.cells, Pt.slots] at X' e1 e2 h1 h2 h3 st
  subst h1; subst h2; subst h3
  exact ⟨v, (T.setVm vm₁).calling g' mk (Value.ref b :: As).toArray, t, U', L, hT, X', hL, e1, e2, hq, st⟩
section
variable {y : MethodName} {bytes cc : ByteArray} {maxL nL mc ms n index : Nat} {ret : Option FieldType} {ws : List Cond} {rm : Room} {Pc : Array Value → State → Prop} {Qc : Array Value → State → Outcome → State → Prop} {XC : String → State → State → Prop} {free : Addr → Prop} {Ts : List Cond} {own C : String} {b : Addr} {As rest : List Value} {g : JFrame}
theorem vx_runVX {hh : List (Nat × Nat × Nat × Nat)} (S : CallFix p m c cc nL s args Ts own) (hM : vx_Met l y ws rm Pc Qc XC mc ms free) (cw : vx_CVW R s args own C index y bytes maxL ret hh ws rm mc ms n) (hp : PreV s H C b Pc As)
    (hg : g.method = m) (hn : As.length = n) (hsize : g.locals.size = nL) (hstack : g.stack = As.reverse ++ .ref b :: rest) (hW : 2 * g.monitorRoom + (rest.map fun v => v.category).sum ≤ 8) (hdg : decode cc g.pc = .ok (.invokevirtual index, 3)) (hf : cells + mc ≤ R.cells ∧ slots + ms ≤ R.slots) :
    vx_Run p l e R s m args below meth c H locs cells slots mc ms g rest (Qc (Value.ref b :: As).toArray) XC free := by
  obtain ⟨⟨hrc, hrs, hfr, hlo, hws, hcw⟩, hcode, hini, hy, hlen, hl, hin, hse⟩ := cw
  have hK : vx_Back l R p e below s args y 3 8 (PreOf R mc ms Pc) (PostOf Qc mc ms free) (vx_Post XC mc ms free) := vx_backW (hh := hh) (bytes := bytes) (maxL := maxL) (ret := ret) hM hp.1 hrc hrs hfr hlo hws hcw (fun a' U hW => word_at hW (Or.inl (by first | rfl | simp [Cond.onTables, Cond.keeps, Cond.steady])) hini)
  obtain ⟨hx, hb, hml, ho, -⟩ := S
  obtain ⟨-, ⟨cellB, hcB, hoB, hclB⟩, hPc⟩ := hp
  intro T hT X
  rcases vx_callVX X hx (C := C) (hh := hh) (bytes := bytes) (maxL := maxL) (ret := ret) ho hl hin hse hcode hy hK (by rw [hT]; exact hcB) hoB hclB hg (hsize.trans hml.symm) (argsL := As) (rest := rest) (fun sig h => hn.trans (hlen sig h)) hstack hW (by rw [hb]; exact hdg)
    (fun vm₁ hW₁ => ⟨hf.1, hf.2, hPc (T.setVm vm₁) hT hW₁⟩) with ⟨v, vm₁, ⟨U', l2, c2, s2⟩, hW₁, X', ⟨g', mk, t, L, e1, e2, hq, h1, hL, h2, h3⟩, st⟩ | ⟨q, vm₁, ⟨U', l2, c2, s2⟩, hW₁, X', ⟨g', mk, t, L, E, ce, e1, e2, hq, hce, hcv, hcl, h1, hL, h2, h3⟩, st⟩
  · dsimp only [Pt.U, Pt.locs, Pt.cells, Pt.slots] at X' e1 e2 h1 h2 h3 st
    subst h1; subst h2; subst h3
    exact Or.inl ⟨v, (T.setVm vm₁).calling g' mk (Value.ref b :: As).toArray, t, U', L, hT, X', hL, e1, e2, hq, st⟩
  · dsimp only [Pt.U, Pt.locs, Pt.cells, Pt.slots] at X' e1 e2 h1 h2 h3 st hcl
    subst h1; subst h2; subst h3
    exact Or.inr ⟨q, (T.setVm vm₁).calling g' mk (Value.ref b :: As).toArray, t, U', L, E, ce, hT, X', hL, e1, e2, hq, hce, hcv, vx_cls hW₁ hcl, st⟩
theorem vx_runSX {hh : List (Nat × Nat × Nat × Nat)} (S : CallFix p m c cc nL s args Ts own) (hM : vx_Met l y ws rm Pc Qc XC mc ms free) (cw : vx_CSW R s args own index y bytes maxL ret hh ws rm mc ms n) (hp : PreS s H Pc As)
    (hg : g.method = m) (hn : As.length = n) (hsize : g.locals.size = nL) (hstack : g.stack = As.reverse ++ rest) (hW : 2 * g.monitorRoom + (rest.map fun v => v.category).sum ≤ 8) (hdg : decode cc g.pc = .ok (.invokestatic index, 3)) (hf : cells + mc ≤ R.cells ∧ slots + ms ≤ R.slots) :
    vx_Run p l e R s m args below meth c H locs cells slots mc ms g rest (Qc As.toArray) XC free := by
  obtain ⟨⟨hrc, hrs, hfr, hlo, hws, hcw⟩, hcode, hini, hy, hlen, hl, hstt⟩ := cw
  have hK : vx_Back l R p e below s args y 3 8 (PreOf R mc ms Pc) (PostOf Qc mc ms free) (vx_Post XC mc ms free) := vx_backW (hh := hh) (bytes := bytes) (maxL := maxL) (ret := ret) hM hp.1 hrc hrs hfr hlo hws hcw (fun a' U hW => word_at hW (Or.inl (by first | rfl | simp [Cond.onTables, Cond.keeps, Cond.steady])) hini)
  obtain ⟨hx, hb, hml, ho, -⟩ := S
  intro T hT X
  rcases vx_callSX X hx (hh := hh) (bytes := bytes) (maxL := maxL) (ret := ret) ho hl hstt hini hcode hy hK hg (hsize.trans hml.symm) (argsL := As) (rest := rest) (fun sig h => hn.trans (hlen sig h)) hstack hW (by rw [hb]; exact hdg)
    (fun vm₁ hW₁ => ⟨hf.1, hf.2, hp.2 (T.setVm vm₁) hT hW₁⟩) with ⟨v, vm₁, ⟨U', l2, c2, s2⟩, hW₁, X', ⟨g', mk, t, L, e1, e2, hq, h1, hL, h2, h3⟩, st⟩ | ⟨q, vm₁, ⟨U', l2, c2, s2⟩, hW₁, X', ⟨g', mk, t, L, E, ce, e1, e2, hq, hce, hcv, hcl, h1, hL, h2, h3⟩, st⟩
  · dsimp only [Pt.U, Pt.locs, Pt.cells, Pt.slots] at X' e1 e2 h1 h2 h3 st
    subst h1; subst h2; subst h3
    exact Or.inl ⟨v, (T.setVm vm₁).calling g' mk As.toArray, t, U', L, hT, X', hL, e1, e2, hq, st⟩
  · dsimp only [Pt.U, Pt.locs, Pt.cells, Pt.slots] at X' e1 e2 h1 h2 h3 st hcl
    subst h1; subst h2; subst h3
    exact Or.inr ⟨q, (T.setVm vm₁).calling g' mk As.toArray, t, U', L, E, ce, hT, X', hL, e1, e2, hq, hce, hcv, vx_cls hW₁ hcl, st⟩
end
end VXH
theorem vx_ofWH {l : Launch} {y : MethodName} {ws ws' : List Cond} {rm : Room} {Pc : Array Value → State → Prop} {Qc : Array Value → State → Outcome → State → Prop} {XC : String → State → State → Prop} {mc ms : Nat} {free : Addr → Prop} {cc : ByteArray} {maxL : Nat} {ret : Option FieldType} {hh : List (Nat × Nat × Nat × Nat)}
    (hy : plainName y.cls = true) (hw : ws = Cond.codeWith y cc maxL ret hh :: ws')
    (body : ∀ p e s m args below meth c s₁, BodyLoose p l y (headSpec ws rm) cc maxL ret e s m args below meth c s₁ → c.maxLocals = maxL → Pc args s →
      W p l e (headSpec ws rm).room s m args below meth c s.heap [] 0 0 (vx_MQ below Qc XC args s mc ms free) (entryFrame m args maxL)) : vx_Met l y ws rm Pc Qc XC mc ms free := by
  refine MetFree.of_bodyS (code := cc) (maxLocals := maxL) (ret := ret) hy ?_ ?_
  · intro args s m h hn
    obtain ⟨m9, meth, c, hn9, h1, h2, h3, h4, -, h5, h6, -⟩ := Cond.codeWith_spec (atoms_spec (ws := ws) h _ (by rw [hw]; exact List.mem_cons_self))
    cases hn.symm.trans hn9
    exact ⟨meth, c, h1, h2, h3, h4, h5, h6⟩
  · intro p e s m args below meth c s₁ B hml hP _
    have hh0 : s₁.heap = s.heap := by rw [B.state]; rfl
    obtain ⟨t, a1, o, b1, b2, b3⟩ := body p e s m args below meth c s₁ B hml hP s₁ hh0 (Stand.of_body B)
    exact ⟨t, o, a1, b1, b2, b3⟩
/-! ===== END ===== -/
end
section
/-! names: classes, fields, methods, the words of the tables by their places -/
abbrev R_E : String := "ShopDesks$Entry"
def F_E : u_T := fun k => match k with
  | 0 => ("ShopDesks$Entry", "accounts", "[I", true)
  | 1 => ("ShopDesks$Entry", "cents", "[J", true)
  | 2 => ("ShopDesks$Entry", "rowCount", "I", false)
  | 3 => ("ShopDesks$Entry", "day", "I", false)
  | 4 => ("ShopDesks$Entry", "number", "I", false)
  | 5 => ("ShopDesks$Entry", "isReversed", "Z", false)
  | _ => ("ShopDesks$Entry", "isReversal", "Z", false)
def ft_E : Nat → FieldType := fun k => match k with
  | 0 => .array .int
  | 1 => .array .long
  | 2 => .int
  | 3 => .int
  | 4 => .int
  | 5 => .boolean
  | _ => .boolean
theorem fn_E : ∀ a, a < 7 → ∀ b, b < 7 → a ≠ b → (F_E a).2.1 ≠ (F_E b).2.1 := by decide +kernel
theorem ft_E_ok : ∀ k, k < 7 → parseFieldDescriptor (F_E k).2.2.1 = some (ft_E k) := by decide +kernel
abbrev R_L : String := "ShopDesks$Ledger"
def F_L : u_T := fun k => match k with
  | 0 => ("ShopDesks$Ledger", "entries", "[LShopDesks$Entry;", true)
  | 1 => ("ShopDesks$Ledger", "entryOfNumber", "[I", true)
  | 2 => ("ShopDesks$Ledger", "entryCount", "I", false)
  | 3 => ("ShopDesks$Ledger", "lastNumber", "I", false)
  | _ => ("ShopDesks$Ledger", "lastClosedMonth", "I", false)
def ft_L : Nat → FieldType := fun k => match k with
  | 0 => .array (.object "ShopDesks$Entry")
  | 1 => .array .int
  | 2 => .int
  | 3 => .int
  | _ => .int
theorem fn_L : ∀ a, a < 5 → ∀ b, b < 5 → a ≠ b → (F_L a).2.1 ≠ (F_L b).2.1 := by decide +kernel
theorem ft_L_ok : ∀ k, k < 5 → parseFieldDescriptor (F_L k).2.2.1 = some (ft_L k) := by decide +kernel
abbrev R_S : String := "ShopDesks$TellingSet"
def F_S : u_T := fun k => match k with
  | 0 => ("ShopDesks$TellingSet", "tellings", "LShopDesks$Tellings;", true)
  | 1 => ("ShopDesks$TellingSet", "order", "[I", true)
  | 2 => ("ShopDesks$TellingSet", "isIn", "[Z", true)
  | 3 => ("ShopDesks$TellingSet", "size", "I", false)
  | _ => ("ShopDesks$TellingSet", "sizeAtBatch", "I", false)
def ft_S : Nat → FieldType := fun k => match k with
  | 0 => .object "ShopDesks$Tellings"
  | 1 => .array .int
  | 2 => .array .boolean
  | 3 => .int
  | _ => .int
theorem fn_S : ∀ a, a < 5 → ∀ b, b < 5 → a ≠ b → (F_S a).2.1 ≠ (F_S b).2.1 := by decide +kernel
theorem ft_S_ok : ∀ k, k < 5 → parseFieldDescriptor (F_S k).2.2.1 = some (ft_S k) := by decide +kernel
abbrev R_T : String := "ShopDesks$Tellings"
def F_T : u_T := fun k => match k with
  | 0 => ("ShopDesks$Tellings", "teller", "[I", true)
  | 1 => ("ShopDesks$Tellings", "number", "[J", true)
  | 2 => ("ShopDesks$Tellings", "thing", "[I", true)
  | 3 => ("ShopDesks$Tellings", "kind", "[I", true)
  | 4 => ("ShopDesks$Tellings", "value", "[J", true)
  | 5 => ("ShopDesks$Tellings", "on", "[J", true)
  | _ => ("ShopDesks$Tellings", "count", "I", false)
def ft_T : Nat → FieldType := fun k => match k with
  | 0 => .array .int
  | 1 => .array .long
  | 2 => .array .int
  | 3 => .array .int
  | 4 => .array .long
  | 5 => .array .long
  | _ => .int
theorem fn_T : ∀ a, a < 7 → ∀ b, b < 7 → a ≠ b → (F_T a).2.1 ≠ (F_T b).2.1 := by decide +kernel
theorem ft_T_ok : ∀ k, k < 7 → parseFieldDescriptor (F_T k).2.2.1 = some (ft_T k) := by decide +kernel
abbrev R_X : String := "ShopDesks"
def F_X : u_T := fun k => match k with
  | 0 => ("ShopDesks", "tellings", "LShopDesks$Tellings;", true)
  | 1 => ("ShopDesks", "sets", "[LShopDesks$TellingSet;", true)
  | 2 => ("ShopDesks", "setCount", "I", false)
  | 3 => ("ShopDesks", "rights", "[Z", true)
  | _ => ("ShopDesks", "ledger", "LShopDesks$Ledger;", true)
def ft_X : Nat → FieldType := fun k => match k with
  | 0 => .object "ShopDesks$Tellings"
  | 1 => .array (.object "ShopDesks$TellingSet")
  | 2 => .int
  | 3 => .array .boolean
  | _ => .object "ShopDesks$Ledger"
theorem fn_X : ∀ a, a < 5 → ∀ b, b < 5 → a ≠ b → (F_X a).2.1 ≠ (F_X b).2.1 := by decide +kernel
theorem ft_X_ok : ∀ k, k < 5 → parseFieldDescriptor (F_X k).2.2.1 = some (ft_X k) := by decide +kernel
abbrev R_M : String := "ShopDesksModel"
def F_M : u_T := fun k => match k with
  | 0 => ("ShopDesksModel", "code", "I", false)
  | 1 => ("ShopDesksModel", "told", "I", false)
  | 2 => ("ShopDesksModel", "tellers", "[I", true)
  | 3 => ("ShopDesksModel", "numbers", "[J", true)
  | 4 => ("ShopDesksModel", "things", "[I", true)
  | 5 => ("ShopDesksModel", "kinds", "[I", true)
  | 6 => ("ShopDesksModel", "values", "[J", true)
  | 7 => ("ShopDesksModel", "ons", "[J", true)
  | 8 => ("ShopDesksModel", "sets", "I", false)
  | 9 => ("ShopDesksModel", "sizes", "[I", true)
  | 10 => ("ShopDesksModel", "rows", "[I", true)
  | 11 => ("ShopDesksModel", "batches", "[I", true)
  | 12 => ("ShopDesksModel", "rights", "[Z", true)
  | 13 => ("ShopDesksModel", "entries", "I", false)
  | 14 => ("ShopDesksModel", "days", "[I", true)
  | 15 => ("ShopDesksModel", "many", "[I", true)
  | 16 => ("ShopDesksModel", "accounts", "[I", true)
  | 17 => ("ShopDesksModel", "cents", "[J", true)
  | 18 => ("ShopDesksModel", "closedAs", "[I", true)
  | 19 => ("ShopDesksModel", "reversed", "[Z", true)
  | 20 => ("ShopDesksModel", "closed", "I", false)
  | _ => ("ShopDesksModel", "closedMonth", "I", false)
def ft_M : Nat → FieldType := fun k => match k with
  | 0 => .int
  | 1 => .int
  | 2 => .array .int
  | 3 => .array .long
  | 4 => .array .int
  | 5 => .array .int
  | 6 => .array .long
  | 7 => .array .long
  | 8 => .int
  | 9 => .array .int
  | 10 => .array .int
  | 11 => .array .int
  | 12 => .array .boolean
  | 13 => .int
  | 14 => .array .int
  | 15 => .array .int
  | 16 => .array .int
  | 17 => .array .long
  | 18 => .array .int
  | 19 => .array .boolean
  | 20 => .int
  | _ => .int
theorem fn_M : ∀ a, a < 22 → ∀ b, b < 22 → a ≠ b → (F_M a).2.1 ≠ (F_M b).2.1 := by decide +kernel
theorem ft_M_ok : ∀ k, k < 22 → parseFieldDescriptor (F_M k).2.2.1 = some (ft_M k) := by decide +kernel
abbrev R_W : String := "ShopDesksLaw"
abbrev cls_ : List vw_C := [(R_E, F_E, 7), (R_L, F_L, 5), (R_S, F_S, 5), (R_T, F_T, 7), (R_X, F_X, 5), (R_M, F_M, 22)]
abbrev c_X_init : ByteArray := prog_1_method_1_code
abbrev y_X_init : MethodName := ⟨"ShopDesks", "<init>", "()V"⟩
abbrev c_T_init : ByteArray := prog_5_method_1_code
abbrev y_T_init : MethodName := ⟨"ShopDesks$Tellings", "<init>", "()V"⟩
abbrev c_S_init : ByteArray := prog_4_method_1_code
abbrev y_S_init : MethodName := ⟨"ShopDesks$TellingSet", "<init>", "(LShopDesks$Tellings;)V"⟩
abbrev c_L_init : ByteArray := prog_3_method_1_code
abbrev y_L_init : MethodName := ⟨"ShopDesks$Ledger", "<init>", "()V"⟩
abbrev c_E_init : ByteArray := prog_2_method_1_code
abbrev y_E_init : MethodName := ⟨"ShopDesks$Entry", "<init>", "()V"⟩
abbrev c_W_tell : ByteArray := method_3_code
abbrev y_W_tell : MethodName := ⟨"ShopDesksLaw", "tell", "(LShopDesks;IJIIJJ[J)I"⟩
abbrev c_X_tell : ByteArray := prog_1_method_2_code
abbrev y_X_tell : MethodName := ⟨"ShopDesks", "tell", "(IJIIJJ)I"⟩
abbrev c_X_needTeller : ByteArray := prog_1_method_19_code
abbrev y_X_needTeller : MethodName := ⟨"ShopDesks", "needTeller", "(I)V"⟩
abbrev c_X_needThing : ByteArray := prog_1_method_20_code
abbrev y_X_needThing : MethodName := ⟨"ShopDesks", "needThing", "(I)V"⟩
abbrev c_X_needKind : ByteArray := prog_1_method_21_code
abbrev y_X_needKind : MethodName := ⟨"ShopDesks", "needKind", "(I)V"⟩
abbrev c_T_isTold : ByteArray := prog_5_method_2_code
abbrev y_T_isTold : MethodName := ⟨"ShopDesks$Tellings", "isTold", "(IJ)Z"⟩
abbrev c_T_append : ByteArray := prog_5_method_3_code
abbrev y_T_append : MethodName := ⟨"ShopDesks$Tellings", "append", "(IJIIJJ)V"⟩
abbrev c_W_set : ByteArray := method_4_code
abbrev y_W_set : MethodName := ⟨"ShopDesksLaw", "set", "(LShopDesks;I[J)I"⟩
abbrev c_X_set : ByteArray := prog_1_method_3_code
abbrev y_X_set : MethodName := ⟨"ShopDesks", "set", "(I)I"⟩
abbrev c_S_takeAllOf : ByteArray := prog_4_method_2_code
abbrev y_S_takeAllOf : MethodName := ⟨"ShopDesks$TellingSet", "takeAllOf", "(I)V"⟩
abbrev c_S_insertByNumber : ByteArray := prog_4_method_3_code
abbrev y_S_insertByNumber : MethodName := ⟨"ShopDesks$TellingSet", "insertByNumber", "(I)V"⟩
abbrev c_W_join : ByteArray := method_5_code
abbrev y_W_join : MethodName := ⟨"ShopDesksLaw", "join", "(LShopDesks;II[J)I"⟩
abbrev c_X_join : ByteArray := prog_1_method_4_code
abbrev y_X_join : MethodName := ⟨"ShopDesks", "join", "(II)I"⟩
abbrev c_X_needSet : ByteArray := prog_1_method_25_code
abbrev y_X_needSet : MethodName := ⟨"ShopDesks", "needSet", "(I)V"⟩
abbrev c_S_takeMissing : ByteArray := prog_4_method_4_code
abbrev y_S_takeMissing : MethodName := ⟨"ShopDesks$TellingSet", "takeMissing", "(LShopDesks$TellingSet;)I"⟩
abbrev c_W_equal : ByteArray := method_6_code
abbrev y_W_equal : MethodName := ⟨"ShopDesksLaw", "equal", "(LShopDesks;II[J)I"⟩
abbrev c_X_equal : ByteArray := prog_1_method_5_code
abbrev y_X_equal : MethodName := ⟨"ShopDesks", "equal", "(II)Z"⟩
abbrev c_S_hasSameAs : ByteArray := prog_4_method_5_code
abbrev y_S_hasSameAs : MethodName := ⟨"ShopDesks$TellingSet", "hasSameAs", "(LShopDesks$TellingSet;)Z"⟩
abbrev c_W_at : ByteArray := method_7_code
abbrev y_W_at : MethodName := ⟨"ShopDesksLaw", "at", "(LShopDesks;IIIJ[J)I"⟩
abbrev c_X_at : ByteArray := prog_1_method_6_code
abbrev y_X_at : MethodName := ⟨"ShopDesks", "at", "(IIIJ)J"⟩
abbrev c_S_known : ByteArray := prog_4_method_9_code
abbrev y_S_known : MethodName := ⟨"ShopDesks$TellingSet", "known", "(IIJI)J"⟩
abbrev c_S_sumOfCounts : ByteArray := prog_4_method_11_code
abbrev y_S_sumOfCounts : MethodName := ⟨"ShopDesks$TellingSet", "sumOfCounts", "(IJI)J"⟩
abbrev c_T_holds : ByteArray := prog_5_method_4_code
abbrev y_T_holds : MethodName := ⟨"ShopDesks$Tellings", "holds", "(IIIJ)Z"⟩
abbrev c_S_knownMark : ByteArray := prog_4_method_12_code
abbrev y_S_knownMark : MethodName := ⟨"ShopDesks$TellingSet", "knownMark", "(IJI)J"⟩
abbrev c_S_settling : ByteArray := prog_4_method_14_code
abbrev y_S_settling : MethodName := ⟨"ShopDesks$TellingSet", "settling", "(IJI)I"⟩
abbrev c_S_latest : ByteArray := prog_4_method_13_code
abbrev y_S_latest : MethodName := ⟨"ShopDesks$TellingSet", "latest", "(IIJI)I"⟩
abbrev c_T_isLater : ByteArray := prog_5_method_5_code
abbrev y_T_isLater : MethodName := ⟨"ShopDesks$Tellings", "isLater", "(II)Z"⟩
abbrev c_S_hasUnlikeMarks : ByteArray := prog_4_method_15_code
abbrev y_S_hasUnlikeMarks : MethodName := ⟨"ShopDesks$TellingSet", "hasUnlikeMarks", "(IJI)Z"⟩
abbrev c_S_valueOrZero : ByteArray := prog_4_method_16_code
abbrev y_S_valueOrZero : MethodName := ⟨"ShopDesks$TellingSet", "valueOrZero", "(I)J"⟩
abbrev c_W_conflict : ByteArray := method_8_code
abbrev y_W_conflict : MethodName := ⟨"ShopDesksLaw", "conflict", "(LShopDesks;II[J)I"⟩
abbrev c_X_conflict : ByteArray := prog_1_method_7_code
abbrev y_X_conflict : MethodName := ⟨"ShopDesks", "conflict", "(II)I"⟩
abbrev c_S_isInConflict : ByteArray := prog_4_method_10_code
abbrev y_S_isInConflict : MethodName := ⟨"ShopDesks$TellingSet", "isInConflict", "(I)Z"⟩
abbrev c_W_mark : ByteArray := method_9_code
abbrev y_W_mark : MethodName := ⟨"ShopDesksLaw", "mark", "(LShopDesks;I[J)I"⟩
abbrev c_X_mark : ByteArray := prog_1_method_8_code
abbrev y_X_mark : MethodName := ⟨"ShopDesks", "mark", "(I)I"⟩
abbrev c_W_since : ByteArray := method_10_code
abbrev y_W_since : MethodName := ⟨"ShopDesksLaw", "since", "(LShopDesks;IIII[J)I"⟩
abbrev c_X_since : ByteArray := prog_1_method_9_code
abbrev y_X_since : MethodName := ⟨"ShopDesks", "since", "(IIII)J"⟩
abbrev c_W_batch : ByteArray := method_11_code
abbrev y_W_batch : MethodName := ⟨"ShopDesksLaw", "batch", "(LShopDesks;IZ[J)I"⟩
abbrev c_X_batch : ByteArray := prog_1_method_10_code
abbrev y_X_batch : MethodName := ⟨"ShopDesks", "batch", "(IZ)Z"⟩
abbrev c_S_beginBatch : ByteArray := prog_4_method_6_code
abbrev y_S_beginBatch : MethodName := ⟨"ShopDesks$TellingSet", "beginBatch", "()Z"⟩
abbrev c_S_endBatch : ByteArray := prog_4_method_7_code
abbrev y_S_endBatch : MethodName := ⟨"ShopDesks$TellingSet", "endBatch", "()Z"⟩
abbrev c_W_right : ByteArray := method_12_code
abbrev y_W_right : MethodName := ⟨"ShopDesksLaw", "right", "(LShopDesks;IIZ[J)I"⟩
abbrev c_X_right : ByteArray := prog_1_method_11_code
abbrev y_X_right : MethodName := ⟨"ShopDesks", "right", "(IIZ)Z"⟩
abbrev c_X_needPerson : ByteArray := prog_1_method_22_code
abbrev y_X_needPerson : MethodName := ⟨"ShopDesks", "needPerson", "(I)V"⟩
abbrev c_W_seen : ByteArray := method_13_code
abbrev y_W_seen : MethodName := ⟨"ShopDesksLaw", "seen", "(LShopDesks;IIII[J)I"⟩
abbrev c_X_seen : ByteArray := prog_1_method_12_code
abbrev y_X_seen : MethodName := ⟨"ShopDesks", "seen", "(IIII)J"⟩
abbrev c_S_sizeToSee : ByteArray := prog_4_method_8_code
abbrev y_S_sizeToSee : MethodName := ⟨"ShopDesks$TellingSet", "sizeToSee", "()I"⟩
abbrev c_W_entry : ByteArray := method_14_code
abbrev y_W_entry : MethodName := ⟨"ShopDesksLaw", "entry", "(LShopDesks;I[J)I"⟩
abbrev c_X_entry : ByteArray := prog_1_method_13_code
abbrev y_X_entry : MethodName := ⟨"ShopDesks", "entry", "(I)I"⟩
abbrev c_X_needDay : ByteArray := prog_1_method_24_code
abbrev y_X_needDay : MethodName := ⟨"ShopDesks", "needDay", "(I)V"⟩
abbrev c_X_needRoomForEntry : ByteArray := prog_1_method_27_code
abbrev y_X_needRoomForEntry : MethodName := ⟨"ShopDesks", "needRoomForEntry", "()V"⟩
abbrev c_L_openEntry : ByteArray := prog_3_method_2_code
abbrev y_L_openEntry : MethodName := ⟨"ShopDesks$Ledger", "openEntry", "(I)I"⟩
abbrev c_W_row : ByteArray := method_15_code
abbrev y_W_row : MethodName := ⟨"ShopDesksLaw", "row", "(LShopDesks;IIJ[J)I"⟩
abbrev c_X_row : ByteArray := prog_1_method_14_code
abbrev y_X_row : MethodName := ⟨"ShopDesks", "row", "(IIJ)I"⟩
abbrev c_X_needEntry : ByteArray := prog_1_method_26_code
abbrev y_X_needEntry : MethodName := ⟨"ShopDesks", "needEntry", "(I)V"⟩
abbrev c_X_needAccount : ByteArray := prog_1_method_23_code
abbrev y_X_needAccount : MethodName := ⟨"ShopDesks", "needAccount", "(I)V"⟩
abbrev c_E_isClosed : ByteArray := prog_2_method_2_code
abbrev y_E_isClosed : MethodName := ⟨"ShopDesks$Entry", "isClosed", "()Z"⟩
abbrev c_E_addRow : ByteArray := prog_2_method_3_code
abbrev y_E_addRow : MethodName := ⟨"ShopDesks$Entry", "addRow", "(IJ)V"⟩
abbrev c_W_close : ByteArray := method_16_code
abbrev y_W_close : MethodName := ⟨"ShopDesksLaw", "close", "(LShopDesks;I[J)I"⟩
abbrev c_X_close : ByteArray := prog_1_method_15_code
abbrev y_X_close : MethodName := ⟨"ShopDesks", "close", "(I)I"⟩
abbrev c_L_isInClosedMonth : ByteArray := prog_3_method_5_code
abbrev y_L_isInClosedMonth : MethodName := ⟨"ShopDesks$Ledger", "isInClosedMonth", "(I)Z"⟩
abbrev c_E_isBalanced : ByteArray := prog_2_method_5_code
abbrev y_E_isBalanced : MethodName := ⟨"ShopDesks$Entry", "isBalanced", "()Z"⟩
abbrev c_L_giveNumber : ByteArray := prog_3_method_3_code
abbrev y_L_giveNumber : MethodName := ⟨"ShopDesks$Ledger", "giveNumber", "(I)I"⟩
abbrev c_W_balance : ByteArray := method_17_code
abbrev y_W_balance : MethodName := ⟨"ShopDesksLaw", "balance", "(LShopDesks;II[J)I"⟩
abbrev c_X_balance : ByteArray := prog_1_method_16_code
abbrev y_X_balance : MethodName := ⟨"ShopDesks", "balance", "(II)J"⟩
abbrev c_L_sumUpTo : ByteArray := prog_3_method_6_code
abbrev y_L_sumUpTo : MethodName := ⟨"ShopDesks$Ledger", "sumUpTo", "(II)J"⟩
abbrev c_E_sumOf : ByteArray := prog_2_method_6_code
abbrev y_E_sumOf : MethodName := ⟨"ShopDesks$Entry", "sumOf", "(I)J"⟩
abbrev c_W_closeMonth : ByteArray := method_18_code
abbrev y_W_closeMonth : MethodName := ⟨"ShopDesksLaw", "closeMonth", "(LShopDesks;I[J)I"⟩
abbrev c_X_closeMonth : ByteArray := prog_1_method_17_code
abbrev y_X_closeMonth : MethodName := ⟨"ShopDesks", "closeMonth", "(I)Z"⟩
abbrev c_W_reverse : ByteArray := method_19_code
abbrev y_W_reverse : MethodName := ⟨"ShopDesksLaw", "reverse", "(LShopDesks;II[J)I"⟩
abbrev c_X_reverse : ByteArray := prog_1_method_18_code
abbrev y_X_reverse : MethodName := ⟨"ShopDesks", "reverse", "(II)I"⟩
abbrev c_L_addReversal : ByteArray := prog_3_method_4_code
abbrev y_L_addReversal : MethodName := ⟨"ShopDesks$Ledger", "addReversal", "(LShopDesks$Entry;I)I"⟩
abbrev c_E_takeTurnedRound : ByteArray := prog_2_method_4_code
abbrev y_E_takeTurnedRound : MethodName := ⟨"ShopDesks$Entry", "takeTurnedRound", "(LShopDesks$Entry;)V"⟩
abbrev c_M_init : ByteArray := prog_7_method_1_code
abbrev y_M_init : MethodName := ⟨"ShopDesksModel", "<init>", "()V"⟩
abbrev c_M_thrown : ByteArray := prog_7_method_2_code
abbrev y_M_thrown : MethodName := ⟨"ShopDesksModel", "thrown", "()I"⟩
abbrev c_M_tell : ByteArray := prog_7_method_6_code
abbrev y_M_tell : MethodName := ⟨"ShopDesksModel", "tell", "(IJIIJJ)I"⟩
abbrev c_M_isIn : ByteArray := prog_7_method_3_code
abbrev y_M_isIn : MethodName := ⟨"ShopDesksModel", "isIn", "(JJJ)Z"⟩
abbrev c_M_isKind : ByteArray := prog_7_method_4_code
abbrev y_M_isKind : MethodName := ⟨"ShopDesksModel", "isKind", "(I)Z"⟩
abbrev c_M_find : ByteArray := prog_7_method_5_code
abbrev y_M_find : MethodName := ⟨"ShopDesksModel", "find", "(IJ)I"⟩
abbrev c_M_set : ByteArray := prog_7_method_9_code
abbrev y_M_set : MethodName := ⟨"ShopDesksModel", "set", "(I)I"⟩
abbrev c_M_join : ByteArray := prog_7_method_11_code
abbrev y_M_join : MethodName := ⟨"ShopDesksModel", "join", "(II)I"⟩
abbrev c_M_isSet : ByteArray := prog_7_method_10_code
abbrev y_M_isSet : MethodName := ⟨"ShopDesksModel", "isSet", "(I)Z"⟩
abbrev c_M_has : ByteArray := prog_7_method_7_code
abbrev y_M_has : MethodName := ⟨"ShopDesksModel", "has", "(II)Z"⟩
abbrev c_M_add : ByteArray := prog_7_method_8_code
abbrev y_M_add : MethodName := ⟨"ShopDesksModel", "add", "(II)V"⟩
abbrev c_M_equal : ByteArray := prog_7_method_12_code
abbrev y_M_equal : MethodName := ⟨"ShopDesksModel", "equal", "(II)Z"⟩
abbrev c_M_at : ByteArray := prog_7_method_20_code
abbrev y_M_at : MethodName := ⟨"ShopDesksModel", "at", "(IIIJ)J"⟩
abbrev c_M_known : ByteArray := prog_7_method_19_code
abbrev y_M_known : MethodName := ⟨"ShopDesksModel", "known", "(IIIIJ)J"⟩
abbrev c_M_speaks : ByteArray := prog_7_method_15_code
abbrev y_M_speaks : MethodName := ⟨"ShopDesksModel", "speaks", "(IIIJ)Z"⟩
abbrev c_M_isSettled : ByteArray := prog_7_method_17_code
abbrev y_M_isSettled : MethodName := ⟨"ShopDesksModel", "isSettled", "(IIIJ)Z"⟩
abbrev c_M_latest : ByteArray := prog_7_method_16_code
abbrev y_M_latest : MethodName := ⟨"ShopDesksModel", "latest", "(IIIIJ)I"⟩
abbrev c_M_later : ByteArray := prog_7_method_14_code
abbrev y_M_later : MethodName := ⟨"ShopDesksModel", "later", "(II)I"⟩
abbrev c_M_isAfter : ByteArray := prog_7_method_13_code
abbrev y_M_isAfter : MethodName := ⟨"ShopDesksModel", "isAfter", "(JJ)Z"⟩
abbrev c_M_areUnlike : ByteArray := prog_7_method_18_code
abbrev y_M_areUnlike : MethodName := ⟨"ShopDesksModel", "areUnlike", "(IIIJ)Z"⟩
abbrev c_M_conflict : ByteArray := prog_7_method_22_code
abbrev y_M_conflict : MethodName := ⟨"ShopDesksModel", "conflict", "(II)I"⟩
abbrev c_M_end : ByteArray := prog_7_method_21_code
abbrev y_M_end : MethodName := ⟨"ShopDesksModel", "end", "()J"⟩
abbrev c_M_mark : ByteArray := prog_7_method_23_code
abbrev y_M_mark : MethodName := ⟨"ShopDesksModel", "mark", "(I)I"⟩
abbrev c_M_since : ByteArray := prog_7_method_24_code
abbrev y_M_since : MethodName := ⟨"ShopDesksModel", "since", "(IIII)J"⟩
abbrev c_M_batch : ByteArray := prog_7_method_25_code
abbrev y_M_batch : MethodName := ⟨"ShopDesksModel", "batch", "(IZ)Z"⟩
abbrev c_M_right : ByteArray := prog_7_method_26_code
abbrev y_M_right : MethodName := ⟨"ShopDesksModel", "right", "(IIZ)Z"⟩
abbrev c_M_seen : ByteArray := prog_7_method_27_code
abbrev y_M_seen : MethodName := ⟨"ShopDesksModel", "seen", "(IIII)J"⟩
abbrev c_M_entry : ByteArray := prog_7_method_28_code
abbrev y_M_entry : MethodName := ⟨"ShopDesksModel", "entry", "(I)I"⟩
abbrev c_M_open : ByteArray := prog_7_method_29_code
abbrev y_M_open : MethodName := ⟨"ShopDesksModel", "open", "(I)I"⟩
abbrev c_M_row : ByteArray := prog_7_method_32_code
abbrev y_M_row : MethodName := ⟨"ShopDesksModel", "row", "(IIJ)I"⟩
abbrev c_M_isEntry : ByteArray := prog_7_method_30_code
abbrev y_M_isEntry : MethodName := ⟨"ShopDesksModel", "isEntry", "(I)Z"⟩
abbrev c_M_addRow : ByteArray := prog_7_method_31_code
abbrev y_M_addRow : MethodName := ⟨"ShopDesksModel", "addRow", "(IIJ)V"⟩
abbrev c_M_close : ByteArray := prog_7_method_34_code
abbrev y_M_close : MethodName := ⟨"ShopDesksModel", "close", "(I)I"⟩
abbrev c_M_closeNow : ByteArray := prog_7_method_33_code
abbrev y_M_closeNow : MethodName := ⟨"ShopDesksModel", "closeNow", "(I)V"⟩
abbrev c_M_balance : ByteArray := prog_7_method_35_code
abbrev y_M_balance : MethodName := ⟨"ShopDesksModel", "balance", "(II)J"⟩
abbrev c_M_closeMonth : ByteArray := prog_7_method_36_code
abbrev y_M_closeMonth : MethodName := ⟨"ShopDesksModel", "closeMonth", "(I)Z"⟩
abbrev c_M_reverse : ByteArray := prog_7_method_37_code
abbrev y_M_reverse : MethodName := ⟨"ShopDesksModel", "reverse", "(II)I"⟩
abbrev c_W_law : ByteArray := code
abbrev y_W_law : MethodName := ⟨"ShopDesksLaw", "law", "([I)Z"⟩
/-- all words of the tables that go with every call -/
def aw : List Cond := lw_tbl.filter goodWord
theorem aw_good {w : Cond} (h : w ∈ aw) : (w.onTables && w.keeps) = true ∨ ∃ ty, w = .arrayClass ty := good_of_word (List.mem_filter.mp h).2
theorem aw_t {w : Cond} (h : w ∈ tables_1) (g : goodWord w = true) : w ∈ aw := List.mem_filter.mpr ⟨List.mem_append_right _ h, g⟩
theorem aw_p {w : Cond} (h : w ∈ k2_sels lw_privs) (g : goodWord w = true) : w ∈ aw := List.mem_filter.mpr ⟨List.mem_append_left _ h, g⟩
def wm (y : MethodName) (c : ByteArray) (n : Nat) (r : Option FieldType) : List Cond := Cond.code y c n r :: aw
theorem wm_good {y y' : MethodName} {c c' : ByteArray} {n n' : Nat} {r r' : Option FieldType} (h : Cond.code y' c' n' r' ∈ aw) : GoodIn (wm y c n r) (wm y' c' n' r') := fun w hw => (List.mem_cons.mp hw).elim (fun e => e ▸ ⟨List.mem_cons_of_mem _ h, aw_good h⟩) (fun e => ⟨List.mem_cons_of_mem _ e, aw_good e⟩)
theorem aN_W : (Jvm.Cond.initialized "ShopDesksLaw") ∈ aw := aw_t (List.mem_append_left _ (List.mem_of_getElem? (l := tables_1_1) (i := 0) rfl)) rfl
theorem aN_X : (Jvm.Cond.initialized "ShopDesks") ∈ aw := aw_t (List.mem_append_left _ (List.mem_of_getElem? (l := tables_1_1) (i := 1) rfl)) rfl
theorem aN_T : (Jvm.Cond.initialized "ShopDesks$Tellings") ∈ aw := aw_t (List.mem_append_left _ (List.mem_of_getElem? (l := tables_1_1) (i := 2) rfl)) rfl
theorem aN_S : (Jvm.Cond.initialized "ShopDesks$TellingSet") ∈ aw := aw_t (List.mem_append_left _ (List.mem_of_getElem? (l := tables_1_1) (i := 3) rfl)) rfl
theorem aN_L : (Jvm.Cond.initialized "ShopDesks$Ledger") ∈ aw := aw_t (List.mem_append_left _ (List.mem_of_getElem? (l := tables_1_1) (i := 4) rfl)) rfl
theorem aN_E : (Jvm.Cond.initialized "ShopDesks$Entry") ∈ aw := aw_t (List.mem_append_left _ (List.mem_of_getElem? (l := tables_1_1) (i := 5) rfl)) rfl
theorem aN_M : (Jvm.Cond.initialized "ShopDesksModel") ∈ aw := aw_t (List.mem_append_left _ (List.mem_of_getElem? (l := tables_1_1) (i := 6) rfl)) rfl
theorem aN_Throwable : (Jvm.Cond.initialized "java/lang/Throwable") ∈ aw := aw_t (List.mem_append_left _ (List.mem_of_getElem? (l := tables_1_1) (i := 7) rfl)) rfl
theorem aN_Exception : (Jvm.Cond.initialized "java/lang/Exception") ∈ aw := aw_t (List.mem_append_left _ (List.mem_of_getElem? (l := tables_1_1) (i := 8) rfl)) rfl
theorem aN_RuntimeException : (Jvm.Cond.initialized "java/lang/RuntimeException") ∈ aw := aw_t (List.mem_append_left _ (List.mem_of_getElem? (l := tables_1_1) (i := 9) rfl)) rfl
theorem aN_IndexOutOfBoundsException : (Jvm.Cond.initialized "java/lang/IndexOutOfBoundsException") ∈ aw := aw_t (List.mem_append_left _ (List.mem_of_getElem? (l := tables_1_1) (i := 10) rfl)) rfl
theorem aN_IllegalArgumentException : (Jvm.Cond.initialized "java/lang/IllegalArgumentException") ∈ aw := aw_t (List.mem_append_left _ (List.mem_of_getElem? (l := tables_1_1) (i := 11) rfl)) rfl
theorem aN_IllegalStateException : (Jvm.Cond.initialized "java/lang/IllegalStateException") ∈ aw := aw_t (List.mem_append_left _ (List.mem_of_getElem? (l := tables_1_1) (i := 12) rfl)) rfl
theorem aC_W_8 : (Jvm.Cond.classLink "ShopDesksLaw" (8 : Nat) "ShopDesks") ∈ aw := aw_t (List.mem_append_left _ (List.mem_of_getElem? (l := tables_1_1) (i := 13) rfl)) rfl
theorem aT_X : (Jvm.Cond.instantiable "ShopDesks" (5 : Nat)) ∈ aw := aw_t (List.mem_append_left _ (List.mem_of_getElem? (l := tables_1_1) (i := 14) rfl)) rfl
theorem aM_W_77 : (Jvm.Cond.methodLink "ShopDesksLaw" (77 : Nat) ({ cls := "ShopDesks", name := "<init>", desc := "()V" } : Jvm.MethodName)) ∈ aw := aw_t (List.mem_append_left _ (List.mem_of_getElem? (l := tables_1_1) (i := 15) rfl)) rfl
theorem aI_X_init : (Jvm.Cond.instanceMethod ({ cls := "ShopDesks", name := "<init>", desc := "()V" } : Jvm.MethodName)) ∈ aw := aw_t (List.mem_append_left _ (List.mem_of_getElem? (l := tables_1_1) (i := 16) rfl)) rfl
theorem aK_X_init : (Jvm.Cond.code ({ cls := "ShopDesks", name := "<init>", desc := "()V" } : Jvm.MethodName) prog_1_method_1_code (2 : Nat) (Option.none : Option Jvm.ClassFile.FieldType)) ∈ aw := aw_t (List.mem_append_left _ (List.mem_of_getElem? (l := tables_1_1) (i := 17) rfl)) rfl
theorem aM_X_3 : (Jvm.Cond.methodLink "ShopDesks" (3 : Nat) ({ cls := "java/lang/Object", name := "<init>", desc := "()V" } : Jvm.MethodName)) ∈ aw := aw_t (List.mem_append_left _ (List.mem_of_getElem? (l := tables_1_1) (i := 18) rfl)) rfl
theorem aI_obj : (Jvm.Cond.instanceMethod ({ cls := "java/lang/Object", name := "<init>", desc := "()V" } : Jvm.MethodName)) ∈ aw := aw_t (List.mem_append_left _ (List.mem_of_getElem? (l := tables_1_1) (i := 19) rfl)) rfl
theorem aK_obj : (Jvm.Cond.code ({ cls := "java/lang/Object", name := "<init>", desc := "()V" } : Jvm.MethodName) object_method_1_code (1 : Nat) (Option.none : Option Jvm.ClassFile.FieldType)) ∈ aw := aw_t (List.mem_append_left _ (List.mem_of_getElem? (l := tables_1_1) (i := 20) rfl)) rfl
theorem aC_X_9 : (Jvm.Cond.classLink "ShopDesks" (9 : Nat) "ShopDesks$Tellings") ∈ aw := aw_t (List.mem_append_left _ (List.mem_of_getElem? (l := tables_1_1) (i := 21) rfl)) rfl
theorem aT_T : (Jvm.Cond.instantiable "ShopDesks$Tellings" (7 : Nat)) ∈ aw := aw_t (List.mem_append_left _ (List.mem_of_getElem? (l := tables_1_1) (i := 22) rfl)) rfl
theorem aM_X_11 : (Jvm.Cond.methodLinkNest "ShopDesks" (11 : Nat) ({ cls := "ShopDesks$Tellings", name := "<init>", desc := "()V" } : Jvm.MethodName) "ShopDesks") ∈ tables_1 := List.mem_append_left _ (List.mem_of_getElem? (l := tables_1_1) (i := 23) rfl)
theorem aI_T_init : (Jvm.Cond.instanceMethod ({ cls := "ShopDesks$Tellings", name := "<init>", desc := "()V" } : Jvm.MethodName)) ∈ aw := aw_t (List.mem_append_left _ (List.mem_of_getElem? (l := tables_1_1) (i := 24) rfl)) rfl
theorem aK_T_init : (Jvm.Cond.code ({ cls := "ShopDesks$Tellings", name := "<init>", desc := "()V" } : Jvm.MethodName) prog_5_method_1_code (1 : Nat) (Option.none : Option Jvm.ClassFile.FieldType)) ∈ aw := aw_t (List.mem_append_left _ (List.mem_of_getElem? (l := tables_1_1) (i := 25) rfl)) rfl
theorem aM_T_3 : (Jvm.Cond.methodLink "ShopDesks$Tellings" (3 : Nat) ({ cls := "java/lang/Object", name := "<init>", desc := "()V" } : Jvm.MethodName)) ∈ aw := aw_t (List.mem_append_left _ (List.mem_of_getElem? (l := tables_1_1) (i := 26) rfl)) rfl
theorem aF_T_9 : (Jvm.Cond.fieldLink "ShopDesks$Tellings" (9 : Nat) "ShopDesks$Tellings" "teller" "[I") ∈ aw := aw_t (List.mem_append_left _ (List.mem_of_getElem? (l := tables_1_1) (i := 27) rfl)) rfl
theorem aF_S_35 : (Jvm.Cond.fieldLink "ShopDesks$TellingSet" (35 : Nat) "ShopDesks$Tellings" "teller" "[I") ∈ aw := aw_t (List.mem_append_left _ (List.mem_of_getElem? (l := tables_1_1) (i := 28) rfl)) rfl
theorem aF_X_113 : (Jvm.Cond.fieldLink "ShopDesks" (113 : Nat) "ShopDesks$Tellings" "teller" "[I") ∈ aw := aw_t (List.mem_append_left _ (List.mem_of_getElem? (l := tables_1_1) (i := 29) rfl)) rfl
theorem aF_T_15 : (Jvm.Cond.fieldLink "ShopDesks$Tellings" (15 : Nat) "ShopDesks$Tellings" "number" "[J") ∈ aw := aw_t (List.mem_append_left _ (List.mem_of_getElem? (l := tables_1_1) (i := 30) rfl)) rfl
theorem aF_S_42 : (Jvm.Cond.fieldLink "ShopDesks$TellingSet" (42 : Nat) "ShopDesks$Tellings" "number" "[J") ∈ aw := aw_t (List.mem_append_left _ (List.mem_of_getElem? (l := tables_1_1) (i := 31) rfl)) rfl
theorem aF_X_116 : (Jvm.Cond.fieldLink "ShopDesks" (116 : Nat) "ShopDesks$Tellings" "number" "[J") ∈ aw := aw_t (List.mem_append_left _ (List.mem_of_getElem? (l := tables_1_1) (i := 32) rfl)) rfl
theorem aF_T_19 : (Jvm.Cond.fieldLink "ShopDesks$Tellings" (19 : Nat) "ShopDesks$Tellings" "thing" "[I") ∈ aw := aw_t (List.mem_append_left _ (List.mem_of_getElem? (l := tables_1_1) (i := 33) rfl)) rfl
theorem aF_T_22 : (Jvm.Cond.fieldLink "ShopDesks$Tellings" (22 : Nat) "ShopDesks$Tellings" "kind" "[I") ∈ aw := aw_t (List.mem_append_left _ (List.mem_of_getElem? (l := tables_1_1) (i := 34) rfl)) rfl
theorem aF_T_25 : (Jvm.Cond.fieldLink "ShopDesks$Tellings" (25 : Nat) "ShopDesks$Tellings" "value" "[J") ∈ aw := aw_t (List.mem_append_left _ (List.mem_of_getElem? (l := tables_1_1) (i := 35) rfl)) rfl
theorem aF_X_120 : (Jvm.Cond.fieldLink "ShopDesks" (120 : Nat) "ShopDesks$Tellings" "value" "[J") ∈ aw := aw_t (List.mem_append_left _ (List.mem_of_getElem? (l := tables_1_1) (i := 36) rfl)) rfl
theorem aF_S_75 : (Jvm.Cond.fieldLink "ShopDesks$TellingSet" (75 : Nat) "ShopDesks$Tellings" "value" "[J") ∈ aw := aw_t (List.mem_append_left _ (List.mem_of_getElem? (l := tables_1_1) (i := 37) rfl)) rfl
theorem aF_T_28 : (Jvm.Cond.fieldLink "ShopDesks$Tellings" (28 : Nat) "ShopDesks$Tellings" "on" "[J") ∈ aw := aw_t (List.mem_append_left _ (List.mem_of_getElem? (l := tables_1_1) (i := 38) rfl)) rfl
theorem aF_S_82 : (Jvm.Cond.fieldLink "ShopDesks$TellingSet" (82 : Nat) "ShopDesks$Tellings" "on" "[J") ∈ aw := aw_t (List.mem_append_left _ (List.mem_of_getElem? (l := tables_1_1) (i := 39) rfl)) rfl
theorem aF_T_31 : (Jvm.Cond.fieldLink "ShopDesks$Tellings" (31 : Nat) "ShopDesks$Tellings" "count" "I") ∈ aw := aw_t (List.mem_append_left _ (List.mem_of_getElem? (l := tables_1_1) (i := 40) rfl)) rfl
theorem aF_S_30 : (Jvm.Cond.fieldLink "ShopDesks$TellingSet" (30 : Nat) "ShopDesks$Tellings" "count" "I") ∈ aw := aw_t (List.mem_append_left _ (List.mem_of_getElem? (l := tables_1_1) (i := 41) rfl)) rfl
theorem aF_X_54 : (Jvm.Cond.fieldLink "ShopDesks" (54 : Nat) "ShopDesks$Tellings" "count" "I") ∈ aw := aw_t (List.mem_append_left _ (List.mem_of_getElem? (l := tables_1_1) (i := 42) rfl)) rfl
theorem aA_int : (Jvm.Cond.arrayClass Jvm.ClassFile.FieldType.int) ∈ aw := aw_t (List.mem_append_left _ (List.mem_of_getElem? (l := tables_1_1) (i := 58) rfl)) rfl
theorem aA_long : (Jvm.Cond.arrayClass Jvm.ClassFile.FieldType.long) ∈ aw := aw_t (List.mem_append_left _ (List.mem_of_getElem? (l := tables_1_1) (i := 59) rfl)) rfl
theorem aC_X_16 : (Jvm.Cond.classLink "ShopDesks" (16 : Nat) "ShopDesks$TellingSet") ∈ aw := aw_t (List.mem_append_left _ (List.mem_of_getElem? (l := tables_1_1) (i := 60) rfl)) rfl
theorem aT_S : (Jvm.Cond.instantiable "ShopDesks$TellingSet" (5 : Nat)) ∈ aw := aw_t (List.mem_append_left _ (List.mem_of_getElem? (l := tables_1_1) (i := 62) rfl)) rfl
theorem aM_X_22 : (Jvm.Cond.methodLink "ShopDesks" (22 : Nat) ({ cls := "ShopDesks$TellingSet", name := "<init>", desc := "(LShopDesks$Tellings;)V" } : Jvm.MethodName)) ∈ aw := aw_t (List.mem_append_left _ (List.mem_of_getElem? (l := tables_1_1) (i := 63) rfl)) rfl
theorem aI_S_init : (Jvm.Cond.instanceMethod ({ cls := "ShopDesks$TellingSet", name := "<init>", desc := "(LShopDesks$Tellings;)V" } : Jvm.MethodName)) ∈ aw := aw_t (List.mem_append_left _ (List.mem_of_getElem? (l := tables_1_1) (i := 64) rfl)) rfl
theorem aK_S_init : (Jvm.Cond.code ({ cls := "ShopDesks$TellingSet", name := "<init>", desc := "(LShopDesks$Tellings;)V" } : Jvm.MethodName) prog_4_method_1_code (2 : Nat) (Option.none : Option Jvm.ClassFile.FieldType)) ∈ aw := aw_t (List.mem_append_left _ (List.mem_of_getElem? (l := tables_1_1) (i := 65) rfl)) rfl
theorem aM_S_3 : (Jvm.Cond.methodLink "ShopDesks$TellingSet" (3 : Nat) ({ cls := "java/lang/Object", name := "<init>", desc := "()V" } : Jvm.MethodName)) ∈ aw := aw_t (List.mem_append_left _ (List.mem_of_getElem? (l := tables_1_1) (i := 66) rfl)) rfl
theorem aF_S_26 : (Jvm.Cond.fieldLink "ShopDesks$TellingSet" (26 : Nat) "ShopDesks$TellingSet" "tellings" "LShopDesks$Tellings;") ∈ aw := aw_t (List.mem_append_left _ (List.mem_of_getElem? (l := tables_1_1) (i := 67) rfl)) rfl
theorem aF_S_9 : (Jvm.Cond.fieldLink "ShopDesks$TellingSet" (9 : Nat) "ShopDesks$TellingSet" "order" "[I") ∈ aw := aw_t (List.mem_append_left _ (List.mem_of_getElem? (l := tables_1_1) (i := 68) rfl)) rfl
theorem aF_X_109 : (Jvm.Cond.fieldLink "ShopDesks" (109 : Nat) "ShopDesks$TellingSet" "order" "[I") ∈ aw := aw_t (List.mem_append_left _ (List.mem_of_getElem? (l := tables_1_1) (i := 69) rfl)) rfl
theorem aF_S_15 : (Jvm.Cond.fieldLink "ShopDesks$TellingSet" (15 : Nat) "ShopDesks$TellingSet" "isIn" "[Z") ∈ aw := aw_t (List.mem_append_left _ (List.mem_of_getElem? (l := tables_1_1) (i := 70) rfl)) rfl
theorem aF_S_19 : (Jvm.Cond.fieldLink "ShopDesks$TellingSet" (19 : Nat) "ShopDesks$TellingSet" "size" "I") ∈ aw := aw_t (List.mem_append_left _ (List.mem_of_getElem? (l := tables_1_1) (i := 71) rfl)) rfl
theorem aF_X_84 : (Jvm.Cond.fieldLink "ShopDesks" (84 : Nat) "ShopDesks$TellingSet" "size" "I") ∈ aw := aw_t (List.mem_append_left _ (List.mem_of_getElem? (l := tables_1_1) (i := 72) rfl)) rfl
theorem aF_S_23 : (Jvm.Cond.fieldLink "ShopDesks$TellingSet" (23 : Nat) "ShopDesks$TellingSet" "sizeAtBatch" "I") ∈ aw := aw_t (List.mem_append_left _ (List.mem_of_getElem? (l := tables_1_1) (i := 73) rfl)) rfl
theorem aA_boolean : (Jvm.Cond.arrayClass Jvm.ClassFile.FieldType.boolean) ∈ aw := aw_t (List.mem_append_left _ (List.mem_of_getElem? (l := tables_1_1) (i := 85) rfl)) rfl
theorem aC_X_33 : (Jvm.Cond.classLink "ShopDesks" (33 : Nat) "ShopDesks$Ledger") ∈ aw := aw_t (List.mem_append_left _ (List.mem_of_getElem? (l := tables_1_1) (i := 86) rfl)) rfl
theorem aT_L : (Jvm.Cond.instantiable "ShopDesks$Ledger" (5 : Nat)) ∈ aw := aw_t (List.mem_append_left _ (List.mem_of_getElem? (l := tables_1_1) (i := 87) rfl)) rfl
theorem aM_X_35 : (Jvm.Cond.methodLink "ShopDesks" (35 : Nat) ({ cls := "ShopDesks$Ledger", name := "<init>", desc := "()V" } : Jvm.MethodName)) ∈ aw := aw_t (List.mem_append_left _ (List.mem_of_getElem? (l := tables_1_1) (i := 88) rfl)) rfl
theorem aI_L_init : (Jvm.Cond.instanceMethod ({ cls := "ShopDesks$Ledger", name := "<init>", desc := "()V" } : Jvm.MethodName)) ∈ aw := aw_t (List.mem_append_left _ (List.mem_of_getElem? (l := tables_1_1) (i := 89) rfl)) rfl
theorem aK_L_init : (Jvm.Cond.code ({ cls := "ShopDesks$Ledger", name := "<init>", desc := "()V" } : Jvm.MethodName) prog_3_method_1_code (2 : Nat) (Option.none : Option Jvm.ClassFile.FieldType)) ∈ aw := aw_t (List.mem_append_left _ (List.mem_of_getElem? (l := tables_1_1) (i := 90) rfl)) rfl
theorem aM_L_3 : (Jvm.Cond.methodLink "ShopDesks$Ledger" (3 : Nat) ({ cls := "java/lang/Object", name := "<init>", desc := "()V" } : Jvm.MethodName)) ∈ aw := aw_t (List.mem_append_left _ (List.mem_of_getElem? (l := tables_1_1) (i := 91) rfl)) rfl
theorem aC_L_9 : (Jvm.Cond.classLink "ShopDesks$Ledger" (9 : Nat) "ShopDesks$Entry") ∈ aw := aw_t (List.mem_append_left _ (List.mem_of_getElem? (l := tables_1_1) (i := 92) rfl)) rfl
theorem aT_E : (Jvm.Cond.instantiable "ShopDesks$Entry" (7 : Nat)) ∈ aw := aw_t (List.mem_append_left _ (List.mem_of_getElem? (l := tables_1_1) (i := 94) rfl)) rfl
theorem aM_L_31 : (Jvm.Cond.methodLinkNest "ShopDesks$Ledger" (31 : Nat) ({ cls := "ShopDesks$Entry", name := "<init>", desc := "()V" } : Jvm.MethodName) "ShopDesks") ∈ tables_1 := List.mem_append_left _ (List.mem_of_getElem? (l := tables_1_1) (i := 95) rfl)
theorem aI_E_init : (Jvm.Cond.instanceMethod ({ cls := "ShopDesks$Entry", name := "<init>", desc := "()V" } : Jvm.MethodName)) ∈ aw := aw_t (List.mem_append_left _ (List.mem_of_getElem? (l := tables_1_1) (i := 96) rfl)) rfl
theorem aK_E_init : (Jvm.Cond.code ({ cls := "ShopDesks$Entry", name := "<init>", desc := "()V" } : Jvm.MethodName) prog_2_method_1_code (1 : Nat) (Option.none : Option Jvm.ClassFile.FieldType)) ∈ aw := aw_t (List.mem_append_left _ (List.mem_of_getElem? (l := tables_1_1) (i := 97) rfl)) rfl
theorem aM_E_3 : (Jvm.Cond.methodLink "ShopDesks$Entry" (3 : Nat) ({ cls := "java/lang/Object", name := "<init>", desc := "()V" } : Jvm.MethodName)) ∈ aw := aw_t (List.mem_append_left _ (List.mem_of_getElem? (l := tables_1_1) (i := 98) rfl)) rfl
theorem aF_E_9 : (Jvm.Cond.fieldLink "ShopDesks$Entry" (9 : Nat) "ShopDesks$Entry" "accounts" "[I") ∈ aw := aw_t (List.mem_append_left _ (List.mem_of_getElem? (l := tables_1_1) (i := 99) rfl)) rfl
theorem aF_E_15 : (Jvm.Cond.fieldLink "ShopDesks$Entry" (15 : Nat) "ShopDesks$Entry" "cents" "[J") ∈ aw := aw_t (List.mem_append_left _ (List.mem_of_getElem? (l := tables_1_1) (i := 100) rfl)) rfl
theorem aF_E_19 : (Jvm.Cond.fieldLink "ShopDesks$Entry" (19 : Nat) "ShopDesks$Entry" "rowCount" "I") ∈ aw := aw_t (List.mem_append_left _ (List.mem_of_getElem? (l := tables_1_1) (i := 101) rfl)) rfl
theorem aF_X_172 : (Jvm.Cond.fieldLink "ShopDesks" (172 : Nat) "ShopDesks$Entry" "rowCount" "I") ∈ aw := aw_t (List.mem_append_left _ (List.mem_of_getElem? (l := tables_1_1) (i := 102) rfl)) rfl
theorem aF_E_23 : (Jvm.Cond.fieldLink "ShopDesks$Entry" (23 : Nat) "ShopDesks$Entry" "day" "I") ∈ aw := aw_t (List.mem_append_left _ (List.mem_of_getElem? (l := tables_1_1) (i := 103) rfl)) rfl
theorem aF_L_32 : (Jvm.Cond.fieldLink "ShopDesks$Ledger" (32 : Nat) "ShopDesks$Entry" "day" "I") ∈ aw := aw_t (List.mem_append_left _ (List.mem_of_getElem? (l := tables_1_1) (i := 104) rfl)) rfl
theorem aF_X_183 : (Jvm.Cond.fieldLink "ShopDesks" (183 : Nat) "ShopDesks$Entry" "day" "I") ∈ aw := aw_t (List.mem_append_left _ (List.mem_of_getElem? (l := tables_1_1) (i := 105) rfl)) rfl
theorem aF_E_26 : (Jvm.Cond.fieldLink "ShopDesks$Entry" (26 : Nat) "ShopDesks$Entry" "number" "I") ∈ aw := aw_t (List.mem_append_left _ (List.mem_of_getElem? (l := tables_1_1) (i := 106) rfl)) rfl
theorem aF_L_35 : (Jvm.Cond.fieldLink "ShopDesks$Ledger" (35 : Nat) "ShopDesks$Entry" "number" "I") ∈ aw := aw_t (List.mem_append_left _ (List.mem_of_getElem? (l := tables_1_1) (i := 107) rfl)) rfl
theorem aF_E_29 : (Jvm.Cond.fieldLink "ShopDesks$Entry" (29 : Nat) "ShopDesks$Entry" "isReversed" "Z") ∈ aw := aw_t (List.mem_append_left _ (List.mem_of_getElem? (l := tables_1_1) (i := 108) rfl)) rfl
theorem aF_L_50 : (Jvm.Cond.fieldLink "ShopDesks$Ledger" (50 : Nat) "ShopDesks$Entry" "isReversed" "Z") ∈ aw := aw_t (List.mem_append_left _ (List.mem_of_getElem? (l := tables_1_1) (i := 109) rfl)) rfl
theorem aF_X_212 : (Jvm.Cond.fieldLink "ShopDesks" (212 : Nat) "ShopDesks$Entry" "isReversed" "Z") ∈ aw := aw_t (List.mem_append_left _ (List.mem_of_getElem? (l := tables_1_1) (i := 110) rfl)) rfl
theorem aF_E_33 : (Jvm.Cond.fieldLink "ShopDesks$Entry" (33 : Nat) "ShopDesks$Entry" "isReversal" "Z") ∈ aw := aw_t (List.mem_append_left _ (List.mem_of_getElem? (l := tables_1_1) (i := 111) rfl)) rfl
theorem aF_L_46 : (Jvm.Cond.fieldLink "ShopDesks$Ledger" (46 : Nat) "ShopDesks$Entry" "isReversal" "Z") ∈ aw := aw_t (List.mem_append_left _ (List.mem_of_getElem? (l := tables_1_1) (i := 112) rfl)) rfl
theorem aF_X_216 : (Jvm.Cond.fieldLink "ShopDesks" (216 : Nat) "ShopDesks$Entry" "isReversal" "Z") ∈ aw := aw_t (List.mem_append_left _ (List.mem_of_getElem? (l := tables_1_1) (i := 113) rfl)) rfl
theorem aF_L_11 : (Jvm.Cond.fieldLink "ShopDesks$Ledger" (11 : Nat) "ShopDesks$Ledger" "entries" "[LShopDesks$Entry;") ∈ aw := aw_t (List.mem_append_left _ (List.mem_of_getElem? (l := tables_1_1) (i := 129) rfl)) rfl
theorem aF_X_163 : (Jvm.Cond.fieldLink "ShopDesks" (163 : Nat) "ShopDesks$Ledger" "entries" "[LShopDesks$Entry;") ∈ aw := aw_t (List.mem_append_left _ (List.mem_of_getElem? (l := tables_1_1) (i := 130) rfl)) rfl
theorem aF_L_17 : (Jvm.Cond.fieldLink "ShopDesks$Ledger" (17 : Nat) "ShopDesks$Ledger" "entryOfNumber" "[I") ∈ aw := aw_t (List.mem_append_left _ (List.mem_of_getElem? (l := tables_1_1) (i := 131) rfl)) rfl
theorem aF_X_209 : (Jvm.Cond.fieldLink "ShopDesks" (209 : Nat) "ShopDesks$Ledger" "entryOfNumber" "[I") ∈ aw := aw_t (List.mem_append_left _ (List.mem_of_getElem? (l := tables_1_1) (i := 132) rfl)) rfl
theorem aF_L_21 : (Jvm.Cond.fieldLink "ShopDesks$Ledger" (21 : Nat) "ShopDesks$Ledger" "entryCount" "I") ∈ aw := aw_t (List.mem_append_left _ (List.mem_of_getElem? (l := tables_1_1) (i := 133) rfl)) rfl
theorem aF_X_239 : (Jvm.Cond.fieldLink "ShopDesks" (239 : Nat) "ShopDesks$Ledger" "entryCount" "I") ∈ aw := aw_t (List.mem_append_left _ (List.mem_of_getElem? (l := tables_1_1) (i := 134) rfl)) rfl
theorem aF_L_25 : (Jvm.Cond.fieldLink "ShopDesks$Ledger" (25 : Nat) "ShopDesks$Ledger" "lastNumber" "I") ∈ aw := aw_t (List.mem_append_left _ (List.mem_of_getElem? (l := tables_1_1) (i := 135) rfl)) rfl
theorem aF_X_204 : (Jvm.Cond.fieldLink "ShopDesks" (204 : Nat) "ShopDesks$Ledger" "lastNumber" "I") ∈ aw := aw_t (List.mem_append_left _ (List.mem_of_getElem? (l := tables_1_1) (i := 136) rfl)) rfl
theorem aF_L_28 : (Jvm.Cond.fieldLink "ShopDesks$Ledger" (28 : Nat) "ShopDesks$Ledger" "lastClosedMonth" "I") ∈ aw := aw_t (List.mem_append_left _ (List.mem_of_getElem? (l := tables_1_1) (i := 137) rfl)) rfl
theorem aF_X_201 : (Jvm.Cond.fieldLink "ShopDesks" (201 : Nat) "ShopDesks$Ledger" "lastClosedMonth" "I") ∈ aw := aw_t (List.mem_append_left _ (List.mem_of_getElem? (l := tables_1_1) (i := 138) rfl)) rfl
theorem aF_X_12 : (Jvm.Cond.fieldLink "ShopDesks" (12 : Nat) "ShopDesks" "tellings" "LShopDesks$Tellings;") ∈ aw := aw_t (List.mem_append_left _ (List.mem_of_getElem? (l := tables_1_1) (i := 150) rfl)) rfl
theorem aF_X_18 : (Jvm.Cond.fieldLink "ShopDesks" (18 : Nat) "ShopDesks" "sets" "[LShopDesks$TellingSet;") ∈ aw := aw_t (List.mem_append_left _ (List.mem_of_getElem? (l := tables_1_1) (i := 151) rfl)) rfl
theorem aF_X_25 : (Jvm.Cond.fieldLink "ShopDesks" (25 : Nat) "ShopDesks" "setCount" "I") ∈ aw := aw_t (List.mem_append_left _ (List.mem_of_getElem? (l := tables_1_1) (i := 152) rfl)) rfl
theorem aF_X_29 : (Jvm.Cond.fieldLink "ShopDesks" (29 : Nat) "ShopDesks" "rights" "[Z") ∈ aw := aw_t (List.mem_append_left _ (List.mem_of_getElem? (l := tables_1_1) (i := 153) rfl)) rfl
theorem aF_X_36 : (Jvm.Cond.fieldLink "ShopDesks" (36 : Nat) "ShopDesks" "ledger" "LShopDesks$Ledger;") ∈ aw := aw_t (List.mem_append_left _ (List.mem_of_getElem? (l := tables_1_1) (i := 154) rfl)) rfl
theorem aM_W_83 : (Jvm.Cond.methodLink "ShopDesksLaw" (83 : Nat) ({ cls := "ShopDesksLaw", name := "tell", desc := "(LShopDesks;IJIIJJ[J)I" } : Jvm.MethodName)) ∈ aw := aw_t (List.mem_append_left _ (List.mem_of_getElem? (l := tables_1_1) (i := 166) rfl)) rfl
theorem aS_W_tell : (Jvm.Cond.static ({ cls := "ShopDesksLaw", name := "tell", desc := "(LShopDesks;IJIIJJ[J)I" } : Jvm.MethodName)) ∈ aw := aw_t (List.mem_append_left _ (List.mem_of_getElem? (l := tables_1_1) (i := 167) rfl)) rfl
theorem aC_W_13 : (Jvm.Cond.classLink "ShopDesksLaw" (13 : Nat) "java/lang/IndexOutOfBoundsException") ∈ aw := aw_t (List.mem_append_left _ (List.mem_of_getElem? (l := tables_1_1) (i := 169) rfl)) rfl
theorem aC_W_15 : (Jvm.Cond.classLink "ShopDesksLaw" (15 : Nat) "java/lang/IllegalArgumentException") ∈ aw := aw_t (List.mem_append_left _ (List.mem_of_getElem? (l := tables_1_1) (i := 170) rfl)) rfl
theorem aC_W_17 : (Jvm.Cond.classLink "ShopDesksLaw" (17 : Nat) "java/lang/IllegalStateException") ∈ aw := aw_t (List.mem_append_left _ (List.mem_of_getElem? (l := tables_1_1) (i := 171) rfl)) rfl
theorem aM_W_7 : (Jvm.Cond.methodLink "ShopDesksLaw" (7 : Nat) ({ cls := "ShopDesks", name := "tell", desc := "(IJIIJJ)I" } : Jvm.MethodName)) ∈ aw := aw_t (List.mem_append_left _ (List.mem_of_getElem? (l := tables_1_1) (i := 172) rfl)) rfl
theorem aI_X_tell : (Jvm.Cond.instanceMethod ({ cls := "ShopDesks", name := "tell", desc := "(IJIIJJ)I" } : Jvm.MethodName)) ∈ aw := aw_t (List.mem_append_left _ (List.mem_of_getElem? (l := tables_1_1) (i := 173) rfl)) rfl
theorem aV_X_tell : (Jvm.Cond.selects "ShopDesks" ({ cls := "ShopDesks", name := "tell", desc := "(IJIIJJ)I" } : Jvm.MethodName) ({ cls := "ShopDesks", name := "tell", desc := "(IJIIJJ)I" } : Jvm.MethodName)) ∈ aw := aw_t (List.mem_append_left _ (List.mem_of_getElem? (l := tables_1_1) (i := 174) rfl)) rfl
theorem aK_X_tell : (Jvm.Cond.code ({ cls := "ShopDesks", name := "tell", desc := "(IJIIJJ)I" } : Jvm.MethodName) prog_1_method_2_code (10 : Nat) (Option.some Jvm.ClassFile.FieldType.int)) ∈ aw := aw_t (List.mem_append_left _ (List.mem_of_getElem? (l := tables_1_1) (i := 175) rfl)) rfl
theorem aM_X_40 : (Jvm.Cond.methodLink "ShopDesks" (40 : Nat) ({ cls := "ShopDesks", name := "needTeller", desc := "(I)V" } : Jvm.MethodName)) ∈ aw := aw_t (List.mem_append_left _ (List.mem_of_getElem? (l := tables_1_1) (i := 176) rfl)) rfl
theorem aS_X_needTeller : (Jvm.Cond.static ({ cls := "ShopDesks", name := "needTeller", desc := "(I)V" } : Jvm.MethodName)) ∈ aw := aw_t (List.mem_append_left _ (List.mem_of_getElem? (l := tables_1_1) (i := 177) rfl)) rfl
theorem aK_X_needTeller : (Jvm.Cond.code ({ cls := "ShopDesks", name := "needTeller", desc := "(I)V" } : Jvm.MethodName) prog_1_method_19_code (1 : Nat) (Option.none : Option Jvm.ClassFile.FieldType)) ∈ aw := aw_t (List.mem_append_left _ (List.mem_of_getElem? (l := tables_1_1) (i := 178) rfl)) rfl
theorem aC_X_100 : (Jvm.Cond.classLink "ShopDesks" (100 : Nat) "java/lang/IndexOutOfBoundsException") ∈ aw := aw_t (List.mem_append_left _ (List.mem_of_getElem? (l := tables_1_1) (i := 179) rfl)) rfl
theorem aM_X_104 : (Jvm.Cond.methodLink "ShopDesks" (104 : Nat) ({ cls := "java/lang/IndexOutOfBoundsException", name := "<init>", desc := "(Ljava/lang/String;)V" } : Jvm.MethodName)) ∈ aw := aw_t (List.mem_append_left _ (List.mem_of_getElem? (l := tables_1_1) (i := 221) rfl)) rfl
theorem aA_byte : (Jvm.Cond.arrayClass Jvm.ClassFile.FieldType.byte) ∈ aw := aw_t (List.mem_append_right _ (List.mem_append_left _ (List.mem_of_getElem? (l := tables_1_2) (i := 6) rfl))) rfl
theorem aM_X_44 : (Jvm.Cond.methodLink "ShopDesks" (44 : Nat) ({ cls := "ShopDesks", name := "needThing", desc := "(I)V" } : Jvm.MethodName)) ∈ aw := aw_t (List.mem_append_right _ (List.mem_append_left _ (List.mem_of_getElem? (l := tables_1_2) (i := 7) rfl))) rfl
theorem aS_X_needThing : (Jvm.Cond.static ({ cls := "ShopDesks", name := "needThing", desc := "(I)V" } : Jvm.MethodName)) ∈ aw := aw_t (List.mem_append_right _ (List.mem_append_left _ (List.mem_of_getElem? (l := tables_1_2) (i := 8) rfl))) rfl
theorem aK_X_needThing : (Jvm.Cond.code ({ cls := "ShopDesks", name := "needThing", desc := "(I)V" } : Jvm.MethodName) prog_1_method_20_code (1 : Nat) (Option.none : Option Jvm.ClassFile.FieldType)) ∈ aw := aw_t (List.mem_append_right _ (List.mem_append_left _ (List.mem_of_getElem? (l := tables_1_2) (i := 9) rfl))) rfl
theorem aM_X_47 : (Jvm.Cond.methodLink "ShopDesks" (47 : Nat) ({ cls := "ShopDesks", name := "needKind", desc := "(I)V" } : Jvm.MethodName)) ∈ aw := aw_t (List.mem_append_right _ (List.mem_append_left _ (List.mem_of_getElem? (l := tables_1_2) (i := 11) rfl))) rfl
theorem aS_X_needKind : (Jvm.Cond.static ({ cls := "ShopDesks", name := "needKind", desc := "(I)V" } : Jvm.MethodName)) ∈ aw := aw_t (List.mem_append_right _ (List.mem_append_left _ (List.mem_of_getElem? (l := tables_1_2) (i := 12) rfl))) rfl
theorem aK_X_needKind : (Jvm.Cond.code ({ cls := "ShopDesks", name := "needKind", desc := "(I)V" } : Jvm.MethodName) prog_1_method_21_code (1 : Nat) (Option.none : Option Jvm.ClassFile.FieldType)) ∈ aw := aw_t (List.mem_append_right _ (List.mem_append_left _ (List.mem_of_getElem? (l := tables_1_2) (i := 13) rfl))) rfl
theorem aC_X_91 : (Jvm.Cond.classLink "ShopDesks" (91 : Nat) "java/lang/IllegalArgumentException") ∈ aw := aw_t (List.mem_append_right _ (List.mem_append_left _ (List.mem_of_getElem? (l := tables_1_2) (i := 14) rfl))) rfl
theorem aM_X_95 : (Jvm.Cond.methodLink "ShopDesks" (95 : Nat) ({ cls := "java/lang/IllegalArgumentException", name := "<init>", desc := "(Ljava/lang/String;)V" } : Jvm.MethodName)) ∈ aw := aw_t (List.mem_append_right _ (List.mem_append_left _ (List.mem_of_getElem? (l := tables_1_2) (i := 24) rfl))) rfl
theorem aM_X_50 : (Jvm.Cond.methodLink "ShopDesks" (50 : Nat) ({ cls := "ShopDesks$Tellings", name := "isTold", desc := "(IJ)Z" } : Jvm.MethodName)) ∈ aw := aw_t (List.mem_append_right _ (List.mem_append_left _ (List.mem_of_getElem? (l := tables_1_2) (i := 30) rfl))) rfl
theorem aI_T_isTold : (Jvm.Cond.instanceMethod ({ cls := "ShopDesks$Tellings", name := "isTold", desc := "(IJ)Z" } : Jvm.MethodName)) ∈ aw := aw_t (List.mem_append_right _ (List.mem_append_left _ (List.mem_of_getElem? (l := tables_1_2) (i := 31) rfl))) rfl
theorem aV_T_isTold : (Jvm.Cond.selects "ShopDesks$Tellings" ({ cls := "ShopDesks$Tellings", name := "isTold", desc := "(IJ)Z" } : Jvm.MethodName) ({ cls := "ShopDesks$Tellings", name := "isTold", desc := "(IJ)Z" } : Jvm.MethodName)) ∈ aw := aw_t (List.mem_append_right _ (List.mem_append_left _ (List.mem_of_getElem? (l := tables_1_2) (i := 32) rfl))) rfl
theorem aK_T_isTold : (Jvm.Cond.code ({ cls := "ShopDesks$Tellings", name := "isTold", desc := "(IJ)Z" } : Jvm.MethodName) prog_5_method_2_code (5 : Nat) (Option.some Jvm.ClassFile.FieldType.boolean)) ∈ aw := aw_t (List.mem_append_right _ (List.mem_append_left _ (List.mem_of_getElem? (l := tables_1_2) (i := 33) rfl))) rfl
theorem aC_X_57 : (Jvm.Cond.classLink "ShopDesks" (57 : Nat) "java/lang/IllegalStateException") ∈ aw := aw_t (List.mem_append_right _ (List.mem_append_left _ (List.mem_of_getElem? (l := tables_1_2) (i := 34) rfl))) rfl
theorem aM_X_61 : (Jvm.Cond.methodLink "ShopDesks" (61 : Nat) ({ cls := "java/lang/IllegalStateException", name := "<init>", desc := "(Ljava/lang/String;)V" } : Jvm.MethodName)) ∈ aw := aw_t (List.mem_append_right _ (List.mem_append_left _ (List.mem_of_getElem? (l := tables_1_2) (i := 44) rfl))) rfl
theorem aM_X_64 : (Jvm.Cond.methodLink "ShopDesks" (64 : Nat) ({ cls := "ShopDesks$Tellings", name := "append", desc := "(IJIIJJ)V" } : Jvm.MethodName)) ∈ aw := aw_t (List.mem_append_right _ (List.mem_append_left _ (List.mem_of_getElem? (l := tables_1_2) (i := 50) rfl))) rfl
theorem aI_T_append : (Jvm.Cond.instanceMethod ({ cls := "ShopDesks$Tellings", name := "append", desc := "(IJIIJJ)V" } : Jvm.MethodName)) ∈ aw := aw_t (List.mem_append_right _ (List.mem_append_left _ (List.mem_of_getElem? (l := tables_1_2) (i := 51) rfl))) rfl
theorem aV_T_append : (Jvm.Cond.selects "ShopDesks$Tellings" ({ cls := "ShopDesks$Tellings", name := "append", desc := "(IJIIJJ)V" } : Jvm.MethodName) ({ cls := "ShopDesks$Tellings", name := "append", desc := "(IJIIJJ)V" } : Jvm.MethodName)) ∈ aw := aw_t (List.mem_append_right _ (List.mem_append_left _ (List.mem_of_getElem? (l := tables_1_2) (i := 52) rfl))) rfl
theorem aK_T_append : (Jvm.Cond.code ({ cls := "ShopDesks$Tellings", name := "append", desc := "(IJIIJJ)V" } : Jvm.MethodName) prog_5_method_3_code (10 : Nat) (Option.none : Option Jvm.ClassFile.FieldType)) ∈ aw := aw_t (List.mem_append_right _ (List.mem_append_left _ (List.mem_of_getElem? (l := tables_1_2) (i := 53) rfl))) rfl
theorem aM_W_89 : (Jvm.Cond.methodLink "ShopDesksLaw" (89 : Nat) ({ cls := "ShopDesksLaw", name := "set", desc := "(LShopDesks;I[J)I" } : Jvm.MethodName)) ∈ aw := aw_t (List.mem_append_right _ (List.mem_append_left _ (List.mem_of_getElem? (l := tables_1_2) (i := 54) rfl))) rfl
theorem aS_W_set : (Jvm.Cond.static ({ cls := "ShopDesksLaw", name := "set", desc := "(LShopDesks;I[J)I" } : Jvm.MethodName)) ∈ aw := aw_t (List.mem_append_right _ (List.mem_append_left _ (List.mem_of_getElem? (l := tables_1_2) (i := 55) rfl))) rfl
theorem aM_W_19 : (Jvm.Cond.methodLink "ShopDesksLaw" (19 : Nat) ({ cls := "ShopDesks", name := "set", desc := "(I)I" } : Jvm.MethodName)) ∈ aw := aw_t (List.mem_append_right _ (List.mem_append_left _ (List.mem_of_getElem? (l := tables_1_2) (i := 57) rfl))) rfl
theorem aI_X_set : (Jvm.Cond.instanceMethod ({ cls := "ShopDesks", name := "set", desc := "(I)I" } : Jvm.MethodName)) ∈ aw := aw_t (List.mem_append_right _ (List.mem_append_left _ (List.mem_of_getElem? (l := tables_1_2) (i := 58) rfl))) rfl
theorem aV_X_set : (Jvm.Cond.selects "ShopDesks" ({ cls := "ShopDesks", name := "set", desc := "(I)I" } : Jvm.MethodName) ({ cls := "ShopDesks", name := "set", desc := "(I)I" } : Jvm.MethodName)) ∈ aw := aw_t (List.mem_append_right _ (List.mem_append_left _ (List.mem_of_getElem? (l := tables_1_2) (i := 59) rfl))) rfl
theorem aK_X_set : (Jvm.Cond.code ({ cls := "ShopDesks", name := "set", desc := "(I)I" } : Jvm.MethodName) prog_1_method_3_code (2 : Nat) (Option.some Jvm.ClassFile.FieldType.int)) ∈ aw := aw_t (List.mem_append_right _ (List.mem_append_left _ (List.mem_of_getElem? (l := tables_1_2) (i := 60) rfl))) rfl
theorem aM_X_70 : (Jvm.Cond.methodLink "ShopDesks" (70 : Nat) ({ cls := "ShopDesks$TellingSet", name := "takeAllOf", desc := "(I)V" } : Jvm.MethodName)) ∈ aw := aw_t (List.mem_append_right _ (List.mem_append_left _ (List.mem_of_getElem? (l := tables_1_2) (i := 62) rfl))) rfl
theorem aI_S_takeAllOf : (Jvm.Cond.instanceMethod ({ cls := "ShopDesks$TellingSet", name := "takeAllOf", desc := "(I)V" } : Jvm.MethodName)) ∈ aw := aw_t (List.mem_append_right _ (List.mem_append_left _ (List.mem_of_getElem? (l := tables_1_2) (i := 63) rfl))) rfl
theorem aV_S_takeAllOf : (Jvm.Cond.selects "ShopDesks$TellingSet" ({ cls := "ShopDesks$TellingSet", name := "takeAllOf", desc := "(I)V" } : Jvm.MethodName) ({ cls := "ShopDesks$TellingSet", name := "takeAllOf", desc := "(I)V" } : Jvm.MethodName)) ∈ aw := aw_t (List.mem_append_right _ (List.mem_append_left _ (List.mem_of_getElem? (l := tables_1_2) (i := 64) rfl))) rfl
theorem aK_S_takeAllOf : (Jvm.Cond.code ({ cls := "ShopDesks$TellingSet", name := "takeAllOf", desc := "(I)V" } : Jvm.MethodName) prog_4_method_2_code (3 : Nat) (Option.none : Option Jvm.ClassFile.FieldType)) ∈ aw := aw_t (List.mem_append_right _ (List.mem_append_left _ (List.mem_of_getElem? (l := tables_1_2) (i := 65) rfl))) rfl
theorem aM_S_38 : (Jvm.Cond.methodLink "ShopDesks$TellingSet" (38 : Nat) ({ cls := "ShopDesks$TellingSet", name := "insertByNumber", desc := "(I)V" } : Jvm.MethodName)) ∈ aw := aw_t (List.mem_append_right _ (List.mem_append_left _ (List.mem_of_getElem? (l := tables_1_2) (i := 66) rfl))) rfl
theorem aI_S_insertByNumber : (Jvm.Cond.instanceMethod ({ cls := "ShopDesks$TellingSet", name := "insertByNumber", desc := "(I)V" } : Jvm.MethodName)) ∈ aw := aw_t (List.mem_append_right _ (List.mem_append_left _ (List.mem_of_getElem? (l := tables_1_2) (i := 68) rfl))) rfl
theorem aK_S_insertByNumber : (Jvm.Cond.code ({ cls := "ShopDesks$TellingSet", name := "insertByNumber", desc := "(I)V" } : Jvm.MethodName) prog_4_method_3_code (3 : Nat) (Option.none : Option Jvm.ClassFile.FieldType)) ∈ aw := aw_t (List.mem_append_right _ (List.mem_append_left _ (List.mem_of_getElem? (l := tables_1_2) (i := 69) rfl))) rfl
theorem aM_W_93 : (Jvm.Cond.methodLink "ShopDesksLaw" (93 : Nat) ({ cls := "ShopDesksLaw", name := "join", desc := "(LShopDesks;II[J)I" } : Jvm.MethodName)) ∈ aw := aw_t (List.mem_append_right _ (List.mem_append_left _ (List.mem_of_getElem? (l := tables_1_2) (i := 70) rfl))) rfl
theorem aS_W_join : (Jvm.Cond.static ({ cls := "ShopDesksLaw", name := "join", desc := "(LShopDesks;II[J)I" } : Jvm.MethodName)) ∈ aw := aw_t (List.mem_append_right _ (List.mem_append_left _ (List.mem_of_getElem? (l := tables_1_2) (i := 71) rfl))) rfl
theorem aM_W_23 : (Jvm.Cond.methodLink "ShopDesksLaw" (23 : Nat) ({ cls := "ShopDesks", name := "join", desc := "(II)I" } : Jvm.MethodName)) ∈ aw := aw_t (List.mem_append_right _ (List.mem_append_left _ (List.mem_of_getElem? (l := tables_1_2) (i := 73) rfl))) rfl
theorem aI_X_join : (Jvm.Cond.instanceMethod ({ cls := "ShopDesks", name := "join", desc := "(II)I" } : Jvm.MethodName)) ∈ aw := aw_t (List.mem_append_right _ (List.mem_append_left _ (List.mem_of_getElem? (l := tables_1_2) (i := 74) rfl))) rfl
theorem aV_X_join : (Jvm.Cond.selects "ShopDesks" ({ cls := "ShopDesks", name := "join", desc := "(II)I" } : Jvm.MethodName) ({ cls := "ShopDesks", name := "join", desc := "(II)I" } : Jvm.MethodName)) ∈ aw := aw_t (List.mem_append_right _ (List.mem_append_left _ (List.mem_of_getElem? (l := tables_1_2) (i := 75) rfl))) rfl
theorem aK_X_join : (Jvm.Cond.code ({ cls := "ShopDesks", name := "join", desc := "(II)I" } : Jvm.MethodName) prog_1_method_4_code (3 : Nat) (Option.some Jvm.ClassFile.FieldType.int)) ∈ aw := aw_t (List.mem_append_right _ (List.mem_append_left _ (List.mem_of_getElem? (l := tables_1_2) (i := 76) rfl))) rfl
theorem aM_X_73 : (Jvm.Cond.methodLink "ShopDesks" (73 : Nat) ({ cls := "ShopDesks", name := "needSet", desc := "(I)V" } : Jvm.MethodName)) ∈ aw := aw_t (List.mem_append_right _ (List.mem_append_left _ (List.mem_of_getElem? (l := tables_1_2) (i := 77) rfl))) rfl
theorem aI_X_needSet : (Jvm.Cond.instanceMethod ({ cls := "ShopDesks", name := "needSet", desc := "(I)V" } : Jvm.MethodName)) ∈ aw := aw_t (List.mem_append_right _ (List.mem_append_left _ (List.mem_of_getElem? (l := tables_1_2) (i := 79) rfl))) rfl
theorem aK_X_needSet : (Jvm.Cond.code ({ cls := "ShopDesks", name := "needSet", desc := "(I)V" } : Jvm.MethodName) prog_1_method_25_code (2 : Nat) (Option.none : Option Jvm.ClassFile.FieldType)) ∈ aw := aw_t (List.mem_append_right _ (List.mem_append_left _ (List.mem_of_getElem? (l := tables_1_2) (i := 80) rfl))) rfl
theorem aM_X_76 : (Jvm.Cond.methodLink "ShopDesks" (76 : Nat) ({ cls := "ShopDesks$TellingSet", name := "takeMissing", desc := "(LShopDesks$TellingSet;)I" } : Jvm.MethodName)) ∈ aw := aw_t (List.mem_append_right _ (List.mem_append_left _ (List.mem_of_getElem? (l := tables_1_2) (i := 82) rfl))) rfl
theorem aI_S_takeMissing : (Jvm.Cond.instanceMethod ({ cls := "ShopDesks$TellingSet", name := "takeMissing", desc := "(LShopDesks$TellingSet;)I" } : Jvm.MethodName)) ∈ aw := aw_t (List.mem_append_right _ (List.mem_append_left _ (List.mem_of_getElem? (l := tables_1_2) (i := 83) rfl))) rfl
theorem aV_S_takeMissing : (Jvm.Cond.selects "ShopDesks$TellingSet" ({ cls := "ShopDesks$TellingSet", name := "takeMissing", desc := "(LShopDesks$TellingSet;)I" } : Jvm.MethodName) ({ cls := "ShopDesks$TellingSet", name := "takeMissing", desc := "(LShopDesks$TellingSet;)I" } : Jvm.MethodName)) ∈ aw := aw_t (List.mem_append_right _ (List.mem_append_left _ (List.mem_of_getElem? (l := tables_1_2) (i := 84) rfl))) rfl
theorem aK_S_takeMissing : (Jvm.Cond.code ({ cls := "ShopDesks$TellingSet", name := "takeMissing", desc := "(LShopDesks$TellingSet;)I" } : Jvm.MethodName) prog_4_method_4_code (5 : Nat) (Option.some Jvm.ClassFile.FieldType.int)) ∈ aw := aw_t (List.mem_append_right _ (List.mem_append_left _ (List.mem_of_getElem? (l := tables_1_2) (i := 85) rfl))) rfl
theorem aM_W_97 : (Jvm.Cond.methodLink "ShopDesksLaw" (97 : Nat) ({ cls := "ShopDesksLaw", name := "equal", desc := "(LShopDesks;II[J)I" } : Jvm.MethodName)) ∈ aw := aw_t (List.mem_append_right _ (List.mem_append_left _ (List.mem_of_getElem? (l := tables_1_2) (i := 86) rfl))) rfl
theorem aS_W_equal : (Jvm.Cond.static ({ cls := "ShopDesksLaw", name := "equal", desc := "(LShopDesks;II[J)I" } : Jvm.MethodName)) ∈ aw := aw_t (List.mem_append_right _ (List.mem_append_left _ (List.mem_of_getElem? (l := tables_1_2) (i := 87) rfl))) rfl
theorem aM_W_27 : (Jvm.Cond.methodLink "ShopDesksLaw" (27 : Nat) ({ cls := "ShopDesks", name := "equal", desc := "(II)Z" } : Jvm.MethodName)) ∈ aw := aw_t (List.mem_append_right _ (List.mem_append_left _ (List.mem_of_getElem? (l := tables_1_2) (i := 89) rfl))) rfl
theorem aI_X_equal : (Jvm.Cond.instanceMethod ({ cls := "ShopDesks", name := "equal", desc := "(II)Z" } : Jvm.MethodName)) ∈ aw := aw_t (List.mem_append_right _ (List.mem_append_left _ (List.mem_of_getElem? (l := tables_1_2) (i := 90) rfl))) rfl
theorem aV_X_equal : (Jvm.Cond.selects "ShopDesks" ({ cls := "ShopDesks", name := "equal", desc := "(II)Z" } : Jvm.MethodName) ({ cls := "ShopDesks", name := "equal", desc := "(II)Z" } : Jvm.MethodName)) ∈ aw := aw_t (List.mem_append_right _ (List.mem_append_left _ (List.mem_of_getElem? (l := tables_1_2) (i := 91) rfl))) rfl
theorem aK_X_equal : (Jvm.Cond.code ({ cls := "ShopDesks", name := "equal", desc := "(II)Z" } : Jvm.MethodName) prog_1_method_5_code (3 : Nat) (Option.some Jvm.ClassFile.FieldType.boolean)) ∈ aw := aw_t (List.mem_append_right _ (List.mem_append_left _ (List.mem_of_getElem? (l := tables_1_2) (i := 92) rfl))) rfl
theorem aM_X_80 : (Jvm.Cond.methodLink "ShopDesks" (80 : Nat) ({ cls := "ShopDesks$TellingSet", name := "hasSameAs", desc := "(LShopDesks$TellingSet;)Z" } : Jvm.MethodName)) ∈ aw := aw_t (List.mem_append_right _ (List.mem_append_left _ (List.mem_of_getElem? (l := tables_1_2) (i := 93) rfl))) rfl
theorem aI_S_hasSameAs : (Jvm.Cond.instanceMethod ({ cls := "ShopDesks$TellingSet", name := "hasSameAs", desc := "(LShopDesks$TellingSet;)Z" } : Jvm.MethodName)) ∈ aw := aw_t (List.mem_append_right _ (List.mem_append_left _ (List.mem_of_getElem? (l := tables_1_2) (i := 94) rfl))) rfl
theorem aV_S_hasSameAs : (Jvm.Cond.selects "ShopDesks$TellingSet" ({ cls := "ShopDesks$TellingSet", name := "hasSameAs", desc := "(LShopDesks$TellingSet;)Z" } : Jvm.MethodName) ({ cls := "ShopDesks$TellingSet", name := "hasSameAs", desc := "(LShopDesks$TellingSet;)Z" } : Jvm.MethodName)) ∈ aw := aw_t (List.mem_append_right _ (List.mem_append_left _ (List.mem_of_getElem? (l := tables_1_2) (i := 95) rfl))) rfl
theorem aK_S_hasSameAs : (Jvm.Cond.code ({ cls := "ShopDesks$TellingSet", name := "hasSameAs", desc := "(LShopDesks$TellingSet;)Z" } : Jvm.MethodName) prog_4_method_5_code (3 : Nat) (Option.some Jvm.ClassFile.FieldType.boolean)) ∈ aw := aw_t (List.mem_append_right _ (List.mem_append_left _ (List.mem_of_getElem? (l := tables_1_2) (i := 96) rfl))) rfl
theorem aM_W_100 : (Jvm.Cond.methodLink "ShopDesksLaw" (100 : Nat) ({ cls := "ShopDesksLaw", name := "at", desc := "(LShopDesks;IIIJ[J)I" } : Jvm.MethodName)) ∈ aw := aw_t (List.mem_append_right _ (List.mem_append_left _ (List.mem_of_getElem? (l := tables_1_2) (i := 97) rfl))) rfl
theorem aS_W_at : (Jvm.Cond.static ({ cls := "ShopDesksLaw", name := "at", desc := "(LShopDesks;IIIJ[J)I" } : Jvm.MethodName)) ∈ aw := aw_t (List.mem_append_right _ (List.mem_append_left _ (List.mem_of_getElem? (l := tables_1_2) (i := 98) rfl))) rfl
theorem aM_W_31 : (Jvm.Cond.methodLink "ShopDesksLaw" (31 : Nat) ({ cls := "ShopDesks", name := "at", desc := "(IIIJ)J" } : Jvm.MethodName)) ∈ aw := aw_t (List.mem_append_right _ (List.mem_append_left _ (List.mem_of_getElem? (l := tables_1_2) (i := 100) rfl))) rfl
theorem aI_X_at : (Jvm.Cond.instanceMethod ({ cls := "ShopDesks", name := "at", desc := "(IIIJ)J" } : Jvm.MethodName)) ∈ aw := aw_t (List.mem_append_right _ (List.mem_append_left _ (List.mem_of_getElem? (l := tables_1_2) (i := 101) rfl))) rfl
theorem aV_X_at : (Jvm.Cond.selects "ShopDesks" ({ cls := "ShopDesks", name := "at", desc := "(IIIJ)J" } : Jvm.MethodName) ({ cls := "ShopDesks", name := "at", desc := "(IIIJ)J" } : Jvm.MethodName)) ∈ aw := aw_t (List.mem_append_right _ (List.mem_append_left _ (List.mem_of_getElem? (l := tables_1_2) (i := 102) rfl))) rfl
theorem aK_X_at : (Jvm.Cond.code ({ cls := "ShopDesks", name := "at", desc := "(IIIJ)J" } : Jvm.MethodName) prog_1_method_6_code (6 : Nat) (Option.some Jvm.ClassFile.FieldType.long)) ∈ aw := aw_t (List.mem_append_right _ (List.mem_append_left _ (List.mem_of_getElem? (l := tables_1_2) (i := 103) rfl))) rfl
theorem aM_X_87 : (Jvm.Cond.methodLink "ShopDesks" (87 : Nat) ({ cls := "ShopDesks$TellingSet", name := "known", desc := "(IIJI)J" } : Jvm.MethodName)) ∈ aw := aw_t (List.mem_append_right _ (List.mem_append_left _ (List.mem_of_getElem? (l := tables_1_2) (i := 104) rfl))) rfl
theorem aI_S_known : (Jvm.Cond.instanceMethod ({ cls := "ShopDesks$TellingSet", name := "known", desc := "(IIJI)J" } : Jvm.MethodName)) ∈ aw := aw_t (List.mem_append_right _ (List.mem_append_left _ (List.mem_of_getElem? (l := tables_1_2) (i := 105) rfl))) rfl
theorem aV_S_known : (Jvm.Cond.selects "ShopDesks$TellingSet" ({ cls := "ShopDesks$TellingSet", name := "known", desc := "(IIJI)J" } : Jvm.MethodName) ({ cls := "ShopDesks$TellingSet", name := "known", desc := "(IIJI)J" } : Jvm.MethodName)) ∈ aw := aw_t (List.mem_append_right _ (List.mem_append_left _ (List.mem_of_getElem? (l := tables_1_2) (i := 106) rfl))) rfl
theorem aK_S_known : (Jvm.Cond.code ({ cls := "ShopDesks$TellingSet", name := "known", desc := "(IIJI)J" } : Jvm.MethodName) prog_4_method_9_code (6 : Nat) (Option.some Jvm.ClassFile.FieldType.long)) ∈ aw := aw_t (List.mem_append_right _ (List.mem_append_left _ (List.mem_of_getElem? (l := tables_1_2) (i := 107) rfl))) rfl
theorem aM_S_46 : (Jvm.Cond.methodLink "ShopDesks$TellingSet" (46 : Nat) ({ cls := "ShopDesks$TellingSet", name := "sumOfCounts", desc := "(IJI)J" } : Jvm.MethodName)) ∈ aw := aw_t (List.mem_append_right _ (List.mem_append_left _ (List.mem_of_getElem? (l := tables_1_2) (i := 108) rfl))) rfl
theorem aI_S_sumOfCounts : (Jvm.Cond.instanceMethod ({ cls := "ShopDesks$TellingSet", name := "sumOfCounts", desc := "(IJI)J" } : Jvm.MethodName)) ∈ aw := aw_t (List.mem_append_right _ (List.mem_append_left _ (List.mem_of_getElem? (l := tables_1_2) (i := 110) rfl))) rfl
theorem aK_S_sumOfCounts : (Jvm.Cond.code ({ cls := "ShopDesks$TellingSet", name := "sumOfCounts", desc := "(IJI)J" } : Jvm.MethodName) prog_4_method_11_code (8 : Nat) (Option.some Jvm.ClassFile.FieldType.long)) ∈ aw := aw_t (List.mem_append_right _ (List.mem_append_left _ (List.mem_of_getElem? (l := tables_1_2) (i := 111) rfl))) rfl
theorem aM_S_71 : (Jvm.Cond.methodLink "ShopDesks$TellingSet" (71 : Nat) ({ cls := "ShopDesks$Tellings", name := "holds", desc := "(IIIJ)Z" } : Jvm.MethodName)) ∈ aw := aw_t (List.mem_append_right _ (List.mem_append_left _ (List.mem_of_getElem? (l := tables_1_2) (i := 112) rfl))) rfl
theorem aI_T_holds : (Jvm.Cond.instanceMethod ({ cls := "ShopDesks$Tellings", name := "holds", desc := "(IIIJ)Z" } : Jvm.MethodName)) ∈ aw := aw_t (List.mem_append_right _ (List.mem_append_left _ (List.mem_of_getElem? (l := tables_1_2) (i := 113) rfl))) rfl
theorem aV_T_holds : (Jvm.Cond.selects "ShopDesks$Tellings" ({ cls := "ShopDesks$Tellings", name := "holds", desc := "(IIIJ)Z" } : Jvm.MethodName) ({ cls := "ShopDesks$Tellings", name := "holds", desc := "(IIIJ)Z" } : Jvm.MethodName)) ∈ aw := aw_t (List.mem_append_right _ (List.mem_append_left _ (List.mem_of_getElem? (l := tables_1_2) (i := 114) rfl))) rfl
theorem aK_T_holds : (Jvm.Cond.code ({ cls := "ShopDesks$Tellings", name := "holds", desc := "(IIIJ)Z" } : Jvm.MethodName) prog_5_method_4_code (6 : Nat) (Option.some Jvm.ClassFile.FieldType.boolean)) ∈ aw := aw_t (List.mem_append_right _ (List.mem_append_left _ (List.mem_of_getElem? (l := tables_1_2) (i := 115) rfl))) rfl
theorem aM_S_50 : (Jvm.Cond.methodLink "ShopDesks$TellingSet" (50 : Nat) ({ cls := "ShopDesks$TellingSet", name := "knownMark", desc := "(IJI)J" } : Jvm.MethodName)) ∈ aw := aw_t (List.mem_append_right _ (List.mem_append_left _ (List.mem_of_getElem? (l := tables_1_2) (i := 116) rfl))) rfl
theorem aI_S_knownMark : (Jvm.Cond.instanceMethod ({ cls := "ShopDesks$TellingSet", name := "knownMark", desc := "(IJI)J" } : Jvm.MethodName)) ∈ aw := aw_t (List.mem_append_right _ (List.mem_append_left _ (List.mem_of_getElem? (l := tables_1_2) (i := 118) rfl))) rfl
theorem aK_S_knownMark : (Jvm.Cond.code ({ cls := "ShopDesks$TellingSet", name := "knownMark", desc := "(IJI)J" } : Jvm.MethodName) prog_4_method_12_code (6 : Nat) (Option.some Jvm.ClassFile.FieldType.long)) ∈ aw := aw_t (List.mem_append_right _ (List.mem_append_left _ (List.mem_of_getElem? (l := tables_1_2) (i := 119) rfl))) rfl
theorem aM_S_63 : (Jvm.Cond.methodLink "ShopDesks$TellingSet" (63 : Nat) ({ cls := "ShopDesks$TellingSet", name := "settling", desc := "(IJI)I" } : Jvm.MethodName)) ∈ aw := aw_t (List.mem_append_right _ (List.mem_append_left _ (List.mem_of_getElem? (l := tables_1_2) (i := 120) rfl))) rfl
theorem aI_S_settling : (Jvm.Cond.instanceMethod ({ cls := "ShopDesks$TellingSet", name := "settling", desc := "(IJI)I" } : Jvm.MethodName)) ∈ aw := aw_t (List.mem_append_right _ (List.mem_append_left _ (List.mem_of_getElem? (l := tables_1_2) (i := 122) rfl))) rfl
theorem aK_S_settling : (Jvm.Cond.code ({ cls := "ShopDesks$TellingSet", name := "settling", desc := "(IJI)I" } : Jvm.MethodName) prog_4_method_14_code (7 : Nat) (Option.some Jvm.ClassFile.FieldType.int)) ∈ aw := aw_t (List.mem_append_right _ (List.mem_append_left _ (List.mem_of_getElem? (l := tables_1_2) (i := 123) rfl))) rfl
theorem aM_S_53 : (Jvm.Cond.methodLink "ShopDesks$TellingSet" (53 : Nat) ({ cls := "ShopDesks$TellingSet", name := "latest", desc := "(IIJI)I" } : Jvm.MethodName)) ∈ aw := aw_t (List.mem_append_right _ (List.mem_append_left _ (List.mem_of_getElem? (l := tables_1_2) (i := 124) rfl))) rfl
theorem aI_S_latest : (Jvm.Cond.instanceMethod ({ cls := "ShopDesks$TellingSet", name := "latest", desc := "(IIJI)I" } : Jvm.MethodName)) ∈ aw := aw_t (List.mem_append_right _ (List.mem_append_left _ (List.mem_of_getElem? (l := tables_1_2) (i := 126) rfl))) rfl
theorem aK_S_latest : (Jvm.Cond.code ({ cls := "ShopDesks$TellingSet", name := "latest", desc := "(IIJI)I" } : Jvm.MethodName) prog_4_method_13_code (9 : Nat) (Option.some Jvm.ClassFile.FieldType.int)) ∈ aw := aw_t (List.mem_append_right _ (List.mem_append_left _ (List.mem_of_getElem? (l := tables_1_2) (i := 127) rfl))) rfl
theorem aM_S_78 : (Jvm.Cond.methodLink "ShopDesks$TellingSet" (78 : Nat) ({ cls := "ShopDesks$Tellings", name := "isLater", desc := "(II)Z" } : Jvm.MethodName)) ∈ aw := aw_t (List.mem_append_right _ (List.mem_append_left _ (List.mem_of_getElem? (l := tables_1_2) (i := 128) rfl))) rfl
theorem aI_T_isLater : (Jvm.Cond.instanceMethod ({ cls := "ShopDesks$Tellings", name := "isLater", desc := "(II)Z" } : Jvm.MethodName)) ∈ aw := aw_t (List.mem_append_right _ (List.mem_append_left _ (List.mem_of_getElem? (l := tables_1_2) (i := 129) rfl))) rfl
theorem aV_T_isLater : (Jvm.Cond.selects "ShopDesks$Tellings" ({ cls := "ShopDesks$Tellings", name := "isLater", desc := "(II)Z" } : Jvm.MethodName) ({ cls := "ShopDesks$Tellings", name := "isLater", desc := "(II)Z" } : Jvm.MethodName)) ∈ aw := aw_t (List.mem_append_right _ (List.mem_append_left _ (List.mem_of_getElem? (l := tables_1_2) (i := 130) rfl))) rfl
theorem aK_T_isLater : (Jvm.Cond.code ({ cls := "ShopDesks$Tellings", name := "isLater", desc := "(II)Z" } : Jvm.MethodName) prog_5_method_5_code (3 : Nat) (Option.some Jvm.ClassFile.FieldType.boolean)) ∈ aw := aw_t (List.mem_append_right _ (List.mem_append_left _ (List.mem_of_getElem? (l := tables_1_2) (i := 131) rfl))) rfl
theorem aM_S_67 : (Jvm.Cond.methodLink "ShopDesks$TellingSet" (67 : Nat) ({ cls := "ShopDesks$TellingSet", name := "hasUnlikeMarks", desc := "(IJI)Z" } : Jvm.MethodName)) ∈ aw := aw_t (List.mem_append_right _ (List.mem_append_left _ (List.mem_of_getElem? (l := tables_1_2) (i := 132) rfl))) rfl
theorem aI_S_hasUnlikeMarks : (Jvm.Cond.instanceMethod ({ cls := "ShopDesks$TellingSet", name := "hasUnlikeMarks", desc := "(IJI)Z" } : Jvm.MethodName)) ∈ aw := aw_t (List.mem_append_right _ (List.mem_append_left _ (List.mem_of_getElem? (l := tables_1_2) (i := 134) rfl))) rfl
theorem aK_S_hasUnlikeMarks : (Jvm.Cond.code ({ cls := "ShopDesks$TellingSet", name := "hasUnlikeMarks", desc := "(IJI)Z" } : Jvm.MethodName) prog_4_method_15_code (7 : Nat) (Option.some Jvm.ClassFile.FieldType.boolean)) ∈ aw := aw_t (List.mem_append_right _ (List.mem_append_left _ (List.mem_of_getElem? (l := tables_1_2) (i := 135) rfl))) rfl
theorem aM_S_57 : (Jvm.Cond.methodLink "ShopDesks$TellingSet" (57 : Nat) ({ cls := "ShopDesks$TellingSet", name := "valueOrZero", desc := "(I)J" } : Jvm.MethodName)) ∈ aw := aw_t (List.mem_append_right _ (List.mem_append_left _ (List.mem_of_getElem? (l := tables_1_2) (i := 136) rfl))) rfl
theorem aI_S_valueOrZero : (Jvm.Cond.instanceMethod ({ cls := "ShopDesks$TellingSet", name := "valueOrZero", desc := "(I)J" } : Jvm.MethodName)) ∈ aw := aw_t (List.mem_append_right _ (List.mem_append_left _ (List.mem_of_getElem? (l := tables_1_2) (i := 138) rfl))) rfl
theorem aK_S_valueOrZero : (Jvm.Cond.code ({ cls := "ShopDesks$TellingSet", name := "valueOrZero", desc := "(I)J" } : Jvm.MethodName) prog_4_method_16_code (2 : Nat) (Option.some Jvm.ClassFile.FieldType.long)) ∈ aw := aw_t (List.mem_append_right _ (List.mem_append_left _ (List.mem_of_getElem? (l := tables_1_2) (i := 139) rfl))) rfl
theorem aM_W_104 : (Jvm.Cond.methodLink "ShopDesksLaw" (104 : Nat) ({ cls := "ShopDesksLaw", name := "conflict", desc := "(LShopDesks;II[J)I" } : Jvm.MethodName)) ∈ aw := aw_t (List.mem_append_right _ (List.mem_append_left _ (List.mem_of_getElem? (l := tables_1_2) (i := 140) rfl))) rfl
theorem aS_W_conflict : (Jvm.Cond.static ({ cls := "ShopDesksLaw", name := "conflict", desc := "(LShopDesks;II[J)I" } : Jvm.MethodName)) ∈ aw := aw_t (List.mem_append_right _ (List.mem_append_left _ (List.mem_of_getElem? (l := tables_1_2) (i := 141) rfl))) rfl
theorem aM_W_35 : (Jvm.Cond.methodLink "ShopDesksLaw" (35 : Nat) ({ cls := "ShopDesks", name := "conflict", desc := "(II)I" } : Jvm.MethodName)) ∈ aw := aw_t (List.mem_append_right _ (List.mem_append_left _ (List.mem_of_getElem? (l := tables_1_2) (i := 143) rfl))) rfl
theorem aI_X_conflict : (Jvm.Cond.instanceMethod ({ cls := "ShopDesks", name := "conflict", desc := "(II)I" } : Jvm.MethodName)) ∈ aw := aw_t (List.mem_append_right _ (List.mem_append_left _ (List.mem_of_getElem? (l := tables_1_2) (i := 144) rfl))) rfl
theorem aV_X_conflict : (Jvm.Cond.selects "ShopDesks" ({ cls := "ShopDesks", name := "conflict", desc := "(II)I" } : Jvm.MethodName) ({ cls := "ShopDesks", name := "conflict", desc := "(II)I" } : Jvm.MethodName)) ∈ aw := aw_t (List.mem_append_right _ (List.mem_append_left _ (List.mem_of_getElem? (l := tables_1_2) (i := 145) rfl))) rfl
theorem aK_X_conflict : (Jvm.Cond.code ({ cls := "ShopDesks", name := "conflict", desc := "(II)I" } : Jvm.MethodName) prog_1_method_7_code (5 : Nat) (Option.some Jvm.ClassFile.FieldType.int)) ∈ aw := aw_t (List.mem_append_right _ (List.mem_append_left _ (List.mem_of_getElem? (l := tables_1_2) (i := 146) rfl))) rfl
theorem aM_X_96 : (Jvm.Cond.methodLink "ShopDesks" (96 : Nat) ({ cls := "ShopDesks$TellingSet", name := "isInConflict", desc := "(I)Z" } : Jvm.MethodName)) ∈ aw := aw_t (List.mem_append_right _ (List.mem_append_left _ (List.mem_of_getElem? (l := tables_1_2) (i := 148) rfl))) rfl
theorem aI_S_isInConflict : (Jvm.Cond.instanceMethod ({ cls := "ShopDesks$TellingSet", name := "isInConflict", desc := "(I)Z" } : Jvm.MethodName)) ∈ aw := aw_t (List.mem_append_right _ (List.mem_append_left _ (List.mem_of_getElem? (l := tables_1_2) (i := 149) rfl))) rfl
theorem aV_S_isInConflict : (Jvm.Cond.selects "ShopDesks$TellingSet" ({ cls := "ShopDesks$TellingSet", name := "isInConflict", desc := "(I)Z" } : Jvm.MethodName) ({ cls := "ShopDesks$TellingSet", name := "isInConflict", desc := "(I)Z" } : Jvm.MethodName)) ∈ aw := aw_t (List.mem_append_right _ (List.mem_append_left _ (List.mem_of_getElem? (l := tables_1_2) (i := 150) rfl))) rfl
theorem aK_S_isInConflict : (Jvm.Cond.code ({ cls := "ShopDesks$TellingSet", name := "isInConflict", desc := "(I)Z" } : Jvm.MethodName) prog_4_method_10_code (2 : Nat) (Option.some Jvm.ClassFile.FieldType.boolean)) ∈ aw := aw_t (List.mem_append_right _ (List.mem_append_left _ (List.mem_of_getElem? (l := tables_1_2) (i := 151) rfl))) rfl
theorem aL_S_61 : (Jvm.Cond.constantLong "ShopDesks$TellingSet" (61 : Nat) (9223372036854775807 : Int64)) ∈ aw := aw_t (List.mem_append_right _ (List.mem_append_left _ (List.mem_of_getElem? (l := tables_1_2) (i := 152) rfl))) rfl
theorem aM_W_107 : (Jvm.Cond.methodLink "ShopDesksLaw" (107 : Nat) ({ cls := "ShopDesksLaw", name := "mark", desc := "(LShopDesks;I[J)I" } : Jvm.MethodName)) ∈ aw := aw_t (List.mem_append_right _ (List.mem_append_left _ (List.mem_of_getElem? (l := tables_1_2) (i := 153) rfl))) rfl
theorem aS_W_mark : (Jvm.Cond.static ({ cls := "ShopDesksLaw", name := "mark", desc := "(LShopDesks;I[J)I" } : Jvm.MethodName)) ∈ aw := aw_t (List.mem_append_right _ (List.mem_append_left _ (List.mem_of_getElem? (l := tables_1_2) (i := 154) rfl))) rfl
theorem aM_W_38 : (Jvm.Cond.methodLink "ShopDesksLaw" (38 : Nat) ({ cls := "ShopDesks", name := "mark", desc := "(I)I" } : Jvm.MethodName)) ∈ aw := aw_t (List.mem_append_right _ (List.mem_append_left _ (List.mem_of_getElem? (l := tables_1_2) (i := 156) rfl))) rfl
theorem aI_X_mark : (Jvm.Cond.instanceMethod ({ cls := "ShopDesks", name := "mark", desc := "(I)I" } : Jvm.MethodName)) ∈ aw := aw_t (List.mem_append_right _ (List.mem_append_left _ (List.mem_of_getElem? (l := tables_1_2) (i := 157) rfl))) rfl
theorem aV_X_mark : (Jvm.Cond.selects "ShopDesks" ({ cls := "ShopDesks", name := "mark", desc := "(I)I" } : Jvm.MethodName) ({ cls := "ShopDesks", name := "mark", desc := "(I)I" } : Jvm.MethodName)) ∈ aw := aw_t (List.mem_append_right _ (List.mem_append_left _ (List.mem_of_getElem? (l := tables_1_2) (i := 158) rfl))) rfl
theorem aK_X_mark : (Jvm.Cond.code ({ cls := "ShopDesks", name := "mark", desc := "(I)I" } : Jvm.MethodName) prog_1_method_8_code (2 : Nat) (Option.some Jvm.ClassFile.FieldType.int)) ∈ aw := aw_t (List.mem_append_right _ (List.mem_append_left _ (List.mem_of_getElem? (l := tables_1_2) (i := 159) rfl))) rfl
theorem aM_W_110 : (Jvm.Cond.methodLink "ShopDesksLaw" (110 : Nat) ({ cls := "ShopDesksLaw", name := "since", desc := "(LShopDesks;IIII[J)I" } : Jvm.MethodName)) ∈ aw := aw_t (List.mem_append_right _ (List.mem_append_left _ (List.mem_of_getElem? (l := tables_1_2) (i := 160) rfl))) rfl
theorem aS_W_since : (Jvm.Cond.static ({ cls := "ShopDesksLaw", name := "since", desc := "(LShopDesks;IIII[J)I" } : Jvm.MethodName)) ∈ aw := aw_t (List.mem_append_right _ (List.mem_append_left _ (List.mem_of_getElem? (l := tables_1_2) (i := 161) rfl))) rfl
theorem aM_W_41 : (Jvm.Cond.methodLink "ShopDesksLaw" (41 : Nat) ({ cls := "ShopDesks", name := "since", desc := "(IIII)J" } : Jvm.MethodName)) ∈ aw := aw_t (List.mem_append_right _ (List.mem_append_left _ (List.mem_of_getElem? (l := tables_1_2) (i := 163) rfl))) rfl
theorem aI_X_since : (Jvm.Cond.instanceMethod ({ cls := "ShopDesks", name := "since", desc := "(IIII)J" } : Jvm.MethodName)) ∈ aw := aw_t (List.mem_append_right _ (List.mem_append_left _ (List.mem_of_getElem? (l := tables_1_2) (i := 164) rfl))) rfl
theorem aV_X_since : (Jvm.Cond.selects "ShopDesks" ({ cls := "ShopDesks", name := "since", desc := "(IIII)J" } : Jvm.MethodName) ({ cls := "ShopDesks", name := "since", desc := "(IIII)J" } : Jvm.MethodName)) ∈ aw := aw_t (List.mem_append_right _ (List.mem_append_left _ (List.mem_of_getElem? (l := tables_1_2) (i := 165) rfl))) rfl
theorem aK_X_since : (Jvm.Cond.code ({ cls := "ShopDesks", name := "since", desc := "(IIII)J" } : Jvm.MethodName) prog_1_method_9_code (8 : Nat) (Option.some Jvm.ClassFile.FieldType.long)) ∈ aw := aw_t (List.mem_append_right _ (List.mem_append_left _ (List.mem_of_getElem? (l := tables_1_2) (i := 166) rfl))) rfl
theorem aM_W_114 : (Jvm.Cond.methodLink "ShopDesksLaw" (114 : Nat) ({ cls := "ShopDesksLaw", name := "batch", desc := "(LShopDesks;IZ[J)I" } : Jvm.MethodName)) ∈ aw := aw_t (List.mem_append_right _ (List.mem_append_left _ (List.mem_of_getElem? (l := tables_1_2) (i := 170) rfl))) rfl
theorem aS_W_batch : (Jvm.Cond.static ({ cls := "ShopDesksLaw", name := "batch", desc := "(LShopDesks;IZ[J)I" } : Jvm.MethodName)) ∈ aw := aw_t (List.mem_append_right _ (List.mem_append_left _ (List.mem_of_getElem? (l := tables_1_2) (i := 171) rfl))) rfl
theorem aM_W_45 : (Jvm.Cond.methodLink "ShopDesksLaw" (45 : Nat) ({ cls := "ShopDesks", name := "batch", desc := "(IZ)Z" } : Jvm.MethodName)) ∈ aw := aw_t (List.mem_append_right _ (List.mem_append_left _ (List.mem_of_getElem? (l := tables_1_2) (i := 173) rfl))) rfl
theorem aI_X_batch : (Jvm.Cond.instanceMethod ({ cls := "ShopDesks", name := "batch", desc := "(IZ)Z" } : Jvm.MethodName)) ∈ aw := aw_t (List.mem_append_right _ (List.mem_append_left _ (List.mem_of_getElem? (l := tables_1_2) (i := 174) rfl))) rfl
theorem aV_X_batch : (Jvm.Cond.selects "ShopDesks" ({ cls := "ShopDesks", name := "batch", desc := "(IZ)Z" } : Jvm.MethodName) ({ cls := "ShopDesks", name := "batch", desc := "(IZ)Z" } : Jvm.MethodName)) ∈ aw := aw_t (List.mem_append_right _ (List.mem_append_left _ (List.mem_of_getElem? (l := tables_1_2) (i := 175) rfl))) rfl
theorem aK_X_batch : (Jvm.Cond.code ({ cls := "ShopDesks", name := "batch", desc := "(IZ)Z" } : Jvm.MethodName) prog_1_method_10_code (3 : Nat) (Option.some Jvm.ClassFile.FieldType.boolean)) ∈ aw := aw_t (List.mem_append_right _ (List.mem_append_left _ (List.mem_of_getElem? (l := tables_1_2) (i := 176) rfl))) rfl
theorem aM_X_123 : (Jvm.Cond.methodLink "ShopDesks" (123 : Nat) ({ cls := "ShopDesks$TellingSet", name := "beginBatch", desc := "()Z" } : Jvm.MethodName)) ∈ aw := aw_t (List.mem_append_right _ (List.mem_append_left _ (List.mem_of_getElem? (l := tables_1_2) (i := 177) rfl))) rfl
theorem aI_S_beginBatch : (Jvm.Cond.instanceMethod ({ cls := "ShopDesks$TellingSet", name := "beginBatch", desc := "()Z" } : Jvm.MethodName)) ∈ aw := aw_t (List.mem_append_right _ (List.mem_append_left _ (List.mem_of_getElem? (l := tables_1_2) (i := 178) rfl))) rfl
theorem aV_S_beginBatch : (Jvm.Cond.selects "ShopDesks$TellingSet" ({ cls := "ShopDesks$TellingSet", name := "beginBatch", desc := "()Z" } : Jvm.MethodName) ({ cls := "ShopDesks$TellingSet", name := "beginBatch", desc := "()Z" } : Jvm.MethodName)) ∈ aw := aw_t (List.mem_append_right _ (List.mem_append_left _ (List.mem_of_getElem? (l := tables_1_2) (i := 179) rfl))) rfl
theorem aK_S_beginBatch : (Jvm.Cond.code ({ cls := "ShopDesks$TellingSet", name := "beginBatch", desc := "()Z" } : Jvm.MethodName) prog_4_method_6_code (1 : Nat) (Option.some Jvm.ClassFile.FieldType.boolean)) ∈ aw := aw_t (List.mem_append_right _ (List.mem_append_left _ (List.mem_of_getElem? (l := tables_1_2) (i := 180) rfl))) rfl
theorem aM_X_127 : (Jvm.Cond.methodLink "ShopDesks" (127 : Nat) ({ cls := "ShopDesks$TellingSet", name := "endBatch", desc := "()Z" } : Jvm.MethodName)) ∈ aw := aw_t (List.mem_append_right _ (List.mem_append_left _ (List.mem_of_getElem? (l := tables_1_2) (i := 181) rfl))) rfl
theorem aI_S_endBatch : (Jvm.Cond.instanceMethod ({ cls := "ShopDesks$TellingSet", name := "endBatch", desc := "()Z" } : Jvm.MethodName)) ∈ aw := aw_t (List.mem_append_right _ (List.mem_append_left _ (List.mem_of_getElem? (l := tables_1_2) (i := 182) rfl))) rfl
theorem aV_S_endBatch : (Jvm.Cond.selects "ShopDesks$TellingSet" ({ cls := "ShopDesks$TellingSet", name := "endBatch", desc := "()Z" } : Jvm.MethodName) ({ cls := "ShopDesks$TellingSet", name := "endBatch", desc := "()Z" } : Jvm.MethodName)) ∈ aw := aw_t (List.mem_append_right _ (List.mem_append_left _ (List.mem_of_getElem? (l := tables_1_2) (i := 183) rfl))) rfl
theorem aK_S_endBatch : (Jvm.Cond.code ({ cls := "ShopDesks$TellingSet", name := "endBatch", desc := "()Z" } : Jvm.MethodName) prog_4_method_7_code (1 : Nat) (Option.some Jvm.ClassFile.FieldType.boolean)) ∈ aw := aw_t (List.mem_append_right _ (List.mem_append_left _ (List.mem_of_getElem? (l := tables_1_2) (i := 184) rfl))) rfl
theorem aM_W_118 : (Jvm.Cond.methodLink "ShopDesksLaw" (118 : Nat) ({ cls := "ShopDesksLaw", name := "right", desc := "(LShopDesks;IIZ[J)I" } : Jvm.MethodName)) ∈ aw := aw_t (List.mem_append_right _ (List.mem_append_left _ (List.mem_of_getElem? (l := tables_1_2) (i := 185) rfl))) rfl
theorem aS_W_right : (Jvm.Cond.static ({ cls := "ShopDesksLaw", name := "right", desc := "(LShopDesks;IIZ[J)I" } : Jvm.MethodName)) ∈ aw := aw_t (List.mem_append_right _ (List.mem_append_left _ (List.mem_of_getElem? (l := tables_1_2) (i := 186) rfl))) rfl
theorem aM_W_49 : (Jvm.Cond.methodLink "ShopDesksLaw" (49 : Nat) ({ cls := "ShopDesks", name := "right", desc := "(IIZ)Z" } : Jvm.MethodName)) ∈ aw := aw_t (List.mem_append_right _ (List.mem_append_left _ (List.mem_of_getElem? (l := tables_1_2) (i := 188) rfl))) rfl
theorem aI_X_right : (Jvm.Cond.instanceMethod ({ cls := "ShopDesks", name := "right", desc := "(IIZ)Z" } : Jvm.MethodName)) ∈ aw := aw_t (List.mem_append_right _ (List.mem_append_left _ (List.mem_of_getElem? (l := tables_1_2) (i := 189) rfl))) rfl
theorem aV_X_right : (Jvm.Cond.selects "ShopDesks" ({ cls := "ShopDesks", name := "right", desc := "(IIZ)Z" } : Jvm.MethodName) ({ cls := "ShopDesks", name := "right", desc := "(IIZ)Z" } : Jvm.MethodName)) ∈ aw := aw_t (List.mem_append_right _ (List.mem_append_left _ (List.mem_of_getElem? (l := tables_1_2) (i := 190) rfl))) rfl
theorem aK_X_right : (Jvm.Cond.code ({ cls := "ShopDesks", name := "right", desc := "(IIZ)Z" } : Jvm.MethodName) prog_1_method_11_code (6 : Nat) (Option.some Jvm.ClassFile.FieldType.boolean)) ∈ aw := aw_t (List.mem_append_right _ (List.mem_append_left _ (List.mem_of_getElem? (l := tables_1_2) (i := 191) rfl))) rfl
theorem aM_X_130 : (Jvm.Cond.methodLink "ShopDesks" (130 : Nat) ({ cls := "ShopDesks", name := "needPerson", desc := "(I)V" } : Jvm.MethodName)) ∈ aw := aw_t (List.mem_append_right _ (List.mem_append_left _ (List.mem_of_getElem? (l := tables_1_2) (i := 192) rfl))) rfl
theorem aS_X_needPerson : (Jvm.Cond.static ({ cls := "ShopDesks", name := "needPerson", desc := "(I)V" } : Jvm.MethodName)) ∈ aw := aw_t (List.mem_append_right _ (List.mem_append_left _ (List.mem_of_getElem? (l := tables_1_2) (i := 193) rfl))) rfl
theorem aK_X_needPerson : (Jvm.Cond.code ({ cls := "ShopDesks", name := "needPerson", desc := "(I)V" } : Jvm.MethodName) prog_1_method_22_code (1 : Nat) (Option.none : Option Jvm.ClassFile.FieldType)) ∈ aw := aw_t (List.mem_append_right _ (List.mem_append_left _ (List.mem_of_getElem? (l := tables_1_2) (i := 194) rfl))) rfl
theorem aM_W_122 : (Jvm.Cond.methodLink "ShopDesksLaw" (122 : Nat) ({ cls := "ShopDesksLaw", name := "seen", desc := "(LShopDesks;IIII[J)I" } : Jvm.MethodName)) ∈ aw := aw_t (List.mem_append_right _ (List.mem_append_left _ (List.mem_of_getElem? (l := tables_1_2) (i := 196) rfl))) rfl
theorem aS_W_seen : (Jvm.Cond.static ({ cls := "ShopDesksLaw", name := "seen", desc := "(LShopDesks;IIII[J)I" } : Jvm.MethodName)) ∈ aw := aw_t (List.mem_append_right _ (List.mem_append_left _ (List.mem_of_getElem? (l := tables_1_2) (i := 197) rfl))) rfl
theorem aM_W_53 : (Jvm.Cond.methodLink "ShopDesksLaw" (53 : Nat) ({ cls := "ShopDesks", name := "seen", desc := "(IIII)J" } : Jvm.MethodName)) ∈ aw := aw_t (List.mem_append_right _ (List.mem_append_left _ (List.mem_of_getElem? (l := tables_1_2) (i := 199) rfl))) rfl
theorem aI_X_seen : (Jvm.Cond.instanceMethod ({ cls := "ShopDesks", name := "seen", desc := "(IIII)J" } : Jvm.MethodName)) ∈ aw := aw_t (List.mem_append_right _ (List.mem_append_left _ (List.mem_of_getElem? (l := tables_1_2) (i := 200) rfl))) rfl
theorem aV_X_seen : (Jvm.Cond.selects "ShopDesks" ({ cls := "ShopDesks", name := "seen", desc := "(IIII)J" } : Jvm.MethodName) ({ cls := "ShopDesks", name := "seen", desc := "(IIII)J" } : Jvm.MethodName)) ∈ aw := aw_t (List.mem_append_right _ (List.mem_append_left _ (List.mem_of_getElem? (l := tables_1_2) (i := 201) rfl))) rfl
theorem aK_X_seen : (Jvm.Cond.code ({ cls := "ShopDesks", name := "seen", desc := "(IIII)J" } : Jvm.MethodName) prog_1_method_12_code (5 : Nat) (Option.some Jvm.ClassFile.FieldType.long)) ∈ aw := aw_t (List.mem_append_right _ (List.mem_append_left _ (List.mem_of_getElem? (l := tables_1_2) (i := 202) rfl))) rfl
theorem aL_X_135 : (Jvm.Cond.constantLong "ShopDesks" (135 : Nat) (9223372036854775807 : Int64)) ∈ aw := aw_t (List.mem_append_right _ (List.mem_append_left _ (List.mem_of_getElem? (l := tables_1_2) (i := 204) rfl))) rfl
theorem aM_X_137 : (Jvm.Cond.methodLink "ShopDesks" (137 : Nat) ({ cls := "ShopDesks$TellingSet", name := "sizeToSee", desc := "()I" } : Jvm.MethodName)) ∈ aw := aw_t (List.mem_append_right _ (List.mem_append_left _ (List.mem_of_getElem? (l := tables_1_2) (i := 205) rfl))) rfl
theorem aI_S_sizeToSee : (Jvm.Cond.instanceMethod ({ cls := "ShopDesks$TellingSet", name := "sizeToSee", desc := "()I" } : Jvm.MethodName)) ∈ aw := aw_t (List.mem_append_right _ (List.mem_append_left _ (List.mem_of_getElem? (l := tables_1_2) (i := 206) rfl))) rfl
theorem aV_S_sizeToSee : (Jvm.Cond.selects "ShopDesks$TellingSet" ({ cls := "ShopDesks$TellingSet", name := "sizeToSee", desc := "()I" } : Jvm.MethodName) ({ cls := "ShopDesks$TellingSet", name := "sizeToSee", desc := "()I" } : Jvm.MethodName)) ∈ aw := aw_t (List.mem_append_right _ (List.mem_append_left _ (List.mem_of_getElem? (l := tables_1_2) (i := 207) rfl))) rfl
theorem aK_S_sizeToSee : (Jvm.Cond.code ({ cls := "ShopDesks$TellingSet", name := "sizeToSee", desc := "()I" } : Jvm.MethodName) prog_4_method_8_code (1 : Nat) (Option.some Jvm.ClassFile.FieldType.int)) ∈ aw := aw_t (List.mem_append_right _ (List.mem_append_left _ (List.mem_of_getElem? (l := tables_1_2) (i := 208) rfl))) rfl
theorem aM_W_125 : (Jvm.Cond.methodLink "ShopDesksLaw" (125 : Nat) ({ cls := "ShopDesksLaw", name := "entry", desc := "(LShopDesks;I[J)I" } : Jvm.MethodName)) ∈ aw := aw_t (List.mem_append_right _ (List.mem_append_left _ (List.mem_of_getElem? (l := tables_1_2) (i := 209) rfl))) rfl
theorem aS_W_entry : (Jvm.Cond.static ({ cls := "ShopDesksLaw", name := "entry", desc := "(LShopDesks;I[J)I" } : Jvm.MethodName)) ∈ aw := aw_t (List.mem_append_right _ (List.mem_append_left _ (List.mem_of_getElem? (l := tables_1_2) (i := 210) rfl))) rfl
theorem aM_W_56 : (Jvm.Cond.methodLink "ShopDesksLaw" (56 : Nat) ({ cls := "ShopDesks", name := "entry", desc := "(I)I" } : Jvm.MethodName)) ∈ aw := aw_t (List.mem_append_right _ (List.mem_append_left _ (List.mem_of_getElem? (l := tables_1_2) (i := 212) rfl))) rfl
theorem aI_X_entry : (Jvm.Cond.instanceMethod ({ cls := "ShopDesks", name := "entry", desc := "(I)I" } : Jvm.MethodName)) ∈ aw := aw_t (List.mem_append_right _ (List.mem_append_left _ (List.mem_of_getElem? (l := tables_1_2) (i := 213) rfl))) rfl
theorem aV_X_entry : (Jvm.Cond.selects "ShopDesks" ({ cls := "ShopDesks", name := "entry", desc := "(I)I" } : Jvm.MethodName) ({ cls := "ShopDesks", name := "entry", desc := "(I)I" } : Jvm.MethodName)) ∈ aw := aw_t (List.mem_append_right _ (List.mem_append_left _ (List.mem_of_getElem? (l := tables_1_2) (i := 214) rfl))) rfl
theorem aK_X_entry : (Jvm.Cond.code ({ cls := "ShopDesks", name := "entry", desc := "(I)I" } : Jvm.MethodName) prog_1_method_13_code (2 : Nat) (Option.some Jvm.ClassFile.FieldType.int)) ∈ aw := aw_t (List.mem_append_right _ (List.mem_append_left _ (List.mem_of_getElem? (l := tables_1_2) (i := 215) rfl))) rfl
theorem aM_X_141 : (Jvm.Cond.methodLink "ShopDesks" (141 : Nat) ({ cls := "ShopDesks", name := "needDay", desc := "(I)V" } : Jvm.MethodName)) ∈ aw := aw_t (List.mem_append_right _ (List.mem_append_left _ (List.mem_of_getElem? (l := tables_1_2) (i := 216) rfl))) rfl
theorem aS_X_needDay : (Jvm.Cond.static ({ cls := "ShopDesks", name := "needDay", desc := "(I)V" } : Jvm.MethodName)) ∈ aw := aw_t (List.mem_append_right _ (List.mem_append_left _ (List.mem_of_getElem? (l := tables_1_2) (i := 217) rfl))) rfl
theorem aK_X_needDay : (Jvm.Cond.code ({ cls := "ShopDesks", name := "needDay", desc := "(I)V" } : Jvm.MethodName) prog_1_method_24_code (1 : Nat) (Option.none : Option Jvm.ClassFile.FieldType)) ∈ aw := aw_t (List.mem_append_right _ (List.mem_append_left _ (List.mem_of_getElem? (l := tables_1_2) (i := 218) rfl))) rfl
theorem aM_X_144 : (Jvm.Cond.methodLink "ShopDesks" (144 : Nat) ({ cls := "ShopDesks", name := "needRoomForEntry", desc := "()V" } : Jvm.MethodName)) ∈ aw := aw_t (List.mem_append_right _ (List.mem_append_left _ (List.mem_of_getElem? (l := tables_1_2) (i := 220) rfl))) rfl
theorem aI_X_needRoomForEntry : (Jvm.Cond.instanceMethod ({ cls := "ShopDesks", name := "needRoomForEntry", desc := "()V" } : Jvm.MethodName)) ∈ aw := aw_t (List.mem_append_right _ (List.mem_append_left _ (List.mem_of_getElem? (l := tables_1_2) (i := 222) rfl))) rfl
theorem aK_X_needRoomForEntry : (Jvm.Cond.code ({ cls := "ShopDesks", name := "needRoomForEntry", desc := "()V" } : Jvm.MethodName) prog_1_method_27_code (1 : Nat) (Option.none : Option Jvm.ClassFile.FieldType)) ∈ aw := aw_t (List.mem_append_right _ (List.mem_append_left _ (List.mem_of_getElem? (l := tables_1_2) (i := 223) rfl))) rfl
theorem aM_X_147 : (Jvm.Cond.methodLink "ShopDesks" (147 : Nat) ({ cls := "ShopDesks$Ledger", name := "openEntry", desc := "(I)I" } : Jvm.MethodName)) ∈ aw := aw_t (List.mem_append_right _ (List.mem_append_left _ (List.mem_of_getElem? (l := tables_1_2) (i := 225) rfl))) rfl
theorem aI_L_openEntry : (Jvm.Cond.instanceMethod ({ cls := "ShopDesks$Ledger", name := "openEntry", desc := "(I)I" } : Jvm.MethodName)) ∈ aw := aw_t (List.mem_append_right _ (List.mem_append_left _ (List.mem_of_getElem? (l := tables_1_2) (i := 226) rfl))) rfl
theorem aV_L_openEntry : (Jvm.Cond.selects "ShopDesks$Ledger" ({ cls := "ShopDesks$Ledger", name := "openEntry", desc := "(I)I" } : Jvm.MethodName) ({ cls := "ShopDesks$Ledger", name := "openEntry", desc := "(I)I" } : Jvm.MethodName)) ∈ aw := aw_t (List.mem_append_right _ (List.mem_append_left _ (List.mem_of_getElem? (l := tables_1_2) (i := 227) rfl))) rfl
theorem aK_L_openEntry : (Jvm.Cond.code ({ cls := "ShopDesks$Ledger", name := "openEntry", desc := "(I)I" } : Jvm.MethodName) prog_3_method_2_code (2 : Nat) (Option.some Jvm.ClassFile.FieldType.int)) ∈ aw := aw_t (List.mem_append_right _ (List.mem_append_left _ (List.mem_of_getElem? (l := tables_1_2) (i := 228) rfl))) rfl
theorem aM_W_128 : (Jvm.Cond.methodLink "ShopDesksLaw" (128 : Nat) ({ cls := "ShopDesksLaw", name := "row", desc := "(LShopDesks;IIJ[J)I" } : Jvm.MethodName)) ∈ aw := aw_t (List.mem_append_right _ (List.mem_append_left _ (List.mem_of_getElem? (l := tables_1_2) (i := 229) rfl))) rfl
theorem aS_W_row : (Jvm.Cond.static ({ cls := "ShopDesksLaw", name := "row", desc := "(LShopDesks;IIJ[J)I" } : Jvm.MethodName)) ∈ aw := aw_t (List.mem_append_right _ (List.mem_append_left _ (List.mem_of_getElem? (l := tables_1_2) (i := 230) rfl))) rfl
theorem aM_W_59 : (Jvm.Cond.methodLink "ShopDesksLaw" (59 : Nat) ({ cls := "ShopDesks", name := "row", desc := "(IIJ)I" } : Jvm.MethodName)) ∈ aw := aw_t (List.mem_append_right _ (List.mem_append_left _ (List.mem_of_getElem? (l := tables_1_2) (i := 232) rfl))) rfl
theorem aI_X_row : (Jvm.Cond.instanceMethod ({ cls := "ShopDesks", name := "row", desc := "(IIJ)I" } : Jvm.MethodName)) ∈ aw := aw_t (List.mem_append_right _ (List.mem_append_left _ (List.mem_of_getElem? (l := tables_1_2) (i := 233) rfl))) rfl
theorem aV_X_row : (Jvm.Cond.selects "ShopDesks" ({ cls := "ShopDesks", name := "row", desc := "(IIJ)I" } : Jvm.MethodName) ({ cls := "ShopDesks", name := "row", desc := "(IIJ)I" } : Jvm.MethodName)) ∈ aw := aw_t (List.mem_append_right _ (List.mem_append_left _ (List.mem_of_getElem? (l := tables_1_2) (i := 234) rfl))) rfl
theorem aK_X_row : (Jvm.Cond.code ({ cls := "ShopDesks", name := "row", desc := "(IIJ)I" } : Jvm.MethodName) prog_1_method_14_code (6 : Nat) (Option.some Jvm.ClassFile.FieldType.int)) ∈ aw := aw_t (List.mem_append_right _ (List.mem_append_left _ (List.mem_of_getElem? (l := tables_1_2) (i := 235) rfl))) rfl
theorem aM_X_151 : (Jvm.Cond.methodLink "ShopDesks" (151 : Nat) ({ cls := "ShopDesks", name := "needEntry", desc := "(I)V" } : Jvm.MethodName)) ∈ aw := aw_t (List.mem_append_right _ (List.mem_append_left _ (List.mem_of_getElem? (l := tables_1_2) (i := 236) rfl))) rfl
theorem aI_X_needEntry : (Jvm.Cond.instanceMethod ({ cls := "ShopDesks", name := "needEntry", desc := "(I)V" } : Jvm.MethodName)) ∈ aw := aw_t (List.mem_append_right _ (List.mem_append_left _ (List.mem_of_getElem? (l := tables_1_2) (i := 238) rfl))) rfl
theorem aK_X_needEntry : (Jvm.Cond.code ({ cls := "ShopDesks", name := "needEntry", desc := "(I)V" } : Jvm.MethodName) prog_1_method_26_code (2 : Nat) (Option.none : Option Jvm.ClassFile.FieldType)) ∈ aw := aw_t (List.mem_append_right _ (List.mem_append_left _ (List.mem_of_getElem? (l := tables_1_2) (i := 239) rfl))) rfl
theorem aM_X_154 : (Jvm.Cond.methodLink "ShopDesks" (154 : Nat) ({ cls := "ShopDesks", name := "needAccount", desc := "(I)V" } : Jvm.MethodName)) ∈ aw := aw_t (List.mem_append_right _ (List.mem_append_right _ (List.mem_append_left _ (List.mem_of_getElem? (l := tables_1_3) (i := 1) rfl)))) rfl
theorem aS_X_needAccount : (Jvm.Cond.static ({ cls := "ShopDesks", name := "needAccount", desc := "(I)V" } : Jvm.MethodName)) ∈ aw := aw_t (List.mem_append_right _ (List.mem_append_right _ (List.mem_append_left _ (List.mem_of_getElem? (l := tables_1_3) (i := 2) rfl)))) rfl
theorem aK_X_needAccount : (Jvm.Cond.code ({ cls := "ShopDesks", name := "needAccount", desc := "(I)V" } : Jvm.MethodName) prog_1_method_23_code (1 : Nat) (Option.none : Option Jvm.ClassFile.FieldType)) ∈ aw := aw_t (List.mem_append_right _ (List.mem_append_right _ (List.mem_append_left _ (List.mem_of_getElem? (l := tables_1_3) (i := 3) rfl)))) rfl
theorem aL_X_157 : (Jvm.Cond.constantLong "ShopDesks" (157 : Nat) (-1000000000 : Int64)) ∈ aw := aw_t (List.mem_append_right _ (List.mem_append_right _ (List.mem_append_left _ (List.mem_of_getElem? (l := tables_1_3) (i := 5) rfl)))) rfl
theorem aL_X_159 : (Jvm.Cond.constantLong "ShopDesks" (159 : Nat) (1000000000 : Int64)) ∈ aw := aw_t (List.mem_append_right _ (List.mem_append_right _ (List.mem_append_left _ (List.mem_of_getElem? (l := tables_1_3) (i := 6) rfl)))) rfl
theorem aM_X_167 : (Jvm.Cond.methodLink "ShopDesks" (167 : Nat) ({ cls := "ShopDesks$Entry", name := "isClosed", desc := "()Z" } : Jvm.MethodName)) ∈ aw := aw_t (List.mem_append_right _ (List.mem_append_right _ (List.mem_append_left _ (List.mem_of_getElem? (l := tables_1_3) (i := 8) rfl)))) rfl
theorem aI_E_isClosed : (Jvm.Cond.instanceMethod ({ cls := "ShopDesks$Entry", name := "isClosed", desc := "()Z" } : Jvm.MethodName)) ∈ aw := aw_t (List.mem_append_right _ (List.mem_append_right _ (List.mem_append_left _ (List.mem_of_getElem? (l := tables_1_3) (i := 9) rfl)))) rfl
theorem aV_E_isClosed : (Jvm.Cond.selects "ShopDesks$Entry" ({ cls := "ShopDesks$Entry", name := "isClosed", desc := "()Z" } : Jvm.MethodName) ({ cls := "ShopDesks$Entry", name := "isClosed", desc := "()Z" } : Jvm.MethodName)) ∈ aw := aw_t (List.mem_append_right _ (List.mem_append_right _ (List.mem_append_left _ (List.mem_of_getElem? (l := tables_1_3) (i := 10) rfl)))) rfl
theorem aK_E_isClosed : (Jvm.Cond.code ({ cls := "ShopDesks$Entry", name := "isClosed", desc := "()Z" } : Jvm.MethodName) prog_2_method_2_code (1 : Nat) (Option.some Jvm.ClassFile.FieldType.boolean)) ∈ aw := aw_t (List.mem_append_right _ (List.mem_append_right _ (List.mem_append_left _ (List.mem_of_getElem? (l := tables_1_3) (i := 11) rfl)))) rfl
theorem aM_X_177 : (Jvm.Cond.methodLink "ShopDesks" (177 : Nat) ({ cls := "ShopDesks$Entry", name := "addRow", desc := "(IJ)V" } : Jvm.MethodName)) ∈ aw := aw_t (List.mem_append_right _ (List.mem_append_right _ (List.mem_append_left _ (List.mem_of_getElem? (l := tables_1_3) (i := 13) rfl)))) rfl
theorem aI_E_addRow : (Jvm.Cond.instanceMethod ({ cls := "ShopDesks$Entry", name := "addRow", desc := "(IJ)V" } : Jvm.MethodName)) ∈ aw := aw_t (List.mem_append_right _ (List.mem_append_right _ (List.mem_append_left _ (List.mem_of_getElem? (l := tables_1_3) (i := 14) rfl)))) rfl
theorem aV_E_addRow : (Jvm.Cond.selects "ShopDesks$Entry" ({ cls := "ShopDesks$Entry", name := "addRow", desc := "(IJ)V" } : Jvm.MethodName) ({ cls := "ShopDesks$Entry", name := "addRow", desc := "(IJ)V" } : Jvm.MethodName)) ∈ aw := aw_t (List.mem_append_right _ (List.mem_append_right _ (List.mem_append_left _ (List.mem_of_getElem? (l := tables_1_3) (i := 15) rfl)))) rfl
theorem aK_E_addRow : (Jvm.Cond.code ({ cls := "ShopDesks$Entry", name := "addRow", desc := "(IJ)V" } : Jvm.MethodName) prog_2_method_3_code (4 : Nat) (Option.none : Option Jvm.ClassFile.FieldType)) ∈ aw := aw_t (List.mem_append_right _ (List.mem_append_right _ (List.mem_append_left _ (List.mem_of_getElem? (l := tables_1_3) (i := 16) rfl)))) rfl
theorem aM_W_132 : (Jvm.Cond.methodLink "ShopDesksLaw" (132 : Nat) ({ cls := "ShopDesksLaw", name := "close", desc := "(LShopDesks;I[J)I" } : Jvm.MethodName)) ∈ aw := aw_t (List.mem_append_right _ (List.mem_append_right _ (List.mem_append_left _ (List.mem_of_getElem? (l := tables_1_3) (i := 17) rfl)))) rfl
theorem aS_W_close : (Jvm.Cond.static ({ cls := "ShopDesksLaw", name := "close", desc := "(LShopDesks;I[J)I" } : Jvm.MethodName)) ∈ aw := aw_t (List.mem_append_right _ (List.mem_append_right _ (List.mem_append_left _ (List.mem_of_getElem? (l := tables_1_3) (i := 18) rfl)))) rfl
theorem aM_W_63 : (Jvm.Cond.methodLink "ShopDesksLaw" (63 : Nat) ({ cls := "ShopDesks", name := "close", desc := "(I)I" } : Jvm.MethodName)) ∈ aw := aw_t (List.mem_append_right _ (List.mem_append_right _ (List.mem_append_left _ (List.mem_of_getElem? (l := tables_1_3) (i := 20) rfl)))) rfl
theorem aI_X_close : (Jvm.Cond.instanceMethod ({ cls := "ShopDesks", name := "close", desc := "(I)I" } : Jvm.MethodName)) ∈ aw := aw_t (List.mem_append_right _ (List.mem_append_right _ (List.mem_append_left _ (List.mem_of_getElem? (l := tables_1_3) (i := 21) rfl)))) rfl
theorem aV_X_close : (Jvm.Cond.selects "ShopDesks" ({ cls := "ShopDesks", name := "close", desc := "(I)I" } : Jvm.MethodName) ({ cls := "ShopDesks", name := "close", desc := "(I)I" } : Jvm.MethodName)) ∈ aw := aw_t (List.mem_append_right _ (List.mem_append_right _ (List.mem_append_left _ (List.mem_of_getElem? (l := tables_1_3) (i := 22) rfl)))) rfl
theorem aK_X_close : (Jvm.Cond.code ({ cls := "ShopDesks", name := "close", desc := "(I)I" } : Jvm.MethodName) prog_1_method_15_code (3 : Nat) (Option.some Jvm.ClassFile.FieldType.int)) ∈ aw := aw_t (List.mem_append_right _ (List.mem_append_right _ (List.mem_append_left _ (List.mem_of_getElem? (l := tables_1_3) (i := 23) rfl)))) rfl
theorem aM_X_186 : (Jvm.Cond.methodLink "ShopDesks" (186 : Nat) ({ cls := "ShopDesks$Ledger", name := "isInClosedMonth", desc := "(I)Z" } : Jvm.MethodName)) ∈ aw := aw_t (List.mem_append_right _ (List.mem_append_right _ (List.mem_append_left _ (List.mem_of_getElem? (l := tables_1_3) (i := 25) rfl)))) rfl
theorem aI_L_isInClosedMonth : (Jvm.Cond.instanceMethod ({ cls := "ShopDesks$Ledger", name := "isInClosedMonth", desc := "(I)Z" } : Jvm.MethodName)) ∈ aw := aw_t (List.mem_append_right _ (List.mem_append_right _ (List.mem_append_left _ (List.mem_of_getElem? (l := tables_1_3) (i := 26) rfl)))) rfl
theorem aV_L_isInClosedMonth : (Jvm.Cond.selects "ShopDesks$Ledger" ({ cls := "ShopDesks$Ledger", name := "isInClosedMonth", desc := "(I)Z" } : Jvm.MethodName) ({ cls := "ShopDesks$Ledger", name := "isInClosedMonth", desc := "(I)Z" } : Jvm.MethodName)) ∈ aw := aw_t (List.mem_append_right _ (List.mem_append_right _ (List.mem_append_left _ (List.mem_of_getElem? (l := tables_1_3) (i := 27) rfl)))) rfl
theorem aK_L_isInClosedMonth : (Jvm.Cond.code ({ cls := "ShopDesks$Ledger", name := "isInClosedMonth", desc := "(I)Z" } : Jvm.MethodName) prog_3_method_5_code (2 : Nat) (Option.some Jvm.ClassFile.FieldType.boolean)) ∈ aw := aw_t (List.mem_append_right _ (List.mem_append_right _ (List.mem_append_left _ (List.mem_of_getElem? (l := tables_1_3) (i := 28) rfl)))) rfl
theorem aM_X_189 : (Jvm.Cond.methodLink "ShopDesks" (189 : Nat) ({ cls := "ShopDesks$Entry", name := "isBalanced", desc := "()Z" } : Jvm.MethodName)) ∈ aw := aw_t (List.mem_append_right _ (List.mem_append_right _ (List.mem_append_left _ (List.mem_of_getElem? (l := tables_1_3) (i := 29) rfl)))) rfl
theorem aI_E_isBalanced : (Jvm.Cond.instanceMethod ({ cls := "ShopDesks$Entry", name := "isBalanced", desc := "()Z" } : Jvm.MethodName)) ∈ aw := aw_t (List.mem_append_right _ (List.mem_append_right _ (List.mem_append_left _ (List.mem_of_getElem? (l := tables_1_3) (i := 30) rfl)))) rfl
theorem aV_E_isBalanced : (Jvm.Cond.selects "ShopDesks$Entry" ({ cls := "ShopDesks$Entry", name := "isBalanced", desc := "()Z" } : Jvm.MethodName) ({ cls := "ShopDesks$Entry", name := "isBalanced", desc := "()Z" } : Jvm.MethodName)) ∈ aw := aw_t (List.mem_append_right _ (List.mem_append_right _ (List.mem_append_left _ (List.mem_of_getElem? (l := tables_1_3) (i := 31) rfl)))) rfl
theorem aK_E_isBalanced : (Jvm.Cond.code ({ cls := "ShopDesks$Entry", name := "isBalanced", desc := "()Z" } : Jvm.MethodName) prog_2_method_5_code (4 : Nat) (Option.some Jvm.ClassFile.FieldType.boolean)) ∈ aw := aw_t (List.mem_append_right _ (List.mem_append_right _ (List.mem_append_left _ (List.mem_of_getElem? (l := tables_1_3) (i := 32) rfl)))) rfl
theorem aM_X_192 : (Jvm.Cond.methodLink "ShopDesks" (192 : Nat) ({ cls := "ShopDesks$Ledger", name := "giveNumber", desc := "(I)I" } : Jvm.MethodName)) ∈ aw := aw_t (List.mem_append_right _ (List.mem_append_right _ (List.mem_append_left _ (List.mem_of_getElem? (l := tables_1_3) (i := 33) rfl)))) rfl
theorem aI_L_giveNumber : (Jvm.Cond.instanceMethod ({ cls := "ShopDesks$Ledger", name := "giveNumber", desc := "(I)I" } : Jvm.MethodName)) ∈ aw := aw_t (List.mem_append_right _ (List.mem_append_right _ (List.mem_append_left _ (List.mem_of_getElem? (l := tables_1_3) (i := 34) rfl)))) rfl
theorem aV_L_giveNumber : (Jvm.Cond.selects "ShopDesks$Ledger" ({ cls := "ShopDesks$Ledger", name := "giveNumber", desc := "(I)I" } : Jvm.MethodName) ({ cls := "ShopDesks$Ledger", name := "giveNumber", desc := "(I)I" } : Jvm.MethodName)) ∈ aw := aw_t (List.mem_append_right _ (List.mem_append_right _ (List.mem_append_left _ (List.mem_of_getElem? (l := tables_1_3) (i := 35) rfl)))) rfl
theorem aK_L_giveNumber : (Jvm.Cond.code ({ cls := "ShopDesks$Ledger", name := "giveNumber", desc := "(I)I" } : Jvm.MethodName) prog_3_method_3_code (2 : Nat) (Option.some Jvm.ClassFile.FieldType.int)) ∈ aw := aw_t (List.mem_append_right _ (List.mem_append_right _ (List.mem_append_left _ (List.mem_of_getElem? (l := tables_1_3) (i := 36) rfl)))) rfl
theorem aM_W_135 : (Jvm.Cond.methodLink "ShopDesksLaw" (135 : Nat) ({ cls := "ShopDesksLaw", name := "balance", desc := "(LShopDesks;II[J)I" } : Jvm.MethodName)) ∈ aw := aw_t (List.mem_append_right _ (List.mem_append_right _ (List.mem_append_left _ (List.mem_of_getElem? (l := tables_1_3) (i := 37) rfl)))) rfl
theorem aS_W_balance : (Jvm.Cond.static ({ cls := "ShopDesksLaw", name := "balance", desc := "(LShopDesks;II[J)I" } : Jvm.MethodName)) ∈ aw := aw_t (List.mem_append_right _ (List.mem_append_right _ (List.mem_append_left _ (List.mem_of_getElem? (l := tables_1_3) (i := 38) rfl)))) rfl
theorem aM_W_66 : (Jvm.Cond.methodLink "ShopDesksLaw" (66 : Nat) ({ cls := "ShopDesks", name := "balance", desc := "(II)J" } : Jvm.MethodName)) ∈ aw := aw_t (List.mem_append_right _ (List.mem_append_right _ (List.mem_append_left _ (List.mem_of_getElem? (l := tables_1_3) (i := 40) rfl)))) rfl
theorem aI_X_balance : (Jvm.Cond.instanceMethod ({ cls := "ShopDesks", name := "balance", desc := "(II)J" } : Jvm.MethodName)) ∈ aw := aw_t (List.mem_append_right _ (List.mem_append_right _ (List.mem_append_left _ (List.mem_of_getElem? (l := tables_1_3) (i := 41) rfl)))) rfl
theorem aV_X_balance : (Jvm.Cond.selects "ShopDesks" ({ cls := "ShopDesks", name := "balance", desc := "(II)J" } : Jvm.MethodName) ({ cls := "ShopDesks", name := "balance", desc := "(II)J" } : Jvm.MethodName)) ∈ aw := aw_t (List.mem_append_right _ (List.mem_append_right _ (List.mem_append_left _ (List.mem_of_getElem? (l := tables_1_3) (i := 42) rfl)))) rfl
theorem aK_X_balance : (Jvm.Cond.code ({ cls := "ShopDesks", name := "balance", desc := "(II)J" } : Jvm.MethodName) prog_1_method_16_code (3 : Nat) (Option.some Jvm.ClassFile.FieldType.long)) ∈ aw := aw_t (List.mem_append_right _ (List.mem_append_right _ (List.mem_append_left _ (List.mem_of_getElem? (l := tables_1_3) (i := 43) rfl)))) rfl
theorem aM_X_195 : (Jvm.Cond.methodLink "ShopDesks" (195 : Nat) ({ cls := "ShopDesks$Ledger", name := "sumUpTo", desc := "(II)J" } : Jvm.MethodName)) ∈ aw := aw_t (List.mem_append_right _ (List.mem_append_right _ (List.mem_append_left _ (List.mem_of_getElem? (l := tables_1_3) (i := 44) rfl)))) rfl
theorem aI_L_sumUpTo : (Jvm.Cond.instanceMethod ({ cls := "ShopDesks$Ledger", name := "sumUpTo", desc := "(II)J" } : Jvm.MethodName)) ∈ aw := aw_t (List.mem_append_right _ (List.mem_append_right _ (List.mem_append_left _ (List.mem_of_getElem? (l := tables_1_3) (i := 45) rfl)))) rfl
theorem aV_L_sumUpTo : (Jvm.Cond.selects "ShopDesks$Ledger" ({ cls := "ShopDesks$Ledger", name := "sumUpTo", desc := "(II)J" } : Jvm.MethodName) ({ cls := "ShopDesks$Ledger", name := "sumUpTo", desc := "(II)J" } : Jvm.MethodName)) ∈ aw := aw_t (List.mem_append_right _ (List.mem_append_right _ (List.mem_append_left _ (List.mem_of_getElem? (l := tables_1_3) (i := 46) rfl)))) rfl
theorem aK_L_sumUpTo : (Jvm.Cond.code ({ cls := "ShopDesks$Ledger", name := "sumUpTo", desc := "(II)J" } : Jvm.MethodName) prog_3_method_6_code (6 : Nat) (Option.some Jvm.ClassFile.FieldType.long)) ∈ aw := aw_t (List.mem_append_right _ (List.mem_append_right _ (List.mem_append_left _ (List.mem_of_getElem? (l := tables_1_3) (i := 47) rfl)))) rfl
theorem aM_L_56 : (Jvm.Cond.methodLink "ShopDesks$Ledger" (56 : Nat) ({ cls := "ShopDesks$Entry", name := "isClosed", desc := "()Z" } : Jvm.MethodName)) ∈ aw := aw_t (List.mem_append_right _ (List.mem_append_right _ (List.mem_append_left _ (List.mem_of_getElem? (l := tables_1_3) (i := 48) rfl)))) rfl
theorem aM_L_60 : (Jvm.Cond.methodLink "ShopDesks$Ledger" (60 : Nat) ({ cls := "ShopDesks$Entry", name := "sumOf", desc := "(I)J" } : Jvm.MethodName)) ∈ aw := aw_t (List.mem_append_right _ (List.mem_append_right _ (List.mem_append_left _ (List.mem_of_getElem? (l := tables_1_3) (i := 49) rfl)))) rfl
theorem aI_E_sumOf : (Jvm.Cond.instanceMethod ({ cls := "ShopDesks$Entry", name := "sumOf", desc := "(I)J" } : Jvm.MethodName)) ∈ aw := aw_t (List.mem_append_right _ (List.mem_append_right _ (List.mem_append_left _ (List.mem_of_getElem? (l := tables_1_3) (i := 50) rfl)))) rfl
theorem aV_E_sumOf : (Jvm.Cond.selects "ShopDesks$Entry" ({ cls := "ShopDesks$Entry", name := "sumOf", desc := "(I)J" } : Jvm.MethodName) ({ cls := "ShopDesks$Entry", name := "sumOf", desc := "(I)J" } : Jvm.MethodName)) ∈ aw := aw_t (List.mem_append_right _ (List.mem_append_right _ (List.mem_append_left _ (List.mem_of_getElem? (l := tables_1_3) (i := 51) rfl)))) rfl
theorem aK_E_sumOf : (Jvm.Cond.code ({ cls := "ShopDesks$Entry", name := "sumOf", desc := "(I)J" } : Jvm.MethodName) prog_2_method_6_code (5 : Nat) (Option.some Jvm.ClassFile.FieldType.long)) ∈ aw := aw_t (List.mem_append_right _ (List.mem_append_right _ (List.mem_append_left _ (List.mem_of_getElem? (l := tables_1_3) (i := 52) rfl)))) rfl
theorem aM_W_138 : (Jvm.Cond.methodLink "ShopDesksLaw" (138 : Nat) ({ cls := "ShopDesksLaw", name := "closeMonth", desc := "(LShopDesks;I[J)I" } : Jvm.MethodName)) ∈ aw := aw_t (List.mem_append_right _ (List.mem_append_right _ (List.mem_append_left _ (List.mem_of_getElem? (l := tables_1_3) (i := 53) rfl)))) rfl
theorem aS_W_closeMonth : (Jvm.Cond.static ({ cls := "ShopDesksLaw", name := "closeMonth", desc := "(LShopDesks;I[J)I" } : Jvm.MethodName)) ∈ aw := aw_t (List.mem_append_right _ (List.mem_append_right _ (List.mem_append_left _ (List.mem_of_getElem? (l := tables_1_3) (i := 54) rfl)))) rfl
theorem aM_W_70 : (Jvm.Cond.methodLink "ShopDesksLaw" (70 : Nat) ({ cls := "ShopDesks", name := "closeMonth", desc := "(I)Z" } : Jvm.MethodName)) ∈ aw := aw_t (List.mem_append_right _ (List.mem_append_right _ (List.mem_append_left _ (List.mem_of_getElem? (l := tables_1_3) (i := 56) rfl)))) rfl
theorem aI_X_closeMonth : (Jvm.Cond.instanceMethod ({ cls := "ShopDesks", name := "closeMonth", desc := "(I)Z" } : Jvm.MethodName)) ∈ aw := aw_t (List.mem_append_right _ (List.mem_append_right _ (List.mem_append_left _ (List.mem_of_getElem? (l := tables_1_3) (i := 57) rfl)))) rfl
theorem aV_X_closeMonth : (Jvm.Cond.selects "ShopDesks" ({ cls := "ShopDesks", name := "closeMonth", desc := "(I)Z" } : Jvm.MethodName) ({ cls := "ShopDesks", name := "closeMonth", desc := "(I)Z" } : Jvm.MethodName)) ∈ aw := aw_t (List.mem_append_right _ (List.mem_append_right _ (List.mem_append_left _ (List.mem_of_getElem? (l := tables_1_3) (i := 58) rfl)))) rfl
theorem aK_X_closeMonth : (Jvm.Cond.code ({ cls := "ShopDesks", name := "closeMonth", desc := "(I)Z" } : Jvm.MethodName) prog_1_method_17_code (2 : Nat) (Option.some Jvm.ClassFile.FieldType.boolean)) ∈ aw := aw_t (List.mem_append_right _ (List.mem_append_right _ (List.mem_append_left _ (List.mem_of_getElem? (l := tables_1_3) (i := 59) rfl)))) rfl
theorem aM_W_145 : (Jvm.Cond.methodLink "ShopDesksLaw" (145 : Nat) ({ cls := "ShopDesksLaw", name := "reverse", desc := "(LShopDesks;II[J)I" } : Jvm.MethodName)) ∈ aw := aw_t (List.mem_append_right _ (List.mem_append_right _ (List.mem_append_left _ (List.mem_of_getElem? (l := tables_1_3) (i := 61) rfl)))) rfl
theorem aS_W_reverse : (Jvm.Cond.static ({ cls := "ShopDesksLaw", name := "reverse", desc := "(LShopDesks;II[J)I" } : Jvm.MethodName)) ∈ aw := aw_t (List.mem_append_right _ (List.mem_append_right _ (List.mem_append_left _ (List.mem_of_getElem? (l := tables_1_3) (i := 62) rfl)))) rfl
theorem aM_W_74 : (Jvm.Cond.methodLink "ShopDesksLaw" (74 : Nat) ({ cls := "ShopDesks", name := "reverse", desc := "(II)I" } : Jvm.MethodName)) ∈ aw := aw_t (List.mem_append_right _ (List.mem_append_right _ (List.mem_append_left _ (List.mem_of_getElem? (l := tables_1_3) (i := 64) rfl)))) rfl
theorem aI_X_reverse : (Jvm.Cond.instanceMethod ({ cls := "ShopDesks", name := "reverse", desc := "(II)I" } : Jvm.MethodName)) ∈ aw := aw_t (List.mem_append_right _ (List.mem_append_right _ (List.mem_append_left _ (List.mem_of_getElem? (l := tables_1_3) (i := 65) rfl)))) rfl
theorem aV_X_reverse : (Jvm.Cond.selects "ShopDesks" ({ cls := "ShopDesks", name := "reverse", desc := "(II)I" } : Jvm.MethodName) ({ cls := "ShopDesks", name := "reverse", desc := "(II)I" } : Jvm.MethodName)) ∈ aw := aw_t (List.mem_append_right _ (List.mem_append_right _ (List.mem_append_left _ (List.mem_of_getElem? (l := tables_1_3) (i := 66) rfl)))) rfl
theorem aK_X_reverse : (Jvm.Cond.code ({ cls := "ShopDesks", name := "reverse", desc := "(II)I" } : Jvm.MethodName) prog_1_method_18_code (4 : Nat) (Option.some Jvm.ClassFile.FieldType.int)) ∈ aw := aw_t (List.mem_append_right _ (List.mem_append_right _ (List.mem_append_left _ (List.mem_of_getElem? (l := tables_1_3) (i := 67) rfl)))) rfl
theorem aM_X_221 : (Jvm.Cond.methodLink "ShopDesks" (221 : Nat) ({ cls := "ShopDesks$Ledger", name := "addReversal", desc := "(LShopDesks$Entry;I)I" } : Jvm.MethodName)) ∈ aw := aw_t (List.mem_append_right _ (List.mem_append_right _ (List.mem_append_left _ (List.mem_of_getElem? (l := tables_1_3) (i := 70) rfl)))) rfl
theorem aI_L_addReversal : (Jvm.Cond.instanceMethod ({ cls := "ShopDesks$Ledger", name := "addReversal", desc := "(LShopDesks$Entry;I)I" } : Jvm.MethodName)) ∈ aw := aw_t (List.mem_append_right _ (List.mem_append_right _ (List.mem_append_left _ (List.mem_of_getElem? (l := tables_1_3) (i := 71) rfl)))) rfl
theorem aV_L_addReversal : (Jvm.Cond.selects "ShopDesks$Ledger" ({ cls := "ShopDesks$Ledger", name := "addReversal", desc := "(LShopDesks$Entry;I)I" } : Jvm.MethodName) ({ cls := "ShopDesks$Ledger", name := "addReversal", desc := "(LShopDesks$Entry;I)I" } : Jvm.MethodName)) ∈ aw := aw_t (List.mem_append_right _ (List.mem_append_right _ (List.mem_append_left _ (List.mem_of_getElem? (l := tables_1_3) (i := 72) rfl)))) rfl
theorem aK_L_addReversal : (Jvm.Cond.code ({ cls := "ShopDesks$Ledger", name := "addReversal", desc := "(LShopDesks$Entry;I)I" } : Jvm.MethodName) prog_3_method_4_code (4 : Nat) (Option.some Jvm.ClassFile.FieldType.int)) ∈ aw := aw_t (List.mem_append_right _ (List.mem_append_right _ (List.mem_append_left _ (List.mem_of_getElem? (l := tables_1_3) (i := 73) rfl)))) rfl
theorem aM_L_38 : (Jvm.Cond.methodLink "ShopDesks$Ledger" (38 : Nat) ({ cls := "ShopDesks$Ledger", name := "openEntry", desc := "(I)I" } : Jvm.MethodName)) ∈ aw := aw_t (List.mem_append_right _ (List.mem_append_right _ (List.mem_append_left _ (List.mem_of_getElem? (l := tables_1_3) (i := 74) rfl)))) rfl
theorem aM_L_42 : (Jvm.Cond.methodLink "ShopDesks$Ledger" (42 : Nat) ({ cls := "ShopDesks$Entry", name := "takeTurnedRound", desc := "(LShopDesks$Entry;)V" } : Jvm.MethodName)) ∈ aw := aw_t (List.mem_append_right _ (List.mem_append_right _ (List.mem_append_left _ (List.mem_of_getElem? (l := tables_1_3) (i := 75) rfl)))) rfl
theorem aI_E_takeTurnedRound : (Jvm.Cond.instanceMethod ({ cls := "ShopDesks$Entry", name := "takeTurnedRound", desc := "(LShopDesks$Entry;)V" } : Jvm.MethodName)) ∈ aw := aw_t (List.mem_append_right _ (List.mem_append_right _ (List.mem_append_left _ (List.mem_of_getElem? (l := tables_1_3) (i := 76) rfl)))) rfl
theorem aV_E_takeTurnedRound : (Jvm.Cond.selects "ShopDesks$Entry" ({ cls := "ShopDesks$Entry", name := "takeTurnedRound", desc := "(LShopDesks$Entry;)V" } : Jvm.MethodName) ({ cls := "ShopDesks$Entry", name := "takeTurnedRound", desc := "(LShopDesks$Entry;)V" } : Jvm.MethodName)) ∈ aw := aw_t (List.mem_append_right _ (List.mem_append_right _ (List.mem_append_left _ (List.mem_of_getElem? (l := tables_1_3) (i := 77) rfl)))) rfl
theorem aK_E_takeTurnedRound : (Jvm.Cond.code ({ cls := "ShopDesks$Entry", name := "takeTurnedRound", desc := "(LShopDesks$Entry;)V" } : Jvm.MethodName) prog_2_method_4_code (3 : Nat) (Option.none : Option Jvm.ClassFile.FieldType)) ∈ aw := aw_t (List.mem_append_right _ (List.mem_append_right _ (List.mem_append_left _ (List.mem_of_getElem? (l := tables_1_3) (i := 78) rfl)))) rfl
theorem aM_E_36 : (Jvm.Cond.methodLink "ShopDesks$Entry" (36 : Nat) ({ cls := "ShopDesks$Entry", name := "addRow", desc := "(IJ)V" } : Jvm.MethodName)) ∈ aw := aw_t (List.mem_append_right _ (List.mem_append_right _ (List.mem_append_left _ (List.mem_of_getElem? (l := tables_1_3) (i := 79) rfl)))) rfl
theorem aM_L_53 : (Jvm.Cond.methodLink "ShopDesks$Ledger" (53 : Nat) ({ cls := "ShopDesks$Ledger", name := "giveNumber", desc := "(I)I" } : Jvm.MethodName)) ∈ aw := aw_t (List.mem_append_right _ (List.mem_append_right _ (List.mem_append_left _ (List.mem_of_getElem? (l := tables_1_3) (i := 80) rfl)))) rfl
theorem aC_W_78 : (Jvm.Cond.classLink "ShopDesksLaw" (78 : Nat) "ShopDesksModel") ∈ aw := aw_t (List.mem_append_right _ (List.mem_append_right _ (List.mem_append_left _ (List.mem_of_getElem? (l := tables_1_3) (i := 81) rfl)))) rfl
theorem aT_M : (Jvm.Cond.instantiable "ShopDesksModel" (22 : Nat)) ∈ aw := aw_t (List.mem_append_right _ (List.mem_append_right _ (List.mem_append_left _ (List.mem_of_getElem? (l := tables_1_3) (i := 82) rfl)))) rfl
theorem aM_W_80 : (Jvm.Cond.methodLink "ShopDesksLaw" (80 : Nat) ({ cls := "ShopDesksModel", name := "<init>", desc := "()V" } : Jvm.MethodName)) ∈ aw := aw_t (List.mem_append_right _ (List.mem_append_right _ (List.mem_append_left _ (List.mem_of_getElem? (l := tables_1_3) (i := 83) rfl)))) rfl
theorem aI_M_init : (Jvm.Cond.instanceMethod ({ cls := "ShopDesksModel", name := "<init>", desc := "()V" } : Jvm.MethodName)) ∈ aw := aw_t (List.mem_append_right _ (List.mem_append_right _ (List.mem_append_left _ (List.mem_of_getElem? (l := tables_1_3) (i := 84) rfl)))) rfl
theorem aK_M_init : (Jvm.Cond.code ({ cls := "ShopDesksModel", name := "<init>", desc := "()V" } : Jvm.MethodName) prog_7_method_1_code (1 : Nat) (Option.none : Option Jvm.ClassFile.FieldType)) ∈ aw := aw_t (List.mem_append_right _ (List.mem_append_right _ (List.mem_append_left _ (List.mem_of_getElem? (l := tables_1_3) (i := 85) rfl)))) rfl
theorem aM_M_1 : (Jvm.Cond.methodLink "ShopDesksModel" (1 : Nat) ({ cls := "java/lang/Object", name := "<init>", desc := "()V" } : Jvm.MethodName)) ∈ aw := aw_t (List.mem_append_right _ (List.mem_append_right _ (List.mem_append_left _ (List.mem_of_getElem? (l := tables_1_3) (i := 86) rfl)))) rfl
theorem aF_M_64 : (Jvm.Cond.fieldLink "ShopDesksModel" (64 : Nat) "ShopDesksModel" "code" "I") ∈ aw := aw_t (List.mem_append_right _ (List.mem_append_right _ (List.mem_append_left _ (List.mem_of_getElem? (l := tables_1_3) (i := 87) rfl)))) rfl
theorem aF_M_67 : (Jvm.Cond.fieldLink "ShopDesksModel" (67 : Nat) "ShopDesksModel" "told" "I") ∈ aw := aw_t (List.mem_append_right _ (List.mem_append_right _ (List.mem_append_left _ (List.mem_of_getElem? (l := tables_1_3) (i := 88) rfl)))) rfl
theorem aF_M_7 : (Jvm.Cond.fieldLink "ShopDesksModel" (7 : Nat) "ShopDesksModel" "tellers" "[I") ∈ aw := aw_t (List.mem_append_right _ (List.mem_append_right _ (List.mem_append_left _ (List.mem_of_getElem? (l := tables_1_3) (i := 89) rfl)))) rfl
theorem aF_M_13 : (Jvm.Cond.fieldLink "ShopDesksModel" (13 : Nat) "ShopDesksModel" "numbers" "[J") ∈ aw := aw_t (List.mem_append_right _ (List.mem_append_right _ (List.mem_append_left _ (List.mem_of_getElem? (l := tables_1_3) (i := 90) rfl)))) rfl
theorem aF_M_17 : (Jvm.Cond.fieldLink "ShopDesksModel" (17 : Nat) "ShopDesksModel" "things" "[I") ∈ aw := aw_t (List.mem_append_right _ (List.mem_append_right _ (List.mem_append_left _ (List.mem_of_getElem? (l := tables_1_3) (i := 91) rfl)))) rfl
theorem aF_M_20 : (Jvm.Cond.fieldLink "ShopDesksModel" (20 : Nat) "ShopDesksModel" "kinds" "[I") ∈ aw := aw_t (List.mem_append_right _ (List.mem_append_right _ (List.mem_append_left _ (List.mem_of_getElem? (l := tables_1_3) (i := 92) rfl)))) rfl
theorem aF_M_23 : (Jvm.Cond.fieldLink "ShopDesksModel" (23 : Nat) "ShopDesksModel" "values" "[J") ∈ aw := aw_t (List.mem_append_right _ (List.mem_append_right _ (List.mem_append_left _ (List.mem_of_getElem? (l := tables_1_3) (i := 93) rfl)))) rfl
theorem aF_M_26 : (Jvm.Cond.fieldLink "ShopDesksModel" (26 : Nat) "ShopDesksModel" "ons" "[J") ∈ aw := aw_t (List.mem_append_right _ (List.mem_append_right _ (List.mem_append_left _ (List.mem_of_getElem? (l := tables_1_3) (i := 94) rfl)))) rfl
theorem aF_M_86 : (Jvm.Cond.fieldLink "ShopDesksModel" (86 : Nat) "ShopDesksModel" "sets" "I") ∈ aw := aw_t (List.mem_append_right _ (List.mem_append_right _ (List.mem_append_left _ (List.mem_of_getElem? (l := tables_1_3) (i := 95) rfl)))) rfl
theorem aF_M_29 : (Jvm.Cond.fieldLink "ShopDesksModel" (29 : Nat) "ShopDesksModel" "sizes" "[I") ∈ aw := aw_t (List.mem_append_right _ (List.mem_append_right _ (List.mem_append_left _ (List.mem_of_getElem? (l := tables_1_3) (i := 96) rfl)))) rfl
theorem aF_M_32 : (Jvm.Cond.fieldLink "ShopDesksModel" (32 : Nat) "ShopDesksModel" "rows" "[I") ∈ aw := aw_t (List.mem_append_right _ (List.mem_append_right _ (List.mem_append_left _ (List.mem_of_getElem? (l := tables_1_3) (i := 97) rfl)))) rfl
theorem aF_M_35 : (Jvm.Cond.fieldLink "ShopDesksModel" (35 : Nat) "ShopDesksModel" "batches" "[I") ∈ aw := aw_t (List.mem_append_right _ (List.mem_append_right _ (List.mem_append_left _ (List.mem_of_getElem? (l := tables_1_3) (i := 98) rfl)))) rfl
theorem aF_M_38 : (Jvm.Cond.fieldLink "ShopDesksModel" (38 : Nat) "ShopDesksModel" "rights" "[Z") ∈ aw := aw_t (List.mem_append_right _ (List.mem_append_right _ (List.mem_append_left _ (List.mem_of_getElem? (l := tables_1_3) (i := 99) rfl)))) rfl
theorem aF_M_138 : (Jvm.Cond.fieldLink "ShopDesksModel" (138 : Nat) "ShopDesksModel" "entries" "I") ∈ aw := aw_t (List.mem_append_right _ (List.mem_append_right _ (List.mem_append_left _ (List.mem_of_getElem? (l := tables_1_3) (i := 100) rfl)))) rfl
theorem aF_M_42 : (Jvm.Cond.fieldLink "ShopDesksModel" (42 : Nat) "ShopDesksModel" "days" "[I") ∈ aw := aw_t (List.mem_append_right _ (List.mem_append_right _ (List.mem_append_left _ (List.mem_of_getElem? (l := tables_1_3) (i := 101) rfl)))) rfl
theorem aF_M_45 : (Jvm.Cond.fieldLink "ShopDesksModel" (45 : Nat) "ShopDesksModel" "many" "[I") ∈ aw := aw_t (List.mem_append_right _ (List.mem_append_right _ (List.mem_append_left _ (List.mem_of_getElem? (l := tables_1_3) (i := 102) rfl)))) rfl
theorem aF_M_48 : (Jvm.Cond.fieldLink "ShopDesksModel" (48 : Nat) "ShopDesksModel" "accounts" "[I") ∈ aw := aw_t (List.mem_append_right _ (List.mem_append_right _ (List.mem_append_left _ (List.mem_of_getElem? (l := tables_1_3) (i := 103) rfl)))) rfl
theorem aF_M_51 : (Jvm.Cond.fieldLink "ShopDesksModel" (51 : Nat) "ShopDesksModel" "cents" "[J") ∈ aw := aw_t (List.mem_append_right _ (List.mem_append_right _ (List.mem_append_left _ (List.mem_of_getElem? (l := tables_1_3) (i := 104) rfl)))) rfl
theorem aF_M_54 : (Jvm.Cond.fieldLink "ShopDesksModel" (54 : Nat) "ShopDesksModel" "closedAs" "[I") ∈ aw := aw_t (List.mem_append_right _ (List.mem_append_right _ (List.mem_append_left _ (List.mem_of_getElem? (l := tables_1_3) (i := 105) rfl)))) rfl
theorem aF_M_57 : (Jvm.Cond.fieldLink "ShopDesksModel" (57 : Nat) "ShopDesksModel" "reversed" "[Z") ∈ aw := aw_t (List.mem_append_right _ (List.mem_append_right _ (List.mem_append_left _ (List.mem_of_getElem? (l := tables_1_3) (i := 106) rfl)))) rfl
theorem aF_M_156 : (Jvm.Cond.fieldLink "ShopDesksModel" (156 : Nat) "ShopDesksModel" "closed" "I") ∈ aw := aw_t (List.mem_append_right _ (List.mem_append_right _ (List.mem_append_left _ (List.mem_of_getElem? (l := tables_1_3) (i := 107) rfl)))) rfl
theorem aF_M_60 : (Jvm.Cond.fieldLink "ShopDesksModel" (60 : Nat) "ShopDesksModel" "closedMonth" "I") ∈ aw := aw_t (List.mem_append_right _ (List.mem_append_right _ (List.mem_append_left _ (List.mem_of_getElem? (l := tables_1_3) (i := 108) rfl)))) rfl
theorem aM_W_141 : (Jvm.Cond.methodLink "ShopDesksLaw" (141 : Nat) ({ cls := "ShopDesksModel", name := "thrown", desc := "()I" } : Jvm.MethodName)) ∈ aw := aw_t (List.mem_append_right _ (List.mem_append_right _ (List.mem_append_left _ (List.mem_of_getElem? (l := tables_1_3) (i := 154) rfl)))) rfl
theorem aI_M_thrown : (Jvm.Cond.instanceMethod ({ cls := "ShopDesksModel", name := "thrown", desc := "()I" } : Jvm.MethodName)) ∈ aw := aw_t (List.mem_append_right _ (List.mem_append_right _ (List.mem_append_left _ (List.mem_of_getElem? (l := tables_1_3) (i := 155) rfl)))) rfl
theorem aV_M_thrown : (Jvm.Cond.selects "ShopDesksModel" ({ cls := "ShopDesksModel", name := "thrown", desc := "()I" } : Jvm.MethodName) ({ cls := "ShopDesksModel", name := "thrown", desc := "()I" } : Jvm.MethodName)) ∈ aw := aw_t (List.mem_append_right _ (List.mem_append_right _ (List.mem_append_left _ (List.mem_of_getElem? (l := tables_1_3) (i := 156) rfl)))) rfl
theorem aK_M_thrown : (Jvm.Cond.code ({ cls := "ShopDesksModel", name := "thrown", desc := "()I" } : Jvm.MethodName) prog_7_method_2_code (1 : Nat) (Option.some Jvm.ClassFile.FieldType.int)) ∈ aw := aw_t (List.mem_append_right _ (List.mem_append_right _ (List.mem_append_left _ (List.mem_of_getElem? (l := tables_1_3) (i := 157) rfl)))) rfl
theorem aM_W_88 : (Jvm.Cond.methodLink "ShopDesksLaw" (88 : Nat) ({ cls := "ShopDesksModel", name := "tell", desc := "(IJIIJJ)I" } : Jvm.MethodName)) ∈ aw := aw_t (List.mem_append_right _ (List.mem_append_right _ (List.mem_append_left _ (List.mem_of_getElem? (l := tables_1_3) (i := 158) rfl)))) rfl
theorem aI_M_tell : (Jvm.Cond.instanceMethod ({ cls := "ShopDesksModel", name := "tell", desc := "(IJIIJJ)I" } : Jvm.MethodName)) ∈ aw := aw_t (List.mem_append_right _ (List.mem_append_right _ (List.mem_append_left _ (List.mem_of_getElem? (l := tables_1_3) (i := 159) rfl)))) rfl
theorem aV_M_tell : (Jvm.Cond.selects "ShopDesksModel" ({ cls := "ShopDesksModel", name := "tell", desc := "(IJIIJJ)I" } : Jvm.MethodName) ({ cls := "ShopDesksModel", name := "tell", desc := "(IJIIJJ)I" } : Jvm.MethodName)) ∈ aw := aw_t (List.mem_append_right _ (List.mem_append_right _ (List.mem_append_left _ (List.mem_of_getElem? (l := tables_1_3) (i := 160) rfl)))) rfl
theorem aK_M_tell : (Jvm.Cond.code ({ cls := "ShopDesksModel", name := "tell", desc := "(IJIIJJ)I" } : Jvm.MethodName) prog_7_method_6_code (10 : Nat) (Option.some Jvm.ClassFile.FieldType.int)) ∈ aw := aw_t (List.mem_append_right _ (List.mem_append_right _ (List.mem_append_left _ (List.mem_of_getElem? (l := tables_1_3) (i := 161) rfl)))) rfl
theorem aL_M_70 : (Jvm.Cond.constantLong "ShopDesksModel" (70 : Nat) (5 : Int64)) ∈ aw := aw_t (List.mem_append_right _ (List.mem_append_right _ (List.mem_append_left _ (List.mem_of_getElem? (l := tables_1_3) (i := 162) rfl)))) rfl
theorem aM_M_72 : (Jvm.Cond.methodLink "ShopDesksModel" (72 : Nat) ({ cls := "ShopDesksModel", name := "isIn", desc := "(JJJ)Z" } : Jvm.MethodName)) ∈ aw := aw_t (List.mem_append_right _ (List.mem_append_right _ (List.mem_append_left _ (List.mem_of_getElem? (l := tables_1_3) (i := 163) rfl)))) rfl
theorem aS_M_isIn : (Jvm.Cond.static ({ cls := "ShopDesksModel", name := "isIn", desc := "(JJJ)Z" } : Jvm.MethodName)) ∈ aw := aw_t (List.mem_append_right _ (List.mem_append_right _ (List.mem_append_left _ (List.mem_of_getElem? (l := tables_1_3) (i := 164) rfl)))) rfl
theorem aK_M_isIn : (Jvm.Cond.code ({ cls := "ShopDesksModel", name := "isIn", desc := "(JJJ)Z" } : Jvm.MethodName) prog_7_method_3_code (6 : Nat) (Option.some Jvm.ClassFile.FieldType.boolean)) ∈ aw := aw_t (List.mem_append_right _ (List.mem_append_right _ (List.mem_append_left _ (List.mem_of_getElem? (l := tables_1_3) (i := 165) rfl)))) rfl
theorem aL_M_76 : (Jvm.Cond.constantLong "ShopDesksModel" (76 : Nat) (9 : Int64)) ∈ aw := aw_t (List.mem_append_right _ (List.mem_append_right _ (List.mem_append_left _ (List.mem_of_getElem? (l := tables_1_3) (i := 166) rfl)))) rfl
theorem aM_M_78 : (Jvm.Cond.methodLink "ShopDesksModel" (78 : Nat) ({ cls := "ShopDesksModel", name := "isKind", desc := "(I)Z" } : Jvm.MethodName)) ∈ aw := aw_t (List.mem_append_right _ (List.mem_append_right _ (List.mem_append_left _ (List.mem_of_getElem? (l := tables_1_3) (i := 167) rfl)))) rfl
theorem aS_M_isKind : (Jvm.Cond.static ({ cls := "ShopDesksModel", name := "isKind", desc := "(I)Z" } : Jvm.MethodName)) ∈ aw := aw_t (List.mem_append_right _ (List.mem_append_right _ (List.mem_append_left _ (List.mem_of_getElem? (l := tables_1_3) (i := 168) rfl)))) rfl
theorem aK_M_isKind : (Jvm.Cond.code ({ cls := "ShopDesksModel", name := "isKind", desc := "(I)Z" } : Jvm.MethodName) prog_7_method_4_code (1 : Nat) (Option.some Jvm.ClassFile.FieldType.boolean)) ∈ aw := aw_t (List.mem_append_right _ (List.mem_append_right _ (List.mem_append_left _ (List.mem_of_getElem? (l := tables_1_3) (i := 169) rfl)))) rfl
theorem aM_M_82 : (Jvm.Cond.methodLink "ShopDesksModel" (82 : Nat) ({ cls := "ShopDesksModel", name := "find", desc := "(IJ)I" } : Jvm.MethodName)) ∈ aw := aw_t (List.mem_append_right _ (List.mem_append_right _ (List.mem_append_left _ (List.mem_of_getElem? (l := tables_1_3) (i := 170) rfl)))) rfl
theorem aI_M_find : (Jvm.Cond.instanceMethod ({ cls := "ShopDesksModel", name := "find", desc := "(IJ)I" } : Jvm.MethodName)) ∈ aw := aw_t (List.mem_append_right _ (List.mem_append_right _ (List.mem_append_left _ (List.mem_of_getElem? (l := tables_1_3) (i := 172) rfl)))) rfl
theorem aK_M_find : (Jvm.Cond.code ({ cls := "ShopDesksModel", name := "find", desc := "(IJ)I" } : Jvm.MethodName) prog_7_method_5_code (5 : Nat) (Option.some Jvm.ClassFile.FieldType.int)) ∈ aw := aw_t (List.mem_append_right _ (List.mem_append_right _ (List.mem_append_left _ (List.mem_of_getElem? (l := tables_1_3) (i := 173) rfl)))) rfl
theorem aM_W_92 : (Jvm.Cond.methodLink "ShopDesksLaw" (92 : Nat) ({ cls := "ShopDesksModel", name := "set", desc := "(I)I" } : Jvm.MethodName)) ∈ aw := aw_t (List.mem_append_right _ (List.mem_append_right _ (List.mem_append_left _ (List.mem_of_getElem? (l := tables_1_3) (i := 174) rfl)))) rfl
theorem aI_M_set : (Jvm.Cond.instanceMethod ({ cls := "ShopDesksModel", name := "set", desc := "(I)I" } : Jvm.MethodName)) ∈ aw := aw_t (List.mem_append_right _ (List.mem_append_right _ (List.mem_append_left _ (List.mem_of_getElem? (l := tables_1_3) (i := 175) rfl)))) rfl
theorem aV_M_set : (Jvm.Cond.selects "ShopDesksModel" ({ cls := "ShopDesksModel", name := "set", desc := "(I)I" } : Jvm.MethodName) ({ cls := "ShopDesksModel", name := "set", desc := "(I)I" } : Jvm.MethodName)) ∈ aw := aw_t (List.mem_append_right _ (List.mem_append_right _ (List.mem_append_left _ (List.mem_of_getElem? (l := tables_1_3) (i := 176) rfl)))) rfl
theorem aK_M_set : (Jvm.Cond.code ({ cls := "ShopDesksModel", name := "set", desc := "(I)I" } : Jvm.MethodName) prog_7_method_9_code (4 : Nat) (Option.some Jvm.ClassFile.FieldType.int)) ∈ aw := aw_t (List.mem_append_right _ (List.mem_append_right _ (List.mem_append_left _ (List.mem_of_getElem? (l := tables_1_3) (i := 177) rfl)))) rfl
theorem aM_W_96 : (Jvm.Cond.methodLink "ShopDesksLaw" (96 : Nat) ({ cls := "ShopDesksModel", name := "join", desc := "(II)I" } : Jvm.MethodName)) ∈ aw := aw_t (List.mem_append_right _ (List.mem_append_right _ (List.mem_append_left _ (List.mem_of_getElem? (l := tables_1_3) (i := 178) rfl)))) rfl
theorem aI_M_join : (Jvm.Cond.instanceMethod ({ cls := "ShopDesksModel", name := "join", desc := "(II)I" } : Jvm.MethodName)) ∈ aw := aw_t (List.mem_append_right _ (List.mem_append_right _ (List.mem_append_left _ (List.mem_of_getElem? (l := tables_1_3) (i := 179) rfl)))) rfl
theorem aV_M_join : (Jvm.Cond.selects "ShopDesksModel" ({ cls := "ShopDesksModel", name := "join", desc := "(II)I" } : Jvm.MethodName) ({ cls := "ShopDesksModel", name := "join", desc := "(II)I" } : Jvm.MethodName)) ∈ aw := aw_t (List.mem_append_right _ (List.mem_append_right _ (List.mem_append_left _ (List.mem_of_getElem? (l := tables_1_3) (i := 180) rfl)))) rfl
theorem aK_M_join : (Jvm.Cond.code ({ cls := "ShopDesksModel", name := "join", desc := "(II)I" } : Jvm.MethodName) prog_7_method_11_code (5 : Nat) (Option.some Jvm.ClassFile.FieldType.int)) ∈ aw := aw_t (List.mem_append_right _ (List.mem_append_right _ (List.mem_append_left _ (List.mem_of_getElem? (l := tables_1_3) (i := 181) rfl)))) rfl
theorem aM_M_89 : (Jvm.Cond.methodLink "ShopDesksModel" (89 : Nat) ({ cls := "ShopDesksModel", name := "isSet", desc := "(I)Z" } : Jvm.MethodName)) ∈ aw := aw_t (List.mem_append_right _ (List.mem_append_right _ (List.mem_append_left _ (List.mem_of_getElem? (l := tables_1_3) (i := 182) rfl)))) rfl
theorem aI_M_isSet : (Jvm.Cond.instanceMethod ({ cls := "ShopDesksModel", name := "isSet", desc := "(I)Z" } : Jvm.MethodName)) ∈ aw := aw_t (List.mem_append_right _ (List.mem_append_right _ (List.mem_append_left _ (List.mem_of_getElem? (l := tables_1_3) (i := 184) rfl)))) rfl
theorem aK_M_isSet : (Jvm.Cond.code ({ cls := "ShopDesksModel", name := "isSet", desc := "(I)Z" } : Jvm.MethodName) prog_7_method_10_code (2 : Nat) (Option.some Jvm.ClassFile.FieldType.boolean)) ∈ aw := aw_t (List.mem_append_right _ (List.mem_append_right _ (List.mem_append_left _ (List.mem_of_getElem? (l := tables_1_3) (i := 185) rfl)))) rfl
theorem aM_M_92 : (Jvm.Cond.methodLink "ShopDesksModel" (92 : Nat) ({ cls := "ShopDesksModel", name := "has", desc := "(II)Z" } : Jvm.MethodName)) ∈ aw := aw_t (List.mem_append_right _ (List.mem_append_right _ (List.mem_append_left _ (List.mem_of_getElem? (l := tables_1_3) (i := 186) rfl)))) rfl
theorem aI_M_has : (Jvm.Cond.instanceMethod ({ cls := "ShopDesksModel", name := "has", desc := "(II)Z" } : Jvm.MethodName)) ∈ aw := aw_t (List.mem_append_right _ (List.mem_append_right _ (List.mem_append_left _ (List.mem_of_getElem? (l := tables_1_3) (i := 188) rfl)))) rfl
theorem aK_M_has : (Jvm.Cond.code ({ cls := "ShopDesksModel", name := "has", desc := "(II)Z" } : Jvm.MethodName) prog_7_method_7_code (5 : Nat) (Option.some Jvm.ClassFile.FieldType.boolean)) ∈ aw := aw_t (List.mem_append_right _ (List.mem_append_right _ (List.mem_append_left _ (List.mem_of_getElem? (l := tables_1_3) (i := 189) rfl)))) rfl
theorem aM_M_96 : (Jvm.Cond.methodLink "ShopDesksModel" (96 : Nat) ({ cls := "ShopDesksModel", name := "add", desc := "(II)V" } : Jvm.MethodName)) ∈ aw := aw_t (List.mem_append_right _ (List.mem_append_right _ (List.mem_append_left _ (List.mem_of_getElem? (l := tables_1_3) (i := 190) rfl)))) rfl
theorem aI_M_add : (Jvm.Cond.instanceMethod ({ cls := "ShopDesksModel", name := "add", desc := "(II)V" } : Jvm.MethodName)) ∈ aw := aw_t (List.mem_append_right _ (List.mem_append_right _ (List.mem_append_left _ (List.mem_of_getElem? (l := tables_1_3) (i := 192) rfl)))) rfl
theorem aK_M_add : (Jvm.Cond.code ({ cls := "ShopDesksModel", name := "add", desc := "(II)V" } : Jvm.MethodName) prog_7_method_8_code (3 : Nat) (Option.none : Option Jvm.ClassFile.FieldType)) ∈ aw := aw_t (List.mem_append_right _ (List.mem_append_right _ (List.mem_append_left _ (List.mem_of_getElem? (l := tables_1_3) (i := 193) rfl)))) rfl
theorem aM_W_99 : (Jvm.Cond.methodLink "ShopDesksLaw" (99 : Nat) ({ cls := "ShopDesksModel", name := "equal", desc := "(II)Z" } : Jvm.MethodName)) ∈ aw := aw_t (List.mem_append_right _ (List.mem_append_right _ (List.mem_append_left _ (List.mem_of_getElem? (l := tables_1_3) (i := 194) rfl)))) rfl
theorem aI_M_equal : (Jvm.Cond.instanceMethod ({ cls := "ShopDesksModel", name := "equal", desc := "(II)Z" } : Jvm.MethodName)) ∈ aw := aw_t (List.mem_append_right _ (List.mem_append_right _ (List.mem_append_left _ (List.mem_of_getElem? (l := tables_1_3) (i := 195) rfl)))) rfl
theorem aV_M_equal : (Jvm.Cond.selects "ShopDesksModel" ({ cls := "ShopDesksModel", name := "equal", desc := "(II)Z" } : Jvm.MethodName) ({ cls := "ShopDesksModel", name := "equal", desc := "(II)Z" } : Jvm.MethodName)) ∈ aw := aw_t (List.mem_append_right _ (List.mem_append_right _ (List.mem_append_left _ (List.mem_of_getElem? (l := tables_1_3) (i := 196) rfl)))) rfl
theorem aK_M_equal : (Jvm.Cond.code ({ cls := "ShopDesksModel", name := "equal", desc := "(II)Z" } : Jvm.MethodName) prog_7_method_12_code (5 : Nat) (Option.some Jvm.ClassFile.FieldType.boolean)) ∈ aw := aw_t (List.mem_append_right _ (List.mem_append_right _ (List.mem_append_left _ (List.mem_of_getElem? (l := tables_1_3) (i := 197) rfl)))) rfl
theorem aM_W_103 : (Jvm.Cond.methodLink "ShopDesksLaw" (103 : Nat) ({ cls := "ShopDesksModel", name := "at", desc := "(IIIJ)J" } : Jvm.MethodName)) ∈ aw := aw_t (List.mem_append_right _ (List.mem_append_right _ (List.mem_append_left _ (List.mem_of_getElem? (l := tables_1_3) (i := 198) rfl)))) rfl
theorem aI_M_at : (Jvm.Cond.instanceMethod ({ cls := "ShopDesksModel", name := "at", desc := "(IIIJ)J" } : Jvm.MethodName)) ∈ aw := aw_t (List.mem_append_right _ (List.mem_append_right _ (List.mem_append_left _ (List.mem_of_getElem? (l := tables_1_3) (i := 199) rfl)))) rfl
theorem aV_M_at : (Jvm.Cond.selects "ShopDesksModel" ({ cls := "ShopDesksModel", name := "at", desc := "(IIIJ)J" } : Jvm.MethodName) ({ cls := "ShopDesksModel", name := "at", desc := "(IIIJ)J" } : Jvm.MethodName)) ∈ aw := aw_t (List.mem_append_right _ (List.mem_append_right _ (List.mem_append_left _ (List.mem_of_getElem? (l := tables_1_3) (i := 200) rfl)))) rfl
theorem aK_M_at : (Jvm.Cond.code ({ cls := "ShopDesksModel", name := "at", desc := "(IIIJ)J" } : Jvm.MethodName) prog_7_method_20_code (6 : Nat) (Option.some Jvm.ClassFile.FieldType.long)) ∈ aw := aw_t (List.mem_append_right _ (List.mem_append_right _ (List.mem_append_left _ (List.mem_of_getElem? (l := tables_1_3) (i := 201) rfl)))) rfl
theorem aM_M_122 : (Jvm.Cond.methodLink "ShopDesksModel" (122 : Nat) ({ cls := "ShopDesksModel", name := "known", desc := "(IIIIJ)J" } : Jvm.MethodName)) ∈ aw := aw_t (List.mem_append_right _ (List.mem_append_right _ (List.mem_append_left _ (List.mem_of_getElem? (l := tables_1_3) (i := 202) rfl)))) rfl
theorem aI_M_known : (Jvm.Cond.instanceMethod ({ cls := "ShopDesksModel", name := "known", desc := "(IIIIJ)J" } : Jvm.MethodName)) ∈ aw := aw_t (List.mem_append_right _ (List.mem_append_right _ (List.mem_append_left _ (List.mem_of_getElem? (l := tables_1_3) (i := 204) rfl)))) rfl
theorem aK_M_known : (Jvm.Cond.code ({ cls := "ShopDesksModel", name := "known", desc := "(IIIIJ)J" } : Jvm.MethodName) prog_7_method_19_code (11 : Nat) (Option.some Jvm.ClassFile.FieldType.long)) ∈ aw := aw_t (List.mem_append_right _ (List.mem_append_right _ (List.mem_append_left _ (List.mem_of_getElem? (l := tables_1_3) (i := 205) rfl)))) rfl
theorem aM_M_104 : (Jvm.Cond.methodLink "ShopDesksModel" (104 : Nat) ({ cls := "ShopDesksModel", name := "speaks", desc := "(IIIJ)Z" } : Jvm.MethodName)) ∈ aw := aw_t (List.mem_append_right _ (List.mem_append_right _ (List.mem_append_left _ (List.mem_of_getElem? (l := tables_1_3) (i := 206) rfl)))) rfl
theorem aI_M_speaks : (Jvm.Cond.instanceMethod ({ cls := "ShopDesksModel", name := "speaks", desc := "(IIIJ)Z" } : Jvm.MethodName)) ∈ aw := aw_t (List.mem_append_right _ (List.mem_append_right _ (List.mem_append_left _ (List.mem_of_getElem? (l := tables_1_3) (i := 208) rfl)))) rfl
theorem aK_M_speaks : (Jvm.Cond.code ({ cls := "ShopDesksModel", name := "speaks", desc := "(IIIJ)Z" } : Jvm.MethodName) prog_7_method_15_code (6 : Nat) (Option.some Jvm.ClassFile.FieldType.boolean)) ∈ aw := aw_t (List.mem_append_right _ (List.mem_append_right _ (List.mem_append_left _ (List.mem_of_getElem? (l := tables_1_3) (i := 209) rfl)))) rfl
theorem aM_M_116 : (Jvm.Cond.methodLink "ShopDesksModel" (116 : Nat) ({ cls := "ShopDesksModel", name := "isSettled", desc := "(IIIJ)Z" } : Jvm.MethodName)) ∈ aw := aw_t (List.mem_append_right _ (List.mem_append_right _ (List.mem_append_left _ (List.mem_of_getElem? (l := tables_1_3) (i := 210) rfl)))) rfl
theorem aI_M_isSettled : (Jvm.Cond.instanceMethod ({ cls := "ShopDesksModel", name := "isSettled", desc := "(IIIJ)Z" } : Jvm.MethodName)) ∈ aw := aw_t (List.mem_append_right _ (List.mem_append_right _ (List.mem_append_left _ (List.mem_of_getElem? (l := tables_1_3) (i := 212) rfl)))) rfl
theorem aK_M_isSettled : (Jvm.Cond.code ({ cls := "ShopDesksModel", name := "isSettled", desc := "(IIIJ)Z" } : Jvm.MethodName) prog_7_method_17_code (10 : Nat) (Option.some Jvm.ClassFile.FieldType.boolean)) ∈ aw := aw_t (List.mem_append_right _ (List.mem_append_right _ (List.mem_append_left _ (List.mem_of_getElem? (l := tables_1_3) (i := 213) rfl)))) rfl
theorem aM_M_112 : (Jvm.Cond.methodLink "ShopDesksModel" (112 : Nat) ({ cls := "ShopDesksModel", name := "latest", desc := "(IIIIJ)I" } : Jvm.MethodName)) ∈ aw := aw_t (List.mem_append_right _ (List.mem_append_right _ (List.mem_append_left _ (List.mem_of_getElem? (l := tables_1_3) (i := 214) rfl)))) rfl
theorem aI_M_latest : (Jvm.Cond.instanceMethod ({ cls := "ShopDesksModel", name := "latest", desc := "(IIIIJ)I" } : Jvm.MethodName)) ∈ aw := aw_t (List.mem_append_right _ (List.mem_append_right _ (List.mem_append_left _ (List.mem_of_getElem? (l := tables_1_3) (i := 216) rfl)))) rfl
theorem aK_M_latest : (Jvm.Cond.code ({ cls := "ShopDesksModel", name := "latest", desc := "(IIIIJ)I" } : Jvm.MethodName) prog_7_method_16_code (10 : Nat) (Option.some Jvm.ClassFile.FieldType.int)) ∈ aw := aw_t (List.mem_append_right _ (List.mem_append_right _ (List.mem_append_left _ (List.mem_of_getElem? (l := tables_1_3) (i := 217) rfl)))) rfl
theorem aM_M_108 : (Jvm.Cond.methodLink "ShopDesksModel" (108 : Nat) ({ cls := "ShopDesksModel", name := "later", desc := "(II)I" } : Jvm.MethodName)) ∈ aw := aw_t (List.mem_append_right _ (List.mem_append_right _ (List.mem_append_left _ (List.mem_of_getElem? (l := tables_1_3) (i := 218) rfl)))) rfl
theorem aI_M_later : (Jvm.Cond.instanceMethod ({ cls := "ShopDesksModel", name := "later", desc := "(II)I" } : Jvm.MethodName)) ∈ aw := aw_t (List.mem_append_right _ (List.mem_append_right _ (List.mem_append_left _ (List.mem_of_getElem? (l := tables_1_3) (i := 220) rfl)))) rfl
theorem aK_M_later : (Jvm.Cond.code ({ cls := "ShopDesksModel", name := "later", desc := "(II)I" } : Jvm.MethodName) prog_7_method_14_code (3 : Nat) (Option.some Jvm.ClassFile.FieldType.int)) ∈ aw := aw_t (List.mem_append_right _ (List.mem_append_right _ (List.mem_append_left _ (List.mem_of_getElem? (l := tables_1_3) (i := 221) rfl)))) rfl
theorem aM_M_100 : (Jvm.Cond.methodLink "ShopDesksModel" (100 : Nat) ({ cls := "ShopDesksModel", name := "isAfter", desc := "(JJ)Z" } : Jvm.MethodName)) ∈ aw := aw_t (List.mem_append_right _ (List.mem_append_right _ (List.mem_append_left _ (List.mem_of_getElem? (l := tables_1_3) (i := 222) rfl)))) rfl
theorem aS_M_isAfter : (Jvm.Cond.static ({ cls := "ShopDesksModel", name := "isAfter", desc := "(JJ)Z" } : Jvm.MethodName)) ∈ aw := aw_t (List.mem_append_right _ (List.mem_append_right _ (List.mem_append_left _ (List.mem_of_getElem? (l := tables_1_3) (i := 223) rfl)))) rfl
theorem aK_M_isAfter : (Jvm.Cond.code ({ cls := "ShopDesksModel", name := "isAfter", desc := "(JJ)Z" } : Jvm.MethodName) prog_7_method_13_code (4 : Nat) (Option.some Jvm.ClassFile.FieldType.boolean)) ∈ aw := aw_t (List.mem_append_right _ (List.mem_append_right _ (List.mem_append_left _ (List.mem_of_getElem? (l := tables_1_3) (i := 224) rfl)))) rfl
theorem aM_M_119 : (Jvm.Cond.methodLink "ShopDesksModel" (119 : Nat) ({ cls := "ShopDesksModel", name := "areUnlike", desc := "(IIIJ)Z" } : Jvm.MethodName)) ∈ aw := aw_t (List.mem_append_right _ (List.mem_append_right _ (List.mem_append_left _ (List.mem_of_getElem? (l := tables_1_3) (i := 225) rfl)))) rfl
theorem aI_M_areUnlike : (Jvm.Cond.instanceMethod ({ cls := "ShopDesksModel", name := "areUnlike", desc := "(IIIJ)Z" } : Jvm.MethodName)) ∈ aw := aw_t (List.mem_append_right _ (List.mem_append_right _ (List.mem_append_left _ (List.mem_of_getElem? (l := tables_1_3) (i := 227) rfl)))) rfl
theorem aK_M_areUnlike : (Jvm.Cond.code ({ cls := "ShopDesksModel", name := "areUnlike", desc := "(IIIJ)Z" } : Jvm.MethodName) prog_7_method_18_code (10 : Nat) (Option.some Jvm.ClassFile.FieldType.boolean)) ∈ aw := aw_t (List.mem_append_right _ (List.mem_append_right _ (List.mem_append_left _ (List.mem_of_getElem? (l := tables_1_3) (i := 228) rfl)))) rfl
theorem aM_W_106 : (Jvm.Cond.methodLink "ShopDesksLaw" (106 : Nat) ({ cls := "ShopDesksModel", name := "conflict", desc := "(II)I" } : Jvm.MethodName)) ∈ aw := aw_t (List.mem_append_right _ (List.mem_append_right _ (List.mem_append_left _ (List.mem_of_getElem? (l := tables_1_3) (i := 229) rfl)))) rfl
theorem aI_M_conflict : (Jvm.Cond.instanceMethod ({ cls := "ShopDesksModel", name := "conflict", desc := "(II)I" } : Jvm.MethodName)) ∈ aw := aw_t (List.mem_append_right _ (List.mem_append_right _ (List.mem_append_left _ (List.mem_of_getElem? (l := tables_1_3) (i := 230) rfl)))) rfl
theorem aV_M_conflict : (Jvm.Cond.selects "ShopDesksModel" ({ cls := "ShopDesksModel", name := "conflict", desc := "(II)I" } : Jvm.MethodName) ({ cls := "ShopDesksModel", name := "conflict", desc := "(II)I" } : Jvm.MethodName)) ∈ aw := aw_t (List.mem_append_right _ (List.mem_append_right _ (List.mem_append_left _ (List.mem_of_getElem? (l := tables_1_3) (i := 231) rfl)))) rfl
theorem aK_M_conflict : (Jvm.Cond.code ({ cls := "ShopDesksModel", name := "conflict", desc := "(II)I" } : Jvm.MethodName) prog_7_method_22_code (5 : Nat) (Option.some Jvm.ClassFile.FieldType.int)) ∈ aw := aw_t (List.mem_append_right _ (List.mem_append_right _ (List.mem_append_left _ (List.mem_of_getElem? (l := tables_1_3) (i := 232) rfl)))) rfl
theorem aM_M_128 : (Jvm.Cond.methodLink "ShopDesksModel" (128 : Nat) ({ cls := "ShopDesksModel", name := "end", desc := "()J" } : Jvm.MethodName)) ∈ aw := aw_t (List.mem_append_right _ (List.mem_append_right _ (List.mem_append_left _ (List.mem_of_getElem? (l := tables_1_3) (i := 233) rfl)))) rfl
theorem aS_M_end : (Jvm.Cond.static ({ cls := "ShopDesksModel", name := "end", desc := "()J" } : Jvm.MethodName)) ∈ aw := aw_t (List.mem_append_right _ (List.mem_append_right _ (List.mem_append_left _ (List.mem_of_getElem? (l := tables_1_3) (i := 234) rfl)))) rfl
theorem aK_M_end : (Jvm.Cond.code ({ cls := "ShopDesksModel", name := "end", desc := "()J" } : Jvm.MethodName) prog_7_method_21_code (0 : Nat) (Option.some Jvm.ClassFile.FieldType.long)) ∈ aw := aw_t (List.mem_append_right _ (List.mem_append_right _ (List.mem_append_left _ (List.mem_of_getElem? (l := tables_1_3) (i := 235) rfl)))) rfl
theorem aL_M_126 : (Jvm.Cond.constantLong "ShopDesksModel" (126 : Nat) (9223372036854775807 : Int64)) ∈ aw := aw_t (List.mem_append_right _ (List.mem_append_right _ (List.mem_append_left _ (List.mem_of_getElem? (l := tables_1_3) (i := 236) rfl)))) rfl
theorem aM_W_109 : (Jvm.Cond.methodLink "ShopDesksLaw" (109 : Nat) ({ cls := "ShopDesksModel", name := "mark", desc := "(I)I" } : Jvm.MethodName)) ∈ aw := aw_t (List.mem_append_right _ (List.mem_append_right _ (List.mem_append_left _ (List.mem_of_getElem? (l := tables_1_3) (i := 237) rfl)))) rfl
theorem aI_M_mark : (Jvm.Cond.instanceMethod ({ cls := "ShopDesksModel", name := "mark", desc := "(I)I" } : Jvm.MethodName)) ∈ aw := aw_t (List.mem_append_right _ (List.mem_append_right _ (List.mem_append_left _ (List.mem_of_getElem? (l := tables_1_3) (i := 238) rfl)))) rfl
theorem aV_M_mark : (Jvm.Cond.selects "ShopDesksModel" ({ cls := "ShopDesksModel", name := "mark", desc := "(I)I" } : Jvm.MethodName) ({ cls := "ShopDesksModel", name := "mark", desc := "(I)I" } : Jvm.MethodName)) ∈ aw := aw_t (List.mem_append_right _ (List.mem_append_right _ (List.mem_append_left _ (List.mem_of_getElem? (l := tables_1_3) (i := 239) rfl)))) rfl
theorem aK_M_mark : (Jvm.Cond.code ({ cls := "ShopDesksModel", name := "mark", desc := "(I)I" } : Jvm.MethodName) prog_7_method_23_code (2 : Nat) (Option.some Jvm.ClassFile.FieldType.int)) ∈ aw := aw_t (List.mem_append_right _ (List.mem_append_right _ (List.mem_append_right _ (List.mem_of_getElem? (l := tables_1_4) (i := 0) rfl)))) rfl
theorem aM_W_113 : (Jvm.Cond.methodLink "ShopDesksLaw" (113 : Nat) ({ cls := "ShopDesksModel", name := "since", desc := "(IIII)J" } : Jvm.MethodName)) ∈ aw := aw_t (List.mem_append_right _ (List.mem_append_right _ (List.mem_append_right _ (List.mem_of_getElem? (l := tables_1_4) (i := 1) rfl)))) rfl
theorem aI_M_since : (Jvm.Cond.instanceMethod ({ cls := "ShopDesksModel", name := "since", desc := "(IIII)J" } : Jvm.MethodName)) ∈ aw := aw_t (List.mem_append_right _ (List.mem_append_right _ (List.mem_append_right _ (List.mem_of_getElem? (l := tables_1_4) (i := 2) rfl)))) rfl
theorem aV_M_since : (Jvm.Cond.selects "ShopDesksModel" ({ cls := "ShopDesksModel", name := "since", desc := "(IIII)J" } : Jvm.MethodName) ({ cls := "ShopDesksModel", name := "since", desc := "(IIII)J" } : Jvm.MethodName)) ∈ aw := aw_t (List.mem_append_right _ (List.mem_append_right _ (List.mem_append_right _ (List.mem_of_getElem? (l := tables_1_4) (i := 3) rfl)))) rfl
theorem aK_M_since : (Jvm.Cond.code ({ cls := "ShopDesksModel", name := "since", desc := "(IIII)J" } : Jvm.MethodName) prog_7_method_24_code (6 : Nat) (Option.some Jvm.ClassFile.FieldType.long)) ∈ aw := aw_t (List.mem_append_right _ (List.mem_append_right _ (List.mem_append_right _ (List.mem_of_getElem? (l := tables_1_4) (i := 4) rfl)))) rfl
theorem aL_M_132 : (Jvm.Cond.constantLong "ShopDesksModel" (132 : Nat) (2 : Int64)) ∈ aw := aw_t (List.mem_append_right _ (List.mem_append_right _ (List.mem_append_right _ (List.mem_of_getElem? (l := tables_1_4) (i := 5) rfl)))) rfl
theorem aM_W_117 : (Jvm.Cond.methodLink "ShopDesksLaw" (117 : Nat) ({ cls := "ShopDesksModel", name := "batch", desc := "(IZ)Z" } : Jvm.MethodName)) ∈ aw := aw_t (List.mem_append_right _ (List.mem_append_right _ (List.mem_append_right _ (List.mem_of_getElem? (l := tables_1_4) (i := 6) rfl)))) rfl
theorem aI_M_batch : (Jvm.Cond.instanceMethod ({ cls := "ShopDesksModel", name := "batch", desc := "(IZ)Z" } : Jvm.MethodName)) ∈ aw := aw_t (List.mem_append_right _ (List.mem_append_right _ (List.mem_append_right _ (List.mem_of_getElem? (l := tables_1_4) (i := 7) rfl)))) rfl
theorem aV_M_batch : (Jvm.Cond.selects "ShopDesksModel" ({ cls := "ShopDesksModel", name := "batch", desc := "(IZ)Z" } : Jvm.MethodName) ({ cls := "ShopDesksModel", name := "batch", desc := "(IZ)Z" } : Jvm.MethodName)) ∈ aw := aw_t (List.mem_append_right _ (List.mem_append_right _ (List.mem_append_right _ (List.mem_of_getElem? (l := tables_1_4) (i := 8) rfl)))) rfl
theorem aK_M_batch : (Jvm.Cond.code ({ cls := "ShopDesksModel", name := "batch", desc := "(IZ)Z" } : Jvm.MethodName) prog_7_method_25_code (3 : Nat) (Option.some Jvm.ClassFile.FieldType.boolean)) ∈ aw := aw_t (List.mem_append_right _ (List.mem_append_right _ (List.mem_append_right _ (List.mem_of_getElem? (l := tables_1_4) (i := 9) rfl)))) rfl
theorem aM_W_121 : (Jvm.Cond.methodLink "ShopDesksLaw" (121 : Nat) ({ cls := "ShopDesksModel", name := "right", desc := "(IIZ)Z" } : Jvm.MethodName)) ∈ aw := aw_t (List.mem_append_right _ (List.mem_append_right _ (List.mem_append_right _ (List.mem_of_getElem? (l := tables_1_4) (i := 10) rfl)))) rfl
theorem aI_M_right : (Jvm.Cond.instanceMethod ({ cls := "ShopDesksModel", name := "right", desc := "(IIZ)Z" } : Jvm.MethodName)) ∈ aw := aw_t (List.mem_append_right _ (List.mem_append_right _ (List.mem_append_right _ (List.mem_of_getElem? (l := tables_1_4) (i := 11) rfl)))) rfl
theorem aV_M_right : (Jvm.Cond.selects "ShopDesksModel" ({ cls := "ShopDesksModel", name := "right", desc := "(IIZ)Z" } : Jvm.MethodName) ({ cls := "ShopDesksModel", name := "right", desc := "(IIZ)Z" } : Jvm.MethodName)) ∈ aw := aw_t (List.mem_append_right _ (List.mem_append_right _ (List.mem_append_right _ (List.mem_of_getElem? (l := tables_1_4) (i := 12) rfl)))) rfl
theorem aK_M_right : (Jvm.Cond.code ({ cls := "ShopDesksModel", name := "right", desc := "(IIZ)Z" } : Jvm.MethodName) prog_7_method_26_code (4 : Nat) (Option.some Jvm.ClassFile.FieldType.boolean)) ∈ aw := aw_t (List.mem_append_right _ (List.mem_append_right _ (List.mem_append_right _ (List.mem_of_getElem? (l := tables_1_4) (i := 13) rfl)))) rfl
theorem aL_M_134 : (Jvm.Cond.constantLong "ShopDesksModel" (134 : Nat) (3 : Int64)) ∈ aw := aw_t (List.mem_append_right _ (List.mem_append_right _ (List.mem_append_right _ (List.mem_of_getElem? (l := tables_1_4) (i := 14) rfl)))) rfl
theorem aM_W_124 : (Jvm.Cond.methodLink "ShopDesksLaw" (124 : Nat) ({ cls := "ShopDesksModel", name := "seen", desc := "(IIII)J" } : Jvm.MethodName)) ∈ aw := aw_t (List.mem_append_right _ (List.mem_append_right _ (List.mem_append_right _ (List.mem_of_getElem? (l := tables_1_4) (i := 15) rfl)))) rfl
theorem aI_M_seen : (Jvm.Cond.instanceMethod ({ cls := "ShopDesksModel", name := "seen", desc := "(IIII)J" } : Jvm.MethodName)) ∈ aw := aw_t (List.mem_append_right _ (List.mem_append_right _ (List.mem_append_right _ (List.mem_of_getElem? (l := tables_1_4) (i := 16) rfl)))) rfl
theorem aV_M_seen : (Jvm.Cond.selects "ShopDesksModel" ({ cls := "ShopDesksModel", name := "seen", desc := "(IIII)J" } : Jvm.MethodName) ({ cls := "ShopDesksModel", name := "seen", desc := "(IIII)J" } : Jvm.MethodName)) ∈ aw := aw_t (List.mem_append_right _ (List.mem_append_right _ (List.mem_append_right _ (List.mem_of_getElem? (l := tables_1_4) (i := 17) rfl)))) rfl
theorem aK_M_seen : (Jvm.Cond.code ({ cls := "ShopDesksModel", name := "seen", desc := "(IIII)J" } : Jvm.MethodName) prog_7_method_27_code (5 : Nat) (Option.some Jvm.ClassFile.FieldType.long)) ∈ aw := aw_t (List.mem_append_right _ (List.mem_append_right _ (List.mem_append_right _ (List.mem_of_getElem? (l := tables_1_4) (i := 18) rfl)))) rfl
theorem aM_W_127 : (Jvm.Cond.methodLink "ShopDesksLaw" (127 : Nat) ({ cls := "ShopDesksModel", name := "entry", desc := "(I)I" } : Jvm.MethodName)) ∈ aw := aw_t (List.mem_append_right _ (List.mem_append_right _ (List.mem_append_right _ (List.mem_of_getElem? (l := tables_1_4) (i := 19) rfl)))) rfl
theorem aI_M_entry : (Jvm.Cond.instanceMethod ({ cls := "ShopDesksModel", name := "entry", desc := "(I)I" } : Jvm.MethodName)) ∈ aw := aw_t (List.mem_append_right _ (List.mem_append_right _ (List.mem_append_right _ (List.mem_of_getElem? (l := tables_1_4) (i := 20) rfl)))) rfl
theorem aV_M_entry : (Jvm.Cond.selects "ShopDesksModel" ({ cls := "ShopDesksModel", name := "entry", desc := "(I)I" } : Jvm.MethodName) ({ cls := "ShopDesksModel", name := "entry", desc := "(I)I" } : Jvm.MethodName)) ∈ aw := aw_t (List.mem_append_right _ (List.mem_append_right _ (List.mem_append_right _ (List.mem_of_getElem? (l := tables_1_4) (i := 21) rfl)))) rfl
theorem aK_M_entry : (Jvm.Cond.code ({ cls := "ShopDesksModel", name := "entry", desc := "(I)I" } : Jvm.MethodName) prog_7_method_28_code (2 : Nat) (Option.some Jvm.ClassFile.FieldType.int)) ∈ aw := aw_t (List.mem_append_right _ (List.mem_append_right _ (List.mem_append_right _ (List.mem_of_getElem? (l := tables_1_4) (i := 22) rfl)))) rfl
theorem aL_M_136 : (Jvm.Cond.constantLong "ShopDesksModel" (136 : Nat) (3599 : Int64)) ∈ aw := aw_t (List.mem_append_right _ (List.mem_append_right _ (List.mem_append_right _ (List.mem_of_getElem? (l := tables_1_4) (i := 23) rfl)))) rfl
theorem aM_M_141 : (Jvm.Cond.methodLink "ShopDesksModel" (141 : Nat) ({ cls := "ShopDesksModel", name := "open", desc := "(I)I" } : Jvm.MethodName)) ∈ aw := aw_t (List.mem_append_right _ (List.mem_append_right _ (List.mem_append_right _ (List.mem_of_getElem? (l := tables_1_4) (i := 24) rfl)))) rfl
theorem aI_M_open : (Jvm.Cond.instanceMethod ({ cls := "ShopDesksModel", name := "open", desc := "(I)I" } : Jvm.MethodName)) ∈ aw := aw_t (List.mem_append_right _ (List.mem_append_right _ (List.mem_append_right _ (List.mem_of_getElem? (l := tables_1_4) (i := 26) rfl)))) rfl
theorem aK_M_open : (Jvm.Cond.code ({ cls := "ShopDesksModel", name := "open", desc := "(I)I" } : Jvm.MethodName) prog_7_method_29_code (2 : Nat) (Option.some Jvm.ClassFile.FieldType.int)) ∈ aw := aw_t (List.mem_append_right _ (List.mem_append_right _ (List.mem_append_right _ (List.mem_of_getElem? (l := tables_1_4) (i := 27) rfl)))) rfl
theorem aM_W_131 : (Jvm.Cond.methodLink "ShopDesksLaw" (131 : Nat) ({ cls := "ShopDesksModel", name := "row", desc := "(IIJ)I" } : Jvm.MethodName)) ∈ aw := aw_t (List.mem_append_right _ (List.mem_append_right _ (List.mem_append_right _ (List.mem_of_getElem? (l := tables_1_4) (i := 28) rfl)))) rfl
theorem aI_M_row : (Jvm.Cond.instanceMethod ({ cls := "ShopDesksModel", name := "row", desc := "(IIJ)I" } : Jvm.MethodName)) ∈ aw := aw_t (List.mem_append_right _ (List.mem_append_right _ (List.mem_append_right _ (List.mem_of_getElem? (l := tables_1_4) (i := 29) rfl)))) rfl
theorem aV_M_row : (Jvm.Cond.selects "ShopDesksModel" ({ cls := "ShopDesksModel", name := "row", desc := "(IIJ)I" } : Jvm.MethodName) ({ cls := "ShopDesksModel", name := "row", desc := "(IIJ)I" } : Jvm.MethodName)) ∈ aw := aw_t (List.mem_append_right _ (List.mem_append_right _ (List.mem_append_right _ (List.mem_of_getElem? (l := tables_1_4) (i := 30) rfl)))) rfl
theorem aK_M_row : (Jvm.Cond.code ({ cls := "ShopDesksModel", name := "row", desc := "(IIJ)I" } : Jvm.MethodName) prog_7_method_32_code (5 : Nat) (Option.some Jvm.ClassFile.FieldType.int)) ∈ aw := aw_t (List.mem_append_right _ (List.mem_append_right _ (List.mem_append_right _ (List.mem_of_getElem? (l := tables_1_4) (i := 31) rfl)))) rfl
theorem aM_M_145 : (Jvm.Cond.methodLink "ShopDesksModel" (145 : Nat) ({ cls := "ShopDesksModel", name := "isEntry", desc := "(I)Z" } : Jvm.MethodName)) ∈ aw := aw_t (List.mem_append_right _ (List.mem_append_right _ (List.mem_append_right _ (List.mem_of_getElem? (l := tables_1_4) (i := 32) rfl)))) rfl
theorem aI_M_isEntry : (Jvm.Cond.instanceMethod ({ cls := "ShopDesksModel", name := "isEntry", desc := "(I)Z" } : Jvm.MethodName)) ∈ aw := aw_t (List.mem_append_right _ (List.mem_append_right _ (List.mem_append_right _ (List.mem_of_getElem? (l := tables_1_4) (i := 34) rfl)))) rfl
theorem aK_M_isEntry : (Jvm.Cond.code ({ cls := "ShopDesksModel", name := "isEntry", desc := "(I)Z" } : Jvm.MethodName) prog_7_method_30_code (2 : Nat) (Option.some Jvm.ClassFile.FieldType.boolean)) ∈ aw := aw_t (List.mem_append_right _ (List.mem_append_right _ (List.mem_append_right _ (List.mem_of_getElem? (l := tables_1_4) (i := 35) rfl)))) rfl
theorem aL_M_148 : (Jvm.Cond.constantLong "ShopDesksModel" (148 : Nat) (-1000000000 : Int64)) ∈ aw := aw_t (List.mem_append_right _ (List.mem_append_right _ (List.mem_append_right _ (List.mem_of_getElem? (l := tables_1_4) (i := 36) rfl)))) rfl
theorem aL_M_150 : (Jvm.Cond.constantLong "ShopDesksModel" (150 : Nat) (1000000000 : Int64)) ∈ aw := aw_t (List.mem_append_right _ (List.mem_append_right _ (List.mem_append_right _ (List.mem_of_getElem? (l := tables_1_4) (i := 37) rfl)))) rfl
theorem aM_M_152 : (Jvm.Cond.methodLink "ShopDesksModel" (152 : Nat) ({ cls := "ShopDesksModel", name := "addRow", desc := "(IIJ)V" } : Jvm.MethodName)) ∈ aw := aw_t (List.mem_append_right _ (List.mem_append_right _ (List.mem_append_right _ (List.mem_of_getElem? (l := tables_1_4) (i := 38) rfl)))) rfl
theorem aI_M_addRow : (Jvm.Cond.instanceMethod ({ cls := "ShopDesksModel", name := "addRow", desc := "(IIJ)V" } : Jvm.MethodName)) ∈ aw := aw_t (List.mem_append_right _ (List.mem_append_right _ (List.mem_append_right _ (List.mem_of_getElem? (l := tables_1_4) (i := 40) rfl)))) rfl
theorem aK_M_addRow : (Jvm.Cond.code ({ cls := "ShopDesksModel", name := "addRow", desc := "(IIJ)V" } : Jvm.MethodName) prog_7_method_31_code (5 : Nat) (Option.none : Option Jvm.ClassFile.FieldType)) ∈ aw := aw_t (List.mem_append_right _ (List.mem_append_right _ (List.mem_append_right _ (List.mem_of_getElem? (l := tables_1_4) (i := 41) rfl)))) rfl
theorem aM_W_134 : (Jvm.Cond.methodLink "ShopDesksLaw" (134 : Nat) ({ cls := "ShopDesksModel", name := "close", desc := "(I)I" } : Jvm.MethodName)) ∈ aw := aw_t (List.mem_append_right _ (List.mem_append_right _ (List.mem_append_right _ (List.mem_of_getElem? (l := tables_1_4) (i := 42) rfl)))) rfl
theorem aI_M_close : (Jvm.Cond.instanceMethod ({ cls := "ShopDesksModel", name := "close", desc := "(I)I" } : Jvm.MethodName)) ∈ aw := aw_t (List.mem_append_right _ (List.mem_append_right _ (List.mem_append_right _ (List.mem_of_getElem? (l := tables_1_4) (i := 43) rfl)))) rfl
theorem aV_M_close : (Jvm.Cond.selects "ShopDesksModel" ({ cls := "ShopDesksModel", name := "close", desc := "(I)I" } : Jvm.MethodName) ({ cls := "ShopDesksModel", name := "close", desc := "(I)I" } : Jvm.MethodName)) ∈ aw := aw_t (List.mem_append_right _ (List.mem_append_right _ (List.mem_append_right _ (List.mem_of_getElem? (l := tables_1_4) (i := 44) rfl)))) rfl
theorem aK_M_close : (Jvm.Cond.code ({ cls := "ShopDesksModel", name := "close", desc := "(I)I" } : Jvm.MethodName) prog_7_method_34_code (5 : Nat) (Option.some Jvm.ClassFile.FieldType.int)) ∈ aw := aw_t (List.mem_append_right _ (List.mem_append_right _ (List.mem_append_right _ (List.mem_of_getElem? (l := tables_1_4) (i := 45) rfl)))) rfl
theorem aM_M_159 : (Jvm.Cond.methodLink "ShopDesksModel" (159 : Nat) ({ cls := "ShopDesksModel", name := "closeNow", desc := "(I)V" } : Jvm.MethodName)) ∈ aw := aw_t (List.mem_append_right _ (List.mem_append_right _ (List.mem_append_right _ (List.mem_of_getElem? (l := tables_1_4) (i := 46) rfl)))) rfl
theorem aI_M_closeNow : (Jvm.Cond.instanceMethod ({ cls := "ShopDesksModel", name := "closeNow", desc := "(I)V" } : Jvm.MethodName)) ∈ aw := aw_t (List.mem_append_right _ (List.mem_append_right _ (List.mem_append_right _ (List.mem_of_getElem? (l := tables_1_4) (i := 48) rfl)))) rfl
theorem aK_M_closeNow : (Jvm.Cond.code ({ cls := "ShopDesksModel", name := "closeNow", desc := "(I)V" } : Jvm.MethodName) prog_7_method_33_code (2 : Nat) (Option.none : Option Jvm.ClassFile.FieldType)) ∈ aw := aw_t (List.mem_append_right _ (List.mem_append_right _ (List.mem_append_right _ (List.mem_of_getElem? (l := tables_1_4) (i := 49) rfl)))) rfl
theorem aM_W_137 : (Jvm.Cond.methodLink "ShopDesksLaw" (137 : Nat) ({ cls := "ShopDesksModel", name := "balance", desc := "(II)J" } : Jvm.MethodName)) ∈ aw := aw_t (List.mem_append_right _ (List.mem_append_right _ (List.mem_append_right _ (List.mem_of_getElem? (l := tables_1_4) (i := 50) rfl)))) rfl
theorem aI_M_balance : (Jvm.Cond.instanceMethod ({ cls := "ShopDesksModel", name := "balance", desc := "(II)J" } : Jvm.MethodName)) ∈ aw := aw_t (List.mem_append_right _ (List.mem_append_right _ (List.mem_append_right _ (List.mem_of_getElem? (l := tables_1_4) (i := 51) rfl)))) rfl
theorem aV_M_balance : (Jvm.Cond.selects "ShopDesksModel" ({ cls := "ShopDesksModel", name := "balance", desc := "(II)J" } : Jvm.MethodName) ({ cls := "ShopDesksModel", name := "balance", desc := "(II)J" } : Jvm.MethodName)) ∈ aw := aw_t (List.mem_append_right _ (List.mem_append_right _ (List.mem_append_right _ (List.mem_of_getElem? (l := tables_1_4) (i := 52) rfl)))) rfl
theorem aK_M_balance : (Jvm.Cond.code ({ cls := "ShopDesksModel", name := "balance", desc := "(II)J" } : Jvm.MethodName) prog_7_method_35_code (7 : Nat) (Option.some Jvm.ClassFile.FieldType.long)) ∈ aw := aw_t (List.mem_append_right _ (List.mem_append_right _ (List.mem_append_right _ (List.mem_of_getElem? (l := tables_1_4) (i := 53) rfl)))) rfl
theorem aM_W_140 : (Jvm.Cond.methodLink "ShopDesksLaw" (140 : Nat) ({ cls := "ShopDesksModel", name := "closeMonth", desc := "(I)Z" } : Jvm.MethodName)) ∈ aw := aw_t (List.mem_append_right _ (List.mem_append_right _ (List.mem_append_right _ (List.mem_of_getElem? (l := tables_1_4) (i := 54) rfl)))) rfl
theorem aI_M_closeMonth : (Jvm.Cond.instanceMethod ({ cls := "ShopDesksModel", name := "closeMonth", desc := "(I)Z" } : Jvm.MethodName)) ∈ aw := aw_t (List.mem_append_right _ (List.mem_append_right _ (List.mem_append_right _ (List.mem_of_getElem? (l := tables_1_4) (i := 55) rfl)))) rfl
theorem aV_M_closeMonth : (Jvm.Cond.selects "ShopDesksModel" ({ cls := "ShopDesksModel", name := "closeMonth", desc := "(I)Z" } : Jvm.MethodName) ({ cls := "ShopDesksModel", name := "closeMonth", desc := "(I)Z" } : Jvm.MethodName)) ∈ aw := aw_t (List.mem_append_right _ (List.mem_append_right _ (List.mem_append_right _ (List.mem_of_getElem? (l := tables_1_4) (i := 56) rfl)))) rfl
theorem aK_M_closeMonth : (Jvm.Cond.code ({ cls := "ShopDesksModel", name := "closeMonth", desc := "(I)Z" } : Jvm.MethodName) prog_7_method_36_code (2 : Nat) (Option.some Jvm.ClassFile.FieldType.boolean)) ∈ aw := aw_t (List.mem_append_right _ (List.mem_append_right _ (List.mem_append_right _ (List.mem_of_getElem? (l := tables_1_4) (i := 57) rfl)))) rfl
theorem aL_M_163 : (Jvm.Cond.constantLong "ShopDesksModel" (163 : Nat) (119 : Int64)) ∈ aw := aw_t (List.mem_append_right _ (List.mem_append_right _ (List.mem_append_right _ (List.mem_of_getElem? (l := tables_1_4) (i := 58) rfl)))) rfl
theorem aM_W_147 : (Jvm.Cond.methodLink "ShopDesksLaw" (147 : Nat) ({ cls := "ShopDesksModel", name := "reverse", desc := "(II)I" } : Jvm.MethodName)) ∈ aw := aw_t (List.mem_append_right _ (List.mem_append_right _ (List.mem_append_right _ (List.mem_of_getElem? (l := tables_1_4) (i := 59) rfl)))) rfl
theorem aI_M_reverse : (Jvm.Cond.instanceMethod ({ cls := "ShopDesksModel", name := "reverse", desc := "(II)I" } : Jvm.MethodName)) ∈ aw := aw_t (List.mem_append_right _ (List.mem_append_right _ (List.mem_append_right _ (List.mem_of_getElem? (l := tables_1_4) (i := 60) rfl)))) rfl
theorem aV_M_reverse : (Jvm.Cond.selects "ShopDesksModel" ({ cls := "ShopDesksModel", name := "reverse", desc := "(II)I" } : Jvm.MethodName) ({ cls := "ShopDesksModel", name := "reverse", desc := "(II)I" } : Jvm.MethodName)) ∈ aw := aw_t (List.mem_append_right _ (List.mem_append_right _ (List.mem_append_right _ (List.mem_of_getElem? (l := tables_1_4) (i := 61) rfl)))) rfl
theorem aK_M_reverse : (Jvm.Cond.code ({ cls := "ShopDesksModel", name := "reverse", desc := "(II)I" } : Jvm.MethodName) prog_7_method_37_code (6 : Nat) (Option.some Jvm.ClassFile.FieldType.int)) ∈ aw := aw_t (List.mem_append_right _ (List.mem_append_right _ (List.mem_append_right _ (List.mem_of_getElem? (l := tables_1_4) (i := 62) rfl)))) rfl
theorem aL_W_81 : (Jvm.Cond.constantLong "ShopDesksLaw" (81 : Nat) (4294967295 : Int64)) ∈ aw := aw_t (List.mem_append_right _ (List.mem_append_right _ (List.mem_append_right _ (List.mem_of_getElem? (l := tables_1_4) (i := 63) rfl)))) rfl
theorem aV_S_insertByNumber : Cond.selects "ShopDesks$TellingSet" ⟨"ShopDesks$TellingSet", "insertByNumber", "(I)V"⟩ ⟨"ShopDesks$TellingSet", "insertByNumber", "(I)V"⟩ ∈ aw := aw_p (List.mem_of_getElem? (i := 1) rfl) rfl
theorem aV_X_needSet : Cond.selects "ShopDesks" ⟨"ShopDesks", "needSet", "(I)V"⟩ ⟨"ShopDesks", "needSet", "(I)V"⟩ ∈ aw := aw_p (List.mem_of_getElem? (i := 2) rfl) rfl
theorem aV_S_sumOfCounts : Cond.selects "ShopDesks$TellingSet" ⟨"ShopDesks$TellingSet", "sumOfCounts", "(IJI)J"⟩ ⟨"ShopDesks$TellingSet", "sumOfCounts", "(IJI)J"⟩ ∈ aw := aw_p (List.mem_of_getElem? (i := 3) rfl) rfl
theorem aV_S_knownMark : Cond.selects "ShopDesks$TellingSet" ⟨"ShopDesks$TellingSet", "knownMark", "(IJI)J"⟩ ⟨"ShopDesks$TellingSet", "knownMark", "(IJI)J"⟩ ∈ aw := aw_p (List.mem_of_getElem? (i := 4) rfl) rfl
theorem aV_S_settling : Cond.selects "ShopDesks$TellingSet" ⟨"ShopDesks$TellingSet", "settling", "(IJI)I"⟩ ⟨"ShopDesks$TellingSet", "settling", "(IJI)I"⟩ ∈ aw := aw_p (List.mem_of_getElem? (i := 5) rfl) rfl
theorem aV_S_latest : Cond.selects "ShopDesks$TellingSet" ⟨"ShopDesks$TellingSet", "latest", "(IIJI)I"⟩ ⟨"ShopDesks$TellingSet", "latest", "(IIJI)I"⟩ ∈ aw := aw_p (List.mem_of_getElem? (i := 6) rfl) rfl
theorem aV_S_hasUnlikeMarks : Cond.selects "ShopDesks$TellingSet" ⟨"ShopDesks$TellingSet", "hasUnlikeMarks", "(IJI)Z"⟩ ⟨"ShopDesks$TellingSet", "hasUnlikeMarks", "(IJI)Z"⟩ ∈ aw := aw_p (List.mem_of_getElem? (i := 7) rfl) rfl
theorem aV_S_valueOrZero : Cond.selects "ShopDesks$TellingSet" ⟨"ShopDesks$TellingSet", "valueOrZero", "(I)J"⟩ ⟨"ShopDesks$TellingSet", "valueOrZero", "(I)J"⟩ ∈ aw := aw_p (List.mem_of_getElem? (i := 8) rfl) rfl
theorem aV_X_needRoomForEntry : Cond.selects "ShopDesks" ⟨"ShopDesks", "needRoomForEntry", "()V"⟩ ⟨"ShopDesks", "needRoomForEntry", "()V"⟩ ∈ aw := aw_p (List.mem_of_getElem? (i := 9) rfl) rfl
theorem aV_X_needEntry : Cond.selects "ShopDesks" ⟨"ShopDesks", "needEntry", "(I)V"⟩ ⟨"ShopDesks", "needEntry", "(I)V"⟩ ∈ aw := aw_p (List.mem_of_getElem? (i := 10) rfl) rfl
theorem aV_M_find : Cond.selects "ShopDesksModel" ⟨"ShopDesksModel", "find", "(IJ)I"⟩ ⟨"ShopDesksModel", "find", "(IJ)I"⟩ ∈ aw := aw_p (List.mem_of_getElem? (i := 11) rfl) rfl
theorem aV_M_isSet : Cond.selects "ShopDesksModel" ⟨"ShopDesksModel", "isSet", "(I)Z"⟩ ⟨"ShopDesksModel", "isSet", "(I)Z"⟩ ∈ aw := aw_p (List.mem_of_getElem? (i := 12) rfl) rfl
theorem aV_M_has : Cond.selects "ShopDesksModel" ⟨"ShopDesksModel", "has", "(II)Z"⟩ ⟨"ShopDesksModel", "has", "(II)Z"⟩ ∈ aw := aw_p (List.mem_of_getElem? (i := 13) rfl) rfl
theorem aV_M_add : Cond.selects "ShopDesksModel" ⟨"ShopDesksModel", "add", "(II)V"⟩ ⟨"ShopDesksModel", "add", "(II)V"⟩ ∈ aw := aw_p (List.mem_of_getElem? (i := 14) rfl) rfl
theorem aV_M_known : Cond.selects "ShopDesksModel" ⟨"ShopDesksModel", "known", "(IIIIJ)J"⟩ ⟨"ShopDesksModel", "known", "(IIIIJ)J"⟩ ∈ aw := aw_p (List.mem_of_getElem? (i := 15) rfl) rfl
theorem aV_M_speaks : Cond.selects "ShopDesksModel" ⟨"ShopDesksModel", "speaks", "(IIIJ)Z"⟩ ⟨"ShopDesksModel", "speaks", "(IIIJ)Z"⟩ ∈ aw := aw_p (List.mem_of_getElem? (i := 16) rfl) rfl
theorem aV_M_isSettled : Cond.selects "ShopDesksModel" ⟨"ShopDesksModel", "isSettled", "(IIIJ)Z"⟩ ⟨"ShopDesksModel", "isSettled", "(IIIJ)Z"⟩ ∈ aw := aw_p (List.mem_of_getElem? (i := 17) rfl) rfl
theorem aV_M_latest : Cond.selects "ShopDesksModel" ⟨"ShopDesksModel", "latest", "(IIIIJ)I"⟩ ⟨"ShopDesksModel", "latest", "(IIIIJ)I"⟩ ∈ aw := aw_p (List.mem_of_getElem? (i := 18) rfl) rfl
theorem aV_M_later : Cond.selects "ShopDesksModel" ⟨"ShopDesksModel", "later", "(II)I"⟩ ⟨"ShopDesksModel", "later", "(II)I"⟩ ∈ aw := aw_p (List.mem_of_getElem? (i := 19) rfl) rfl
theorem aV_M_areUnlike : Cond.selects "ShopDesksModel" ⟨"ShopDesksModel", "areUnlike", "(IIIJ)Z"⟩ ⟨"ShopDesksModel", "areUnlike", "(IIIJ)Z"⟩ ∈ aw := aw_p (List.mem_of_getElem? (i := 20) rfl) rfl
theorem aV_M_open : Cond.selects "ShopDesksModel" ⟨"ShopDesksModel", "open", "(I)I"⟩ ⟨"ShopDesksModel", "open", "(I)I"⟩ ∈ aw := aw_p (List.mem_of_getElem? (i := 21) rfl) rfl
theorem aV_M_isEntry : Cond.selects "ShopDesksModel" ⟨"ShopDesksModel", "isEntry", "(I)Z"⟩ ⟨"ShopDesksModel", "isEntry", "(I)Z"⟩ ∈ aw := aw_p (List.mem_of_getElem? (i := 22) rfl) rfl
theorem aV_M_addRow : Cond.selects "ShopDesksModel" ⟨"ShopDesksModel", "addRow", "(IIJ)V"⟩ ⟨"ShopDesksModel", "addRow", "(IIJ)V"⟩ ∈ aw := aw_p (List.mem_of_getElem? (i := 23) rfl) rfl
theorem aV_M_closeNow : Cond.selects "ShopDesksModel" ⟨"ShopDesksModel", "closeNow", "(I)V"⟩ ⟨"ShopDesksModel", "closeNow", "(I)V"⟩ ∈ aw := aw_p (List.mem_of_getElem? (i := 24) rfl) rfl
theorem in_E : ∀ w ∈ u_ws R_E F_E 7, w ∈ aw := by decide +kernel
theorem in_L : ∀ w ∈ u_ws R_L F_L 5, w ∈ aw := by decide +kernel
theorem in_S : ∀ w ∈ u_ws R_S F_S 5, w ∈ aw := by decide +kernel
theorem in_T : ∀ w ∈ u_ws R_T F_T 7, w ∈ aw := by decide +kernel
theorem in_X : ∀ w ∈ u_ws R_X F_X 5, w ∈ aw := by decide +kernel
theorem in_M : ∀ w ∈ u_ws R_M F_M 22, w ∈ aw := by decide +kernel
end
section
/-! decode rows of ShopDesks$Entry -/
theorem d_E_init_0 : decode c_E_init 0 = .ok (.aload_n 0, 1) := by decide +kernel
theorem d_E_init_1 : decode c_E_init 1 = .ok (.invokespecial 3, 3) := by decide +kernel
theorem d_E_init_4 : decode c_E_init 4 = .ok (.aload_n 0, 1) := by decide +kernel
theorem d_E_init_5 : decode c_E_init 5 = .ok (.bipush 6, 2) := by decide +kernel
theorem d_E_init_7 : decode c_E_init 7 = .ok (.newarray .int, 2) := by decide +kernel
theorem d_E_init_9 : decode c_E_init 9 = .ok (.putfield 9, 3) := by decide +kernel
theorem d_E_init_12 : decode c_E_init 12 = .ok (.aload_n 0, 1) := by decide +kernel
theorem d_E_init_13 : decode c_E_init 13 = .ok (.bipush 6, 2) := by decide +kernel
theorem d_E_init_15 : decode c_E_init 15 = .ok (.newarray .long, 2) := by decide +kernel
theorem d_E_init_17 : decode c_E_init 17 = .ok (.putfield 15, 3) := by decide +kernel
theorem d_E_init_20 : decode c_E_init 20 = .ok (.aload_n 0, 1) := by decide +kernel
theorem d_E_init_21 : decode c_E_init 21 = .ok (.iconst 0, 1) := by decide +kernel
theorem d_E_init_22 : decode c_E_init 22 = .ok (.putfield 19, 3) := by decide +kernel
theorem d_E_init_25 : decode c_E_init 25 = .ok (.aload_n 0, 1) := by decide +kernel
theorem d_E_init_26 : decode c_E_init 26 = .ok (.iconst 0, 1) := by decide +kernel
theorem d_E_init_27 : decode c_E_init 27 = .ok (.putfield 23, 3) := by decide +kernel
theorem d_E_init_30 : decode c_E_init 30 = .ok (.aload_n 0, 1) := by decide +kernel
theorem d_E_init_31 : decode c_E_init 31 = .ok (.iconst 0, 1) := by decide +kernel
theorem d_E_init_32 : decode c_E_init 32 = .ok (.putfield 26, 3) := by decide +kernel
theorem d_E_init_35 : decode c_E_init 35 = .ok (.aload_n 0, 1) := by decide +kernel
theorem d_E_init_36 : decode c_E_init 36 = .ok (.iconst 0, 1) := by decide +kernel
theorem d_E_init_37 : decode c_E_init 37 = .ok (.putfield 29, 3) := by decide +kernel
theorem d_E_init_40 : decode c_E_init 40 = .ok (.aload_n 0, 1) := by decide +kernel
theorem d_E_init_41 : decode c_E_init 41 = .ok (.iconst 0, 1) := by decide +kernel
theorem d_E_init_42 : decode c_E_init 42 = .ok (.putfield 33, 3) := by decide +kernel
theorem d_E_init_45 : decode c_E_init 45 = .ok (.return_, 1) := by decide +kernel
theorem d_E_isClosed_0 : decode c_E_isClosed 0 = .ok (.aload_n 0, 1) := by decide +kernel
theorem d_E_isClosed_1 : decode c_E_isClosed 1 = .ok (.getfield 26, 3) := by decide +kernel
theorem d_E_isClosed_4 : decode c_E_isClosed 4 = .ok (.ifCond .eq 7, 3) := by decide +kernel
theorem d_E_isClosed_7 : decode c_E_isClosed 7 = .ok (.iconst 1, 1) := by decide +kernel
theorem d_E_isClosed_8 : decode c_E_isClosed 8 = .ok (.goto 4, 3) := by decide +kernel
theorem d_E_isClosed_11 : decode c_E_isClosed 11 = .ok (.iconst 0, 1) := by decide +kernel
theorem d_E_isClosed_12 : decode c_E_isClosed 12 = .ok (.ireturn, 1) := by decide +kernel
theorem d_E_addRow_0 : decode c_E_addRow 0 = .ok (.aload_n 0, 1) := by decide +kernel
theorem d_E_addRow_1 : decode c_E_addRow 1 = .ok (.getfield 9, 3) := by decide +kernel
theorem d_E_addRow_4 : decode c_E_addRow 4 = .ok (.aload_n 0, 1) := by decide +kernel
theorem d_E_addRow_5 : decode c_E_addRow 5 = .ok (.getfield 19, 3) := by decide +kernel
theorem d_E_addRow_8 : decode c_E_addRow 8 = .ok (.iload_n 1, 1) := by decide +kernel
theorem d_E_addRow_9 : decode c_E_addRow 9 = .ok (.iastore, 1) := by decide +kernel
theorem d_E_addRow_10 : decode c_E_addRow 10 = .ok (.aload_n 0, 1) := by decide +kernel
theorem d_E_addRow_11 : decode c_E_addRow 11 = .ok (.getfield 15, 3) := by decide +kernel
theorem d_E_addRow_14 : decode c_E_addRow 14 = .ok (.aload_n 0, 1) := by decide +kernel
theorem d_E_addRow_15 : decode c_E_addRow 15 = .ok (.getfield 19, 3) := by decide +kernel
theorem d_E_addRow_18 : decode c_E_addRow 18 = .ok (.lload_n 2, 1) := by decide +kernel
theorem d_E_addRow_19 : decode c_E_addRow 19 = .ok (.lastore, 1) := by decide +kernel
theorem d_E_addRow_20 : decode c_E_addRow 20 = .ok (.aload_n 0, 1) := by decide +kernel
theorem d_E_addRow_21 : decode c_E_addRow 21 = .ok (.dup, 1) := by decide +kernel
theorem d_E_addRow_22 : decode c_E_addRow 22 = .ok (.getfield 19, 3) := by decide +kernel
theorem d_E_addRow_25 : decode c_E_addRow 25 = .ok (.iconst 1, 1) := by decide +kernel
theorem d_E_addRow_26 : decode c_E_addRow 26 = .ok (.iadd, 1) := by decide +kernel
theorem d_E_addRow_27 : decode c_E_addRow 27 = .ok (.putfield 19, 3) := by decide +kernel
theorem d_E_addRow_30 : decode c_E_addRow 30 = .ok (.return_, 1) := by decide +kernel
theorem d_E_takeTurnedRound_0 : decode c_E_takeTurnedRound 0 = .ok (.iconst 0, 1) := by decide +kernel
theorem d_E_takeTurnedRound_1 : decode c_E_takeTurnedRound 1 = .ok (.istore_n 2, 1) := by decide +kernel
theorem d_E_takeTurnedRound_2 : decode c_E_takeTurnedRound 2 = .ok (.iload_n 2, 1) := by decide +kernel
theorem d_E_takeTurnedRound_3 : decode c_E_takeTurnedRound 3 = .ok (.aload_n 1, 1) := by decide +kernel
theorem d_E_takeTurnedRound_4 : decode c_E_takeTurnedRound 4 = .ok (.getfield 19, 3) := by decide +kernel
theorem d_E_takeTurnedRound_7 : decode c_E_takeTurnedRound 7 = .ok (.if_icmp .ge 26, 3) := by decide +kernel
theorem d_E_takeTurnedRound_10 : decode c_E_takeTurnedRound 10 = .ok (.aload_n 0, 1) := by decide +kernel
theorem d_E_takeTurnedRound_11 : decode c_E_takeTurnedRound 11 = .ok (.aload_n 1, 1) := by decide +kernel
theorem d_E_takeTurnedRound_12 : decode c_E_takeTurnedRound 12 = .ok (.getfield 9, 3) := by decide +kernel
theorem d_E_takeTurnedRound_15 : decode c_E_takeTurnedRound 15 = .ok (.iload_n 2, 1) := by decide +kernel
theorem d_E_takeTurnedRound_16 : decode c_E_takeTurnedRound 16 = .ok (.iaload, 1) := by decide +kernel
theorem d_E_takeTurnedRound_17 : decode c_E_takeTurnedRound 17 = .ok (.aload_n 1, 1) := by decide +kernel
theorem d_E_takeTurnedRound_18 : decode c_E_takeTurnedRound 18 = .ok (.getfield 15, 3) := by decide +kernel
theorem d_E_takeTurnedRound_21 : decode c_E_takeTurnedRound 21 = .ok (.iload_n 2, 1) := by decide +kernel
theorem d_E_takeTurnedRound_22 : decode c_E_takeTurnedRound 22 = .ok (.laload, 1) := by decide +kernel
theorem d_E_takeTurnedRound_23 : decode c_E_takeTurnedRound 23 = .ok (.lneg, 1) := by decide +kernel
theorem d_E_takeTurnedRound_24 : decode c_E_takeTurnedRound 24 = .ok (.invokevirtual 36, 3) := by decide +kernel
theorem d_E_takeTurnedRound_27 : decode c_E_takeTurnedRound 27 = .ok (.iinc 2 1, 3) := by decide +kernel
theorem d_E_takeTurnedRound_30 : decode c_E_takeTurnedRound 30 = .ok (.goto (-28), 3) := by decide +kernel
theorem d_E_takeTurnedRound_33 : decode c_E_takeTurnedRound 33 = .ok (.return_, 1) := by decide +kernel
theorem d_E_isBalanced_0 : decode c_E_isBalanced 0 = .ok (.lconst 0, 1) := by decide +kernel
theorem d_E_isBalanced_1 : decode c_E_isBalanced 1 = .ok (.lstore_n 1, 1) := by decide +kernel
theorem d_E_isBalanced_2 : decode c_E_isBalanced 2 = .ok (.iconst 0, 1) := by decide +kernel
theorem d_E_isBalanced_3 : decode c_E_isBalanced 3 = .ok (.istore_n 3, 1) := by decide +kernel
theorem d_E_isBalanced_4 : decode c_E_isBalanced 4 = .ok (.iload_n 3, 1) := by decide +kernel
theorem d_E_isBalanced_5 : decode c_E_isBalanced 5 = .ok (.aload_n 0, 1) := by decide +kernel
theorem d_E_isBalanced_6 : decode c_E_isBalanced 6 = .ok (.getfield 19, 3) := by decide +kernel
theorem d_E_isBalanced_9 : decode c_E_isBalanced 9 = .ok (.if_icmp .ge 18, 3) := by decide +kernel
theorem d_E_isBalanced_12 : decode c_E_isBalanced 12 = .ok (.lload_n 1, 1) := by decide +kernel
theorem d_E_isBalanced_13 : decode c_E_isBalanced 13 = .ok (.aload_n 0, 1) := by decide +kernel
theorem d_E_isBalanced_14 : decode c_E_isBalanced 14 = .ok (.getfield 15, 3) := by decide +kernel
theorem d_E_isBalanced_17 : decode c_E_isBalanced 17 = .ok (.iload_n 3, 1) := by decide +kernel
theorem d_E_isBalanced_18 : decode c_E_isBalanced 18 = .ok (.laload, 1) := by decide +kernel
theorem d_E_isBalanced_19 : decode c_E_isBalanced 19 = .ok (.ladd, 1) := by decide +kernel
theorem d_E_isBalanced_20 : decode c_E_isBalanced 20 = .ok (.lstore_n 1, 1) := by decide +kernel
theorem d_E_isBalanced_21 : decode c_E_isBalanced 21 = .ok (.iinc 3 1, 3) := by decide +kernel
theorem d_E_isBalanced_24 : decode c_E_isBalanced 24 = .ok (.goto (-20), 3) := by decide +kernel
theorem d_E_isBalanced_27 : decode c_E_isBalanced 27 = .ok (.aload_n 0, 1) := by decide +kernel
theorem d_E_isBalanced_28 : decode c_E_isBalanced 28 = .ok (.getfield 19, 3) := by decide +kernel
theorem d_E_isBalanced_31 : decode c_E_isBalanced 31 = .ok (.ifCond .le 13, 3) := by decide +kernel
theorem d_E_isBalanced_34 : decode c_E_isBalanced 34 = .ok (.lload_n 1, 1) := by decide +kernel
theorem d_E_isBalanced_35 : decode c_E_isBalanced 35 = .ok (.lconst 0, 1) := by decide +kernel
theorem d_E_isBalanced_36 : decode c_E_isBalanced 36 = .ok (.lcmp, 1) := by decide +kernel
theorem d_E_isBalanced_37 : decode c_E_isBalanced 37 = .ok (.ifCond .ne 7, 3) := by decide +kernel
theorem d_E_isBalanced_40 : decode c_E_isBalanced 40 = .ok (.iconst 1, 1) := by decide +kernel
theorem d_E_isBalanced_41 : decode c_E_isBalanced 41 = .ok (.goto 4, 3) := by decide +kernel
theorem d_E_isBalanced_44 : decode c_E_isBalanced 44 = .ok (.iconst 0, 1) := by decide +kernel
theorem d_E_isBalanced_45 : decode c_E_isBalanced 45 = .ok (.ireturn, 1) := by decide +kernel
theorem d_E_sumOf_0 : decode c_E_sumOf 0 = .ok (.lconst 0, 1) := by decide +kernel
theorem d_E_sumOf_1 : decode c_E_sumOf 1 = .ok (.lstore_n 2, 1) := by decide +kernel
theorem d_E_sumOf_2 : decode c_E_sumOf 2 = .ok (.iconst 0, 1) := by decide +kernel
theorem d_E_sumOf_3 : decode c_E_sumOf 3 = .ok (.istore 4, 2) := by decide +kernel
theorem d_E_sumOf_5 : decode c_E_sumOf 5 = .ok (.iload 4, 2) := by decide +kernel
theorem d_E_sumOf_7 : decode c_E_sumOf 7 = .ok (.aload_n 0, 1) := by decide +kernel
theorem d_E_sumOf_8 : decode c_E_sumOf 8 = .ok (.getfield 19, 3) := by decide +kernel
theorem d_E_sumOf_11 : decode c_E_sumOf 11 = .ok (.if_icmp .ge 30, 3) := by decide +kernel
theorem d_E_sumOf_14 : decode c_E_sumOf 14 = .ok (.aload_n 0, 1) := by decide +kernel
theorem d_E_sumOf_15 : decode c_E_sumOf 15 = .ok (.getfield 9, 3) := by decide +kernel
theorem d_E_sumOf_18 : decode c_E_sumOf 18 = .ok (.iload 4, 2) := by decide +kernel
theorem d_E_sumOf_20 : decode c_E_sumOf 20 = .ok (.iaload, 1) := by decide +kernel
theorem d_E_sumOf_21 : decode c_E_sumOf 21 = .ok (.iload_n 1, 1) := by decide +kernel
theorem d_E_sumOf_22 : decode c_E_sumOf 22 = .ok (.if_icmp .ne 13, 3) := by decide +kernel
theorem d_E_sumOf_25 : decode c_E_sumOf 25 = .ok (.lload_n 2, 1) := by decide +kernel
theorem d_E_sumOf_26 : decode c_E_sumOf 26 = .ok (.aload_n 0, 1) := by decide +kernel
theorem d_E_sumOf_27 : decode c_E_sumOf 27 = .ok (.getfield 15, 3) := by decide +kernel
theorem d_E_sumOf_30 : decode c_E_sumOf 30 = .ok (.iload 4, 2) := by decide +kernel
theorem d_E_sumOf_32 : decode c_E_sumOf 32 = .ok (.laload, 1) := by decide +kernel
theorem d_E_sumOf_33 : decode c_E_sumOf 33 = .ok (.ladd, 1) := by decide +kernel
theorem d_E_sumOf_34 : decode c_E_sumOf 34 = .ok (.lstore_n 2, 1) := by decide +kernel
theorem d_E_sumOf_35 : decode c_E_sumOf 35 = .ok (.iinc 4 1, 3) := by decide +kernel
theorem d_E_sumOf_38 : decode c_E_sumOf 38 = .ok (.goto (-33), 3) := by decide +kernel
theorem d_E_sumOf_41 : decode c_E_sumOf 41 = .ok (.lload_n 2, 1) := by decide +kernel
theorem d_E_sumOf_42 : decode c_E_sumOf 42 = .ok (.lreturn, 1) := by decide +kernel
end
section
/-! decode rows of ShopDesks$Ledger -/
theorem d_L_init_0 : decode c_L_init 0 = .ok (.aload_n 0, 1) := by decide +kernel
theorem d_L_init_1 : decode c_L_init 1 = .ok (.invokespecial 3, 3) := by decide +kernel
theorem d_L_init_4 : decode c_L_init 4 = .ok (.aload_n 0, 1) := by decide +kernel
theorem d_L_init_5 : decode c_L_init 5 = .ok (.bipush 60, 2) := by decide +kernel
theorem d_L_init_7 : decode c_L_init 7 = .ok (.anewarray 9, 3) := by decide +kernel
theorem d_L_init_10 : decode c_L_init 10 = .ok (.putfield 11, 3) := by decide +kernel
theorem d_L_init_13 : decode c_L_init 13 = .ok (.aload_n 0, 1) := by decide +kernel
theorem d_L_init_14 : decode c_L_init 14 = .ok (.bipush 61, 2) := by decide +kernel
theorem d_L_init_16 : decode c_L_init 16 = .ok (.newarray .int, 2) := by decide +kernel
theorem d_L_init_18 : decode c_L_init 18 = .ok (.putfield 17, 3) := by decide +kernel
theorem d_L_init_21 : decode c_L_init 21 = .ok (.aload_n 0, 1) := by decide +kernel
theorem d_L_init_22 : decode c_L_init 22 = .ok (.iconst 0, 1) := by decide +kernel
theorem d_L_init_23 : decode c_L_init 23 = .ok (.putfield 21, 3) := by decide +kernel
theorem d_L_init_26 : decode c_L_init 26 = .ok (.aload_n 0, 1) := by decide +kernel
theorem d_L_init_27 : decode c_L_init 27 = .ok (.iconst 0, 1) := by decide +kernel
theorem d_L_init_28 : decode c_L_init 28 = .ok (.putfield 25, 3) := by decide +kernel
theorem d_L_init_31 : decode c_L_init 31 = .ok (.aload_n 0, 1) := by decide +kernel
theorem d_L_init_32 : decode c_L_init 32 = .ok (.iconst (-1), 1) := by decide +kernel
theorem d_L_init_33 : decode c_L_init 33 = .ok (.putfield 28, 3) := by decide +kernel
theorem d_L_init_36 : decode c_L_init 36 = .ok (.iconst 0, 1) := by decide +kernel
theorem d_L_init_37 : decode c_L_init 37 = .ok (.istore_n 1, 1) := by decide +kernel
theorem d_L_init_38 : decode c_L_init 38 = .ok (.iload_n 1, 1) := by decide +kernel
theorem d_L_init_39 : decode c_L_init 39 = .ok (.bipush 60, 2) := by decide +kernel
theorem d_L_init_41 : decode c_L_init 41 = .ok (.if_icmp .ge 22, 3) := by decide +kernel
theorem d_L_init_44 : decode c_L_init 44 = .ok (.aload_n 0, 1) := by decide +kernel
theorem d_L_init_45 : decode c_L_init 45 = .ok (.getfield 11, 3) := by decide +kernel
theorem d_L_init_48 : decode c_L_init 48 = .ok (.iload_n 1, 1) := by decide +kernel
theorem d_L_init_49 : decode c_L_init 49 = .ok (.new 9, 3) := by decide +kernel
theorem d_L_init_52 : decode c_L_init 52 = .ok (.dup, 1) := by decide +kernel
theorem d_L_init_53 : decode c_L_init 53 = .ok (.invokespecial 31, 3) := by decide +kernel
theorem d_L_init_56 : decode c_L_init 56 = .ok (.aastore, 1) := by decide +kernel
theorem d_L_init_57 : decode c_L_init 57 = .ok (.iinc 1 1, 3) := by decide +kernel
theorem d_L_init_60 : decode c_L_init 60 = .ok (.goto (-22), 3) := by decide +kernel
theorem d_L_init_63 : decode c_L_init 63 = .ok (.return_, 1) := by decide +kernel
theorem d_L_openEntry_0 : decode c_L_openEntry 0 = .ok (.aload_n 0, 1) := by decide +kernel
theorem d_L_openEntry_1 : decode c_L_openEntry 1 = .ok (.getfield 11, 3) := by decide +kernel
theorem d_L_openEntry_4 : decode c_L_openEntry 4 = .ok (.aload_n 0, 1) := by decide +kernel
theorem d_L_openEntry_5 : decode c_L_openEntry 5 = .ok (.getfield 21, 3) := by decide +kernel
theorem d_L_openEntry_8 : decode c_L_openEntry 8 = .ok (.aaload, 1) := by decide +kernel
theorem d_L_openEntry_9 : decode c_L_openEntry 9 = .ok (.iload_n 1, 1) := by decide +kernel
theorem d_L_openEntry_10 : decode c_L_openEntry 10 = .ok (.putfield 32, 3) := by decide +kernel
theorem d_L_openEntry_13 : decode c_L_openEntry 13 = .ok (.aload_n 0, 1) := by decide +kernel
theorem d_L_openEntry_14 : decode c_L_openEntry 14 = .ok (.dup, 1) := by decide +kernel
theorem d_L_openEntry_15 : decode c_L_openEntry 15 = .ok (.getfield 21, 3) := by decide +kernel
theorem d_L_openEntry_18 : decode c_L_openEntry 18 = .ok (.iconst 1, 1) := by decide +kernel
theorem d_L_openEntry_19 : decode c_L_openEntry 19 = .ok (.iadd, 1) := by decide +kernel
theorem d_L_openEntry_20 : decode c_L_openEntry 20 = .ok (.putfield 21, 3) := by decide +kernel
theorem d_L_openEntry_23 : decode c_L_openEntry 23 = .ok (.aload_n 0, 1) := by decide +kernel
theorem d_L_openEntry_24 : decode c_L_openEntry 24 = .ok (.getfield 21, 3) := by decide +kernel
theorem d_L_openEntry_27 : decode c_L_openEntry 27 = .ok (.iconst 1, 1) := by decide +kernel
theorem d_L_openEntry_28 : decode c_L_openEntry 28 = .ok (.isub, 1) := by decide +kernel
theorem d_L_openEntry_29 : decode c_L_openEntry 29 = .ok (.ireturn, 1) := by decide +kernel
theorem d_L_giveNumber_0 : decode c_L_giveNumber 0 = .ok (.aload_n 0, 1) := by decide +kernel
theorem d_L_giveNumber_1 : decode c_L_giveNumber 1 = .ok (.dup, 1) := by decide +kernel
theorem d_L_giveNumber_2 : decode c_L_giveNumber 2 = .ok (.getfield 25, 3) := by decide +kernel
theorem d_L_giveNumber_5 : decode c_L_giveNumber 5 = .ok (.iconst 1, 1) := by decide +kernel
theorem d_L_giveNumber_6 : decode c_L_giveNumber 6 = .ok (.iadd, 1) := by decide +kernel
theorem d_L_giveNumber_7 : decode c_L_giveNumber 7 = .ok (.putfield 25, 3) := by decide +kernel
theorem d_L_giveNumber_10 : decode c_L_giveNumber 10 = .ok (.aload_n 0, 1) := by decide +kernel
theorem d_L_giveNumber_11 : decode c_L_giveNumber 11 = .ok (.getfield 11, 3) := by decide +kernel
theorem d_L_giveNumber_14 : decode c_L_giveNumber 14 = .ok (.iload_n 1, 1) := by decide +kernel
theorem d_L_giveNumber_15 : decode c_L_giveNumber 15 = .ok (.aaload, 1) := by decide +kernel
theorem d_L_giveNumber_16 : decode c_L_giveNumber 16 = .ok (.aload_n 0, 1) := by decide +kernel
theorem d_L_giveNumber_17 : decode c_L_giveNumber 17 = .ok (.getfield 25, 3) := by decide +kernel
theorem d_L_giveNumber_20 : decode c_L_giveNumber 20 = .ok (.putfield 35, 3) := by decide +kernel
theorem d_L_giveNumber_23 : decode c_L_giveNumber 23 = .ok (.aload_n 0, 1) := by decide +kernel
theorem d_L_giveNumber_24 : decode c_L_giveNumber 24 = .ok (.getfield 17, 3) := by decide +kernel
theorem d_L_giveNumber_27 : decode c_L_giveNumber 27 = .ok (.aload_n 0, 1) := by decide +kernel
theorem d_L_giveNumber_28 : decode c_L_giveNumber 28 = .ok (.getfield 25, 3) := by decide +kernel
theorem d_L_giveNumber_31 : decode c_L_giveNumber 31 = .ok (.iload_n 1, 1) := by decide +kernel
theorem d_L_giveNumber_32 : decode c_L_giveNumber 32 = .ok (.iastore, 1) := by decide +kernel
theorem d_L_giveNumber_33 : decode c_L_giveNumber 33 = .ok (.aload_n 0, 1) := by decide +kernel
theorem d_L_giveNumber_34 : decode c_L_giveNumber 34 = .ok (.getfield 25, 3) := by decide +kernel
theorem d_L_giveNumber_37 : decode c_L_giveNumber 37 = .ok (.ireturn, 1) := by decide +kernel
theorem d_L_addReversal_0 : decode c_L_addReversal 0 = .ok (.aload_n 0, 1) := by decide +kernel
theorem d_L_addReversal_1 : decode c_L_addReversal 1 = .ok (.iload_n 2, 1) := by decide +kernel
theorem d_L_addReversal_2 : decode c_L_addReversal 2 = .ok (.invokevirtual 38, 3) := by decide +kernel
theorem d_L_addReversal_5 : decode c_L_addReversal 5 = .ok (.istore_n 3, 1) := by decide +kernel
theorem d_L_addReversal_6 : decode c_L_addReversal 6 = .ok (.aload_n 0, 1) := by decide +kernel
theorem d_L_addReversal_7 : decode c_L_addReversal 7 = .ok (.getfield 11, 3) := by decide +kernel
theorem d_L_addReversal_10 : decode c_L_addReversal 10 = .ok (.iload_n 3, 1) := by decide +kernel
theorem d_L_addReversal_11 : decode c_L_addReversal 11 = .ok (.aaload, 1) := by decide +kernel
theorem d_L_addReversal_12 : decode c_L_addReversal 12 = .ok (.aload_n 1, 1) := by decide +kernel
theorem d_L_addReversal_13 : decode c_L_addReversal 13 = .ok (.invokevirtual 42, 3) := by decide +kernel
theorem d_L_addReversal_16 : decode c_L_addReversal 16 = .ok (.aload_n 0, 1) := by decide +kernel
theorem d_L_addReversal_17 : decode c_L_addReversal 17 = .ok (.getfield 11, 3) := by decide +kernel
theorem d_L_addReversal_20 : decode c_L_addReversal 20 = .ok (.iload_n 3, 1) := by decide +kernel
theorem d_L_addReversal_21 : decode c_L_addReversal 21 = .ok (.aaload, 1) := by decide +kernel
theorem d_L_addReversal_22 : decode c_L_addReversal 22 = .ok (.iconst 1, 1) := by decide +kernel
theorem d_L_addReversal_23 : decode c_L_addReversal 23 = .ok (.putfield 46, 3) := by decide +kernel
theorem d_L_addReversal_26 : decode c_L_addReversal 26 = .ok (.aload_n 1, 1) := by decide +kernel
theorem d_L_addReversal_27 : decode c_L_addReversal 27 = .ok (.iconst 1, 1) := by decide +kernel
theorem d_L_addReversal_28 : decode c_L_addReversal 28 = .ok (.putfield 50, 3) := by decide +kernel
theorem d_L_addReversal_31 : decode c_L_addReversal 31 = .ok (.aload_n 0, 1) := by decide +kernel
theorem d_L_addReversal_32 : decode c_L_addReversal 32 = .ok (.iload_n 3, 1) := by decide +kernel
theorem d_L_addReversal_33 : decode c_L_addReversal 33 = .ok (.invokevirtual 53, 3) := by decide +kernel
theorem d_L_addReversal_36 : decode c_L_addReversal 36 = .ok (.ireturn, 1) := by decide +kernel
theorem d_L_isInClosedMonth_0 : decode c_L_isInClosedMonth 0 = .ok (.iload_n 1, 1) := by decide +kernel
theorem d_L_isInClosedMonth_1 : decode c_L_isInClosedMonth 1 = .ok (.bipush 30, 2) := by decide +kernel
theorem d_L_isInClosedMonth_3 : decode c_L_isInClosedMonth 3 = .ok (.idiv, 1) := by decide +kernel
theorem d_L_isInClosedMonth_4 : decode c_L_isInClosedMonth 4 = .ok (.aload_n 0, 1) := by decide +kernel
theorem d_L_isInClosedMonth_5 : decode c_L_isInClosedMonth 5 = .ok (.getfield 28, 3) := by decide +kernel
theorem d_L_isInClosedMonth_8 : decode c_L_isInClosedMonth 8 = .ok (.if_icmp .gt 7, 3) := by decide +kernel
theorem d_L_isInClosedMonth_11 : decode c_L_isInClosedMonth 11 = .ok (.iconst 1, 1) := by decide +kernel
theorem d_L_isInClosedMonth_12 : decode c_L_isInClosedMonth 12 = .ok (.goto 4, 3) := by decide +kernel
theorem d_L_isInClosedMonth_15 : decode c_L_isInClosedMonth 15 = .ok (.iconst 0, 1) := by decide +kernel
theorem d_L_isInClosedMonth_16 : decode c_L_isInClosedMonth 16 = .ok (.ireturn, 1) := by decide +kernel
theorem d_L_sumUpTo_0 : decode c_L_sumUpTo 0 = .ok (.lconst 0, 1) := by decide +kernel
theorem d_L_sumUpTo_1 : decode c_L_sumUpTo 1 = .ok (.lstore_n 3, 1) := by decide +kernel
theorem d_L_sumUpTo_2 : decode c_L_sumUpTo 2 = .ok (.iconst 0, 1) := by decide +kernel
theorem d_L_sumUpTo_3 : decode c_L_sumUpTo 3 = .ok (.istore 5, 2) := by decide +kernel
theorem d_L_sumUpTo_5 : decode c_L_sumUpTo 5 = .ok (.iload 5, 2) := by decide +kernel
theorem d_L_sumUpTo_7 : decode c_L_sumUpTo 7 = .ok (.aload_n 0, 1) := by decide +kernel
theorem d_L_sumUpTo_8 : decode c_L_sumUpTo 8 = .ok (.getfield 21, 3) := by decide +kernel
theorem d_L_sumUpTo_11 : decode c_L_sumUpTo 11 = .ok (.if_icmp .ge 50, 3) := by decide +kernel
theorem d_L_sumUpTo_14 : decode c_L_sumUpTo 14 = .ok (.aload_n 0, 1) := by decide +kernel
theorem d_L_sumUpTo_15 : decode c_L_sumUpTo 15 = .ok (.getfield 11, 3) := by decide +kernel
theorem d_L_sumUpTo_18 : decode c_L_sumUpTo 18 = .ok (.iload 5, 2) := by decide +kernel
theorem d_L_sumUpTo_20 : decode c_L_sumUpTo 20 = .ok (.aaload, 1) := by decide +kernel
theorem d_L_sumUpTo_21 : decode c_L_sumUpTo 21 = .ok (.invokevirtual 56, 3) := by decide +kernel
theorem d_L_sumUpTo_24 : decode c_L_sumUpTo 24 = .ok (.ifCond .eq 31, 3) := by decide +kernel
theorem d_L_sumUpTo_27 : decode c_L_sumUpTo 27 = .ok (.aload_n 0, 1) := by decide +kernel
theorem d_L_sumUpTo_28 : decode c_L_sumUpTo 28 = .ok (.getfield 11, 3) := by decide +kernel
theorem d_L_sumUpTo_31 : decode c_L_sumUpTo 31 = .ok (.iload 5, 2) := by decide +kernel
theorem d_L_sumUpTo_33 : decode c_L_sumUpTo 33 = .ok (.aaload, 1) := by decide +kernel
theorem d_L_sumUpTo_34 : decode c_L_sumUpTo 34 = .ok (.getfield 32, 3) := by decide +kernel
theorem d_L_sumUpTo_37 : decode c_L_sumUpTo 37 = .ok (.iload_n 2, 1) := by decide +kernel
theorem d_L_sumUpTo_38 : decode c_L_sumUpTo 38 = .ok (.if_icmp .gt 17, 3) := by decide +kernel
theorem d_L_sumUpTo_41 : decode c_L_sumUpTo 41 = .ok (.lload_n 3, 1) := by decide +kernel
theorem d_L_sumUpTo_42 : decode c_L_sumUpTo 42 = .ok (.aload_n 0, 1) := by decide +kernel
theorem d_L_sumUpTo_43 : decode c_L_sumUpTo 43 = .ok (.getfield 11, 3) := by decide +kernel
theorem d_L_sumUpTo_46 : decode c_L_sumUpTo 46 = .ok (.iload 5, 2) := by decide +kernel
theorem d_L_sumUpTo_48 : decode c_L_sumUpTo 48 = .ok (.aaload, 1) := by decide +kernel
theorem d_L_sumUpTo_49 : decode c_L_sumUpTo 49 = .ok (.iload_n 1, 1) := by decide +kernel
theorem d_L_sumUpTo_50 : decode c_L_sumUpTo 50 = .ok (.invokevirtual 60, 3) := by decide +kernel
theorem d_L_sumUpTo_53 : decode c_L_sumUpTo 53 = .ok (.ladd, 1) := by decide +kernel
theorem d_L_sumUpTo_54 : decode c_L_sumUpTo 54 = .ok (.lstore_n 3, 1) := by decide +kernel
theorem d_L_sumUpTo_55 : decode c_L_sumUpTo 55 = .ok (.iinc 5 1, 3) := by decide +kernel
theorem d_L_sumUpTo_58 : decode c_L_sumUpTo 58 = .ok (.goto (-53), 3) := by decide +kernel
theorem d_L_sumUpTo_61 : decode c_L_sumUpTo 61 = .ok (.lload_n 3, 1) := by decide +kernel
theorem d_L_sumUpTo_62 : decode c_L_sumUpTo 62 = .ok (.lreturn, 1) := by decide +kernel
end
section
/-! decode rows of ShopDesksModel -/
theorem d_M_init_0 : decode c_M_init 0 = .ok (.aload_n 0, 1) := by decide +kernel
theorem d_M_init_1 : decode c_M_init 1 = .ok (.invokespecial 1, 3) := by decide +kernel
theorem d_M_init_4 : decode c_M_init 4 = .ok (.aload_n 0, 1) := by decide +kernel
theorem d_M_init_5 : decode c_M_init 5 = .ok (.sipush 300, 3) := by decide +kernel
theorem d_M_init_8 : decode c_M_init 8 = .ok (.newarray .int, 2) := by decide +kernel
theorem d_M_init_10 : decode c_M_init 10 = .ok (.putfield 7, 3) := by decide +kernel
theorem d_M_init_13 : decode c_M_init 13 = .ok (.aload_n 0, 1) := by decide +kernel
theorem d_M_init_14 : decode c_M_init 14 = .ok (.sipush 300, 3) := by decide +kernel
theorem d_M_init_17 : decode c_M_init 17 = .ok (.newarray .long, 2) := by decide +kernel
theorem d_M_init_19 : decode c_M_init 19 = .ok (.putfield 13, 3) := by decide +kernel
theorem d_M_init_22 : decode c_M_init 22 = .ok (.aload_n 0, 1) := by decide +kernel
theorem d_M_init_23 : decode c_M_init 23 = .ok (.sipush 300, 3) := by decide +kernel
theorem d_M_init_26 : decode c_M_init 26 = .ok (.newarray .int, 2) := by decide +kernel
theorem d_M_init_28 : decode c_M_init 28 = .ok (.putfield 17, 3) := by decide +kernel
theorem d_M_init_31 : decode c_M_init 31 = .ok (.aload_n 0, 1) := by decide +kernel
theorem d_M_init_32 : decode c_M_init 32 = .ok (.sipush 300, 3) := by decide +kernel
theorem d_M_init_35 : decode c_M_init 35 = .ok (.newarray .int, 2) := by decide +kernel
theorem d_M_init_37 : decode c_M_init 37 = .ok (.putfield 20, 3) := by decide +kernel
theorem d_M_init_40 : decode c_M_init 40 = .ok (.aload_n 0, 1) := by decide +kernel
theorem d_M_init_41 : decode c_M_init 41 = .ok (.sipush 300, 3) := by decide +kernel
theorem d_M_init_44 : decode c_M_init 44 = .ok (.newarray .long, 2) := by decide +kernel
theorem d_M_init_46 : decode c_M_init 46 = .ok (.putfield 23, 3) := by decide +kernel
theorem d_M_init_49 : decode c_M_init 49 = .ok (.aload_n 0, 1) := by decide +kernel
theorem d_M_init_50 : decode c_M_init 50 = .ok (.sipush 300, 3) := by decide +kernel
theorem d_M_init_53 : decode c_M_init 53 = .ok (.newarray .long, 2) := by decide +kernel
theorem d_M_init_55 : decode c_M_init 55 = .ok (.putfield 26, 3) := by decide +kernel
theorem d_M_init_58 : decode c_M_init 58 = .ok (.aload_n 0, 1) := by decide +kernel
theorem d_M_init_59 : decode c_M_init 59 = .ok (.bipush 8, 2) := by decide +kernel
theorem d_M_init_61 : decode c_M_init 61 = .ok (.newarray .int, 2) := by decide +kernel
theorem d_M_init_63 : decode c_M_init 63 = .ok (.putfield 29, 3) := by decide +kernel
theorem d_M_init_66 : decode c_M_init 66 = .ok (.aload_n 0, 1) := by decide +kernel
theorem d_M_init_67 : decode c_M_init 67 = .ok (.sipush 2400, 3) := by decide +kernel
theorem d_M_init_70 : decode c_M_init 70 = .ok (.newarray .int, 2) := by decide +kernel
theorem d_M_init_72 : decode c_M_init 72 = .ok (.putfield 32, 3) := by decide +kernel
theorem d_M_init_75 : decode c_M_init 75 = .ok (.aload_n 0, 1) := by decide +kernel
theorem d_M_init_76 : decode c_M_init 76 = .ok (.bipush 8, 2) := by decide +kernel
theorem d_M_init_78 : decode c_M_init 78 = .ok (.newarray .int, 2) := by decide +kernel
theorem d_M_init_80 : decode c_M_init 80 = .ok (.putfield 35, 3) := by decide +kernel
theorem d_M_init_83 : decode c_M_init 83 = .ok (.aload_n 0, 1) := by decide +kernel
theorem d_M_init_84 : decode c_M_init 84 = .ok (.bipush 16, 2) := by decide +kernel
theorem d_M_init_86 : decode c_M_init 86 = .ok (.newarray .boolean, 2) := by decide +kernel
theorem d_M_init_88 : decode c_M_init 88 = .ok (.putfield 38, 3) := by decide +kernel
theorem d_M_init_91 : decode c_M_init 91 = .ok (.aload_n 0, 1) := by decide +kernel
theorem d_M_init_92 : decode c_M_init 92 = .ok (.bipush 60, 2) := by decide +kernel
theorem d_M_init_94 : decode c_M_init 94 = .ok (.newarray .int, 2) := by decide +kernel
theorem d_M_init_96 : decode c_M_init 96 = .ok (.putfield 42, 3) := by decide +kernel
theorem d_M_init_99 : decode c_M_init 99 = .ok (.aload_n 0, 1) := by decide +kernel
theorem d_M_init_100 : decode c_M_init 100 = .ok (.bipush 60, 2) := by decide +kernel
theorem d_M_init_102 : decode c_M_init 102 = .ok (.newarray .int, 2) := by decide +kernel
theorem d_M_init_104 : decode c_M_init 104 = .ok (.putfield 45, 3) := by decide +kernel
theorem d_M_init_107 : decode c_M_init 107 = .ok (.aload_n 0, 1) := by decide +kernel
theorem d_M_init_108 : decode c_M_init 108 = .ok (.sipush 360, 3) := by decide +kernel
theorem d_M_init_111 : decode c_M_init 111 = .ok (.newarray .int, 2) := by decide +kernel
theorem d_M_init_113 : decode c_M_init 113 = .ok (.putfield 48, 3) := by decide +kernel
theorem d_M_init_116 : decode c_M_init 116 = .ok (.aload_n 0, 1) := by decide +kernel
theorem d_M_init_117 : decode c_M_init 117 = .ok (.sipush 360, 3) := by decide +kernel
theorem d_M_init_120 : decode c_M_init 120 = .ok (.newarray .long, 2) := by decide +kernel
theorem d_M_init_122 : decode c_M_init 122 = .ok (.putfield 51, 3) := by decide +kernel
theorem d_M_init_125 : decode c_M_init 125 = .ok (.aload_n 0, 1) := by decide +kernel
theorem d_M_init_126 : decode c_M_init 126 = .ok (.bipush 60, 2) := by decide +kernel
theorem d_M_init_128 : decode c_M_init 128 = .ok (.newarray .int, 2) := by decide +kernel
theorem d_M_init_130 : decode c_M_init 130 = .ok (.putfield 54, 3) := by decide +kernel
theorem d_M_init_133 : decode c_M_init 133 = .ok (.aload_n 0, 1) := by decide +kernel
theorem d_M_init_134 : decode c_M_init 134 = .ok (.bipush 60, 2) := by decide +kernel
theorem d_M_init_136 : decode c_M_init 136 = .ok (.newarray .boolean, 2) := by decide +kernel
theorem d_M_init_138 : decode c_M_init 138 = .ok (.putfield 57, 3) := by decide +kernel
theorem d_M_init_141 : decode c_M_init 141 = .ok (.aload_n 0, 1) := by decide +kernel
theorem d_M_init_142 : decode c_M_init 142 = .ok (.iconst (-1), 1) := by decide +kernel
theorem d_M_init_143 : decode c_M_init 143 = .ok (.putfield 60, 3) := by decide +kernel
theorem d_M_init_146 : decode c_M_init 146 = .ok (.return_, 1) := by decide +kernel
theorem d_M_thrown_0 : decode c_M_thrown 0 = .ok (.aload_n 0, 1) := by decide +kernel
theorem d_M_thrown_1 : decode c_M_thrown 1 = .ok (.getfield 64, 3) := by decide +kernel
theorem d_M_thrown_4 : decode c_M_thrown 4 = .ok (.ireturn, 1) := by decide +kernel
theorem d_M_isIn_0 : decode c_M_isIn 0 = .ok (.lload_n 0, 1) := by decide +kernel
theorem d_M_isIn_1 : decode c_M_isIn 1 = .ok (.lload_n 2, 1) := by decide +kernel
theorem d_M_isIn_2 : decode c_M_isIn 2 = .ok (.lcmp, 1) := by decide +kernel
theorem d_M_isIn_3 : decode c_M_isIn 3 = .ok (.ifCond .lt 14, 3) := by decide +kernel
theorem d_M_isIn_6 : decode c_M_isIn 6 = .ok (.lload_n 0, 1) := by decide +kernel
theorem d_M_isIn_7 : decode c_M_isIn 7 = .ok (.lload 4, 2) := by decide +kernel
theorem d_M_isIn_9 : decode c_M_isIn 9 = .ok (.lcmp, 1) := by decide +kernel
theorem d_M_isIn_10 : decode c_M_isIn 10 = .ok (.ifCond .gt 7, 3) := by decide +kernel
theorem d_M_isIn_13 : decode c_M_isIn 13 = .ok (.iconst 1, 1) := by decide +kernel
theorem d_M_isIn_14 : decode c_M_isIn 14 = .ok (.goto 4, 3) := by decide +kernel
theorem d_M_isIn_17 : decode c_M_isIn 17 = .ok (.iconst 0, 1) := by decide +kernel
theorem d_M_isIn_18 : decode c_M_isIn 18 = .ok (.ireturn, 1) := by decide +kernel
theorem d_M_isKind_0 : decode c_M_isKind 0 = .ok (.iload_n 0, 1) := by decide +kernel
theorem d_M_isKind_1 : decode c_M_isKind 1 = .ok (.ifCond .lt 12, 3) := by decide +kernel
theorem d_M_isKind_4 : decode c_M_isKind 4 = .ok (.iload_n 0, 1) := by decide +kernel
theorem d_M_isKind_5 : decode c_M_isKind 5 = .ok (.iconst 3, 1) := by decide +kernel
theorem d_M_isKind_6 : decode c_M_isKind 6 = .ok (.if_icmp .gt 7, 3) := by decide +kernel
theorem d_M_isKind_9 : decode c_M_isKind 9 = .ok (.iconst 1, 1) := by decide +kernel
theorem d_M_isKind_10 : decode c_M_isKind 10 = .ok (.goto 4, 3) := by decide +kernel
theorem d_M_isKind_13 : decode c_M_isKind 13 = .ok (.iconst 0, 1) := by decide +kernel
theorem d_M_isKind_14 : decode c_M_isKind 14 = .ok (.ireturn, 1) := by decide +kernel
theorem d_M_find_0 : decode c_M_find 0 = .ok (.iconst 0, 1) := by decide +kernel
theorem d_M_find_1 : decode c_M_find 1 = .ok (.istore 4, 2) := by decide +kernel
theorem d_M_find_3 : decode c_M_find 3 = .ok (.iload 4, 2) := by decide +kernel
theorem d_M_find_5 : decode c_M_find 5 = .ok (.aload_n 0, 1) := by decide +kernel
theorem d_M_find_6 : decode c_M_find 6 = .ok (.getfield 67, 3) := by decide +kernel
theorem d_M_find_9 : decode c_M_find 9 = .ok (.if_icmp .ge 35, 3) := by decide +kernel
theorem d_M_find_12 : decode c_M_find 12 = .ok (.aload_n 0, 1) := by decide +kernel
theorem d_M_find_13 : decode c_M_find 13 = .ok (.getfield 7, 3) := by decide +kernel
theorem d_M_find_16 : decode c_M_find 16 = .ok (.iload 4, 2) := by decide +kernel
theorem d_M_find_18 : decode c_M_find 18 = .ok (.iaload, 1) := by decide +kernel
theorem d_M_find_19 : decode c_M_find 19 = .ok (.iload_n 1, 1) := by decide +kernel
theorem d_M_find_20 : decode c_M_find 20 = .ok (.if_icmp .ne 18, 3) := by decide +kernel
theorem d_M_find_23 : decode c_M_find 23 = .ok (.aload_n 0, 1) := by decide +kernel
theorem d_M_find_24 : decode c_M_find 24 = .ok (.getfield 13, 3) := by decide +kernel
theorem d_M_find_27 : decode c_M_find 27 = .ok (.iload 4, 2) := by decide +kernel
theorem d_M_find_29 : decode c_M_find 29 = .ok (.laload, 1) := by decide +kernel
theorem d_M_find_30 : decode c_M_find 30 = .ok (.lload_n 2, 1) := by decide +kernel
theorem d_M_find_31 : decode c_M_find 31 = .ok (.lcmp, 1) := by decide +kernel
theorem d_M_find_32 : decode c_M_find 32 = .ok (.ifCond .ne 6, 3) := by decide +kernel
theorem d_M_find_35 : decode c_M_find 35 = .ok (.iload 4, 2) := by decide +kernel
theorem d_M_find_37 : decode c_M_find 37 = .ok (.ireturn, 1) := by decide +kernel
theorem d_M_find_38 : decode c_M_find 38 = .ok (.iinc 4 1, 3) := by decide +kernel
theorem d_M_find_41 : decode c_M_find 41 = .ok (.goto (-38), 3) := by decide +kernel
theorem d_M_find_44 : decode c_M_find 44 = .ok (.iconst (-1), 1) := by decide +kernel
theorem d_M_find_45 : decode c_M_find 45 = .ok (.ireturn, 1) := by decide +kernel
theorem d_M_tell_0 : decode c_M_tell 0 = .ok (.aload_n 0, 1) := by decide +kernel
theorem d_M_tell_1 : decode c_M_tell 1 = .ok (.iload_n 1, 1) := by decide +kernel
theorem d_M_tell_2 : decode c_M_tell 2 = .ok (.i2l, 1) := by decide +kernel
theorem d_M_tell_3 : decode c_M_tell 3 = .ok (.lconst 0, 1) := by decide +kernel
theorem d_M_tell_4 : decode c_M_tell 4 = .ok (.ldc2_w 70, 3) := by decide +kernel
theorem d_M_tell_7 : decode c_M_tell 7 = .ok (.invokestatic 72, 3) := by decide +kernel
theorem d_M_tell_10 : decode c_M_tell 10 = .ok (.ifCond .eq 16, 3) := by decide +kernel
theorem d_M_tell_13 : decode c_M_tell 13 = .ok (.iload 4, 2) := by decide +kernel
theorem d_M_tell_15 : decode c_M_tell 15 = .ok (.i2l, 1) := by decide +kernel
theorem d_M_tell_16 : decode c_M_tell 16 = .ok (.lconst 0, 1) := by decide +kernel
theorem d_M_tell_17 : decode c_M_tell 17 = .ok (.ldc2_w 76, 3) := by decide +kernel
theorem d_M_tell_20 : decode c_M_tell 20 = .ok (.invokestatic 72, 3) := by decide +kernel
theorem d_M_tell_23 : decode c_M_tell 23 = .ok (.ifCond .ne 7, 3) := by decide +kernel
theorem d_M_tell_26 : decode c_M_tell 26 = .ok (.iconst 1, 1) := by decide +kernel
theorem d_M_tell_27 : decode c_M_tell 27 = .ok (.goto 16, 3) := by decide +kernel
theorem d_M_tell_30 : decode c_M_tell 30 = .ok (.iload 5, 2) := by decide +kernel
theorem d_M_tell_32 : decode c_M_tell 32 = .ok (.invokestatic 78, 3) := by decide +kernel
theorem d_M_tell_35 : decode c_M_tell 35 = .ok (.ifCond .ne 7, 3) := by decide +kernel
theorem d_M_tell_38 : decode c_M_tell 38 = .ok (.iconst 2, 1) := by decide +kernel
theorem d_M_tell_39 : decode c_M_tell 39 = .ok (.goto 4, 3) := by decide +kernel
theorem d_M_tell_42 : decode c_M_tell 42 = .ok (.iconst 0, 1) := by decide +kernel
theorem d_M_tell_43 : decode c_M_tell 43 = .ok (.putfield 64, 3) := by decide +kernel
theorem d_M_tell_46 : decode c_M_tell 46 = .ok (.aload_n 0, 1) := by decide +kernel
theorem d_M_tell_47 : decode c_M_tell 47 = .ok (.getfield 64, 3) := by decide +kernel
theorem d_M_tell_50 : decode c_M_tell 50 = .ok (.ifCond .gt 12, 3) := by decide +kernel
theorem d_M_tell_53 : decode c_M_tell 53 = .ok (.aload_n 0, 1) := by decide +kernel
theorem d_M_tell_54 : decode c_M_tell 54 = .ok (.iload_n 1, 1) := by decide +kernel
theorem d_M_tell_55 : decode c_M_tell 55 = .ok (.lload_n 2, 1) := by decide +kernel
theorem d_M_tell_56 : decode c_M_tell 56 = .ok (.invokevirtual 82, 3) := by decide +kernel
theorem d_M_tell_59 : decode c_M_tell 59 = .ok (.ifCond .lt 5, 3) := by decide +kernel
theorem d_M_tell_62 : decode c_M_tell 62 = .ok (.iconst 0, 1) := by decide +kernel
theorem d_M_tell_63 : decode c_M_tell 63 = .ok (.ireturn, 1) := by decide +kernel
theorem d_M_tell_64 : decode c_M_tell 64 = .ok (.aload_n 0, 1) := by decide +kernel
theorem d_M_tell_65 : decode c_M_tell 65 = .ok (.aload_n 0, 1) := by decide +kernel
theorem d_M_tell_66 : decode c_M_tell 66 = .ok (.getfield 67, 3) := by decide +kernel
theorem d_M_tell_69 : decode c_M_tell 69 = .ok (.sipush 300, 3) := by decide +kernel
theorem d_M_tell_72 : decode c_M_tell 72 = .ok (.if_icmp .ne 7, 3) := by decide +kernel
theorem d_M_tell_75 : decode c_M_tell 75 = .ok (.iconst 3, 1) := by decide +kernel
theorem d_M_tell_76 : decode c_M_tell 76 = .ok (.goto 4, 3) := by decide +kernel
theorem d_M_tell_79 : decode c_M_tell 79 = .ok (.iconst 0, 1) := by decide +kernel
theorem d_M_tell_80 : decode c_M_tell 80 = .ok (.putfield 64, 3) := by decide +kernel
theorem d_M_tell_83 : decode c_M_tell 83 = .ok (.aload_n 0, 1) := by decide +kernel
theorem d_M_tell_84 : decode c_M_tell 84 = .ok (.getfield 64, 3) := by decide +kernel
theorem d_M_tell_87 : decode c_M_tell 87 = .ok (.ifCond .le 5, 3) := by decide +kernel
theorem d_M_tell_90 : decode c_M_tell 90 = .ok (.iconst 0, 1) := by decide +kernel
theorem d_M_tell_91 : decode c_M_tell 91 = .ok (.ireturn, 1) := by decide +kernel
theorem d_M_tell_92 : decode c_M_tell 92 = .ok (.aload_n 0, 1) := by decide +kernel
theorem d_M_tell_93 : decode c_M_tell 93 = .ok (.getfield 7, 3) := by decide +kernel
theorem d_M_tell_96 : decode c_M_tell 96 = .ok (.aload_n 0, 1) := by decide +kernel
theorem d_M_tell_97 : decode c_M_tell 97 = .ok (.getfield 67, 3) := by decide +kernel
theorem d_M_tell_100 : decode c_M_tell 100 = .ok (.iload_n 1, 1) := by decide +kernel
theorem d_M_tell_101 : decode c_M_tell 101 = .ok (.iastore, 1) := by decide +kernel
theorem d_M_tell_102 : decode c_M_tell 102 = .ok (.aload_n 0, 1) := by decide +kernel
theorem d_M_tell_103 : decode c_M_tell 103 = .ok (.getfield 13, 3) := by decide +kernel
theorem d_M_tell_106 : decode c_M_tell 106 = .ok (.aload_n 0, 1) := by decide +kernel
theorem d_M_tell_107 : decode c_M_tell 107 = .ok (.getfield 67, 3) := by decide +kernel
theorem d_M_tell_110 : decode c_M_tell 110 = .ok (.lload_n 2, 1) := by decide +kernel
theorem d_M_tell_111 : decode c_M_tell 111 = .ok (.lastore, 1) := by decide +kernel
theorem d_M_tell_112 : decode c_M_tell 112 = .ok (.aload_n 0, 1) := by decide +kernel
theorem d_M_tell_113 : decode c_M_tell 113 = .ok (.getfield 17, 3) := by decide +kernel
theorem d_M_tell_116 : decode c_M_tell 116 = .ok (.aload_n 0, 1) := by decide +kernel
theorem d_M_tell_117 : decode c_M_tell 117 = .ok (.getfield 67, 3) := by decide +kernel
theorem d_M_tell_120 : decode c_M_tell 120 = .ok (.iload 4, 2) := by decide +kernel
theorem d_M_tell_122 : decode c_M_tell 122 = .ok (.iastore, 1) := by decide +kernel
theorem d_M_tell_123 : decode c_M_tell 123 = .ok (.aload_n 0, 1) := by decide +kernel
theorem d_M_tell_124 : decode c_M_tell 124 = .ok (.getfield 20, 3) := by decide +kernel
theorem d_M_tell_127 : decode c_M_tell 127 = .ok (.aload_n 0, 1) := by decide +kernel
theorem d_M_tell_128 : decode c_M_tell 128 = .ok (.getfield 67, 3) := by decide +kernel
theorem d_M_tell_131 : decode c_M_tell 131 = .ok (.iload 5, 2) := by decide +kernel
theorem d_M_tell_133 : decode c_M_tell 133 = .ok (.iastore, 1) := by decide +kernel
theorem d_M_tell_134 : decode c_M_tell 134 = .ok (.aload_n 0, 1) := by decide +kernel
theorem d_M_tell_135 : decode c_M_tell 135 = .ok (.getfield 23, 3) := by decide +kernel
theorem d_M_tell_138 : decode c_M_tell 138 = .ok (.aload_n 0, 1) := by decide +kernel
theorem d_M_tell_139 : decode c_M_tell 139 = .ok (.getfield 67, 3) := by decide +kernel
theorem d_M_tell_142 : decode c_M_tell 142 = .ok (.lload 6, 2) := by decide +kernel
theorem d_M_tell_144 : decode c_M_tell 144 = .ok (.lastore, 1) := by decide +kernel
theorem d_M_tell_145 : decode c_M_tell 145 = .ok (.aload_n 0, 1) := by decide +kernel
theorem d_M_tell_146 : decode c_M_tell 146 = .ok (.getfield 26, 3) := by decide +kernel
theorem d_M_tell_149 : decode c_M_tell 149 = .ok (.aload_n 0, 1) := by decide +kernel
theorem d_M_tell_150 : decode c_M_tell 150 = .ok (.getfield 67, 3) := by decide +kernel
theorem d_M_tell_153 : decode c_M_tell 153 = .ok (.lload 8, 2) := by decide +kernel
theorem d_M_tell_155 : decode c_M_tell 155 = .ok (.lastore, 1) := by decide +kernel
theorem d_M_tell_156 : decode c_M_tell 156 = .ok (.aload_n 0, 1) := by decide +kernel
theorem d_M_tell_157 : decode c_M_tell 157 = .ok (.dup, 1) := by decide +kernel
theorem d_M_tell_158 : decode c_M_tell 158 = .ok (.getfield 67, 3) := by decide +kernel
theorem d_M_tell_161 : decode c_M_tell 161 = .ok (.iconst 1, 1) := by decide +kernel
theorem d_M_tell_162 : decode c_M_tell 162 = .ok (.iadd, 1) := by decide +kernel
theorem d_M_tell_163 : decode c_M_tell 163 = .ok (.putfield 67, 3) := by decide +kernel
theorem d_M_tell_166 : decode c_M_tell 166 = .ok (.iconst 1, 1) := by decide +kernel
theorem d_M_tell_167 : decode c_M_tell 167 = .ok (.ireturn, 1) := by decide +kernel
theorem d_M_has_0 : decode c_M_has 0 = .ok (.iconst 0, 1) := by decide +kernel
theorem d_M_has_1 : decode c_M_has 1 = .ok (.istore_n 3, 1) := by decide +kernel
theorem d_M_has_2 : decode c_M_has 2 = .ok (.iconst 0, 1) := by decide +kernel
theorem d_M_has_3 : decode c_M_has 3 = .ok (.istore 4, 2) := by decide +kernel
theorem d_M_has_5 : decode c_M_has 5 = .ok (.iload 4, 2) := by decide +kernel
theorem d_M_has_7 : decode c_M_has 7 = .ok (.aload_n 0, 1) := by decide +kernel
theorem d_M_has_8 : decode c_M_has 8 = .ok (.getfield 29, 3) := by decide +kernel
theorem d_M_has_11 : decode c_M_has 11 = .ok (.iload_n 1, 1) := by decide +kernel
theorem d_M_has_12 : decode c_M_has 12 = .ok (.iaload, 1) := by decide +kernel
theorem d_M_has_13 : decode c_M_has 13 = .ok (.if_icmp .ge 36, 3) := by decide +kernel
theorem d_M_has_16 : decode c_M_has 16 = .ok (.iload_n 3, 1) := by decide +kernel
theorem d_M_has_17 : decode c_M_has 17 = .ok (.ifCond .ne 20, 3) := by decide +kernel
theorem d_M_has_20 : decode c_M_has 20 = .ok (.aload_n 0, 1) := by decide +kernel
theorem d_M_has_21 : decode c_M_has 21 = .ok (.getfield 32, 3) := by decide +kernel
theorem d_M_has_24 : decode c_M_has 24 = .ok (.sipush 300, 3) := by decide +kernel
theorem d_M_has_27 : decode c_M_has 27 = .ok (.iload_n 1, 1) := by decide +kernel
theorem d_M_has_28 : decode c_M_has 28 = .ok (.imul, 1) := by decide +kernel
theorem d_M_has_29 : decode c_M_has 29 = .ok (.iload 4, 2) := by decide +kernel
theorem d_M_has_31 : decode c_M_has 31 = .ok (.iadd, 1) := by decide +kernel
theorem d_M_has_32 : decode c_M_has 32 = .ok (.iaload, 1) := by decide +kernel
theorem d_M_has_33 : decode c_M_has 33 = .ok (.iload_n 2, 1) := by decide +kernel
theorem d_M_has_34 : decode c_M_has 34 = .ok (.if_icmp .ne 7, 3) := by decide +kernel
theorem d_M_has_37 : decode c_M_has 37 = .ok (.iconst 1, 1) := by decide +kernel
theorem d_M_has_38 : decode c_M_has 38 = .ok (.goto 4, 3) := by decide +kernel
theorem d_M_has_41 : decode c_M_has 41 = .ok (.iconst 0, 1) := by decide +kernel
theorem d_M_has_42 : decode c_M_has 42 = .ok (.istore_n 3, 1) := by decide +kernel
theorem d_M_has_43 : decode c_M_has 43 = .ok (.iinc 4 1, 3) := by decide +kernel
theorem d_M_has_46 : decode c_M_has 46 = .ok (.goto (-41), 3) := by decide +kernel
theorem d_M_has_49 : decode c_M_has 49 = .ok (.iload_n 3, 1) := by decide +kernel
theorem d_M_has_50 : decode c_M_has 50 = .ok (.ireturn, 1) := by decide +kernel
theorem d_M_add_0 : decode c_M_add 0 = .ok (.aload_n 0, 1) := by decide +kernel
theorem d_M_add_1 : decode c_M_add 1 = .ok (.getfield 32, 3) := by decide +kernel
theorem d_M_add_4 : decode c_M_add 4 = .ok (.sipush 300, 3) := by decide +kernel
theorem d_M_add_7 : decode c_M_add 7 = .ok (.iload_n 1, 1) := by decide +kernel
theorem d_M_add_8 : decode c_M_add 8 = .ok (.imul, 1) := by decide +kernel
theorem d_M_add_9 : decode c_M_add 9 = .ok (.aload_n 0, 1) := by decide +kernel
theorem d_M_add_10 : decode c_M_add 10 = .ok (.getfield 29, 3) := by decide +kernel
theorem d_M_add_13 : decode c_M_add 13 = .ok (.iload_n 1, 1) := by decide +kernel
theorem d_M_add_14 : decode c_M_add 14 = .ok (.iaload, 1) := by decide +kernel
theorem d_M_add_15 : decode c_M_add 15 = .ok (.iadd, 1) := by decide +kernel
theorem d_M_add_16 : decode c_M_add 16 = .ok (.iload_n 2, 1) := by decide +kernel
theorem d_M_add_17 : decode c_M_add 17 = .ok (.iastore, 1) := by decide +kernel
theorem d_M_add_18 : decode c_M_add 18 = .ok (.aload_n 0, 1) := by decide +kernel
theorem d_M_add_19 : decode c_M_add 19 = .ok (.getfield 29, 3) := by decide +kernel
theorem d_M_add_22 : decode c_M_add 22 = .ok (.iload_n 1, 1) := by decide +kernel
theorem d_M_add_23 : decode c_M_add 23 = .ok (.dup2, 1) := by decide +kernel
theorem d_M_add_24 : decode c_M_add 24 = .ok (.iaload, 1) := by decide +kernel
theorem d_M_add_25 : decode c_M_add 25 = .ok (.iconst 1, 1) := by decide +kernel
theorem d_M_add_26 : decode c_M_add 26 = .ok (.iadd, 1) := by decide +kernel
theorem d_M_add_27 : decode c_M_add 27 = .ok (.iastore, 1) := by decide +kernel
theorem d_M_add_28 : decode c_M_add 28 = .ok (.return_, 1) := by decide +kernel
theorem d_M_set_0 : decode c_M_set 0 = .ok (.aload_n 0, 1) := by decide +kernel
theorem d_M_set_1 : decode c_M_set 1 = .ok (.iload_n 1, 1) := by decide +kernel
theorem d_M_set_2 : decode c_M_set 2 = .ok (.i2l, 1) := by decide +kernel
theorem d_M_set_3 : decode c_M_set 3 = .ok (.lconst 0, 1) := by decide +kernel
theorem d_M_set_4 : decode c_M_set 4 = .ok (.ldc2_w 70, 3) := by decide +kernel
theorem d_M_set_7 : decode c_M_set 7 = .ok (.invokestatic 72, 3) := by decide +kernel
theorem d_M_set_10 : decode c_M_set 10 = .ok (.ifCond .ne 7, 3) := by decide +kernel
theorem d_M_set_13 : decode c_M_set 13 = .ok (.iconst 1, 1) := by decide +kernel
theorem d_M_set_14 : decode c_M_set 14 = .ok (.goto 17, 3) := by decide +kernel
theorem d_M_set_17 : decode c_M_set 17 = .ok (.aload_n 0, 1) := by decide +kernel
theorem d_M_set_18 : decode c_M_set 18 = .ok (.getfield 86, 3) := by decide +kernel
theorem d_M_set_21 : decode c_M_set 21 = .ok (.bipush 8, 2) := by decide +kernel
theorem d_M_set_23 : decode c_M_set 23 = .ok (.if_icmp .ne 7, 3) := by decide +kernel
theorem d_M_set_26 : decode c_M_set 26 = .ok (.iconst 2, 1) := by decide +kernel
theorem d_M_set_27 : decode c_M_set 27 = .ok (.goto 4, 3) := by decide +kernel
theorem d_M_set_30 : decode c_M_set 30 = .ok (.iconst 0, 1) := by decide +kernel
theorem d_M_set_31 : decode c_M_set 31 = .ok (.putfield 64, 3) := by decide +kernel
theorem d_M_set_34 : decode c_M_set 34 = .ok (.aload_n 0, 1) := by decide +kernel
theorem d_M_set_35 : decode c_M_set 35 = .ok (.getfield 64, 3) := by decide +kernel
theorem d_M_set_38 : decode c_M_set 38 = .ok (.ifCond .le 5, 3) := by decide +kernel
theorem d_M_set_41 : decode c_M_set 41 = .ok (.iconst 0, 1) := by decide +kernel
theorem d_M_set_42 : decode c_M_set 42 = .ok (.ireturn, 1) := by decide +kernel
theorem d_M_set_43 : decode c_M_set 43 = .ok (.aload_n 0, 1) := by decide +kernel
theorem d_M_set_44 : decode c_M_set 44 = .ok (.getfield 29, 3) := by decide +kernel
theorem d_M_set_47 : decode c_M_set 47 = .ok (.aload_n 0, 1) := by decide +kernel
theorem d_M_set_48 : decode c_M_set 48 = .ok (.getfield 86, 3) := by decide +kernel
theorem d_M_set_51 : decode c_M_set 51 = .ok (.iconst 0, 1) := by decide +kernel
theorem d_M_set_52 : decode c_M_set 52 = .ok (.iastore, 1) := by decide +kernel
theorem d_M_set_53 : decode c_M_set 53 = .ok (.aload_n 0, 1) := by decide +kernel
theorem d_M_set_54 : decode c_M_set 54 = .ok (.getfield 35, 3) := by decide +kernel
theorem d_M_set_57 : decode c_M_set 57 = .ok (.aload_n 0, 1) := by decide +kernel
theorem d_M_set_58 : decode c_M_set 58 = .ok (.getfield 86, 3) := by decide +kernel
theorem d_M_set_61 : decode c_M_set 61 = .ok (.iconst (-1), 1) := by decide +kernel
theorem d_M_set_62 : decode c_M_set 62 = .ok (.iastore, 1) := by decide +kernel
theorem d_M_set_63 : decode c_M_set 63 = .ok (.iconst 0, 1) := by decide +kernel
theorem d_M_set_64 : decode c_M_set 64 = .ok (.istore_n 2, 1) := by decide +kernel
theorem d_M_set_65 : decode c_M_set 65 = .ok (.iload_n 2, 1) := by decide +kernel
theorem d_M_set_66 : decode c_M_set 66 = .ok (.aload_n 0, 1) := by decide +kernel
theorem d_M_set_67 : decode c_M_set 67 = .ok (.getfield 67, 3) := by decide +kernel
theorem d_M_set_70 : decode c_M_set 70 = .ok (.if_icmp .ge 113, 3) := by decide +kernel
theorem d_M_set_73 : decode c_M_set 73 = .ok (.aload_n 0, 1) := by decide +kernel
theorem d_M_set_74 : decode c_M_set 74 = .ok (.getfield 7, 3) := by decide +kernel
theorem d_M_set_77 : decode c_M_set 77 = .ok (.iload_n 2, 1) := by decide +kernel
theorem d_M_set_78 : decode c_M_set 78 = .ok (.iaload, 1) := by decide +kernel
theorem d_M_set_79 : decode c_M_set 79 = .ok (.iload_n 1, 1) := by decide +kernel
theorem d_M_set_80 : decode c_M_set 80 = .ok (.if_icmp .ne 97, 3) := by decide +kernel
theorem d_M_set_83 : decode c_M_set 83 = .ok (.sipush 300, 3) := by decide +kernel
theorem d_M_set_86 : decode c_M_set 86 = .ok (.aload_n 0, 1) := by decide +kernel
theorem d_M_set_87 : decode c_M_set 87 = .ok (.getfield 86, 3) := by decide +kernel
theorem d_M_set_90 : decode c_M_set 90 = .ok (.imul, 1) := by decide +kernel
theorem d_M_set_91 : decode c_M_set 91 = .ok (.aload_n 0, 1) := by decide +kernel
theorem d_M_set_92 : decode c_M_set 92 = .ok (.getfield 29, 3) := by decide +kernel
theorem d_M_set_95 : decode c_M_set 95 = .ok (.aload_n 0, 1) := by decide +kernel
theorem d_M_set_96 : decode c_M_set 96 = .ok (.getfield 86, 3) := by decide +kernel
theorem d_M_set_99 : decode c_M_set 99 = .ok (.iaload, 1) := by decide +kernel
theorem d_M_set_100 : decode c_M_set 100 = .ok (.iadd, 1) := by decide +kernel
theorem d_M_set_101 : decode c_M_set 101 = .ok (.istore_n 3, 1) := by decide +kernel
theorem d_M_set_102 : decode c_M_set 102 = .ok (.iload_n 3, 1) := by decide +kernel
theorem d_M_set_103 : decode c_M_set 103 = .ok (.sipush 300, 3) := by decide +kernel
theorem d_M_set_106 : decode c_M_set 106 = .ok (.aload_n 0, 1) := by decide +kernel
theorem d_M_set_107 : decode c_M_set 107 = .ok (.getfield 86, 3) := by decide +kernel
theorem d_M_set_110 : decode c_M_set 110 = .ok (.imul, 1) := by decide +kernel
theorem d_M_set_111 : decode c_M_set 111 = .ok (.if_icmp .le 46, 3) := by decide +kernel
theorem d_M_set_114 : decode c_M_set 114 = .ok (.aload_n 0, 1) := by decide +kernel
theorem d_M_set_115 : decode c_M_set 115 = .ok (.getfield 13, 3) := by decide +kernel
theorem d_M_set_118 : decode c_M_set 118 = .ok (.aload_n 0, 1) := by decide +kernel
theorem d_M_set_119 : decode c_M_set 119 = .ok (.getfield 32, 3) := by decide +kernel
theorem d_M_set_122 : decode c_M_set 122 = .ok (.iload_n 3, 1) := by decide +kernel
theorem d_M_set_123 : decode c_M_set 123 = .ok (.iconst 1, 1) := by decide +kernel
theorem d_M_set_124 : decode c_M_set 124 = .ok (.isub, 1) := by decide +kernel
theorem d_M_set_125 : decode c_M_set 125 = .ok (.iaload, 1) := by decide +kernel
theorem d_M_set_126 : decode c_M_set 126 = .ok (.laload, 1) := by decide +kernel
theorem d_M_set_127 : decode c_M_set 127 = .ok (.aload_n 0, 1) := by decide +kernel
theorem d_M_set_128 : decode c_M_set 128 = .ok (.getfield 13, 3) := by decide +kernel
theorem d_M_set_131 : decode c_M_set 131 = .ok (.iload_n 2, 1) := by decide +kernel
theorem d_M_set_132 : decode c_M_set 132 = .ok (.laload, 1) := by decide +kernel
theorem d_M_set_133 : decode c_M_set 133 = .ok (.lcmp, 1) := by decide +kernel
theorem d_M_set_134 : decode c_M_set 134 = .ok (.ifCond .le 23, 3) := by decide +kernel
theorem d_M_set_137 : decode c_M_set 137 = .ok (.aload_n 0, 1) := by decide +kernel
theorem d_M_set_138 : decode c_M_set 138 = .ok (.getfield 32, 3) := by decide +kernel
theorem d_M_set_141 : decode c_M_set 141 = .ok (.iload_n 3, 1) := by decide +kernel
theorem d_M_set_142 : decode c_M_set 142 = .ok (.aload_n 0, 1) := by decide +kernel
theorem d_M_set_143 : decode c_M_set 143 = .ok (.getfield 32, 3) := by decide +kernel
theorem d_M_set_146 : decode c_M_set 146 = .ok (.iload_n 3, 1) := by decide +kernel
theorem d_M_set_147 : decode c_M_set 147 = .ok (.iconst 1, 1) := by decide +kernel
theorem d_M_set_148 : decode c_M_set 148 = .ok (.isub, 1) := by decide +kernel
theorem d_M_set_149 : decode c_M_set 149 = .ok (.iaload, 1) := by decide +kernel
theorem d_M_set_150 : decode c_M_set 150 = .ok (.iastore, 1) := by decide +kernel
theorem d_M_set_151 : decode c_M_set 151 = .ok (.iinc 3 (-1), 3) := by decide +kernel
theorem d_M_set_154 : decode c_M_set 154 = .ok (.goto (-52), 3) := by decide +kernel
theorem d_M_set_157 : decode c_M_set 157 = .ok (.aload_n 0, 1) := by decide +kernel
theorem d_M_set_158 : decode c_M_set 158 = .ok (.getfield 32, 3) := by decide +kernel
theorem d_M_set_161 : decode c_M_set 161 = .ok (.iload_n 3, 1) := by decide +kernel
theorem d_M_set_162 : decode c_M_set 162 = .ok (.iload_n 2, 1) := by decide +kernel
theorem d_M_set_163 : decode c_M_set 163 = .ok (.iastore, 1) := by decide +kernel
theorem d_M_set_164 : decode c_M_set 164 = .ok (.aload_n 0, 1) := by decide +kernel
theorem d_M_set_165 : decode c_M_set 165 = .ok (.getfield 29, 3) := by decide +kernel
theorem d_M_set_168 : decode c_M_set 168 = .ok (.aload_n 0, 1) := by decide +kernel
theorem d_M_set_169 : decode c_M_set 169 = .ok (.getfield 86, 3) := by decide +kernel
theorem d_M_set_172 : decode c_M_set 172 = .ok (.dup2, 1) := by decide +kernel
theorem d_M_set_173 : decode c_M_set 173 = .ok (.iaload, 1) := by decide +kernel
theorem d_M_set_174 : decode c_M_set 174 = .ok (.iconst 1, 1) := by decide +kernel
theorem d_M_set_175 : decode c_M_set 175 = .ok (.iadd, 1) := by decide +kernel
theorem d_M_set_176 : decode c_M_set 176 = .ok (.iastore, 1) := by decide +kernel
theorem d_M_set_177 : decode c_M_set 177 = .ok (.iinc 2 1, 3) := by decide +kernel
theorem d_M_set_180 : decode c_M_set 180 = .ok (.goto (-115), 3) := by decide +kernel
theorem d_M_set_183 : decode c_M_set 183 = .ok (.aload_n 0, 1) := by decide +kernel
theorem d_M_set_184 : decode c_M_set 184 = .ok (.dup, 1) := by decide +kernel
theorem d_M_set_185 : decode c_M_set 185 = .ok (.getfield 86, 3) := by decide +kernel
theorem d_M_set_188 : decode c_M_set 188 = .ok (.iconst 1, 1) := by decide +kernel
theorem d_M_set_189 : decode c_M_set 189 = .ok (.iadd, 1) := by decide +kernel
theorem d_M_set_190 : decode c_M_set 190 = .ok (.putfield 86, 3) := by decide +kernel
theorem d_M_set_193 : decode c_M_set 193 = .ok (.aload_n 0, 1) := by decide +kernel
theorem d_M_set_194 : decode c_M_set 194 = .ok (.getfield 86, 3) := by decide +kernel
theorem d_M_set_197 : decode c_M_set 197 = .ok (.iconst 1, 1) := by decide +kernel
theorem d_M_set_198 : decode c_M_set 198 = .ok (.isub, 1) := by decide +kernel
theorem d_M_set_199 : decode c_M_set 199 = .ok (.ireturn, 1) := by decide +kernel
theorem d_M_isSet_0 : decode c_M_isSet 0 = .ok (.iload_n 1, 1) := by decide +kernel
theorem d_M_isSet_1 : decode c_M_isSet 1 = .ok (.ifCond .lt 15, 3) := by decide +kernel
theorem d_M_isSet_4 : decode c_M_isSet 4 = .ok (.iload_n 1, 1) := by decide +kernel
theorem d_M_isSet_5 : decode c_M_isSet 5 = .ok (.aload_n 0, 1) := by decide +kernel
theorem d_M_isSet_6 : decode c_M_isSet 6 = .ok (.getfield 86, 3) := by decide +kernel
theorem d_M_isSet_9 : decode c_M_isSet 9 = .ok (.if_icmp .ge 7, 3) := by decide +kernel
theorem d_M_isSet_12 : decode c_M_isSet 12 = .ok (.iconst 1, 1) := by decide +kernel
theorem d_M_isSet_13 : decode c_M_isSet 13 = .ok (.goto 4, 3) := by decide +kernel
theorem d_M_isSet_16 : decode c_M_isSet 16 = .ok (.iconst 0, 1) := by decide +kernel
theorem d_M_isSet_17 : decode c_M_isSet 17 = .ok (.ireturn, 1) := by decide +kernel
theorem d_M_join_0 : decode c_M_join 0 = .ok (.aload_n 0, 1) := by decide +kernel
theorem d_M_join_1 : decode c_M_join 1 = .ok (.aload_n 0, 1) := by decide +kernel
theorem d_M_join_2 : decode c_M_join 2 = .ok (.iload_n 1, 1) := by decide +kernel
theorem d_M_join_3 : decode c_M_join 3 = .ok (.invokevirtual 89, 3) := by decide +kernel
theorem d_M_join_6 : decode c_M_join 6 = .ok (.ifCond .eq 15, 3) := by decide +kernel
theorem d_M_join_9 : decode c_M_join 9 = .ok (.aload_n 0, 1) := by decide +kernel
theorem d_M_join_10 : decode c_M_join 10 = .ok (.iload_n 2, 1) := by decide +kernel
theorem d_M_join_11 : decode c_M_join 11 = .ok (.invokevirtual 89, 3) := by decide +kernel
theorem d_M_join_14 : decode c_M_join 14 = .ok (.ifCond .eq 7, 3) := by decide +kernel
theorem d_M_join_17 : decode c_M_join 17 = .ok (.iconst 0, 1) := by decide +kernel
theorem d_M_join_18 : decode c_M_join 18 = .ok (.goto 4, 3) := by decide +kernel
theorem d_M_join_21 : decode c_M_join 21 = .ok (.iconst 1, 1) := by decide +kernel
theorem d_M_join_22 : decode c_M_join 22 = .ok (.putfield 64, 3) := by decide +kernel
theorem d_M_join_25 : decode c_M_join 25 = .ok (.iconst 0, 1) := by decide +kernel
theorem d_M_join_26 : decode c_M_join 26 = .ok (.istore_n 3, 1) := by decide +kernel
theorem d_M_join_27 : decode c_M_join 27 = .ok (.iconst 0, 1) := by decide +kernel
theorem d_M_join_28 : decode c_M_join 28 = .ok (.istore 4, 2) := by decide +kernel
theorem d_M_join_30 : decode c_M_join 30 = .ok (.aload_n 0, 1) := by decide +kernel
theorem d_M_join_31 : decode c_M_join 31 = .ok (.getfield 64, 3) := by decide +kernel
theorem d_M_join_34 : decode c_M_join 34 = .ok (.ifCond .ne 62, 3) := by decide +kernel
theorem d_M_join_37 : decode c_M_join 37 = .ok (.iload 4, 2) := by decide +kernel
theorem d_M_join_39 : decode c_M_join 39 = .ok (.aload_n 0, 1) := by decide +kernel
theorem d_M_join_40 : decode c_M_join 40 = .ok (.getfield 29, 3) := by decide +kernel
theorem d_M_join_43 : decode c_M_join 43 = .ok (.iload_n 2, 1) := by decide +kernel
theorem d_M_join_44 : decode c_M_join 44 = .ok (.iaload, 1) := by decide +kernel
theorem d_M_join_45 : decode c_M_join 45 = .ok (.if_icmp .ge 51, 3) := by decide +kernel
theorem d_M_join_48 : decode c_M_join 48 = .ok (.aload_n 0, 1) := by decide +kernel
theorem d_M_join_49 : decode c_M_join 49 = .ok (.iload_n 1, 1) := by decide +kernel
theorem d_M_join_50 : decode c_M_join 50 = .ok (.aload_n 0, 1) := by decide +kernel
theorem d_M_join_51 : decode c_M_join 51 = .ok (.getfield 32, 3) := by decide +kernel
theorem d_M_join_54 : decode c_M_join 54 = .ok (.sipush 300, 3) := by decide +kernel
theorem d_M_join_57 : decode c_M_join 57 = .ok (.iload_n 2, 1) := by decide +kernel
theorem d_M_join_58 : decode c_M_join 58 = .ok (.imul, 1) := by decide +kernel
theorem d_M_join_59 : decode c_M_join 59 = .ok (.iload 4, 2) := by decide +kernel
theorem d_M_join_61 : decode c_M_join 61 = .ok (.iadd, 1) := by decide +kernel
theorem d_M_join_62 : decode c_M_join 62 = .ok (.iaload, 1) := by decide +kernel
theorem d_M_join_63 : decode c_M_join 63 = .ok (.invokevirtual 92, 3) := by decide +kernel
theorem d_M_join_66 : decode c_M_join 66 = .ok (.ifCond .ne 24, 3) := by decide +kernel
theorem d_M_join_69 : decode c_M_join 69 = .ok (.aload_n 0, 1) := by decide +kernel
theorem d_M_join_70 : decode c_M_join 70 = .ok (.iload_n 1, 1) := by decide +kernel
theorem d_M_join_71 : decode c_M_join 71 = .ok (.aload_n 0, 1) := by decide +kernel
theorem d_M_join_72 : decode c_M_join 72 = .ok (.getfield 32, 3) := by decide +kernel
theorem d_M_join_75 : decode c_M_join 75 = .ok (.sipush 300, 3) := by decide +kernel
theorem d_M_join_78 : decode c_M_join 78 = .ok (.iload_n 2, 1) := by decide +kernel
theorem d_M_join_79 : decode c_M_join 79 = .ok (.imul, 1) := by decide +kernel
theorem d_M_join_80 : decode c_M_join 80 = .ok (.iload 4, 2) := by decide +kernel
theorem d_M_join_82 : decode c_M_join 82 = .ok (.iadd, 1) := by decide +kernel
theorem d_M_join_83 : decode c_M_join 83 = .ok (.iaload, 1) := by decide +kernel
theorem d_M_join_84 : decode c_M_join 84 = .ok (.invokevirtual 96, 3) := by decide +kernel
theorem d_M_join_87 : decode c_M_join 87 = .ok (.iinc 3 1, 3) := by decide +kernel
theorem d_M_join_90 : decode c_M_join 90 = .ok (.iinc 4 1, 3) := by decide +kernel
theorem d_M_join_93 : decode c_M_join 93 = .ok (.goto (-63), 3) := by decide +kernel
theorem d_M_join_96 : decode c_M_join 96 = .ok (.iload_n 3, 1) := by decide +kernel
theorem d_M_join_97 : decode c_M_join 97 = .ok (.ireturn, 1) := by decide +kernel
theorem d_M_equal_0 : decode c_M_equal 0 = .ok (.aload_n 0, 1) := by decide +kernel
theorem d_M_equal_1 : decode c_M_equal 1 = .ok (.aload_n 0, 1) := by decide +kernel
theorem d_M_equal_2 : decode c_M_equal 2 = .ok (.iload_n 1, 1) := by decide +kernel
theorem d_M_equal_3 : decode c_M_equal 3 = .ok (.invokevirtual 89, 3) := by decide +kernel
theorem d_M_equal_6 : decode c_M_equal 6 = .ok (.ifCond .eq 15, 3) := by decide +kernel
theorem d_M_equal_9 : decode c_M_equal 9 = .ok (.aload_n 0, 1) := by decide +kernel
theorem d_M_equal_10 : decode c_M_equal 10 = .ok (.iload_n 2, 1) := by decide +kernel
theorem d_M_equal_11 : decode c_M_equal 11 = .ok (.invokevirtual 89, 3) := by decide +kernel
theorem d_M_equal_14 : decode c_M_equal 14 = .ok (.ifCond .eq 7, 3) := by decide +kernel
theorem d_M_equal_17 : decode c_M_equal 17 = .ok (.iconst 0, 1) := by decide +kernel
theorem d_M_equal_18 : decode c_M_equal 18 = .ok (.goto 4, 3) := by decide +kernel
theorem d_M_equal_21 : decode c_M_equal 21 = .ok (.iconst 1, 1) := by decide +kernel
theorem d_M_equal_22 : decode c_M_equal 22 = .ok (.putfield 64, 3) := by decide +kernel
theorem d_M_equal_25 : decode c_M_equal 25 = .ok (.aload_n 0, 1) := by decide +kernel
theorem d_M_equal_26 : decode c_M_equal 26 = .ok (.getfield 64, 3) := by decide +kernel
theorem d_M_equal_29 : decode c_M_equal 29 = .ok (.ifCond .ne 22, 3) := by decide +kernel
theorem d_M_equal_32 : decode c_M_equal 32 = .ok (.aload_n 0, 1) := by decide +kernel
theorem d_M_equal_33 : decode c_M_equal 33 = .ok (.getfield 29, 3) := by decide +kernel
theorem d_M_equal_36 : decode c_M_equal 36 = .ok (.iload_n 1, 1) := by decide +kernel
theorem d_M_equal_37 : decode c_M_equal 37 = .ok (.iaload, 1) := by decide +kernel
theorem d_M_equal_38 : decode c_M_equal 38 = .ok (.aload_n 0, 1) := by decide +kernel
theorem d_M_equal_39 : decode c_M_equal 39 = .ok (.getfield 29, 3) := by decide +kernel
theorem d_M_equal_42 : decode c_M_equal 42 = .ok (.iload_n 2, 1) := by decide +kernel
theorem d_M_equal_43 : decode c_M_equal 43 = .ok (.iaload, 1) := by decide +kernel
theorem d_M_equal_44 : decode c_M_equal 44 = .ok (.if_icmp .ne 7, 3) := by decide +kernel
theorem d_M_equal_47 : decode c_M_equal 47 = .ok (.iconst 1, 1) := by decide +kernel
theorem d_M_equal_48 : decode c_M_equal 48 = .ok (.goto 4, 3) := by decide +kernel
theorem d_M_equal_51 : decode c_M_equal 51 = .ok (.iconst 0, 1) := by decide +kernel
theorem d_M_equal_52 : decode c_M_equal 52 = .ok (.istore_n 3, 1) := by decide +kernel
theorem d_M_equal_53 : decode c_M_equal 53 = .ok (.iconst 0, 1) := by decide +kernel
theorem d_M_equal_54 : decode c_M_equal 54 = .ok (.istore 4, 2) := by decide +kernel
theorem d_M_equal_56 : decode c_M_equal 56 = .ok (.iload_n 3, 1) := by decide +kernel
theorem d_M_equal_57 : decode c_M_equal 57 = .ok (.ifCond .eq 39, 3) := by decide +kernel
theorem d_M_equal_60 : decode c_M_equal 60 = .ok (.iload 4, 2) := by decide +kernel
theorem d_M_equal_62 : decode c_M_equal 62 = .ok (.aload_n 0, 1) := by decide +kernel
theorem d_M_equal_63 : decode c_M_equal 63 = .ok (.getfield 29, 3) := by decide +kernel
theorem d_M_equal_66 : decode c_M_equal 66 = .ok (.iload_n 2, 1) := by decide +kernel
theorem d_M_equal_67 : decode c_M_equal 67 = .ok (.iaload, 1) := by decide +kernel
theorem d_M_equal_68 : decode c_M_equal 68 = .ok (.if_icmp .ge 28, 3) := by decide +kernel
theorem d_M_equal_71 : decode c_M_equal 71 = .ok (.aload_n 0, 1) := by decide +kernel
theorem d_M_equal_72 : decode c_M_equal 72 = .ok (.iload_n 1, 1) := by decide +kernel
theorem d_M_equal_73 : decode c_M_equal 73 = .ok (.aload_n 0, 1) := by decide +kernel
theorem d_M_equal_74 : decode c_M_equal 74 = .ok (.getfield 32, 3) := by decide +kernel
theorem d_M_equal_77 : decode c_M_equal 77 = .ok (.sipush 300, 3) := by decide +kernel
theorem d_M_equal_80 : decode c_M_equal 80 = .ok (.iload_n 2, 1) := by decide +kernel
theorem d_M_equal_81 : decode c_M_equal 81 = .ok (.imul, 1) := by decide +kernel
theorem d_M_equal_82 : decode c_M_equal 82 = .ok (.iload 4, 2) := by decide +kernel
theorem d_M_equal_84 : decode c_M_equal 84 = .ok (.iadd, 1) := by decide +kernel
theorem d_M_equal_85 : decode c_M_equal 85 = .ok (.iaload, 1) := by decide +kernel
theorem d_M_equal_86 : decode c_M_equal 86 = .ok (.invokevirtual 92, 3) := by decide +kernel
theorem d_M_equal_89 : decode c_M_equal 89 = .ok (.istore_n 3, 1) := by decide +kernel
theorem d_M_equal_90 : decode c_M_equal 90 = .ok (.iinc 4 1, 3) := by decide +kernel
theorem d_M_equal_93 : decode c_M_equal 93 = .ok (.goto (-37), 3) := by decide +kernel
theorem d_M_equal_96 : decode c_M_equal 96 = .ok (.iload_n 3, 1) := by decide +kernel
theorem d_M_equal_97 : decode c_M_equal 97 = .ok (.ireturn, 1) := by decide +kernel
theorem d_M_isAfter_0 : decode c_M_isAfter 0 = .ok (.lload_n 0, 1) := by decide +kernel
theorem d_M_isAfter_1 : decode c_M_isAfter 1 = .ok (.lload_n 2, 1) := by decide +kernel
theorem d_M_isAfter_2 : decode c_M_isAfter 2 = .ok (.lcmp, 1) := by decide +kernel
theorem d_M_isAfter_3 : decode c_M_isAfter 3 = .ok (.ifCond .le 7, 3) := by decide +kernel
theorem d_M_isAfter_6 : decode c_M_isAfter 6 = .ok (.iconst 1, 1) := by decide +kernel
theorem d_M_isAfter_7 : decode c_M_isAfter 7 = .ok (.goto 4, 3) := by decide +kernel
theorem d_M_isAfter_10 : decode c_M_isAfter 10 = .ok (.iconst 0, 1) := by decide +kernel
theorem d_M_isAfter_11 : decode c_M_isAfter 11 = .ok (.ireturn, 1) := by decide +kernel
theorem d_M_later_0 : decode c_M_later 0 = .ok (.iload_n 1, 1) := by decide +kernel
theorem d_M_later_1 : decode c_M_later 1 = .ok (.ifCond .lt 7, 3) := by decide +kernel
theorem d_M_later_4 : decode c_M_later 4 = .ok (.iload_n 2, 1) := by decide +kernel
theorem d_M_later_5 : decode c_M_later 5 = .ok (.ifCond .ge 13, 3) := by decide +kernel
theorem d_M_later_8 : decode c_M_later 8 = .ok (.iload_n 1, 1) := by decide +kernel
theorem d_M_later_9 : decode c_M_later 9 = .ok (.ifCond .ge 7, 3) := by decide +kernel
theorem d_M_later_12 : decode c_M_later 12 = .ok (.iload_n 2, 1) := by decide +kernel
theorem d_M_later_13 : decode c_M_later 13 = .ok (.goto 4, 3) := by decide +kernel
theorem d_M_later_16 : decode c_M_later 16 = .ok (.iload_n 1, 1) := by decide +kernel
theorem d_M_later_17 : decode c_M_later 17 = .ok (.ireturn, 1) := by decide +kernel
theorem d_M_later_18 : decode c_M_later 18 = .ok (.aload_n 0, 1) := by decide +kernel
theorem d_M_later_19 : decode c_M_later 19 = .ok (.getfield 26, 3) := by decide +kernel
theorem d_M_later_22 : decode c_M_later 22 = .ok (.iload_n 1, 1) := by decide +kernel
theorem d_M_later_23 : decode c_M_later 23 = .ok (.laload, 1) := by decide +kernel
theorem d_M_later_24 : decode c_M_later 24 = .ok (.aload_n 0, 1) := by decide +kernel
theorem d_M_later_25 : decode c_M_later 25 = .ok (.getfield 26, 3) := by decide +kernel
theorem d_M_later_28 : decode c_M_later 28 = .ok (.iload_n 2, 1) := by decide +kernel
theorem d_M_later_29 : decode c_M_later 29 = .ok (.laload, 1) := by decide +kernel
theorem d_M_later_30 : decode c_M_later 30 = .ok (.lcmp, 1) := by decide +kernel
theorem d_M_later_31 : decode c_M_later 31 = .ok (.ifCond .eq 27, 3) := by decide +kernel
theorem d_M_later_34 : decode c_M_later 34 = .ok (.aload_n 0, 1) := by decide +kernel
theorem d_M_later_35 : decode c_M_later 35 = .ok (.getfield 26, 3) := by decide +kernel
theorem d_M_later_38 : decode c_M_later 38 = .ok (.iload_n 1, 1) := by decide +kernel
theorem d_M_later_39 : decode c_M_later 39 = .ok (.laload, 1) := by decide +kernel
theorem d_M_later_40 : decode c_M_later 40 = .ok (.aload_n 0, 1) := by decide +kernel
theorem d_M_later_41 : decode c_M_later 41 = .ok (.getfield 26, 3) := by decide +kernel
theorem d_M_later_44 : decode c_M_later 44 = .ok (.iload_n 2, 1) := by decide +kernel
theorem d_M_later_45 : decode c_M_later 45 = .ok (.laload, 1) := by decide +kernel
theorem d_M_later_46 : decode c_M_later 46 = .ok (.invokestatic 100, 3) := by decide +kernel
theorem d_M_later_49 : decode c_M_later 49 = .ok (.ifCond .eq 7, 3) := by decide +kernel
theorem d_M_later_52 : decode c_M_later 52 = .ok (.iload_n 1, 1) := by decide +kernel
theorem d_M_later_53 : decode c_M_later 53 = .ok (.goto 4, 3) := by decide +kernel
theorem d_M_later_56 : decode c_M_later 56 = .ok (.iload_n 2, 1) := by decide +kernel
theorem d_M_later_57 : decode c_M_later 57 = .ok (.ireturn, 1) := by decide +kernel
theorem d_M_later_58 : decode c_M_later 58 = .ok (.aload_n 0, 1) := by decide +kernel
theorem d_M_later_59 : decode c_M_later 59 = .ok (.getfield 7, 3) := by decide +kernel
theorem d_M_later_62 : decode c_M_later 62 = .ok (.iload_n 1, 1) := by decide +kernel
theorem d_M_later_63 : decode c_M_later 63 = .ok (.iaload, 1) := by decide +kernel
theorem d_M_later_64 : decode c_M_later 64 = .ok (.aload_n 0, 1) := by decide +kernel
theorem d_M_later_65 : decode c_M_later 65 = .ok (.getfield 7, 3) := by decide +kernel
theorem d_M_later_68 : decode c_M_later 68 = .ok (.iload_n 2, 1) := by decide +kernel
theorem d_M_later_69 : decode c_M_later 69 = .ok (.iaload, 1) := by decide +kernel
theorem d_M_later_70 : decode c_M_later 70 = .ok (.if_icmp .eq 24, 3) := by decide +kernel
theorem d_M_later_73 : decode c_M_later 73 = .ok (.aload_n 0, 1) := by decide +kernel
theorem d_M_later_74 : decode c_M_later 74 = .ok (.getfield 7, 3) := by decide +kernel
theorem d_M_later_77 : decode c_M_later 77 = .ok (.iload_n 1, 1) := by decide +kernel
theorem d_M_later_78 : decode c_M_later 78 = .ok (.iaload, 1) := by decide +kernel
theorem d_M_later_79 : decode c_M_later 79 = .ok (.aload_n 0, 1) := by decide +kernel
theorem d_M_later_80 : decode c_M_later 80 = .ok (.getfield 7, 3) := by decide +kernel
theorem d_M_later_83 : decode c_M_later 83 = .ok (.iload_n 2, 1) := by decide +kernel
theorem d_M_later_84 : decode c_M_later 84 = .ok (.iaload, 1) := by decide +kernel
theorem d_M_later_85 : decode c_M_later 85 = .ok (.if_icmp .le 7, 3) := by decide +kernel
theorem d_M_later_88 : decode c_M_later 88 = .ok (.iload_n 1, 1) := by decide +kernel
theorem d_M_later_89 : decode c_M_later 89 = .ok (.goto 4, 3) := by decide +kernel
theorem d_M_later_92 : decode c_M_later 92 = .ok (.iload_n 2, 1) := by decide +kernel
theorem d_M_later_93 : decode c_M_later 93 = .ok (.ireturn, 1) := by decide +kernel
theorem d_M_later_94 : decode c_M_later 94 = .ok (.aload_n 0, 1) := by decide +kernel
theorem d_M_later_95 : decode c_M_later 95 = .ok (.getfield 13, 3) := by decide +kernel
theorem d_M_later_98 : decode c_M_later 98 = .ok (.iload_n 1, 1) := by decide +kernel
theorem d_M_later_99 : decode c_M_later 99 = .ok (.laload, 1) := by decide +kernel
theorem d_M_later_100 : decode c_M_later 100 = .ok (.aload_n 0, 1) := by decide +kernel
theorem d_M_later_101 : decode c_M_later 101 = .ok (.getfield 13, 3) := by decide +kernel
theorem d_M_later_104 : decode c_M_later 104 = .ok (.iload_n 2, 1) := by decide +kernel
theorem d_M_later_105 : decode c_M_later 105 = .ok (.laload, 1) := by decide +kernel
theorem d_M_later_106 : decode c_M_later 106 = .ok (.invokestatic 100, 3) := by decide +kernel
theorem d_M_later_109 : decode c_M_later 109 = .ok (.ifCond .eq 7, 3) := by decide +kernel
theorem d_M_later_112 : decode c_M_later 112 = .ok (.iload_n 1, 1) := by decide +kernel
theorem d_M_later_113 : decode c_M_later 113 = .ok (.goto 4, 3) := by decide +kernel
theorem d_M_later_116 : decode c_M_later 116 = .ok (.iload_n 2, 1) := by decide +kernel
theorem d_M_later_117 : decode c_M_later 117 = .ok (.ireturn, 1) := by decide +kernel
theorem d_M_speaks_0 : decode c_M_speaks 0 = .ok (.aload_n 0, 1) := by decide +kernel
theorem d_M_speaks_1 : decode c_M_speaks 1 = .ok (.getfield 17, 3) := by decide +kernel
theorem d_M_speaks_4 : decode c_M_speaks 4 = .ok (.iload_n 1, 1) := by decide +kernel
theorem d_M_speaks_5 : decode c_M_speaks 5 = .ok (.iaload, 1) := by decide +kernel
theorem d_M_speaks_6 : decode c_M_speaks 6 = .ok (.iload_n 2, 1) := by decide +kernel
theorem d_M_speaks_7 : decode c_M_speaks 7 = .ok (.if_icmp .ne 29, 3) := by decide +kernel
theorem d_M_speaks_10 : decode c_M_speaks 10 = .ok (.aload_n 0, 1) := by decide +kernel
theorem d_M_speaks_11 : decode c_M_speaks 11 = .ok (.getfield 20, 3) := by decide +kernel
theorem d_M_speaks_14 : decode c_M_speaks 14 = .ok (.iload_n 1, 1) := by decide +kernel
theorem d_M_speaks_15 : decode c_M_speaks 15 = .ok (.iaload, 1) := by decide +kernel
theorem d_M_speaks_16 : decode c_M_speaks 16 = .ok (.iload_n 3, 1) := by decide +kernel
theorem d_M_speaks_17 : decode c_M_speaks 17 = .ok (.if_icmp .ne 19, 3) := by decide +kernel
theorem d_M_speaks_20 : decode c_M_speaks 20 = .ok (.aload_n 0, 1) := by decide +kernel
theorem d_M_speaks_21 : decode c_M_speaks 21 = .ok (.getfield 26, 3) := by decide +kernel
theorem d_M_speaks_24 : decode c_M_speaks 24 = .ok (.iload_n 1, 1) := by decide +kernel
theorem d_M_speaks_25 : decode c_M_speaks 25 = .ok (.laload, 1) := by decide +kernel
theorem d_M_speaks_26 : decode c_M_speaks 26 = .ok (.lload 4, 2) := by decide +kernel
theorem d_M_speaks_28 : decode c_M_speaks 28 = .ok (.lcmp, 1) := by decide +kernel
theorem d_M_speaks_29 : decode c_M_speaks 29 = .ok (.ifCond .gt 7, 3) := by decide +kernel
theorem d_M_speaks_32 : decode c_M_speaks 32 = .ok (.iconst 1, 1) := by decide +kernel
theorem d_M_speaks_33 : decode c_M_speaks 33 = .ok (.goto 4, 3) := by decide +kernel
theorem d_M_speaks_36 : decode c_M_speaks 36 = .ok (.iconst 0, 1) := by decide +kernel
theorem d_M_speaks_37 : decode c_M_speaks 37 = .ok (.ireturn, 1) := by decide +kernel
theorem d_M_latest_0 : decode c_M_latest 0 = .ok (.iconst (-1), 1) := by decide +kernel
theorem d_M_latest_1 : decode c_M_latest 1 = .ok (.istore 7, 2) := by decide +kernel
theorem d_M_latest_3 : decode c_M_latest 3 = .ok (.iconst 0, 1) := by decide +kernel
theorem d_M_latest_4 : decode c_M_latest 4 = .ok (.istore 8, 2) := by decide +kernel
theorem d_M_latest_6 : decode c_M_latest 6 = .ok (.iload 8, 2) := by decide +kernel
theorem d_M_latest_8 : decode c_M_latest 8 = .ok (.iload_n 2, 1) := by decide +kernel
theorem d_M_latest_9 : decode c_M_latest 9 = .ok (.if_icmp .ge 53, 3) := by decide +kernel
theorem d_M_latest_12 : decode c_M_latest 12 = .ok (.aload_n 0, 1) := by decide +kernel
theorem d_M_latest_13 : decode c_M_latest 13 = .ok (.getfield 32, 3) := by decide +kernel
theorem d_M_latest_16 : decode c_M_latest 16 = .ok (.sipush 300, 3) := by decide +kernel
theorem d_M_latest_19 : decode c_M_latest 19 = .ok (.iload_n 1, 1) := by decide +kernel
theorem d_M_latest_20 : decode c_M_latest 20 = .ok (.imul, 1) := by decide +kernel
theorem d_M_latest_21 : decode c_M_latest 21 = .ok (.iload 8, 2) := by decide +kernel
theorem d_M_latest_23 : decode c_M_latest 23 = .ok (.iadd, 1) := by decide +kernel
theorem d_M_latest_24 : decode c_M_latest 24 = .ok (.iaload, 1) := by decide +kernel
theorem d_M_latest_25 : decode c_M_latest 25 = .ok (.istore 9, 2) := by decide +kernel
theorem d_M_latest_27 : decode c_M_latest 27 = .ok (.aload_n 0, 1) := by decide +kernel
theorem d_M_latest_28 : decode c_M_latest 28 = .ok (.iload 9, 2) := by decide +kernel
theorem d_M_latest_30 : decode c_M_latest 30 = .ok (.iload_n 3, 1) := by decide +kernel
theorem d_M_latest_31 : decode c_M_latest 31 = .ok (.iload 4, 2) := by decide +kernel
theorem d_M_latest_33 : decode c_M_latest 33 = .ok (.lload 5, 2) := by decide +kernel
theorem d_M_latest_35 : decode c_M_latest 35 = .ok (.invokevirtual 104, 3) := by decide +kernel
theorem d_M_latest_38 : decode c_M_latest 38 = .ok (.ifCond .eq 14, 3) := by decide +kernel
theorem d_M_latest_41 : decode c_M_latest 41 = .ok (.aload_n 0, 1) := by decide +kernel
theorem d_M_latest_42 : decode c_M_latest 42 = .ok (.iload 7, 2) := by decide +kernel
theorem d_M_latest_44 : decode c_M_latest 44 = .ok (.iload 9, 2) := by decide +kernel
theorem d_M_latest_46 : decode c_M_latest 46 = .ok (.invokevirtual 108, 3) := by decide +kernel
theorem d_M_latest_49 : decode c_M_latest 49 = .ok (.goto 5, 3) := by decide +kernel
theorem d_M_latest_52 : decode c_M_latest 52 = .ok (.iload 7, 2) := by decide +kernel
theorem d_M_latest_54 : decode c_M_latest 54 = .ok (.istore 7, 2) := by decide +kernel
theorem d_M_latest_56 : decode c_M_latest 56 = .ok (.iinc 8 1, 3) := by decide +kernel
theorem d_M_latest_59 : decode c_M_latest 59 = .ok (.goto (-53), 3) := by decide +kernel
theorem d_M_latest_62 : decode c_M_latest 62 = .ok (.iload 7, 2) := by decide +kernel
theorem d_M_latest_64 : decode c_M_latest 64 = .ok (.ireturn, 1) := by decide +kernel
theorem d_M_isSettled_0 : decode c_M_isSettled 0 = .ok (.aload_n 0, 1) := by decide +kernel
theorem d_M_isSettled_1 : decode c_M_isSettled 1 = .ok (.iload_n 1, 1) := by decide +kernel
theorem d_M_isSettled_2 : decode c_M_isSettled 2 = .ok (.iload_n 2, 1) := by decide +kernel
theorem d_M_isSettled_3 : decode c_M_isSettled 3 = .ok (.iload_n 3, 1) := by decide +kernel
theorem d_M_isSettled_4 : decode c_M_isSettled 4 = .ok (.iconst 3, 1) := by decide +kernel
theorem d_M_isSettled_5 : decode c_M_isSettled 5 = .ok (.lload 4, 2) := by decide +kernel
theorem d_M_isSettled_7 : decode c_M_isSettled 7 = .ok (.invokevirtual 112, 3) := by decide +kernel
theorem d_M_isSettled_10 : decode c_M_isSettled 10 = .ok (.istore 6, 2) := by decide +kernel
theorem d_M_isSettled_12 : decode c_M_isSettled 12 = .ok (.iload 6, 2) := by decide +kernel
theorem d_M_isSettled_14 : decode c_M_isSettled 14 = .ok (.ifCond .lt 7, 3) := by decide +kernel
theorem d_M_isSettled_17 : decode c_M_isSettled 17 = .ok (.iconst 1, 1) := by decide +kernel
theorem d_M_isSettled_18 : decode c_M_isSettled 18 = .ok (.goto 4, 3) := by decide +kernel
theorem d_M_isSettled_21 : decode c_M_isSettled 21 = .ok (.iconst 0, 1) := by decide +kernel
theorem d_M_isSettled_22 : decode c_M_isSettled 22 = .ok (.istore 7, 2) := by decide +kernel
theorem d_M_isSettled_24 : decode c_M_isSettled 24 = .ok (.iconst 0, 1) := by decide +kernel
theorem d_M_isSettled_25 : decode c_M_isSettled 25 = .ok (.istore 8, 2) := by decide +kernel
theorem d_M_isSettled_27 : decode c_M_isSettled 27 = .ok (.iload 8, 2) := by decide +kernel
theorem d_M_isSettled_29 : decode c_M_isSettled 29 = .ok (.iload_n 2, 1) := by decide +kernel
theorem d_M_isSettled_30 : decode c_M_isSettled 30 = .ok (.if_icmp .ge 67, 3) := by decide +kernel
theorem d_M_isSettled_33 : decode c_M_isSettled 33 = .ok (.aload_n 0, 1) := by decide +kernel
theorem d_M_isSettled_34 : decode c_M_isSettled 34 = .ok (.getfield 32, 3) := by decide +kernel
theorem d_M_isSettled_37 : decode c_M_isSettled 37 = .ok (.sipush 300, 3) := by decide +kernel
theorem d_M_isSettled_40 : decode c_M_isSettled 40 = .ok (.iload_n 1, 1) := by decide +kernel
theorem d_M_isSettled_41 : decode c_M_isSettled 41 = .ok (.imul, 1) := by decide +kernel
theorem d_M_isSettled_42 : decode c_M_isSettled 42 = .ok (.iload 8, 2) := by decide +kernel
theorem d_M_isSettled_44 : decode c_M_isSettled 44 = .ok (.iadd, 1) := by decide +kernel
theorem d_M_isSettled_45 : decode c_M_isSettled 45 = .ok (.iaload, 1) := by decide +kernel
theorem d_M_isSettled_46 : decode c_M_isSettled 46 = .ok (.istore 9, 2) := by decide +kernel
theorem d_M_isSettled_48 : decode c_M_isSettled 48 = .ok (.iload 7, 2) := by decide +kernel
theorem d_M_isSettled_50 : decode c_M_isSettled 50 = .ok (.ifCond .eq 38, 3) := by decide +kernel
theorem d_M_isSettled_53 : decode c_M_isSettled 53 = .ok (.aload_n 0, 1) := by decide +kernel
theorem d_M_isSettled_54 : decode c_M_isSettled 54 = .ok (.iload 9, 2) := by decide +kernel
theorem d_M_isSettled_56 : decode c_M_isSettled 56 = .ok (.iload_n 3, 1) := by decide +kernel
theorem d_M_isSettled_57 : decode c_M_isSettled 57 = .ok (.iconst 2, 1) := by decide +kernel
theorem d_M_isSettled_58 : decode c_M_isSettled 58 = .ok (.lload 4, 2) := by decide +kernel
theorem d_M_isSettled_60 : decode c_M_isSettled 60 = .ok (.invokevirtual 104, 3) := by decide +kernel
theorem d_M_isSettled_63 : decode c_M_isSettled 63 = .ok (.ifCond .eq 21, 3) := by decide +kernel
theorem d_M_isSettled_66 : decode c_M_isSettled 66 = .ok (.aload_n 0, 1) := by decide +kernel
theorem d_M_isSettled_67 : decode c_M_isSettled 67 = .ok (.getfield 26, 3) := by decide +kernel
theorem d_M_isSettled_70 : decode c_M_isSettled 70 = .ok (.iload 6, 2) := by decide +kernel
theorem d_M_isSettled_72 : decode c_M_isSettled 72 = .ok (.laload, 1) := by decide +kernel
theorem d_M_isSettled_73 : decode c_M_isSettled 73 = .ok (.aload_n 0, 1) := by decide +kernel
theorem d_M_isSettled_74 : decode c_M_isSettled 74 = .ok (.getfield 26, 3) := by decide +kernel
theorem d_M_isSettled_77 : decode c_M_isSettled 77 = .ok (.iload 9, 2) := by decide +kernel
theorem d_M_isSettled_79 : decode c_M_isSettled 79 = .ok (.laload, 1) := by decide +kernel
theorem d_M_isSettled_80 : decode c_M_isSettled 80 = .ok (.lcmp, 1) := by decide +kernel
theorem d_M_isSettled_81 : decode c_M_isSettled 81 = .ok (.ifCond .lt 7, 3) := by decide +kernel
theorem d_M_isSettled_84 : decode c_M_isSettled 84 = .ok (.iconst 1, 1) := by decide +kernel
theorem d_M_isSettled_85 : decode c_M_isSettled 85 = .ok (.goto 4, 3) := by decide +kernel
theorem d_M_isSettled_88 : decode c_M_isSettled 88 = .ok (.iconst 0, 1) := by decide +kernel
theorem d_M_isSettled_89 : decode c_M_isSettled 89 = .ok (.istore 7, 2) := by decide +kernel
theorem d_M_isSettled_91 : decode c_M_isSettled 91 = .ok (.iinc 8 1, 3) := by decide +kernel
theorem d_M_isSettled_94 : decode c_M_isSettled 94 = .ok (.goto (-67), 3) := by decide +kernel
theorem d_M_isSettled_97 : decode c_M_isSettled 97 = .ok (.iload 7, 2) := by decide +kernel
theorem d_M_isSettled_99 : decode c_M_isSettled 99 = .ok (.ireturn, 1) := by decide +kernel
theorem d_M_areUnlike_0 : decode c_M_areUnlike 0 = .ok (.iconst 0, 1) := by decide +kernel
theorem d_M_areUnlike_1 : decode c_M_areUnlike 1 = .ok (.istore 6, 2) := by decide +kernel
theorem d_M_areUnlike_3 : decode c_M_areUnlike 3 = .ok (.iconst (-1), 1) := by decide +kernel
theorem d_M_areUnlike_4 : decode c_M_areUnlike 4 = .ok (.istore 7, 2) := by decide +kernel
theorem d_M_areUnlike_6 : decode c_M_areUnlike 6 = .ok (.iconst 0, 1) := by decide +kernel
theorem d_M_areUnlike_7 : decode c_M_areUnlike 7 = .ok (.istore 8, 2) := by decide +kernel
theorem d_M_areUnlike_9 : decode c_M_areUnlike 9 = .ok (.iload 8, 2) := by decide +kernel
theorem d_M_areUnlike_11 : decode c_M_areUnlike 11 = .ok (.iload_n 2, 1) := by decide +kernel
theorem d_M_areUnlike_12 : decode c_M_areUnlike 12 = .ok (.if_icmp .ge 76, 3) := by decide +kernel
theorem d_M_areUnlike_15 : decode c_M_areUnlike 15 = .ok (.aload_n 0, 1) := by decide +kernel
theorem d_M_areUnlike_16 : decode c_M_areUnlike 16 = .ok (.getfield 32, 3) := by decide +kernel
theorem d_M_areUnlike_19 : decode c_M_areUnlike 19 = .ok (.sipush 300, 3) := by decide +kernel
theorem d_M_areUnlike_22 : decode c_M_areUnlike 22 = .ok (.iload_n 1, 1) := by decide +kernel
theorem d_M_areUnlike_23 : decode c_M_areUnlike 23 = .ok (.imul, 1) := by decide +kernel
theorem d_M_areUnlike_24 : decode c_M_areUnlike 24 = .ok (.iload 8, 2) := by decide +kernel
theorem d_M_areUnlike_26 : decode c_M_areUnlike 26 = .ok (.iadd, 1) := by decide +kernel
theorem d_M_areUnlike_27 : decode c_M_areUnlike 27 = .ok (.iaload, 1) := by decide +kernel
theorem d_M_areUnlike_28 : decode c_M_areUnlike 28 = .ok (.istore 9, 2) := by decide +kernel
theorem d_M_areUnlike_30 : decode c_M_areUnlike 30 = .ok (.aload_n 0, 1) := by decide +kernel
theorem d_M_areUnlike_31 : decode c_M_areUnlike 31 = .ok (.iload 9, 2) := by decide +kernel
theorem d_M_areUnlike_33 : decode c_M_areUnlike 33 = .ok (.iload_n 3, 1) := by decide +kernel
theorem d_M_areUnlike_34 : decode c_M_areUnlike 34 = .ok (.iconst 2, 1) := by decide +kernel
theorem d_M_areUnlike_35 : decode c_M_areUnlike 35 = .ok (.lload 4, 2) := by decide +kernel
theorem d_M_areUnlike_37 : decode c_M_areUnlike 37 = .ok (.invokevirtual 104, 3) := by decide +kernel
theorem d_M_areUnlike_40 : decode c_M_areUnlike 40 = .ok (.ifCond .eq 42, 3) := by decide +kernel
theorem d_M_areUnlike_43 : decode c_M_areUnlike 43 = .ok (.iload 6, 2) := by decide +kernel
theorem d_M_areUnlike_45 : decode c_M_areUnlike 45 = .ok (.ifCond .ne 26, 3) := by decide +kernel
theorem d_M_areUnlike_48 : decode c_M_areUnlike 48 = .ok (.iload 7, 2) := by decide +kernel
theorem d_M_areUnlike_50 : decode c_M_areUnlike 50 = .ok (.ifCond .lt 25, 3) := by decide +kernel
theorem d_M_areUnlike_53 : decode c_M_areUnlike 53 = .ok (.aload_n 0, 1) := by decide +kernel
theorem d_M_areUnlike_54 : decode c_M_areUnlike 54 = .ok (.getfield 23, 3) := by decide +kernel
theorem d_M_areUnlike_57 : decode c_M_areUnlike 57 = .ok (.iload 7, 2) := by decide +kernel
theorem d_M_areUnlike_59 : decode c_M_areUnlike 59 = .ok (.laload, 1) := by decide +kernel
theorem d_M_areUnlike_60 : decode c_M_areUnlike 60 = .ok (.aload_n 0, 1) := by decide +kernel
theorem d_M_areUnlike_61 : decode c_M_areUnlike 61 = .ok (.getfield 23, 3) := by decide +kernel
theorem d_M_areUnlike_64 : decode c_M_areUnlike 64 = .ok (.iload 9, 2) := by decide +kernel
theorem d_M_areUnlike_66 : decode c_M_areUnlike 66 = .ok (.laload, 1) := by decide +kernel
theorem d_M_areUnlike_67 : decode c_M_areUnlike 67 = .ok (.lcmp, 1) := by decide +kernel
theorem d_M_areUnlike_68 : decode c_M_areUnlike 68 = .ok (.ifCond .eq 7, 3) := by decide +kernel
theorem d_M_areUnlike_71 : decode c_M_areUnlike 71 = .ok (.iconst 1, 1) := by decide +kernel
theorem d_M_areUnlike_72 : decode c_M_areUnlike 72 = .ok (.goto 4, 3) := by decide +kernel
theorem d_M_areUnlike_75 : decode c_M_areUnlike 75 = .ok (.iconst 0, 1) := by decide +kernel
theorem d_M_areUnlike_76 : decode c_M_areUnlike 76 = .ok (.istore 6, 2) := by decide +kernel
theorem d_M_areUnlike_78 : decode c_M_areUnlike 78 = .ok (.iload 9, 2) := by decide +kernel
theorem d_M_areUnlike_80 : decode c_M_areUnlike 80 = .ok (.istore 7, 2) := by decide +kernel
theorem d_M_areUnlike_82 : decode c_M_areUnlike 82 = .ok (.iinc 8 1, 3) := by decide +kernel
theorem d_M_areUnlike_85 : decode c_M_areUnlike 85 = .ok (.goto (-76), 3) := by decide +kernel
theorem d_M_areUnlike_88 : decode c_M_areUnlike 88 = .ok (.iload 6, 2) := by decide +kernel
theorem d_M_areUnlike_90 : decode c_M_areUnlike 90 = .ok (.ireturn, 1) := by decide +kernel
theorem d_M_known_0 : decode c_M_known 0 = .ok (.iload 4, 2) := by decide +kernel
theorem d_M_known_2 : decode c_M_known 2 = .ok (.ifCond .ne 68, 3) := by decide +kernel
theorem d_M_known_5 : decode c_M_known 5 = .ok (.lconst 0, 1) := by decide +kernel
theorem d_M_known_6 : decode c_M_known 6 = .ok (.lstore 7, 2) := by decide +kernel
theorem d_M_known_8 : decode c_M_known 8 = .ok (.iconst 0, 1) := by decide +kernel
theorem d_M_known_9 : decode c_M_known 9 = .ok (.istore 9, 2) := by decide +kernel
theorem d_M_known_11 : decode c_M_known 11 = .ok (.iload 9, 2) := by decide +kernel
theorem d_M_known_13 : decode c_M_known 13 = .ok (.iload_n 2, 1) := by decide +kernel
theorem d_M_known_14 : decode c_M_known 14 = .ok (.if_icmp .ge 53, 3) := by decide +kernel
theorem d_M_known_17 : decode c_M_known 17 = .ok (.aload_n 0, 1) := by decide +kernel
theorem d_M_known_18 : decode c_M_known 18 = .ok (.getfield 32, 3) := by decide +kernel
theorem d_M_known_21 : decode c_M_known 21 = .ok (.sipush 300, 3) := by decide +kernel
theorem d_M_known_24 : decode c_M_known 24 = .ok (.iload_n 1, 1) := by decide +kernel
theorem d_M_known_25 : decode c_M_known 25 = .ok (.imul, 1) := by decide +kernel
theorem d_M_known_26 : decode c_M_known 26 = .ok (.iload 9, 2) := by decide +kernel
theorem d_M_known_28 : decode c_M_known 28 = .ok (.iadd, 1) := by decide +kernel
theorem d_M_known_29 : decode c_M_known 29 = .ok (.iaload, 1) := by decide +kernel
theorem d_M_known_30 : decode c_M_known 30 = .ok (.istore 10, 2) := by decide +kernel
theorem d_M_known_32 : decode c_M_known 32 = .ok (.lload 7, 2) := by decide +kernel
theorem d_M_known_34 : decode c_M_known 34 = .ok (.aload_n 0, 1) := by decide +kernel
theorem d_M_known_35 : decode c_M_known 35 = .ok (.iload 10, 2) := by decide +kernel
theorem d_M_known_37 : decode c_M_known 37 = .ok (.iload_n 3, 1) := by decide +kernel
theorem d_M_known_38 : decode c_M_known 38 = .ok (.iconst 0, 1) := by decide +kernel
theorem d_M_known_39 : decode c_M_known 39 = .ok (.lload 5, 2) := by decide +kernel
theorem d_M_known_41 : decode c_M_known 41 = .ok (.invokevirtual 104, 3) := by decide +kernel
theorem d_M_known_44 : decode c_M_known 44 = .ok (.ifCond .eq 13, 3) := by decide +kernel
theorem d_M_known_47 : decode c_M_known 47 = .ok (.aload_n 0, 1) := by decide +kernel
theorem d_M_known_48 : decode c_M_known 48 = .ok (.getfield 23, 3) := by decide +kernel
theorem d_M_known_51 : decode c_M_known 51 = .ok (.iload 10, 2) := by decide +kernel
theorem d_M_known_53 : decode c_M_known 53 = .ok (.laload, 1) := by decide +kernel
theorem d_M_known_54 : decode c_M_known 54 = .ok (.goto 4, 3) := by decide +kernel
theorem d_M_known_57 : decode c_M_known 57 = .ok (.lconst 0, 1) := by decide +kernel
theorem d_M_known_58 : decode c_M_known 58 = .ok (.ladd, 1) := by decide +kernel
theorem d_M_known_59 : decode c_M_known 59 = .ok (.lstore 7, 2) := by decide +kernel
theorem d_M_known_61 : decode c_M_known 61 = .ok (.iinc 9 1, 3) := by decide +kernel
theorem d_M_known_64 : decode c_M_known 64 = .ok (.goto (-53), 3) := by decide +kernel
theorem d_M_known_67 : decode c_M_known 67 = .ok (.lload 7, 2) := by decide +kernel
theorem d_M_known_69 : decode c_M_known 69 = .ok (.lreturn, 1) := by decide +kernel
theorem d_M_known_70 : decode c_M_known 70 = .ok (.iload 4, 2) := by decide +kernel
theorem d_M_known_72 : decode c_M_known 72 = .ok (.istore 7, 2) := by decide +kernel
theorem d_M_known_74 : decode c_M_known 74 = .ok (.iload 4, 2) := by decide +kernel
theorem d_M_known_76 : decode c_M_known 76 = .ok (.iconst 2, 1) := by decide +kernel
theorem d_M_known_77 : decode c_M_known 77 = .ok (.if_icmp .ne 21, 3) := by decide +kernel
theorem d_M_known_80 : decode c_M_known 80 = .ok (.aload_n 0, 1) := by decide +kernel
theorem d_M_known_81 : decode c_M_known 81 = .ok (.iload_n 1, 1) := by decide +kernel
theorem d_M_known_82 : decode c_M_known 82 = .ok (.iload_n 2, 1) := by decide +kernel
theorem d_M_known_83 : decode c_M_known 83 = .ok (.iload_n 3, 1) := by decide +kernel
theorem d_M_known_84 : decode c_M_known 84 = .ok (.lload 5, 2) := by decide +kernel
theorem d_M_known_86 : decode c_M_known 86 = .ok (.invokevirtual 116, 3) := by decide +kernel
theorem d_M_known_89 : decode c_M_known 89 = .ok (.ifCond .eq 9, 3) := by decide +kernel
theorem d_M_known_92 : decode c_M_known 92 = .ok (.iconst 3, 1) := by decide +kernel
theorem d_M_known_93 : decode c_M_known 93 = .ok (.istore 7, 2) := by decide +kernel
theorem d_M_known_95 : decode c_M_known 95 = .ok (.goto 23, 3) := by decide +kernel
theorem d_M_known_98 : decode c_M_known 98 = .ok (.iload 4, 2) := by decide +kernel
theorem d_M_known_100 : decode c_M_known 100 = .ok (.iconst 2, 1) := by decide +kernel
theorem d_M_known_101 : decode c_M_known 101 = .ok (.if_icmp .ne 17, 3) := by decide +kernel
theorem d_M_known_104 : decode c_M_known 104 = .ok (.aload_n 0, 1) := by decide +kernel
theorem d_M_known_105 : decode c_M_known 105 = .ok (.iload_n 1, 1) := by decide +kernel
theorem d_M_known_106 : decode c_M_known 106 = .ok (.iload_n 2, 1) := by decide +kernel
theorem d_M_known_107 : decode c_M_known 107 = .ok (.iload_n 3, 1) := by decide +kernel
theorem d_M_known_108 : decode c_M_known 108 = .ok (.lload 5, 2) := by decide +kernel
theorem d_M_known_110 : decode c_M_known 110 = .ok (.invokevirtual 119, 3) := by decide +kernel
theorem d_M_known_113 : decode c_M_known 113 = .ok (.ifCond .eq 5, 3) := by decide +kernel
theorem d_M_known_116 : decode c_M_known 116 = .ok (.lconst 0, 1) := by decide +kernel
theorem d_M_known_117 : decode c_M_known 117 = .ok (.lreturn, 1) := by decide +kernel
theorem d_M_known_118 : decode c_M_known 118 = .ok (.aload_n 0, 1) := by decide +kernel
theorem d_M_known_119 : decode c_M_known 119 = .ok (.iload_n 1, 1) := by decide +kernel
theorem d_M_known_120 : decode c_M_known 120 = .ok (.iload_n 2, 1) := by decide +kernel
theorem d_M_known_121 : decode c_M_known 121 = .ok (.iload_n 3, 1) := by decide +kernel
theorem d_M_known_122 : decode c_M_known 122 = .ok (.iload 7, 2) := by decide +kernel
theorem d_M_known_124 : decode c_M_known 124 = .ok (.lload 5, 2) := by decide +kernel
theorem d_M_known_126 : decode c_M_known 126 = .ok (.invokevirtual 112, 3) := by decide +kernel
theorem d_M_known_129 : decode c_M_known 129 = .ok (.istore 8, 2) := by decide +kernel
theorem d_M_known_131 : decode c_M_known 131 = .ok (.iload 8, 2) := by decide +kernel
theorem d_M_known_133 : decode c_M_known 133 = .ok (.ifCond .ge 7, 3) := by decide +kernel
theorem d_M_known_136 : decode c_M_known 136 = .ok (.lconst 0, 1) := by decide +kernel
theorem d_M_known_137 : decode c_M_known 137 = .ok (.goto 10, 3) := by decide +kernel
theorem d_M_known_140 : decode c_M_known 140 = .ok (.aload_n 0, 1) := by decide +kernel
theorem d_M_known_141 : decode c_M_known 141 = .ok (.getfield 23, 3) := by decide +kernel
theorem d_M_known_144 : decode c_M_known 144 = .ok (.iload 8, 2) := by decide +kernel
theorem d_M_known_146 : decode c_M_known 146 = .ok (.laload, 1) := by decide +kernel
theorem d_M_known_147 : decode c_M_known 147 = .ok (.lreturn, 1) := by decide +kernel
theorem d_M_at_0 : decode c_M_at 0 = .ok (.aload_n 0, 1) := by decide +kernel
theorem d_M_at_1 : decode c_M_at 1 = .ok (.aload_n 0, 1) := by decide +kernel
theorem d_M_at_2 : decode c_M_at 2 = .ok (.iload_n 1, 1) := by decide +kernel
theorem d_M_at_3 : decode c_M_at 3 = .ok (.invokevirtual 89, 3) := by decide +kernel
theorem d_M_at_6 : decode c_M_at 6 = .ok (.ifCond .eq 15, 3) := by decide +kernel
theorem d_M_at_9 : decode c_M_at 9 = .ok (.iload_n 2, 1) := by decide +kernel
theorem d_M_at_10 : decode c_M_at 10 = .ok (.i2l, 1) := by decide +kernel
theorem d_M_at_11 : decode c_M_at 11 = .ok (.lconst 0, 1) := by decide +kernel
theorem d_M_at_12 : decode c_M_at 12 = .ok (.ldc2_w 76, 3) := by decide +kernel
theorem d_M_at_15 : decode c_M_at 15 = .ok (.invokestatic 72, 3) := by decide +kernel
theorem d_M_at_18 : decode c_M_at 18 = .ok (.ifCond .ne 7, 3) := by decide +kernel
theorem d_M_at_21 : decode c_M_at 21 = .ok (.iconst 1, 1) := by decide +kernel
theorem d_M_at_22 : decode c_M_at 22 = .ok (.goto 15, 3) := by decide +kernel
theorem d_M_at_25 : decode c_M_at 25 = .ok (.iload_n 3, 1) := by decide +kernel
theorem d_M_at_26 : decode c_M_at 26 = .ok (.invokestatic 78, 3) := by decide +kernel
theorem d_M_at_29 : decode c_M_at 29 = .ok (.ifCond .eq 7, 3) := by decide +kernel
theorem d_M_at_32 : decode c_M_at 32 = .ok (.iconst 0, 1) := by decide +kernel
theorem d_M_at_33 : decode c_M_at 33 = .ok (.goto 4, 3) := by decide +kernel
theorem d_M_at_36 : decode c_M_at 36 = .ok (.iconst 2, 1) := by decide +kernel
theorem d_M_at_37 : decode c_M_at 37 = .ok (.putfield 64, 3) := by decide +kernel
theorem d_M_at_40 : decode c_M_at 40 = .ok (.aload_n 0, 1) := by decide +kernel
theorem d_M_at_41 : decode c_M_at 41 = .ok (.getfield 64, 3) := by decide +kernel
theorem d_M_at_44 : decode c_M_at 44 = .ok (.ifCond .le 7, 3) := by decide +kernel
theorem d_M_at_47 : decode c_M_at 47 = .ok (.lconst 0, 1) := by decide +kernel
theorem d_M_at_48 : decode c_M_at 48 = .ok (.goto 18, 3) := by decide +kernel
theorem d_M_at_51 : decode c_M_at 51 = .ok (.aload_n 0, 1) := by decide +kernel
theorem d_M_at_52 : decode c_M_at 52 = .ok (.iload_n 1, 1) := by decide +kernel
theorem d_M_at_53 : decode c_M_at 53 = .ok (.aload_n 0, 1) := by decide +kernel
theorem d_M_at_54 : decode c_M_at 54 = .ok (.getfield 29, 3) := by decide +kernel
theorem d_M_at_57 : decode c_M_at 57 = .ok (.iload_n 1, 1) := by decide +kernel
theorem d_M_at_58 : decode c_M_at 58 = .ok (.iaload, 1) := by decide +kernel
theorem d_M_at_59 : decode c_M_at 59 = .ok (.iload_n 2, 1) := by decide +kernel
theorem d_M_at_60 : decode c_M_at 60 = .ok (.iload_n 3, 1) := by decide +kernel
theorem d_M_at_61 : decode c_M_at 61 = .ok (.lload 4, 2) := by decide +kernel
theorem d_M_at_63 : decode c_M_at 63 = .ok (.invokevirtual 122, 3) := by decide +kernel
theorem d_M_at_66 : decode c_M_at 66 = .ok (.lreturn, 1) := by decide +kernel
theorem d_M_end_0 : decode c_M_end 0 = .ok (.ldc2_w 126, 3) := by decide +kernel
theorem d_M_end_3 : decode c_M_end 3 = .ok (.lreturn, 1) := by decide +kernel
theorem d_M_conflict_0 : decode c_M_conflict 0 = .ok (.aload_n 0, 1) := by decide +kernel
theorem d_M_conflict_1 : decode c_M_conflict 1 = .ok (.aload_n 0, 1) := by decide +kernel
theorem d_M_conflict_2 : decode c_M_conflict 2 = .ok (.iload_n 1, 1) := by decide +kernel
theorem d_M_conflict_3 : decode c_M_conflict 3 = .ok (.invokevirtual 89, 3) := by decide +kernel
theorem d_M_conflict_6 : decode c_M_conflict 6 = .ok (.ifCond .ne 7, 3) := by decide +kernel
theorem d_M_conflict_9 : decode c_M_conflict 9 = .ok (.iconst 1, 1) := by decide +kernel
theorem d_M_conflict_10 : decode c_M_conflict 10 = .ok (.goto 12, 3) := by decide +kernel
theorem d_M_conflict_13 : decode c_M_conflict 13 = .ok (.iload_n 2, 1) := by decide +kernel
theorem d_M_conflict_14 : decode c_M_conflict 14 = .ok (.ifCond .ge 7, 3) := by decide +kernel
theorem d_M_conflict_17 : decode c_M_conflict 17 = .ok (.iconst 2, 1) := by decide +kernel
theorem d_M_conflict_18 : decode c_M_conflict 18 = .ok (.goto 4, 3) := by decide +kernel
theorem d_M_conflict_21 : decode c_M_conflict 21 = .ok (.iconst 0, 1) := by decide +kernel
theorem d_M_conflict_22 : decode c_M_conflict 22 = .ok (.putfield 64, 3) := by decide +kernel
theorem d_M_conflict_25 : decode c_M_conflict 25 = .ok (.iload_n 2, 1) := by decide +kernel
theorem d_M_conflict_26 : decode c_M_conflict 26 = .ok (.istore_n 3, 1) := by decide +kernel
theorem d_M_conflict_27 : decode c_M_conflict 27 = .ok (.iconst 0, 1) := by decide +kernel
theorem d_M_conflict_28 : decode c_M_conflict 28 = .ok (.istore 4, 2) := by decide +kernel
theorem d_M_conflict_30 : decode c_M_conflict 30 = .ok (.iload 4, 2) := by decide +kernel
theorem d_M_conflict_32 : decode c_M_conflict 32 = .ok (.bipush 10, 2) := by decide +kernel
theorem d_M_conflict_34 : decode c_M_conflict 34 = .ok (.if_icmp .ge 64, 3) := by decide +kernel
theorem d_M_conflict_37 : decode c_M_conflict 37 = .ok (.aload_n 0, 1) := by decide +kernel
theorem d_M_conflict_38 : decode c_M_conflict 38 = .ok (.getfield 64, 3) := by decide +kernel
theorem d_M_conflict_41 : decode c_M_conflict 41 = .ok (.ifCond .ne 57, 3) := by decide +kernel
theorem d_M_conflict_44 : decode c_M_conflict 44 = .ok (.aload_n 0, 1) := by decide +kernel
theorem d_M_conflict_45 : decode c_M_conflict 45 = .ok (.iload_n 1, 1) := by decide +kernel
theorem d_M_conflict_46 : decode c_M_conflict 46 = .ok (.aload_n 0, 1) := by decide +kernel
theorem d_M_conflict_47 : decode c_M_conflict 47 = .ok (.getfield 29, 3) := by decide +kernel
theorem d_M_conflict_50 : decode c_M_conflict 50 = .ok (.iload_n 1, 1) := by decide +kernel
theorem d_M_conflict_51 : decode c_M_conflict 51 = .ok (.iaload, 1) := by decide +kernel
theorem d_M_conflict_52 : decode c_M_conflict 52 = .ok (.iload 4, 2) := by decide +kernel
theorem d_M_conflict_54 : decode c_M_conflict 54 = .ok (.invokestatic 128, 3) := by decide +kernel
theorem d_M_conflict_57 : decode c_M_conflict 57 = .ok (.invokevirtual 119, 3) := by decide +kernel
theorem d_M_conflict_60 : decode c_M_conflict 60 = .ok (.ifCond .eq 32, 3) := by decide +kernel
theorem d_M_conflict_63 : decode c_M_conflict 63 = .ok (.aload_n 0, 1) := by decide +kernel
theorem d_M_conflict_64 : decode c_M_conflict 64 = .ok (.iload_n 1, 1) := by decide +kernel
theorem d_M_conflict_65 : decode c_M_conflict 65 = .ok (.aload_n 0, 1) := by decide +kernel
theorem d_M_conflict_66 : decode c_M_conflict 66 = .ok (.getfield 29, 3) := by decide +kernel
theorem d_M_conflict_69 : decode c_M_conflict 69 = .ok (.iload_n 1, 1) := by decide +kernel
theorem d_M_conflict_70 : decode c_M_conflict 70 = .ok (.iaload, 1) := by decide +kernel
theorem d_M_conflict_71 : decode c_M_conflict 71 = .ok (.iload 4, 2) := by decide +kernel
theorem d_M_conflict_73 : decode c_M_conflict 73 = .ok (.invokestatic 128, 3) := by decide +kernel
theorem d_M_conflict_76 : decode c_M_conflict 76 = .ok (.invokevirtual 116, 3) := by decide +kernel
theorem d_M_conflict_79 : decode c_M_conflict 79 = .ok (.ifCond .ne 13, 3) := by decide +kernel
theorem d_M_conflict_82 : decode c_M_conflict 82 = .ok (.iload_n 3, 1) := by decide +kernel
theorem d_M_conflict_83 : decode c_M_conflict 83 = .ok (.ifCond .ne 6, 3) := by decide +kernel
theorem d_M_conflict_86 : decode c_M_conflict 86 = .ok (.iload 4, 2) := by decide +kernel
theorem d_M_conflict_88 : decode c_M_conflict 88 = .ok (.ireturn, 1) := by decide +kernel
theorem d_M_conflict_89 : decode c_M_conflict 89 = .ok (.iinc 3 (-1), 3) := by decide +kernel
theorem d_M_conflict_92 : decode c_M_conflict 92 = .ok (.iinc 4 1, 3) := by decide +kernel
theorem d_M_conflict_95 : decode c_M_conflict 95 = .ok (.goto (-65), 3) := by decide +kernel
theorem d_M_conflict_98 : decode c_M_conflict 98 = .ok (.aload_n 0, 1) := by decide +kernel
theorem d_M_conflict_99 : decode c_M_conflict 99 = .ok (.getfield 64, 3) := by decide +kernel
theorem d_M_conflict_102 : decode c_M_conflict 102 = .ok (.ifCond .le 7, 3) := by decide +kernel
theorem d_M_conflict_105 : decode c_M_conflict 105 = .ok (.iconst 0, 1) := by decide +kernel
theorem d_M_conflict_106 : decode c_M_conflict 106 = .ok (.goto 4, 3) := by decide +kernel
theorem d_M_conflict_109 : decode c_M_conflict 109 = .ok (.iconst (-1), 1) := by decide +kernel
theorem d_M_conflict_110 : decode c_M_conflict 110 = .ok (.ireturn, 1) := by decide +kernel
theorem d_M_mark_0 : decode c_M_mark 0 = .ok (.aload_n 0, 1) := by decide +kernel
theorem d_M_mark_1 : decode c_M_mark 1 = .ok (.aload_n 0, 1) := by decide +kernel
theorem d_M_mark_2 : decode c_M_mark 2 = .ok (.iload_n 1, 1) := by decide +kernel
theorem d_M_mark_3 : decode c_M_mark 3 = .ok (.invokevirtual 89, 3) := by decide +kernel
theorem d_M_mark_6 : decode c_M_mark 6 = .ok (.ifCond .eq 7, 3) := by decide +kernel
theorem d_M_mark_9 : decode c_M_mark 9 = .ok (.iconst 0, 1) := by decide +kernel
theorem d_M_mark_10 : decode c_M_mark 10 = .ok (.goto 4, 3) := by decide +kernel
theorem d_M_mark_13 : decode c_M_mark 13 = .ok (.iconst 1, 1) := by decide +kernel
theorem d_M_mark_14 : decode c_M_mark 14 = .ok (.putfield 64, 3) := by decide +kernel
theorem d_M_mark_17 : decode c_M_mark 17 = .ok (.aload_n 0, 1) := by decide +kernel
theorem d_M_mark_18 : decode c_M_mark 18 = .ok (.getfield 64, 3) := by decide +kernel
theorem d_M_mark_21 : decode c_M_mark 21 = .ok (.ifCond .le 7, 3) := by decide +kernel
theorem d_M_mark_24 : decode c_M_mark 24 = .ok (.iconst 0, 1) := by decide +kernel
theorem d_M_mark_25 : decode c_M_mark 25 = .ok (.goto 9, 3) := by decide +kernel
theorem d_M_mark_28 : decode c_M_mark 28 = .ok (.aload_n 0, 1) := by decide +kernel
theorem d_M_mark_29 : decode c_M_mark 29 = .ok (.getfield 29, 3) := by decide +kernel
theorem d_M_mark_32 : decode c_M_mark 32 = .ok (.iload_n 1, 1) := by decide +kernel
theorem d_M_mark_33 : decode c_M_mark 33 = .ok (.iaload, 1) := by decide +kernel
theorem d_M_mark_34 : decode c_M_mark 34 = .ok (.ireturn, 1) := by decide +kernel
theorem d_M_since_0 : decode c_M_since 0 = .ok (.aload_n 0, 1) := by decide +kernel
theorem d_M_since_1 : decode c_M_since 1 = .ok (.aload_n 0, 1) := by decide +kernel
theorem d_M_since_2 : decode c_M_since 2 = .ok (.iload_n 1, 1) := by decide +kernel
theorem d_M_since_3 : decode c_M_since 3 = .ok (.invokevirtual 89, 3) := by decide +kernel
theorem d_M_since_6 : decode c_M_since 6 = .ok (.ifCond .eq 27, 3) := by decide +kernel
theorem d_M_since_9 : decode c_M_since 9 = .ok (.iload_n 2, 1) := by decide +kernel
theorem d_M_since_10 : decode c_M_since 10 = .ok (.ifCond .lt 27, 3) := by decide +kernel
theorem d_M_since_13 : decode c_M_since 13 = .ok (.iload_n 3, 1) := by decide +kernel
theorem d_M_since_14 : decode c_M_since 14 = .ok (.ifCond .lt 23, 3) := by decide +kernel
theorem d_M_since_17 : decode c_M_since 17 = .ok (.iload_n 2, 1) := by decide +kernel
theorem d_M_since_18 : decode c_M_since 18 = .ok (.i2l, 1) := by decide +kernel
theorem d_M_since_19 : decode c_M_since 19 = .ok (.iload_n 3, 1) := by decide +kernel
theorem d_M_since_20 : decode c_M_since 20 = .ok (.i2l, 1) := by decide +kernel
theorem d_M_since_21 : decode c_M_since 21 = .ok (.ladd, 1) := by decide +kernel
theorem d_M_since_22 : decode c_M_since 22 = .ok (.aload_n 0, 1) := by decide +kernel
theorem d_M_since_23 : decode c_M_since 23 = .ok (.getfield 29, 3) := by decide +kernel
theorem d_M_since_26 : decode c_M_since 26 = .ok (.iload_n 1, 1) := by decide +kernel
theorem d_M_since_27 : decode c_M_since 27 = .ok (.iaload, 1) := by decide +kernel
theorem d_M_since_28 : decode c_M_since 28 = .ok (.i2l, 1) := by decide +kernel
theorem d_M_since_29 : decode c_M_since 29 = .ok (.lcmp, 1) := by decide +kernel
theorem d_M_since_30 : decode c_M_since 30 = .ok (.ifCond .lt 7, 3) := by decide +kernel
theorem d_M_since_33 : decode c_M_since 33 = .ok (.iconst 1, 1) := by decide +kernel
theorem d_M_since_34 : decode c_M_since 34 = .ok (.goto 29, 3) := by decide +kernel
theorem d_M_since_37 : decode c_M_since 37 = .ok (.iload_n 2, 1) := by decide +kernel
theorem d_M_since_38 : decode c_M_since 38 = .ok (.ifCond .lt 20, 3) := by decide +kernel
theorem d_M_since_41 : decode c_M_since 41 = .ok (.iload_n 3, 1) := by decide +kernel
theorem d_M_since_42 : decode c_M_since 42 = .ok (.ifCond .lt 16, 3) := by decide +kernel
theorem d_M_since_45 : decode c_M_since 45 = .ok (.iload 4, 2) := by decide +kernel
theorem d_M_since_47 : decode c_M_since 47 = .ok (.i2l, 1) := by decide +kernel
theorem d_M_since_48 : decode c_M_since 48 = .ok (.lconst 0, 1) := by decide +kernel
theorem d_M_since_49 : decode c_M_since 49 = .ok (.ldc2_w 132, 3) := by decide +kernel
theorem d_M_since_52 : decode c_M_since 52 = .ok (.invokestatic 72, 3) := by decide +kernel
theorem d_M_since_55 : decode c_M_since 55 = .ok (.ifCond .ne 7, 3) := by decide +kernel
theorem d_M_since_58 : decode c_M_since 58 = .ok (.iconst 2, 1) := by decide +kernel
theorem d_M_since_59 : decode c_M_since 59 = .ok (.goto 4, 3) := by decide +kernel
theorem d_M_since_62 : decode c_M_since 62 = .ok (.iconst 0, 1) := by decide +kernel
theorem d_M_since_63 : decode c_M_since 63 = .ok (.putfield 64, 3) := by decide +kernel
theorem d_M_since_66 : decode c_M_since 66 = .ok (.aload_n 0, 1) := by decide +kernel
theorem d_M_since_67 : decode c_M_since 67 = .ok (.getfield 64, 3) := by decide +kernel
theorem d_M_since_70 : decode c_M_since 70 = .ok (.ifCond .le 5, 3) := by decide +kernel
theorem d_M_since_73 : decode c_M_since 73 = .ok (.lconst 0, 1) := by decide +kernel
theorem d_M_since_74 : decode c_M_since 74 = .ok (.lreturn, 1) := by decide +kernel
theorem d_M_since_75 : decode c_M_since 75 = .ok (.aload_n 0, 1) := by decide +kernel
theorem d_M_since_76 : decode c_M_since 76 = .ok (.getfield 32, 3) := by decide +kernel
theorem d_M_since_79 : decode c_M_since 79 = .ok (.sipush 300, 3) := by decide +kernel
theorem d_M_since_82 : decode c_M_since 82 = .ok (.iload_n 1, 1) := by decide +kernel
theorem d_M_since_83 : decode c_M_since 83 = .ok (.imul, 1) := by decide +kernel
theorem d_M_since_84 : decode c_M_since 84 = .ok (.iload_n 2, 1) := by decide +kernel
theorem d_M_since_85 : decode c_M_since 85 = .ok (.iadd, 1) := by decide +kernel
theorem d_M_since_86 : decode c_M_since 86 = .ok (.iload_n 3, 1) := by decide +kernel
theorem d_M_since_87 : decode c_M_since 87 = .ok (.iadd, 1) := by decide +kernel
theorem d_M_since_88 : decode c_M_since 88 = .ok (.iaload, 1) := by decide +kernel
theorem d_M_since_89 : decode c_M_since 89 = .ok (.istore 5, 2) := by decide +kernel
theorem d_M_since_91 : decode c_M_since 91 = .ok (.iload 4, 2) := by decide +kernel
theorem d_M_since_93 : decode c_M_since 93 = .ok (.ifCond .ne 14, 3) := by decide +kernel
theorem d_M_since_96 : decode c_M_since 96 = .ok (.aload_n 0, 1) := by decide +kernel
theorem d_M_since_97 : decode c_M_since 97 = .ok (.getfield 7, 3) := by decide +kernel
theorem d_M_since_100 : decode c_M_since 100 = .ok (.iload 5, 2) := by decide +kernel
theorem d_M_since_102 : decode c_M_since 102 = .ok (.iaload, 1) := by decide +kernel
theorem d_M_since_103 : decode c_M_since 103 = .ok (.i2l, 1) := by decide +kernel
theorem d_M_since_104 : decode c_M_since 104 = .ok (.goto 26, 3) := by decide +kernel
theorem d_M_since_107 : decode c_M_since 107 = .ok (.iload 4, 2) := by decide +kernel
theorem d_M_since_109 : decode c_M_since 109 = .ok (.iconst 1, 1) := by decide +kernel
theorem d_M_since_110 : decode c_M_since 110 = .ok (.if_icmp .ne 13, 3) := by decide +kernel
theorem d_M_since_113 : decode c_M_since 113 = .ok (.aload_n 0, 1) := by decide +kernel
theorem d_M_since_114 : decode c_M_since 114 = .ok (.getfield 13, 3) := by decide +kernel
theorem d_M_since_117 : decode c_M_since 117 = .ok (.iload 5, 2) := by decide +kernel
theorem d_M_since_119 : decode c_M_since 119 = .ok (.laload, 1) := by decide +kernel
theorem d_M_since_120 : decode c_M_since 120 = .ok (.goto 10, 3) := by decide +kernel
theorem d_M_since_123 : decode c_M_since 123 = .ok (.aload_n 0, 1) := by decide +kernel
theorem d_M_since_124 : decode c_M_since 124 = .ok (.getfield 23, 3) := by decide +kernel
theorem d_M_since_127 : decode c_M_since 127 = .ok (.iload 5, 2) := by decide +kernel
theorem d_M_since_129 : decode c_M_since 129 = .ok (.laload, 1) := by decide +kernel
theorem d_M_since_130 : decode c_M_since 130 = .ok (.lreturn, 1) := by decide +kernel
theorem d_M_batch_0 : decode c_M_batch 0 = .ok (.aload_n 0, 1) := by decide +kernel
theorem d_M_batch_1 : decode c_M_batch 1 = .ok (.aload_n 0, 1) := by decide +kernel
theorem d_M_batch_2 : decode c_M_batch 2 = .ok (.iload_n 1, 1) := by decide +kernel
theorem d_M_batch_3 : decode c_M_batch 3 = .ok (.invokevirtual 89, 3) := by decide +kernel
theorem d_M_batch_6 : decode c_M_batch 6 = .ok (.ifCond .eq 7, 3) := by decide +kernel
theorem d_M_batch_9 : decode c_M_batch 9 = .ok (.iconst 0, 1) := by decide +kernel
theorem d_M_batch_10 : decode c_M_batch 10 = .ok (.goto 4, 3) := by decide +kernel
theorem d_M_batch_13 : decode c_M_batch 13 = .ok (.iconst 1, 1) := by decide +kernel
theorem d_M_batch_14 : decode c_M_batch 14 = .ok (.putfield 64, 3) := by decide +kernel
theorem d_M_batch_17 : decode c_M_batch 17 = .ok (.aload_n 0, 1) := by decide +kernel
theorem d_M_batch_18 : decode c_M_batch 18 = .ok (.getfield 64, 3) := by decide +kernel
theorem d_M_batch_21 : decode c_M_batch 21 = .ok (.ifCond .gt 21, 3) := by decide +kernel
theorem d_M_batch_24 : decode c_M_batch 24 = .ok (.aload_n 0, 1) := by decide +kernel
theorem d_M_batch_25 : decode c_M_batch 25 = .ok (.getfield 35, 3) := by decide +kernel
theorem d_M_batch_28 : decode c_M_batch 28 = .ok (.iload_n 1, 1) := by decide +kernel
theorem d_M_batch_29 : decode c_M_batch 29 = .ok (.iaload, 1) := by decide +kernel
theorem d_M_batch_30 : decode c_M_batch 30 = .ok (.ifCond .lt 7, 3) := by decide +kernel
theorem d_M_batch_33 : decode c_M_batch 33 = .ok (.iconst 1, 1) := by decide +kernel
theorem d_M_batch_34 : decode c_M_batch 34 = .ok (.goto 4, 3) := by decide +kernel
theorem d_M_batch_37 : decode c_M_batch 37 = .ok (.iconst 0, 1) := by decide +kernel
theorem d_M_batch_38 : decode c_M_batch 38 = .ok (.iload_n 2, 1) := by decide +kernel
theorem d_M_batch_39 : decode c_M_batch 39 = .ok (.if_icmp .ne 5, 3) := by decide +kernel
theorem d_M_batch_42 : decode c_M_batch 42 = .ok (.iconst 0, 1) := by decide +kernel
theorem d_M_batch_43 : decode c_M_batch 43 = .ok (.ireturn, 1) := by decide +kernel
theorem d_M_batch_44 : decode c_M_batch 44 = .ok (.aload_n 0, 1) := by decide +kernel
theorem d_M_batch_45 : decode c_M_batch 45 = .ok (.getfield 35, 3) := by decide +kernel
theorem d_M_batch_48 : decode c_M_batch 48 = .ok (.iload_n 1, 1) := by decide +kernel
theorem d_M_batch_49 : decode c_M_batch 49 = .ok (.iload_n 2, 1) := by decide +kernel
theorem d_M_batch_50 : decode c_M_batch 50 = .ok (.ifCond .eq 12, 3) := by decide +kernel
theorem d_M_batch_53 : decode c_M_batch 53 = .ok (.aload_n 0, 1) := by decide +kernel
theorem d_M_batch_54 : decode c_M_batch 54 = .ok (.getfield 29, 3) := by decide +kernel
theorem d_M_batch_57 : decode c_M_batch 57 = .ok (.iload_n 1, 1) := by decide +kernel
theorem d_M_batch_58 : decode c_M_batch 58 = .ok (.iaload, 1) := by decide +kernel
theorem d_M_batch_59 : decode c_M_batch 59 = .ok (.goto 4, 3) := by decide +kernel
theorem d_M_batch_62 : decode c_M_batch 62 = .ok (.iconst (-1), 1) := by decide +kernel
theorem d_M_batch_63 : decode c_M_batch 63 = .ok (.iastore, 1) := by decide +kernel
theorem d_M_batch_64 : decode c_M_batch 64 = .ok (.iconst 1, 1) := by decide +kernel
theorem d_M_batch_65 : decode c_M_batch 65 = .ok (.ireturn, 1) := by decide +kernel
theorem d_M_right_0 : decode c_M_right 0 = .ok (.aload_n 0, 1) := by decide +kernel
theorem d_M_right_1 : decode c_M_right 1 = .ok (.iload_n 1, 1) := by decide +kernel
theorem d_M_right_2 : decode c_M_right 2 = .ok (.i2l, 1) := by decide +kernel
theorem d_M_right_3 : decode c_M_right 3 = .ok (.lconst 0, 1) := by decide +kernel
theorem d_M_right_4 : decode c_M_right 4 = .ok (.ldc2_w 134, 3) := by decide +kernel
theorem d_M_right_7 : decode c_M_right 7 = .ok (.invokestatic 72, 3) := by decide +kernel
theorem d_M_right_10 : decode c_M_right 10 = .ok (.ifCond .ne 7, 3) := by decide +kernel
theorem d_M_right_13 : decode c_M_right 13 = .ok (.iconst 1, 1) := by decide +kernel
theorem d_M_right_14 : decode c_M_right 14 = .ok (.goto 15, 3) := by decide +kernel
theorem d_M_right_17 : decode c_M_right 17 = .ok (.iload_n 2, 1) := by decide +kernel
theorem d_M_right_18 : decode c_M_right 18 = .ok (.invokestatic 78, 3) := by decide +kernel
theorem d_M_right_21 : decode c_M_right 21 = .ok (.ifCond .eq 7, 3) := by decide +kernel
theorem d_M_right_24 : decode c_M_right 24 = .ok (.iconst 0, 1) := by decide +kernel
theorem d_M_right_25 : decode c_M_right 25 = .ok (.goto 4, 3) := by decide +kernel
theorem d_M_right_28 : decode c_M_right 28 = .ok (.iconst 2, 1) := by decide +kernel
theorem d_M_right_29 : decode c_M_right 29 = .ok (.putfield 64, 3) := by decide +kernel
theorem d_M_right_32 : decode c_M_right 32 = .ok (.aload_n 0, 1) := by decide +kernel
theorem d_M_right_33 : decode c_M_right 33 = .ok (.getfield 64, 3) := by decide +kernel
theorem d_M_right_36 : decode c_M_right 36 = .ok (.ifCond .gt 17, 3) := by decide +kernel
theorem d_M_right_39 : decode c_M_right 39 = .ok (.aload_n 0, 1) := by decide +kernel
theorem d_M_right_40 : decode c_M_right 40 = .ok (.getfield 38, 3) := by decide +kernel
theorem d_M_right_43 : decode c_M_right 43 = .ok (.iconst 4, 1) := by decide +kernel
theorem d_M_right_44 : decode c_M_right 44 = .ok (.iload_n 1, 1) := by decide +kernel
theorem d_M_right_45 : decode c_M_right 45 = .ok (.imul, 1) := by decide +kernel
theorem d_M_right_46 : decode c_M_right 46 = .ok (.iload_n 2, 1) := by decide +kernel
theorem d_M_right_47 : decode c_M_right 47 = .ok (.iadd, 1) := by decide +kernel
theorem d_M_right_48 : decode c_M_right 48 = .ok (.baload, 1) := by decide +kernel
theorem d_M_right_49 : decode c_M_right 49 = .ok (.iload_n 3, 1) := by decide +kernel
theorem d_M_right_50 : decode c_M_right 50 = .ok (.if_icmp .ne 5, 3) := by decide +kernel
theorem d_M_right_53 : decode c_M_right 53 = .ok (.iconst 0, 1) := by decide +kernel
theorem d_M_right_54 : decode c_M_right 54 = .ok (.ireturn, 1) := by decide +kernel
theorem d_M_right_55 : decode c_M_right 55 = .ok (.aload_n 0, 1) := by decide +kernel
theorem d_M_right_56 : decode c_M_right 56 = .ok (.getfield 38, 3) := by decide +kernel
theorem d_M_right_59 : decode c_M_right 59 = .ok (.iconst 4, 1) := by decide +kernel
theorem d_M_right_60 : decode c_M_right 60 = .ok (.iload_n 1, 1) := by decide +kernel
theorem d_M_right_61 : decode c_M_right 61 = .ok (.imul, 1) := by decide +kernel
theorem d_M_right_62 : decode c_M_right 62 = .ok (.iload_n 2, 1) := by decide +kernel
theorem d_M_right_63 : decode c_M_right 63 = .ok (.iadd, 1) := by decide +kernel
theorem d_M_right_64 : decode c_M_right 64 = .ok (.iload_n 3, 1) := by decide +kernel
theorem d_M_right_65 : decode c_M_right 65 = .ok (.bastore, 1) := by decide +kernel
theorem d_M_right_66 : decode c_M_right 66 = .ok (.iconst 1, 1) := by decide +kernel
theorem d_M_right_67 : decode c_M_right 67 = .ok (.ireturn, 1) := by decide +kernel
theorem d_M_seen_0 : decode c_M_seen 0 = .ok (.aload_n 0, 1) := by decide +kernel
theorem d_M_seen_1 : decode c_M_seen 1 = .ok (.iload_n 1, 1) := by decide +kernel
theorem d_M_seen_2 : decode c_M_seen 2 = .ok (.i2l, 1) := by decide +kernel
theorem d_M_seen_3 : decode c_M_seen 3 = .ok (.lconst 0, 1) := by decide +kernel
theorem d_M_seen_4 : decode c_M_seen 4 = .ok (.ldc2_w 134, 3) := by decide +kernel
theorem d_M_seen_7 : decode c_M_seen 7 = .ok (.invokestatic 72, 3) := by decide +kernel
theorem d_M_seen_10 : decode c_M_seen 10 = .ok (.ifCond .eq 23, 3) := by decide +kernel
theorem d_M_seen_13 : decode c_M_seen 13 = .ok (.aload_n 0, 1) := by decide +kernel
theorem d_M_seen_14 : decode c_M_seen 14 = .ok (.iload_n 2, 1) := by decide +kernel
theorem d_M_seen_15 : decode c_M_seen 15 = .ok (.invokevirtual 89, 3) := by decide +kernel
theorem d_M_seen_18 : decode c_M_seen 18 = .ok (.ifCond .eq 15, 3) := by decide +kernel
theorem d_M_seen_21 : decode c_M_seen 21 = .ok (.iload_n 3, 1) := by decide +kernel
theorem d_M_seen_22 : decode c_M_seen 22 = .ok (.i2l, 1) := by decide +kernel
theorem d_M_seen_23 : decode c_M_seen 23 = .ok (.lconst 0, 1) := by decide +kernel
theorem d_M_seen_24 : decode c_M_seen 24 = .ok (.ldc2_w 76, 3) := by decide +kernel
theorem d_M_seen_27 : decode c_M_seen 27 = .ok (.invokestatic 72, 3) := by decide +kernel
theorem d_M_seen_30 : decode c_M_seen 30 = .ok (.ifCond .ne 7, 3) := by decide +kernel
theorem d_M_seen_33 : decode c_M_seen 33 = .ok (.iconst 1, 1) := by decide +kernel
theorem d_M_seen_34 : decode c_M_seen 34 = .ok (.goto 34, 3) := by decide +kernel
theorem d_M_seen_37 : decode c_M_seen 37 = .ok (.iload 4, 2) := by decide +kernel
theorem d_M_seen_39 : decode c_M_seen 39 = .ok (.invokestatic 78, 3) := by decide +kernel
theorem d_M_seen_42 : decode c_M_seen 42 = .ok (.ifCond .ne 7, 3) := by decide +kernel
theorem d_M_seen_45 : decode c_M_seen 45 = .ok (.iconst 2, 1) := by decide +kernel
theorem d_M_seen_46 : decode c_M_seen 46 = .ok (.goto 22, 3) := by decide +kernel
theorem d_M_seen_49 : decode c_M_seen 49 = .ok (.aload_n 0, 1) := by decide +kernel
theorem d_M_seen_50 : decode c_M_seen 50 = .ok (.getfield 38, 3) := by decide +kernel
theorem d_M_seen_53 : decode c_M_seen 53 = .ok (.iconst 4, 1) := by decide +kernel
theorem d_M_seen_54 : decode c_M_seen 54 = .ok (.iload_n 1, 1) := by decide +kernel
theorem d_M_seen_55 : decode c_M_seen 55 = .ok (.imul, 1) := by decide +kernel
theorem d_M_seen_56 : decode c_M_seen 56 = .ok (.iload 4, 2) := by decide +kernel
theorem d_M_seen_58 : decode c_M_seen 58 = .ok (.iadd, 1) := by decide +kernel
theorem d_M_seen_59 : decode c_M_seen 59 = .ok (.baload, 1) := by decide +kernel
theorem d_M_seen_60 : decode c_M_seen 60 = .ok (.ifCond .eq 7, 3) := by decide +kernel
theorem d_M_seen_63 : decode c_M_seen 63 = .ok (.iconst 0, 1) := by decide +kernel
theorem d_M_seen_64 : decode c_M_seen 64 = .ok (.goto 4, 3) := by decide +kernel
theorem d_M_seen_67 : decode c_M_seen 67 = .ok (.iconst 3, 1) := by decide +kernel
theorem d_M_seen_68 : decode c_M_seen 68 = .ok (.putfield 64, 3) := by decide +kernel
theorem d_M_seen_71 : decode c_M_seen 71 = .ok (.aload_n 0, 1) := by decide +kernel
theorem d_M_seen_72 : decode c_M_seen 72 = .ok (.getfield 64, 3) := by decide +kernel
theorem d_M_seen_75 : decode c_M_seen 75 = .ok (.ifCond .le 7, 3) := by decide +kernel
theorem d_M_seen_78 : decode c_M_seen 78 = .ok (.lconst 0, 1) := by decide +kernel
theorem d_M_seen_79 : decode c_M_seen 79 = .ok (.goto 38, 3) := by decide +kernel
theorem d_M_seen_82 : decode c_M_seen 82 = .ok (.aload_n 0, 1) := by decide +kernel
theorem d_M_seen_83 : decode c_M_seen 83 = .ok (.iload_n 2, 1) := by decide +kernel
theorem d_M_seen_84 : decode c_M_seen 84 = .ok (.aload_n 0, 1) := by decide +kernel
theorem d_M_seen_85 : decode c_M_seen 85 = .ok (.getfield 35, 3) := by decide +kernel
theorem d_M_seen_88 : decode c_M_seen 88 = .ok (.iload_n 2, 1) := by decide +kernel
theorem d_M_seen_89 : decode c_M_seen 89 = .ok (.iaload, 1) := by decide +kernel
theorem d_M_seen_90 : decode c_M_seen 90 = .ok (.ifCond .lt 12, 3) := by decide +kernel
theorem d_M_seen_93 : decode c_M_seen 93 = .ok (.aload_n 0, 1) := by decide +kernel
theorem d_M_seen_94 : decode c_M_seen 94 = .ok (.getfield 35, 3) := by decide +kernel
theorem d_M_seen_97 : decode c_M_seen 97 = .ok (.iload_n 2, 1) := by decide +kernel
theorem d_M_seen_98 : decode c_M_seen 98 = .ok (.iaload, 1) := by decide +kernel
theorem d_M_seen_99 : decode c_M_seen 99 = .ok (.goto 9, 3) := by decide +kernel
theorem d_M_seen_102 : decode c_M_seen 102 = .ok (.aload_n 0, 1) := by decide +kernel
theorem d_M_seen_103 : decode c_M_seen 103 = .ok (.getfield 29, 3) := by decide +kernel
theorem d_M_seen_106 : decode c_M_seen 106 = .ok (.iload_n 2, 1) := by decide +kernel
theorem d_M_seen_107 : decode c_M_seen 107 = .ok (.iaload, 1) := by decide +kernel
theorem d_M_seen_108 : decode c_M_seen 108 = .ok (.iload_n 3, 1) := by decide +kernel
theorem d_M_seen_109 : decode c_M_seen 109 = .ok (.iload 4, 2) := by decide +kernel
theorem d_M_seen_111 : decode c_M_seen 111 = .ok (.invokestatic 128, 3) := by decide +kernel
theorem d_M_seen_114 : decode c_M_seen 114 = .ok (.invokevirtual 122, 3) := by decide +kernel
theorem d_M_seen_117 : decode c_M_seen 117 = .ok (.lreturn, 1) := by decide +kernel
theorem d_M_entry_0 : decode c_M_entry 0 = .ok (.aload_n 0, 1) := by decide +kernel
theorem d_M_entry_1 : decode c_M_entry 1 = .ok (.iload_n 1, 1) := by decide +kernel
theorem d_M_entry_2 : decode c_M_entry 2 = .ok (.i2l, 1) := by decide +kernel
theorem d_M_entry_3 : decode c_M_entry 3 = .ok (.lconst 0, 1) := by decide +kernel
theorem d_M_entry_4 : decode c_M_entry 4 = .ok (.ldc2_w 136, 3) := by decide +kernel
theorem d_M_entry_7 : decode c_M_entry 7 = .ok (.invokestatic 72, 3) := by decide +kernel
theorem d_M_entry_10 : decode c_M_entry 10 = .ok (.ifCond .ne 7, 3) := by decide +kernel
theorem d_M_entry_13 : decode c_M_entry 13 = .ok (.iconst 1, 1) := by decide +kernel
theorem d_M_entry_14 : decode c_M_entry 14 = .ok (.goto 17, 3) := by decide +kernel
theorem d_M_entry_17 : decode c_M_entry 17 = .ok (.aload_n 0, 1) := by decide +kernel
theorem d_M_entry_18 : decode c_M_entry 18 = .ok (.getfield 138, 3) := by decide +kernel
theorem d_M_entry_21 : decode c_M_entry 21 = .ok (.bipush 60, 2) := by decide +kernel
theorem d_M_entry_23 : decode c_M_entry 23 = .ok (.if_icmp .ne 7, 3) := by decide +kernel
theorem d_M_entry_26 : decode c_M_entry 26 = .ok (.iconst 2, 1) := by decide +kernel
theorem d_M_entry_27 : decode c_M_entry 27 = .ok (.goto 4, 3) := by decide +kernel
theorem d_M_entry_30 : decode c_M_entry 30 = .ok (.iconst 0, 1) := by decide +kernel
theorem d_M_entry_31 : decode c_M_entry 31 = .ok (.putfield 64, 3) := by decide +kernel
theorem d_M_entry_34 : decode c_M_entry 34 = .ok (.aload_n 0, 1) := by decide +kernel
theorem d_M_entry_35 : decode c_M_entry 35 = .ok (.getfield 64, 3) := by decide +kernel
theorem d_M_entry_38 : decode c_M_entry 38 = .ok (.ifCond .le 7, 3) := by decide +kernel
theorem d_M_entry_41 : decode c_M_entry 41 = .ok (.iconst 0, 1) := by decide +kernel
theorem d_M_entry_42 : decode c_M_entry 42 = .ok (.goto 8, 3) := by decide +kernel
theorem d_M_entry_45 : decode c_M_entry 45 = .ok (.aload_n 0, 1) := by decide +kernel
theorem d_M_entry_46 : decode c_M_entry 46 = .ok (.iload_n 1, 1) := by decide +kernel
theorem d_M_entry_47 : decode c_M_entry 47 = .ok (.invokevirtual 141, 3) := by decide +kernel
theorem d_M_entry_50 : decode c_M_entry 50 = .ok (.ireturn, 1) := by decide +kernel
theorem d_M_open_0 : decode c_M_open 0 = .ok (.aload_n 0, 1) := by decide +kernel
theorem d_M_open_1 : decode c_M_open 1 = .ok (.getfield 42, 3) := by decide +kernel
theorem d_M_open_4 : decode c_M_open 4 = .ok (.aload_n 0, 1) := by decide +kernel
theorem d_M_open_5 : decode c_M_open 5 = .ok (.getfield 138, 3) := by decide +kernel
theorem d_M_open_8 : decode c_M_open 8 = .ok (.iload_n 1, 1) := by decide +kernel
theorem d_M_open_9 : decode c_M_open 9 = .ok (.iastore, 1) := by decide +kernel
theorem d_M_open_10 : decode c_M_open 10 = .ok (.aload_n 0, 1) := by decide +kernel
theorem d_M_open_11 : decode c_M_open 11 = .ok (.dup, 1) := by decide +kernel
theorem d_M_open_12 : decode c_M_open 12 = .ok (.getfield 138, 3) := by decide +kernel
theorem d_M_open_15 : decode c_M_open 15 = .ok (.iconst 1, 1) := by decide +kernel
theorem d_M_open_16 : decode c_M_open 16 = .ok (.iadd, 1) := by decide +kernel
theorem d_M_open_17 : decode c_M_open 17 = .ok (.putfield 138, 3) := by decide +kernel
theorem d_M_open_20 : decode c_M_open 20 = .ok (.aload_n 0, 1) := by decide +kernel
theorem d_M_open_21 : decode c_M_open 21 = .ok (.getfield 138, 3) := by decide +kernel
theorem d_M_open_24 : decode c_M_open 24 = .ok (.iconst 1, 1) := by decide +kernel
theorem d_M_open_25 : decode c_M_open 25 = .ok (.isub, 1) := by decide +kernel
theorem d_M_open_26 : decode c_M_open 26 = .ok (.ireturn, 1) := by decide +kernel
theorem d_M_isEntry_0 : decode c_M_isEntry 0 = .ok (.iload_n 1, 1) := by decide +kernel
theorem d_M_isEntry_1 : decode c_M_isEntry 1 = .ok (.ifCond .lt 15, 3) := by decide +kernel
theorem d_M_isEntry_4 : decode c_M_isEntry 4 = .ok (.iload_n 1, 1) := by decide +kernel
theorem d_M_isEntry_5 : decode c_M_isEntry 5 = .ok (.aload_n 0, 1) := by decide +kernel
theorem d_M_isEntry_6 : decode c_M_isEntry 6 = .ok (.getfield 138, 3) := by decide +kernel
theorem d_M_isEntry_9 : decode c_M_isEntry 9 = .ok (.if_icmp .ge 7, 3) := by decide +kernel
theorem d_M_isEntry_12 : decode c_M_isEntry 12 = .ok (.iconst 1, 1) := by decide +kernel
theorem d_M_isEntry_13 : decode c_M_isEntry 13 = .ok (.goto 4, 3) := by decide +kernel
theorem d_M_isEntry_16 : decode c_M_isEntry 16 = .ok (.iconst 0, 1) := by decide +kernel
theorem d_M_isEntry_17 : decode c_M_isEntry 17 = .ok (.ireturn, 1) := by decide +kernel
theorem d_M_addRow_0 : decode c_M_addRow 0 = .ok (.aload_n 0, 1) := by decide +kernel
theorem d_M_addRow_1 : decode c_M_addRow 1 = .ok (.getfield 48, 3) := by decide +kernel
theorem d_M_addRow_4 : decode c_M_addRow 4 = .ok (.bipush 6, 2) := by decide +kernel
theorem d_M_addRow_6 : decode c_M_addRow 6 = .ok (.iload_n 1, 1) := by decide +kernel
theorem d_M_addRow_7 : decode c_M_addRow 7 = .ok (.imul, 1) := by decide +kernel
theorem d_M_addRow_8 : decode c_M_addRow 8 = .ok (.aload_n 0, 1) := by decide +kernel
theorem d_M_addRow_9 : decode c_M_addRow 9 = .ok (.getfield 45, 3) := by decide +kernel
theorem d_M_addRow_12 : decode c_M_addRow 12 = .ok (.iload_n 1, 1) := by decide +kernel
theorem d_M_addRow_13 : decode c_M_addRow 13 = .ok (.iaload, 1) := by decide +kernel
theorem d_M_addRow_14 : decode c_M_addRow 14 = .ok (.iadd, 1) := by decide +kernel
theorem d_M_addRow_15 : decode c_M_addRow 15 = .ok (.iload_n 2, 1) := by decide +kernel
theorem d_M_addRow_16 : decode c_M_addRow 16 = .ok (.iastore, 1) := by decide +kernel
theorem d_M_addRow_17 : decode c_M_addRow 17 = .ok (.aload_n 0, 1) := by decide +kernel
theorem d_M_addRow_18 : decode c_M_addRow 18 = .ok (.getfield 51, 3) := by decide +kernel
theorem d_M_addRow_21 : decode c_M_addRow 21 = .ok (.bipush 6, 2) := by decide +kernel
theorem d_M_addRow_23 : decode c_M_addRow 23 = .ok (.iload_n 1, 1) := by decide +kernel
theorem d_M_addRow_24 : decode c_M_addRow 24 = .ok (.imul, 1) := by decide +kernel
theorem d_M_addRow_25 : decode c_M_addRow 25 = .ok (.aload_n 0, 1) := by decide +kernel
theorem d_M_addRow_26 : decode c_M_addRow 26 = .ok (.getfield 45, 3) := by decide +kernel
theorem d_M_addRow_29 : decode c_M_addRow 29 = .ok (.iload_n 1, 1) := by decide +kernel
theorem d_M_addRow_30 : decode c_M_addRow 30 = .ok (.iaload, 1) := by decide +kernel
theorem d_M_addRow_31 : decode c_M_addRow 31 = .ok (.iadd, 1) := by decide +kernel
theorem d_M_addRow_32 : decode c_M_addRow 32 = .ok (.lload_n 3, 1) := by decide +kernel
theorem d_M_addRow_33 : decode c_M_addRow 33 = .ok (.lastore, 1) := by decide +kernel
theorem d_M_addRow_34 : decode c_M_addRow 34 = .ok (.aload_n 0, 1) := by decide +kernel
theorem d_M_addRow_35 : decode c_M_addRow 35 = .ok (.getfield 45, 3) := by decide +kernel
theorem d_M_addRow_38 : decode c_M_addRow 38 = .ok (.iload_n 1, 1) := by decide +kernel
theorem d_M_addRow_39 : decode c_M_addRow 39 = .ok (.dup2, 1) := by decide +kernel
theorem d_M_addRow_40 : decode c_M_addRow 40 = .ok (.iaload, 1) := by decide +kernel
theorem d_M_addRow_41 : decode c_M_addRow 41 = .ok (.iconst 1, 1) := by decide +kernel
theorem d_M_addRow_42 : decode c_M_addRow 42 = .ok (.iadd, 1) := by decide +kernel
theorem d_M_addRow_43 : decode c_M_addRow 43 = .ok (.iastore, 1) := by decide +kernel
theorem d_M_addRow_44 : decode c_M_addRow 44 = .ok (.return_, 1) := by decide +kernel
theorem d_M_row_0 : decode c_M_row 0 = .ok (.aload_n 0, 1) := by decide +kernel
theorem d_M_row_1 : decode c_M_row 1 = .ok (.aload_n 0, 1) := by decide +kernel
theorem d_M_row_2 : decode c_M_row 2 = .ok (.iload_n 1, 1) := by decide +kernel
theorem d_M_row_3 : decode c_M_row 3 = .ok (.invokevirtual 145, 3) := by decide +kernel
theorem d_M_row_6 : decode c_M_row 6 = .ok (.ifCond .eq 15, 3) := by decide +kernel
theorem d_M_row_9 : decode c_M_row 9 = .ok (.iload_n 2, 1) := by decide +kernel
theorem d_M_row_10 : decode c_M_row 10 = .ok (.i2l, 1) := by decide +kernel
theorem d_M_row_11 : decode c_M_row 11 = .ok (.lconst 0, 1) := by decide +kernel
theorem d_M_row_12 : decode c_M_row 12 = .ok (.ldc2_w 76, 3) := by decide +kernel
theorem d_M_row_15 : decode c_M_row 15 = .ok (.invokestatic 72, 3) := by decide +kernel
theorem d_M_row_18 : decode c_M_row 18 = .ok (.ifCond .ne 7, 3) := by decide +kernel
theorem d_M_row_21 : decode c_M_row 21 = .ok (.iconst 1, 1) := by decide +kernel
theorem d_M_row_22 : decode c_M_row 22 = .ok (.goto 45, 3) := by decide +kernel
theorem d_M_row_25 : decode c_M_row 25 = .ok (.lload_n 3, 1) := by decide +kernel
theorem d_M_row_26 : decode c_M_row 26 = .ok (.ldc2_w 148, 3) := by decide +kernel
theorem d_M_row_29 : decode c_M_row 29 = .ok (.ldc2_w 150, 3) := by decide +kernel
theorem d_M_row_32 : decode c_M_row 32 = .ok (.invokestatic 72, 3) := by decide +kernel
theorem d_M_row_35 : decode c_M_row 35 = .ok (.ifCond .ne 7, 3) := by decide +kernel
theorem d_M_row_38 : decode c_M_row 38 = .ok (.iconst 2, 1) := by decide +kernel
theorem d_M_row_39 : decode c_M_row 39 = .ok (.goto 28, 3) := by decide +kernel
theorem d_M_row_42 : decode c_M_row 42 = .ok (.aload_n 0, 1) := by decide +kernel
theorem d_M_row_43 : decode c_M_row 43 = .ok (.getfield 45, 3) := by decide +kernel
theorem d_M_row_46 : decode c_M_row 46 = .ok (.iload_n 1, 1) := by decide +kernel
theorem d_M_row_47 : decode c_M_row 47 = .ok (.iaload, 1) := by decide +kernel
theorem d_M_row_48 : decode c_M_row 48 = .ok (.bipush 6, 2) := by decide +kernel
theorem d_M_row_50 : decode c_M_row 50 = .ok (.if_icmp .eq 12, 3) := by decide +kernel
theorem d_M_row_53 : decode c_M_row 53 = .ok (.aload_n 0, 1) := by decide +kernel
theorem d_M_row_54 : decode c_M_row 54 = .ok (.getfield 54, 3) := by decide +kernel
theorem d_M_row_57 : decode c_M_row 57 = .ok (.iload_n 1, 1) := by decide +kernel
theorem d_M_row_58 : decode c_M_row 58 = .ok (.iaload, 1) := by decide +kernel
theorem d_M_row_59 : decode c_M_row 59 = .ok (.ifCond .le 7, 3) := by decide +kernel
theorem d_M_row_62 : decode c_M_row 62 = .ok (.iconst 3, 1) := by decide +kernel
theorem d_M_row_63 : decode c_M_row 63 = .ok (.goto 4, 3) := by decide +kernel
theorem d_M_row_66 : decode c_M_row 66 = .ok (.iconst 0, 1) := by decide +kernel
theorem d_M_row_67 : decode c_M_row 67 = .ok (.putfield 64, 3) := by decide +kernel
theorem d_M_row_70 : decode c_M_row 70 = .ok (.aload_n 0, 1) := by decide +kernel
theorem d_M_row_71 : decode c_M_row 71 = .ok (.getfield 64, 3) := by decide +kernel
theorem d_M_row_74 : decode c_M_row 74 = .ok (.ifCond .le 5, 3) := by decide +kernel
theorem d_M_row_77 : decode c_M_row 77 = .ok (.iconst 0, 1) := by decide +kernel
theorem d_M_row_78 : decode c_M_row 78 = .ok (.ireturn, 1) := by decide +kernel
theorem d_M_row_79 : decode c_M_row 79 = .ok (.aload_n 0, 1) := by decide +kernel
theorem d_M_row_80 : decode c_M_row 80 = .ok (.iload_n 1, 1) := by decide +kernel
theorem d_M_row_81 : decode c_M_row 81 = .ok (.iload_n 2, 1) := by decide +kernel
theorem d_M_row_82 : decode c_M_row 82 = .ok (.lload_n 3, 1) := by decide +kernel
theorem d_M_row_83 : decode c_M_row 83 = .ok (.invokevirtual 152, 3) := by decide +kernel
theorem d_M_row_86 : decode c_M_row 86 = .ok (.aload_n 0, 1) := by decide +kernel
theorem d_M_row_87 : decode c_M_row 87 = .ok (.getfield 45, 3) := by decide +kernel
theorem d_M_row_90 : decode c_M_row 90 = .ok (.iload_n 1, 1) := by decide +kernel
theorem d_M_row_91 : decode c_M_row 91 = .ok (.iaload, 1) := by decide +kernel
theorem d_M_row_92 : decode c_M_row 92 = .ok (.ireturn, 1) := by decide +kernel
theorem d_M_closeNow_0 : decode c_M_closeNow 0 = .ok (.aload_n 0, 1) := by decide +kernel
theorem d_M_closeNow_1 : decode c_M_closeNow 1 = .ok (.dup, 1) := by decide +kernel
theorem d_M_closeNow_2 : decode c_M_closeNow 2 = .ok (.getfield 156, 3) := by decide +kernel
theorem d_M_closeNow_5 : decode c_M_closeNow 5 = .ok (.iconst 1, 1) := by decide +kernel
theorem d_M_closeNow_6 : decode c_M_closeNow 6 = .ok (.iadd, 1) := by decide +kernel
theorem d_M_closeNow_7 : decode c_M_closeNow 7 = .ok (.putfield 156, 3) := by decide +kernel
theorem d_M_closeNow_10 : decode c_M_closeNow 10 = .ok (.aload_n 0, 1) := by decide +kernel
theorem d_M_closeNow_11 : decode c_M_closeNow 11 = .ok (.getfield 54, 3) := by decide +kernel
theorem d_M_closeNow_14 : decode c_M_closeNow 14 = .ok (.iload_n 1, 1) := by decide +kernel
theorem d_M_closeNow_15 : decode c_M_closeNow 15 = .ok (.aload_n 0, 1) := by decide +kernel
theorem d_M_closeNow_16 : decode c_M_closeNow 16 = .ok (.getfield 156, 3) := by decide +kernel
theorem d_M_closeNow_19 : decode c_M_closeNow 19 = .ok (.iastore, 1) := by decide +kernel
theorem d_M_closeNow_20 : decode c_M_closeNow 20 = .ok (.return_, 1) := by decide +kernel
theorem d_M_close_0 : decode c_M_close 0 = .ok (.aload_n 0, 1) := by decide +kernel
theorem d_M_close_1 : decode c_M_close 1 = .ok (.aload_n 0, 1) := by decide +kernel
theorem d_M_close_2 : decode c_M_close 2 = .ok (.iload_n 1, 1) := by decide +kernel
theorem d_M_close_3 : decode c_M_close 3 = .ok (.invokevirtual 145, 3) := by decide +kernel
theorem d_M_close_6 : decode c_M_close 6 = .ok (.ifCond .ne 7, 3) := by decide +kernel
theorem d_M_close_9 : decode c_M_close 9 = .ok (.iconst 1, 1) := by decide +kernel
theorem d_M_close_10 : decode c_M_close 10 = .ok (.goto 17, 3) := by decide +kernel
theorem d_M_close_13 : decode c_M_close 13 = .ok (.aload_n 0, 1) := by decide +kernel
theorem d_M_close_14 : decode c_M_close 14 = .ok (.getfield 54, 3) := by decide +kernel
theorem d_M_close_17 : decode c_M_close 17 = .ok (.iload_n 1, 1) := by decide +kernel
theorem d_M_close_18 : decode c_M_close 18 = .ok (.iaload, 1) := by decide +kernel
theorem d_M_close_19 : decode c_M_close 19 = .ok (.ifCond .le 7, 3) := by decide +kernel
theorem d_M_close_22 : decode c_M_close 22 = .ok (.iconst 2, 1) := by decide +kernel
theorem d_M_close_23 : decode c_M_close 23 = .ok (.goto 4, 3) := by decide +kernel
theorem d_M_close_26 : decode c_M_close 26 = .ok (.iconst 0, 1) := by decide +kernel
theorem d_M_close_27 : decode c_M_close 27 = .ok (.putfield 64, 3) := by decide +kernel
theorem d_M_close_30 : decode c_M_close 30 = .ok (.aload_n 0, 1) := by decide +kernel
theorem d_M_close_31 : decode c_M_close 31 = .ok (.getfield 64, 3) := by decide +kernel
theorem d_M_close_34 : decode c_M_close 34 = .ok (.ifCond .le 5, 3) := by decide +kernel
theorem d_M_close_37 : decode c_M_close 37 = .ok (.iconst 0, 1) := by decide +kernel
theorem d_M_close_38 : decode c_M_close 38 = .ok (.ireturn, 1) := by decide +kernel
theorem d_M_close_39 : decode c_M_close 39 = .ok (.lconst 0, 1) := by decide +kernel
theorem d_M_close_40 : decode c_M_close 40 = .ok (.lstore_n 2, 1) := by decide +kernel
theorem d_M_close_41 : decode c_M_close 41 = .ok (.iconst 0, 1) := by decide +kernel
theorem d_M_close_42 : decode c_M_close 42 = .ok (.istore 4, 2) := by decide +kernel
theorem d_M_close_44 : decode c_M_close 44 = .ok (.iload 4, 2) := by decide +kernel
theorem d_M_close_46 : decode c_M_close 46 = .ok (.aload_n 0, 1) := by decide +kernel
theorem d_M_close_47 : decode c_M_close 47 = .ok (.getfield 45, 3) := by decide +kernel
theorem d_M_close_50 : decode c_M_close 50 = .ok (.iload_n 1, 1) := by decide +kernel
theorem d_M_close_51 : decode c_M_close 51 = .ok (.iaload, 1) := by decide +kernel
theorem d_M_close_52 : decode c_M_close 52 = .ok (.if_icmp .ge 24, 3) := by decide +kernel
theorem d_M_close_55 : decode c_M_close 55 = .ok (.lload_n 2, 1) := by decide +kernel
theorem d_M_close_56 : decode c_M_close 56 = .ok (.aload_n 0, 1) := by decide +kernel
theorem d_M_close_57 : decode c_M_close 57 = .ok (.getfield 51, 3) := by decide +kernel
theorem d_M_close_60 : decode c_M_close 60 = .ok (.bipush 6, 2) := by decide +kernel
theorem d_M_close_62 : decode c_M_close 62 = .ok (.iload_n 1, 1) := by decide +kernel
theorem d_M_close_63 : decode c_M_close 63 = .ok (.imul, 1) := by decide +kernel
theorem d_M_close_64 : decode c_M_close 64 = .ok (.iload 4, 2) := by decide +kernel
theorem d_M_close_66 : decode c_M_close 66 = .ok (.iadd, 1) := by decide +kernel
theorem d_M_close_67 : decode c_M_close 67 = .ok (.laload, 1) := by decide +kernel
theorem d_M_close_68 : decode c_M_close 68 = .ok (.ladd, 1) := by decide +kernel
theorem d_M_close_69 : decode c_M_close 69 = .ok (.lstore_n 2, 1) := by decide +kernel
theorem d_M_close_70 : decode c_M_close 70 = .ok (.iinc 4 1, 3) := by decide +kernel
theorem d_M_close_73 : decode c_M_close 73 = .ok (.goto (-29), 3) := by decide +kernel
theorem d_M_close_76 : decode c_M_close 76 = .ok (.aload_n 0, 1) := by decide +kernel
theorem d_M_close_77 : decode c_M_close 77 = .ok (.getfield 45, 3) := by decide +kernel
theorem d_M_close_80 : decode c_M_close 80 = .ok (.iload_n 1, 1) := by decide +kernel
theorem d_M_close_81 : decode c_M_close 81 = .ok (.iaload, 1) := by decide +kernel
theorem d_M_close_82 : decode c_M_close 82 = .ok (.ifCond .eq 25, 3) := by decide +kernel
theorem d_M_close_85 : decode c_M_close 85 = .ok (.lload_n 2, 1) := by decide +kernel
theorem d_M_close_86 : decode c_M_close 86 = .ok (.lconst 0, 1) := by decide +kernel
theorem d_M_close_87 : decode c_M_close 87 = .ok (.lcmp, 1) := by decide +kernel
theorem d_M_close_88 : decode c_M_close 88 = .ok (.ifCond .ne 19, 3) := by decide +kernel
theorem d_M_close_91 : decode c_M_close 91 = .ok (.aload_n 0, 1) := by decide +kernel
theorem d_M_close_92 : decode c_M_close 92 = .ok (.getfield 42, 3) := by decide +kernel
theorem d_M_close_95 : decode c_M_close 95 = .ok (.iload_n 1, 1) := by decide +kernel
theorem d_M_close_96 : decode c_M_close 96 = .ok (.iaload, 1) := by decide +kernel
theorem d_M_close_97 : decode c_M_close 97 = .ok (.bipush 30, 2) := by decide +kernel
theorem d_M_close_99 : decode c_M_close 99 = .ok (.idiv, 1) := by decide +kernel
theorem d_M_close_100 : decode c_M_close 100 = .ok (.aload_n 0, 1) := by decide +kernel
theorem d_M_close_101 : decode c_M_close 101 = .ok (.getfield 60, 3) := by decide +kernel
theorem d_M_close_104 : decode c_M_close 104 = .ok (.if_icmp .gt 5, 3) := by decide +kernel
theorem d_M_close_107 : decode c_M_close 107 = .ok (.iconst 0, 1) := by decide +kernel
theorem d_M_close_108 : decode c_M_close 108 = .ok (.ireturn, 1) := by decide +kernel
theorem d_M_close_109 : decode c_M_close 109 = .ok (.aload_n 0, 1) := by decide +kernel
theorem d_M_close_110 : decode c_M_close 110 = .ok (.iload_n 1, 1) := by decide +kernel
theorem d_M_close_111 : decode c_M_close 111 = .ok (.invokevirtual 159, 3) := by decide +kernel
theorem d_M_close_114 : decode c_M_close 114 = .ok (.aload_n 0, 1) := by decide +kernel
theorem d_M_close_115 : decode c_M_close 115 = .ok (.getfield 156, 3) := by decide +kernel
theorem d_M_close_118 : decode c_M_close 118 = .ok (.ireturn, 1) := by decide +kernel
theorem d_M_balance_0 : decode c_M_balance 0 = .ok (.aload_n 0, 1) := by decide +kernel
theorem d_M_balance_1 : decode c_M_balance 1 = .ok (.iload_n 1, 1) := by decide +kernel
theorem d_M_balance_2 : decode c_M_balance 2 = .ok (.i2l, 1) := by decide +kernel
theorem d_M_balance_3 : decode c_M_balance 3 = .ok (.lconst 0, 1) := by decide +kernel
theorem d_M_balance_4 : decode c_M_balance 4 = .ok (.ldc2_w 76, 3) := by decide +kernel
theorem d_M_balance_7 : decode c_M_balance 7 = .ok (.invokestatic 72, 3) := by decide +kernel
theorem d_M_balance_10 : decode c_M_balance 10 = .ok (.ifCond .eq 7, 3) := by decide +kernel
theorem d_M_balance_13 : decode c_M_balance 13 = .ok (.iconst 0, 1) := by decide +kernel
theorem d_M_balance_14 : decode c_M_balance 14 = .ok (.goto 4, 3) := by decide +kernel
theorem d_M_balance_17 : decode c_M_balance 17 = .ok (.iconst 1, 1) := by decide +kernel
theorem d_M_balance_18 : decode c_M_balance 18 = .ok (.putfield 64, 3) := by decide +kernel
theorem d_M_balance_21 : decode c_M_balance 21 = .ok (.lconst 0, 1) := by decide +kernel
theorem d_M_balance_22 : decode c_M_balance 22 = .ok (.lstore_n 3, 1) := by decide +kernel
theorem d_M_balance_23 : decode c_M_balance 23 = .ok (.iconst 0, 1) := by decide +kernel
theorem d_M_balance_24 : decode c_M_balance 24 = .ok (.istore 5, 2) := by decide +kernel
theorem d_M_balance_26 : decode c_M_balance 26 = .ok (.iload 5, 2) := by decide +kernel
theorem d_M_balance_28 : decode c_M_balance 28 = .ok (.aload_n 0, 1) := by decide +kernel
theorem d_M_balance_29 : decode c_M_balance 29 = .ok (.getfield 138, 3) := by decide +kernel
theorem d_M_balance_32 : decode c_M_balance 32 = .ok (.if_icmp .ge 93, 3) := by decide +kernel
theorem d_M_balance_35 : decode c_M_balance 35 = .ok (.aload_n 0, 1) := by decide +kernel
theorem d_M_balance_36 : decode c_M_balance 36 = .ok (.getfield 64, 3) := by decide +kernel
theorem d_M_balance_39 : decode c_M_balance 39 = .ok (.ifCond .ne 86, 3) := by decide +kernel
theorem d_M_balance_42 : decode c_M_balance 42 = .ok (.bipush 6, 2) := by decide +kernel
theorem d_M_balance_44 : decode c_M_balance 44 = .ok (.iload 5, 2) := by decide +kernel
theorem d_M_balance_46 : decode c_M_balance 46 = .ok (.imul, 1) := by decide +kernel
theorem d_M_balance_47 : decode c_M_balance 47 = .ok (.istore 6, 2) := by decide +kernel
theorem d_M_balance_49 : decode c_M_balance 49 = .ok (.iload 6, 2) := by decide +kernel
theorem d_M_balance_51 : decode c_M_balance 51 = .ok (.bipush 6, 2) := by decide +kernel
theorem d_M_balance_53 : decode c_M_balance 53 = .ok (.iload 5, 2) := by decide +kernel
theorem d_M_balance_55 : decode c_M_balance 55 = .ok (.imul, 1) := by decide +kernel
theorem d_M_balance_56 : decode c_M_balance 56 = .ok (.aload_n 0, 1) := by decide +kernel
theorem d_M_balance_57 : decode c_M_balance 57 = .ok (.getfield 45, 3) := by decide +kernel
theorem d_M_balance_60 : decode c_M_balance 60 = .ok (.iload 5, 2) := by decide +kernel
theorem d_M_balance_62 : decode c_M_balance 62 = .ok (.iaload, 1) := by decide +kernel
theorem d_M_balance_63 : decode c_M_balance 63 = .ok (.iadd, 1) := by decide +kernel
theorem d_M_balance_64 : decode c_M_balance 64 = .ok (.if_icmp .ge 55, 3) := by decide +kernel
theorem d_M_balance_67 : decode c_M_balance 67 = .ok (.lload_n 3, 1) := by decide +kernel
theorem d_M_balance_68 : decode c_M_balance 68 = .ok (.aload_n 0, 1) := by decide +kernel
theorem d_M_balance_69 : decode c_M_balance 69 = .ok (.getfield 54, 3) := by decide +kernel
theorem d_M_balance_72 : decode c_M_balance 72 = .ok (.iload 5, 2) := by decide +kernel
theorem d_M_balance_74 : decode c_M_balance 74 = .ok (.iaload, 1) := by decide +kernel
theorem d_M_balance_75 : decode c_M_balance 75 = .ok (.ifCond .le 35, 3) := by decide +kernel
theorem d_M_balance_78 : decode c_M_balance 78 = .ok (.aload_n 0, 1) := by decide +kernel
theorem d_M_balance_79 : decode c_M_balance 79 = .ok (.getfield 42, 3) := by decide +kernel
theorem d_M_balance_82 : decode c_M_balance 82 = .ok (.iload 5, 2) := by decide +kernel
theorem d_M_balance_84 : decode c_M_balance 84 = .ok (.iaload, 1) := by decide +kernel
theorem d_M_balance_85 : decode c_M_balance 85 = .ok (.iload_n 2, 1) := by decide +kernel
theorem d_M_balance_86 : decode c_M_balance 86 = .ok (.if_icmp .gt 24, 3) := by decide +kernel
theorem d_M_balance_89 : decode c_M_balance 89 = .ok (.aload_n 0, 1) := by decide +kernel
theorem d_M_balance_90 : decode c_M_balance 90 = .ok (.getfield 48, 3) := by decide +kernel
theorem d_M_balance_93 : decode c_M_balance 93 = .ok (.iload 6, 2) := by decide +kernel
theorem d_M_balance_95 : decode c_M_balance 95 = .ok (.iaload, 1) := by decide +kernel
theorem d_M_balance_96 : decode c_M_balance 96 = .ok (.iload_n 1, 1) := by decide +kernel
theorem d_M_balance_97 : decode c_M_balance 97 = .ok (.if_icmp .ne 13, 3) := by decide +kernel
theorem d_M_balance_100 : decode c_M_balance 100 = .ok (.aload_n 0, 1) := by decide +kernel
theorem d_M_balance_101 : decode c_M_balance 101 = .ok (.getfield 51, 3) := by decide +kernel
theorem d_M_balance_104 : decode c_M_balance 104 = .ok (.iload 6, 2) := by decide +kernel
theorem d_M_balance_106 : decode c_M_balance 106 = .ok (.laload, 1) := by decide +kernel
theorem d_M_balance_107 : decode c_M_balance 107 = .ok (.goto 4, 3) := by decide +kernel
theorem d_M_balance_110 : decode c_M_balance 110 = .ok (.lconst 0, 1) := by decide +kernel
theorem d_M_balance_111 : decode c_M_balance 111 = .ok (.ladd, 1) := by decide +kernel
theorem d_M_balance_112 : decode c_M_balance 112 = .ok (.lstore_n 3, 1) := by decide +kernel
theorem d_M_balance_113 : decode c_M_balance 113 = .ok (.iinc 6 1, 3) := by decide +kernel
theorem d_M_balance_116 : decode c_M_balance 116 = .ok (.goto (-67), 3) := by decide +kernel
theorem d_M_balance_119 : decode c_M_balance 119 = .ok (.iinc 5 1, 3) := by decide +kernel
theorem d_M_balance_122 : decode c_M_balance 122 = .ok (.goto (-96), 3) := by decide +kernel
theorem d_M_balance_125 : decode c_M_balance 125 = .ok (.lload_n 3, 1) := by decide +kernel
theorem d_M_balance_126 : decode c_M_balance 126 = .ok (.lreturn, 1) := by decide +kernel
theorem d_M_closeMonth_0 : decode c_M_closeMonth 0 = .ok (.aload_n 0, 1) := by decide +kernel
theorem d_M_closeMonth_1 : decode c_M_closeMonth 1 = .ok (.iload_n 1, 1) := by decide +kernel
theorem d_M_closeMonth_2 : decode c_M_closeMonth 2 = .ok (.i2l, 1) := by decide +kernel
theorem d_M_closeMonth_3 : decode c_M_closeMonth 3 = .ok (.lconst 0, 1) := by decide +kernel
theorem d_M_closeMonth_4 : decode c_M_closeMonth 4 = .ok (.ldc2_w 163, 3) := by decide +kernel
theorem d_M_closeMonth_7 : decode c_M_closeMonth 7 = .ok (.invokestatic 72, 3) := by decide +kernel
theorem d_M_closeMonth_10 : decode c_M_closeMonth 10 = .ok (.ifCond .eq 7, 3) := by decide +kernel
theorem d_M_closeMonth_13 : decode c_M_closeMonth 13 = .ok (.iconst 0, 1) := by decide +kernel
theorem d_M_closeMonth_14 : decode c_M_closeMonth 14 = .ok (.goto 4, 3) := by decide +kernel
theorem d_M_closeMonth_17 : decode c_M_closeMonth 17 = .ok (.iconst 1, 1) := by decide +kernel
theorem d_M_closeMonth_18 : decode c_M_closeMonth 18 = .ok (.putfield 64, 3) := by decide +kernel
theorem d_M_closeMonth_21 : decode c_M_closeMonth 21 = .ok (.aload_n 0, 1) := by decide +kernel
theorem d_M_closeMonth_22 : decode c_M_closeMonth 22 = .ok (.getfield 64, 3) := by decide +kernel
theorem d_M_closeMonth_25 : decode c_M_closeMonth 25 = .ok (.ifCond .gt 11, 3) := by decide +kernel
theorem d_M_closeMonth_28 : decode c_M_closeMonth 28 = .ok (.iload_n 1, 1) := by decide +kernel
theorem d_M_closeMonth_29 : decode c_M_closeMonth 29 = .ok (.aload_n 0, 1) := by decide +kernel
theorem d_M_closeMonth_30 : decode c_M_closeMonth 30 = .ok (.getfield 60, 3) := by decide +kernel
theorem d_M_closeMonth_33 : decode c_M_closeMonth 33 = .ok (.if_icmp .gt 5, 3) := by decide +kernel
theorem d_M_closeMonth_36 : decode c_M_closeMonth 36 = .ok (.iconst 0, 1) := by decide +kernel
theorem d_M_closeMonth_37 : decode c_M_closeMonth 37 = .ok (.ireturn, 1) := by decide +kernel
theorem d_M_closeMonth_38 : decode c_M_closeMonth 38 = .ok (.aload_n 0, 1) := by decide +kernel
theorem d_M_closeMonth_39 : decode c_M_closeMonth 39 = .ok (.iload_n 1, 1) := by decide +kernel
theorem d_M_closeMonth_40 : decode c_M_closeMonth 40 = .ok (.putfield 60, 3) := by decide +kernel
theorem d_M_closeMonth_43 : decode c_M_closeMonth 43 = .ok (.iconst 1, 1) := by decide +kernel
theorem d_M_closeMonth_44 : decode c_M_closeMonth 44 = .ok (.ireturn, 1) := by decide +kernel
theorem d_M_reverse_0 : decode c_M_reverse 0 = .ok (.aload_n 0, 1) := by decide +kernel
theorem d_M_reverse_1 : decode c_M_reverse 1 = .ok (.iload_n 1, 1) := by decide +kernel
theorem d_M_reverse_2 : decode c_M_reverse 2 = .ok (.iconst 1, 1) := by decide +kernel
theorem d_M_reverse_3 : decode c_M_reverse 3 = .ok (.if_icmp .lt 11, 3) := by decide +kernel
theorem d_M_reverse_6 : decode c_M_reverse 6 = .ok (.iload_n 1, 1) := by decide +kernel
theorem d_M_reverse_7 : decode c_M_reverse 7 = .ok (.aload_n 0, 1) := by decide +kernel
theorem d_M_reverse_8 : decode c_M_reverse 8 = .ok (.getfield 156, 3) := by decide +kernel
theorem d_M_reverse_11 : decode c_M_reverse 11 = .ok (.if_icmp .le 7, 3) := by decide +kernel
theorem d_M_reverse_14 : decode c_M_reverse 14 = .ok (.iconst 1, 1) := by decide +kernel
theorem d_M_reverse_15 : decode c_M_reverse 15 = .ok (.goto 20, 3) := by decide +kernel
theorem d_M_reverse_18 : decode c_M_reverse 18 = .ok (.iload_n 2, 1) := by decide +kernel
theorem d_M_reverse_19 : decode c_M_reverse 19 = .ok (.i2l, 1) := by decide +kernel
theorem d_M_reverse_20 : decode c_M_reverse 20 = .ok (.lconst 0, 1) := by decide +kernel
theorem d_M_reverse_21 : decode c_M_reverse 21 = .ok (.ldc2_w 136, 3) := by decide +kernel
theorem d_M_reverse_24 : decode c_M_reverse 24 = .ok (.invokestatic 72, 3) := by decide +kernel
theorem d_M_reverse_27 : decode c_M_reverse 27 = .ok (.ifCond .eq 7, 3) := by decide +kernel
theorem d_M_reverse_30 : decode c_M_reverse 30 = .ok (.iconst 0, 1) := by decide +kernel
theorem d_M_reverse_31 : decode c_M_reverse 31 = .ok (.goto 4, 3) := by decide +kernel
theorem d_M_reverse_34 : decode c_M_reverse 34 = .ok (.iconst 2, 1) := by decide +kernel
theorem d_M_reverse_35 : decode c_M_reverse 35 = .ok (.putfield 64, 3) := by decide +kernel
theorem d_M_reverse_38 : decode c_M_reverse 38 = .ok (.aload_n 0, 1) := by decide +kernel
theorem d_M_reverse_39 : decode c_M_reverse 39 = .ok (.getfield 64, 3) := by decide +kernel
theorem d_M_reverse_42 : decode c_M_reverse 42 = .ok (.ifCond .le 5, 3) := by decide +kernel
theorem d_M_reverse_45 : decode c_M_reverse 45 = .ok (.iconst 0, 1) := by decide +kernel
theorem d_M_reverse_46 : decode c_M_reverse 46 = .ok (.ireturn, 1) := by decide +kernel
theorem d_M_reverse_47 : decode c_M_reverse 47 = .ok (.iconst 0, 1) := by decide +kernel
theorem d_M_reverse_48 : decode c_M_reverse 48 = .ok (.istore_n 3, 1) := by decide +kernel
theorem d_M_reverse_49 : decode c_M_reverse 49 = .ok (.aload_n 0, 1) := by decide +kernel
theorem d_M_reverse_50 : decode c_M_reverse 50 = .ok (.getfield 54, 3) := by decide +kernel
theorem d_M_reverse_53 : decode c_M_reverse 53 = .ok (.iload_n 3, 1) := by decide +kernel
theorem d_M_reverse_54 : decode c_M_reverse 54 = .ok (.iaload, 1) := by decide +kernel
theorem d_M_reverse_55 : decode c_M_reverse 55 = .ok (.iload_n 1, 1) := by decide +kernel
theorem d_M_reverse_56 : decode c_M_reverse 56 = .ok (.if_icmp .eq 9, 3) := by decide +kernel
theorem d_M_reverse_59 : decode c_M_reverse 59 = .ok (.iinc 3 1, 3) := by decide +kernel
theorem d_M_reverse_62 : decode c_M_reverse 62 = .ok (.goto (-13), 3) := by decide +kernel
theorem d_M_reverse_65 : decode c_M_reverse 65 = .ok (.aload_n 0, 1) := by decide +kernel
theorem d_M_reverse_66 : decode c_M_reverse 66 = .ok (.aload_n 0, 1) := by decide +kernel
theorem d_M_reverse_67 : decode c_M_reverse 67 = .ok (.getfield 57, 3) := by decide +kernel
theorem d_M_reverse_70 : decode c_M_reverse 70 = .ok (.iload_n 3, 1) := by decide +kernel
theorem d_M_reverse_71 : decode c_M_reverse 71 = .ok (.baload, 1) := by decide +kernel
theorem d_M_reverse_72 : decode c_M_reverse 72 = .ok (.ifCond .ne 12, 3) := by decide +kernel
theorem d_M_reverse_75 : decode c_M_reverse 75 = .ok (.aload_n 0, 1) := by decide +kernel
theorem d_M_reverse_76 : decode c_M_reverse 76 = .ok (.getfield 138, 3) := by decide +kernel
theorem d_M_reverse_79 : decode c_M_reverse 79 = .ok (.bipush 60, 2) := by decide +kernel
theorem d_M_reverse_81 : decode c_M_reverse 81 = .ok (.if_icmp .ne 7, 3) := by decide +kernel
theorem d_M_reverse_84 : decode c_M_reverse 84 = .ok (.iconst 3, 1) := by decide +kernel
theorem d_M_reverse_85 : decode c_M_reverse 85 = .ok (.goto 4, 3) := by decide +kernel
theorem d_M_reverse_88 : decode c_M_reverse 88 = .ok (.iconst 0, 1) := by decide +kernel
theorem d_M_reverse_89 : decode c_M_reverse 89 = .ok (.putfield 64, 3) := by decide +kernel
theorem d_M_reverse_92 : decode c_M_reverse 92 = .ok (.aload_n 0, 1) := by decide +kernel
theorem d_M_reverse_93 : decode c_M_reverse 93 = .ok (.getfield 64, 3) := by decide +kernel
theorem d_M_reverse_96 : decode c_M_reverse 96 = .ok (.ifCond .gt 14, 3) := by decide +kernel
theorem d_M_reverse_99 : decode c_M_reverse 99 = .ok (.iload_n 2, 1) := by decide +kernel
theorem d_M_reverse_100 : decode c_M_reverse 100 = .ok (.bipush 30, 2) := by decide +kernel
theorem d_M_reverse_102 : decode c_M_reverse 102 = .ok (.idiv, 1) := by decide +kernel
theorem d_M_reverse_103 : decode c_M_reverse 103 = .ok (.aload_n 0, 1) := by decide +kernel
theorem d_M_reverse_104 : decode c_M_reverse 104 = .ok (.getfield 60, 3) := by decide +kernel
theorem d_M_reverse_107 : decode c_M_reverse 107 = .ok (.if_icmp .gt 5, 3) := by decide +kernel
theorem d_M_reverse_110 : decode c_M_reverse 110 = .ok (.iconst 0, 1) := by decide +kernel
theorem d_M_reverse_111 : decode c_M_reverse 111 = .ok (.ireturn, 1) := by decide +kernel
theorem d_M_reverse_112 : decode c_M_reverse 112 = .ok (.aload_n 0, 1) := by decide +kernel
theorem d_M_reverse_113 : decode c_M_reverse 113 = .ok (.iload_n 2, 1) := by decide +kernel
theorem d_M_reverse_114 : decode c_M_reverse 114 = .ok (.invokevirtual 141, 3) := by decide +kernel
theorem d_M_reverse_117 : decode c_M_reverse 117 = .ok (.istore 4, 2) := by decide +kernel
theorem d_M_reverse_119 : decode c_M_reverse 119 = .ok (.bipush 6, 2) := by decide +kernel
theorem d_M_reverse_121 : decode c_M_reverse 121 = .ok (.iload_n 3, 1) := by decide +kernel
theorem d_M_reverse_122 : decode c_M_reverse 122 = .ok (.imul, 1) := by decide +kernel
theorem d_M_reverse_123 : decode c_M_reverse 123 = .ok (.istore 5, 2) := by decide +kernel
theorem d_M_reverse_125 : decode c_M_reverse 125 = .ok (.iload 5, 2) := by decide +kernel
theorem d_M_reverse_127 : decode c_M_reverse 127 = .ok (.bipush 6, 2) := by decide +kernel
theorem d_M_reverse_129 : decode c_M_reverse 129 = .ok (.iload_n 3, 1) := by decide +kernel
theorem d_M_reverse_130 : decode c_M_reverse 130 = .ok (.imul, 1) := by decide +kernel
theorem d_M_reverse_131 : decode c_M_reverse 131 = .ok (.aload_n 0, 1) := by decide +kernel
theorem d_M_reverse_132 : decode c_M_reverse 132 = .ok (.getfield 45, 3) := by decide +kernel
theorem d_M_reverse_135 : decode c_M_reverse 135 = .ok (.iload_n 3, 1) := by decide +kernel
theorem d_M_reverse_136 : decode c_M_reverse 136 = .ok (.iaload, 1) := by decide +kernel
theorem d_M_reverse_137 : decode c_M_reverse 137 = .ok (.iadd, 1) := by decide +kernel
theorem d_M_reverse_138 : decode c_M_reverse 138 = .ok (.if_icmp .ge 30, 3) := by decide +kernel
theorem d_M_reverse_141 : decode c_M_reverse 141 = .ok (.aload_n 0, 1) := by decide +kernel
theorem d_M_reverse_142 : decode c_M_reverse 142 = .ok (.iload 4, 2) := by decide +kernel
theorem d_M_reverse_144 : decode c_M_reverse 144 = .ok (.aload_n 0, 1) := by decide +kernel
theorem d_M_reverse_145 : decode c_M_reverse 145 = .ok (.getfield 48, 3) := by decide +kernel
theorem d_M_reverse_148 : decode c_M_reverse 148 = .ok (.iload 5, 2) := by decide +kernel
theorem d_M_reverse_150 : decode c_M_reverse 150 = .ok (.iaload, 1) := by decide +kernel
theorem d_M_reverse_151 : decode c_M_reverse 151 = .ok (.aload_n 0, 1) := by decide +kernel
theorem d_M_reverse_152 : decode c_M_reverse 152 = .ok (.getfield 51, 3) := by decide +kernel
theorem d_M_reverse_155 : decode c_M_reverse 155 = .ok (.iload 5, 2) := by decide +kernel
theorem d_M_reverse_157 : decode c_M_reverse 157 = .ok (.laload, 1) := by decide +kernel
theorem d_M_reverse_158 : decode c_M_reverse 158 = .ok (.lneg, 1) := by decide +kernel
theorem d_M_reverse_159 : decode c_M_reverse 159 = .ok (.invokevirtual 152, 3) := by decide +kernel
theorem d_M_reverse_162 : decode c_M_reverse 162 = .ok (.iinc 5 1, 3) := by decide +kernel
theorem d_M_reverse_165 : decode c_M_reverse 165 = .ok (.goto (-40), 3) := by decide +kernel
theorem d_M_reverse_168 : decode c_M_reverse 168 = .ok (.aload_n 0, 1) := by decide +kernel
theorem d_M_reverse_169 : decode c_M_reverse 169 = .ok (.getfield 57, 3) := by decide +kernel
theorem d_M_reverse_172 : decode c_M_reverse 172 = .ok (.iload_n 3, 1) := by decide +kernel
theorem d_M_reverse_173 : decode c_M_reverse 173 = .ok (.iconst 1, 1) := by decide +kernel
theorem d_M_reverse_174 : decode c_M_reverse 174 = .ok (.bastore, 1) := by decide +kernel
theorem d_M_reverse_175 : decode c_M_reverse 175 = .ok (.aload_n 0, 1) := by decide +kernel
theorem d_M_reverse_176 : decode c_M_reverse 176 = .ok (.getfield 57, 3) := by decide +kernel
theorem d_M_reverse_179 : decode c_M_reverse 179 = .ok (.iload 4, 2) := by decide +kernel
theorem d_M_reverse_181 : decode c_M_reverse 181 = .ok (.iconst 1, 1) := by decide +kernel
theorem d_M_reverse_182 : decode c_M_reverse 182 = .ok (.bastore, 1) := by decide +kernel
theorem d_M_reverse_183 : decode c_M_reverse 183 = .ok (.aload_n 0, 1) := by decide +kernel
theorem d_M_reverse_184 : decode c_M_reverse 184 = .ok (.iload 4, 2) := by decide +kernel
theorem d_M_reverse_186 : decode c_M_reverse 186 = .ok (.invokevirtual 159, 3) := by decide +kernel
theorem d_M_reverse_189 : decode c_M_reverse 189 = .ok (.aload_n 0, 1) := by decide +kernel
theorem d_M_reverse_190 : decode c_M_reverse 190 = .ok (.getfield 156, 3) := by decide +kernel
theorem d_M_reverse_193 : decode c_M_reverse 193 = .ok (.ireturn, 1) := by decide +kernel
end
section
/-! decode rows of ShopDesks$TellingSet -/
theorem d_S_init_0 : decode c_S_init 0 = .ok (.aload_n 0, 1) := by decide +kernel
theorem d_S_init_1 : decode c_S_init 1 = .ok (.invokespecial 3, 3) := by decide +kernel
theorem d_S_init_4 : decode c_S_init 4 = .ok (.aload_n 0, 1) := by decide +kernel
theorem d_S_init_5 : decode c_S_init 5 = .ok (.sipush 300, 3) := by decide +kernel
theorem d_S_init_8 : decode c_S_init 8 = .ok (.newarray .int, 2) := by decide +kernel
theorem d_S_init_10 : decode c_S_init 10 = .ok (.putfield 9, 3) := by decide +kernel
theorem d_S_init_13 : decode c_S_init 13 = .ok (.aload_n 0, 1) := by decide +kernel
theorem d_S_init_14 : decode c_S_init 14 = .ok (.sipush 300, 3) := by decide +kernel
theorem d_S_init_17 : decode c_S_init 17 = .ok (.newarray .boolean, 2) := by decide +kernel
theorem d_S_init_19 : decode c_S_init 19 = .ok (.putfield 15, 3) := by decide +kernel
theorem d_S_init_22 : decode c_S_init 22 = .ok (.aload_n 0, 1) := by decide +kernel
theorem d_S_init_23 : decode c_S_init 23 = .ok (.iconst 0, 1) := by decide +kernel
theorem d_S_init_24 : decode c_S_init 24 = .ok (.putfield 19, 3) := by decide +kernel
theorem d_S_init_27 : decode c_S_init 27 = .ok (.aload_n 0, 1) := by decide +kernel
theorem d_S_init_28 : decode c_S_init 28 = .ok (.iconst (-1), 1) := by decide +kernel
theorem d_S_init_29 : decode c_S_init 29 = .ok (.putfield 23, 3) := by decide +kernel
theorem d_S_init_32 : decode c_S_init 32 = .ok (.aload_n 0, 1) := by decide +kernel
theorem d_S_init_33 : decode c_S_init 33 = .ok (.aload_n 1, 1) := by decide +kernel
theorem d_S_init_34 : decode c_S_init 34 = .ok (.putfield 26, 3) := by decide +kernel
theorem d_S_init_37 : decode c_S_init 37 = .ok (.return_, 1) := by decide +kernel
theorem d_S_takeAllOf_0 : decode c_S_takeAllOf 0 = .ok (.iconst 0, 1) := by decide +kernel
theorem d_S_takeAllOf_1 : decode c_S_takeAllOf 1 = .ok (.istore_n 2, 1) := by decide +kernel
theorem d_S_takeAllOf_2 : decode c_S_takeAllOf 2 = .ok (.iload_n 2, 1) := by decide +kernel
theorem d_S_takeAllOf_3 : decode c_S_takeAllOf 3 = .ok (.aload_n 0, 1) := by decide +kernel
theorem d_S_takeAllOf_4 : decode c_S_takeAllOf 4 = .ok (.getfield 26, 3) := by decide +kernel
theorem d_S_takeAllOf_7 : decode c_S_takeAllOf 7 = .ok (.getfield 30, 3) := by decide +kernel
theorem d_S_takeAllOf_10 : decode c_S_takeAllOf 10 = .ok (.if_icmp .ge 27, 3) := by decide +kernel
theorem d_S_takeAllOf_13 : decode c_S_takeAllOf 13 = .ok (.aload_n 0, 1) := by decide +kernel
theorem d_S_takeAllOf_14 : decode c_S_takeAllOf 14 = .ok (.getfield 26, 3) := by decide +kernel
theorem d_S_takeAllOf_17 : decode c_S_takeAllOf 17 = .ok (.getfield 35, 3) := by decide +kernel
theorem d_S_takeAllOf_20 : decode c_S_takeAllOf 20 = .ok (.iload_n 2, 1) := by decide +kernel
theorem d_S_takeAllOf_21 : decode c_S_takeAllOf 21 = .ok (.iaload, 1) := by decide +kernel
theorem d_S_takeAllOf_22 : decode c_S_takeAllOf 22 = .ok (.iload_n 1, 1) := by decide +kernel
theorem d_S_takeAllOf_23 : decode c_S_takeAllOf 23 = .ok (.if_icmp .ne 8, 3) := by decide +kernel
theorem d_S_takeAllOf_26 : decode c_S_takeAllOf 26 = .ok (.aload_n 0, 1) := by decide +kernel
theorem d_S_takeAllOf_27 : decode c_S_takeAllOf 27 = .ok (.iload_n 2, 1) := by decide +kernel
theorem d_S_takeAllOf_28 : decode c_S_takeAllOf 28 = .ok (.invokevirtual 38, 3) := by decide +kernel
theorem d_S_takeAllOf_31 : decode c_S_takeAllOf 31 = .ok (.iinc 2 1, 3) := by decide +kernel
theorem d_S_takeAllOf_34 : decode c_S_takeAllOf 34 = .ok (.goto (-32), 3) := by decide +kernel
theorem d_S_takeAllOf_37 : decode c_S_takeAllOf 37 = .ok (.return_, 1) := by decide +kernel
theorem d_S_insertByNumber_0 : decode c_S_insertByNumber 0 = .ok (.aload_n 0, 1) := by decide +kernel
theorem d_S_insertByNumber_1 : decode c_S_insertByNumber 1 = .ok (.getfield 19, 3) := by decide +kernel
theorem d_S_insertByNumber_4 : decode c_S_insertByNumber 4 = .ok (.istore_n 2, 1) := by decide +kernel
theorem d_S_insertByNumber_5 : decode c_S_insertByNumber 5 = .ok (.iload_n 2, 1) := by decide +kernel
theorem d_S_insertByNumber_6 : decode c_S_insertByNumber 6 = .ok (.ifCond .le 52, 3) := by decide +kernel
theorem d_S_insertByNumber_9 : decode c_S_insertByNumber 9 = .ok (.aload_n 0, 1) := by decide +kernel
theorem d_S_insertByNumber_10 : decode c_S_insertByNumber 10 = .ok (.getfield 26, 3) := by decide +kernel
theorem d_S_insertByNumber_13 : decode c_S_insertByNumber 13 = .ok (.getfield 42, 3) := by decide +kernel
theorem d_S_insertByNumber_16 : decode c_S_insertByNumber 16 = .ok (.aload_n 0, 1) := by decide +kernel
theorem d_S_insertByNumber_17 : decode c_S_insertByNumber 17 = .ok (.getfield 9, 3) := by decide +kernel
theorem d_S_insertByNumber_20 : decode c_S_insertByNumber 20 = .ok (.iload_n 2, 1) := by decide +kernel
theorem d_S_insertByNumber_21 : decode c_S_insertByNumber 21 = .ok (.iconst 1, 1) := by decide +kernel
theorem d_S_insertByNumber_22 : decode c_S_insertByNumber 22 = .ok (.isub, 1) := by decide +kernel
theorem d_S_insertByNumber_23 : decode c_S_insertByNumber 23 = .ok (.iaload, 1) := by decide +kernel
theorem d_S_insertByNumber_24 : decode c_S_insertByNumber 24 = .ok (.laload, 1) := by decide +kernel
theorem d_S_insertByNumber_25 : decode c_S_insertByNumber 25 = .ok (.aload_n 0, 1) := by decide +kernel
theorem d_S_insertByNumber_26 : decode c_S_insertByNumber 26 = .ok (.getfield 26, 3) := by decide +kernel
theorem d_S_insertByNumber_29 : decode c_S_insertByNumber 29 = .ok (.getfield 42, 3) := by decide +kernel
theorem d_S_insertByNumber_32 : decode c_S_insertByNumber 32 = .ok (.iload_n 1, 1) := by decide +kernel
theorem d_S_insertByNumber_33 : decode c_S_insertByNumber 33 = .ok (.laload, 1) := by decide +kernel
theorem d_S_insertByNumber_34 : decode c_S_insertByNumber 34 = .ok (.lcmp, 1) := by decide +kernel
theorem d_S_insertByNumber_35 : decode c_S_insertByNumber 35 = .ok (.ifCond .le 23, 3) := by decide +kernel
theorem d_S_insertByNumber_38 : decode c_S_insertByNumber 38 = .ok (.aload_n 0, 1) := by decide +kernel
theorem d_S_insertByNumber_39 : decode c_S_insertByNumber 39 = .ok (.getfield 9, 3) := by decide +kernel
theorem d_S_insertByNumber_42 : decode c_S_insertByNumber 42 = .ok (.iload_n 2, 1) := by decide +kernel
theorem d_S_insertByNumber_43 : decode c_S_insertByNumber 43 = .ok (.aload_n 0, 1) := by decide +kernel
theorem d_S_insertByNumber_44 : decode c_S_insertByNumber 44 = .ok (.getfield 9, 3) := by decide +kernel
theorem d_S_insertByNumber_47 : decode c_S_insertByNumber 47 = .ok (.iload_n 2, 1) := by decide +kernel
theorem d_S_insertByNumber_48 : decode c_S_insertByNumber 48 = .ok (.iconst 1, 1) := by decide +kernel
theorem d_S_insertByNumber_49 : decode c_S_insertByNumber 49 = .ok (.isub, 1) := by decide +kernel
theorem d_S_insertByNumber_50 : decode c_S_insertByNumber 50 = .ok (.iaload, 1) := by decide +kernel
theorem d_S_insertByNumber_51 : decode c_S_insertByNumber 51 = .ok (.iastore, 1) := by decide +kernel
theorem d_S_insertByNumber_52 : decode c_S_insertByNumber 52 = .ok (.iinc 2 (-1), 3) := by decide +kernel
theorem d_S_insertByNumber_55 : decode c_S_insertByNumber 55 = .ok (.goto (-50), 3) := by decide +kernel
theorem d_S_insertByNumber_58 : decode c_S_insertByNumber 58 = .ok (.aload_n 0, 1) := by decide +kernel
theorem d_S_insertByNumber_59 : decode c_S_insertByNumber 59 = .ok (.getfield 9, 3) := by decide +kernel
theorem d_S_insertByNumber_62 : decode c_S_insertByNumber 62 = .ok (.iload_n 2, 1) := by decide +kernel
theorem d_S_insertByNumber_63 : decode c_S_insertByNumber 63 = .ok (.iload_n 1, 1) := by decide +kernel
theorem d_S_insertByNumber_64 : decode c_S_insertByNumber 64 = .ok (.iastore, 1) := by decide +kernel
theorem d_S_insertByNumber_65 : decode c_S_insertByNumber 65 = .ok (.aload_n 0, 1) := by decide +kernel
theorem d_S_insertByNumber_66 : decode c_S_insertByNumber 66 = .ok (.getfield 15, 3) := by decide +kernel
theorem d_S_insertByNumber_69 : decode c_S_insertByNumber 69 = .ok (.iload_n 1, 1) := by decide +kernel
theorem d_S_insertByNumber_70 : decode c_S_insertByNumber 70 = .ok (.iconst 1, 1) := by decide +kernel
theorem d_S_insertByNumber_71 : decode c_S_insertByNumber 71 = .ok (.bastore, 1) := by decide +kernel
theorem d_S_insertByNumber_72 : decode c_S_insertByNumber 72 = .ok (.aload_n 0, 1) := by decide +kernel
theorem d_S_insertByNumber_73 : decode c_S_insertByNumber 73 = .ok (.dup, 1) := by decide +kernel
theorem d_S_insertByNumber_74 : decode c_S_insertByNumber 74 = .ok (.getfield 19, 3) := by decide +kernel
theorem d_S_insertByNumber_77 : decode c_S_insertByNumber 77 = .ok (.iconst 1, 1) := by decide +kernel
theorem d_S_insertByNumber_78 : decode c_S_insertByNumber 78 = .ok (.iadd, 1) := by decide +kernel
theorem d_S_insertByNumber_79 : decode c_S_insertByNumber 79 = .ok (.putfield 19, 3) := by decide +kernel
theorem d_S_insertByNumber_82 : decode c_S_insertByNumber 82 = .ok (.return_, 1) := by decide +kernel
theorem d_S_takeMissing_0 : decode c_S_takeMissing 0 = .ok (.aload_n 0, 1) := by decide +kernel
theorem d_S_takeMissing_1 : decode c_S_takeMissing 1 = .ok (.getfield 19, 3) := by decide +kernel
theorem d_S_takeMissing_4 : decode c_S_takeMissing 4 = .ok (.istore_n 2, 1) := by decide +kernel
theorem d_S_takeMissing_5 : decode c_S_takeMissing 5 = .ok (.iconst 0, 1) := by decide +kernel
theorem d_S_takeMissing_6 : decode c_S_takeMissing 6 = .ok (.istore_n 3, 1) := by decide +kernel
theorem d_S_takeMissing_7 : decode c_S_takeMissing 7 = .ok (.iload_n 3, 1) := by decide +kernel
theorem d_S_takeMissing_8 : decode c_S_takeMissing 8 = .ok (.aload_n 1, 1) := by decide +kernel
theorem d_S_takeMissing_9 : decode c_S_takeMissing 9 = .ok (.getfield 19, 3) := by decide +kernel
theorem d_S_takeMissing_12 : decode c_S_takeMissing 12 = .ok (.if_icmp .ge 56, 3) := by decide +kernel
theorem d_S_takeMissing_15 : decode c_S_takeMissing 15 = .ok (.aload_n 1, 1) := by decide +kernel
theorem d_S_takeMissing_16 : decode c_S_takeMissing 16 = .ok (.getfield 9, 3) := by decide +kernel
theorem d_S_takeMissing_19 : decode c_S_takeMissing 19 = .ok (.iload_n 3, 1) := by decide +kernel
theorem d_S_takeMissing_20 : decode c_S_takeMissing 20 = .ok (.iaload, 1) := by decide +kernel
theorem d_S_takeMissing_21 : decode c_S_takeMissing 21 = .ok (.istore 4, 2) := by decide +kernel
theorem d_S_takeMissing_23 : decode c_S_takeMissing 23 = .ok (.aload_n 0, 1) := by decide +kernel
theorem d_S_takeMissing_24 : decode c_S_takeMissing 24 = .ok (.getfield 15, 3) := by decide +kernel
theorem d_S_takeMissing_27 : decode c_S_takeMissing 27 = .ok (.iload 4, 2) := by decide +kernel
theorem d_S_takeMissing_29 : decode c_S_takeMissing 29 = .ok (.baload, 1) := by decide +kernel
theorem d_S_takeMissing_30 : decode c_S_takeMissing 30 = .ok (.ifCond .ne 32, 3) := by decide +kernel
theorem d_S_takeMissing_33 : decode c_S_takeMissing 33 = .ok (.aload_n 0, 1) := by decide +kernel
theorem d_S_takeMissing_34 : decode c_S_takeMissing 34 = .ok (.getfield 9, 3) := by decide +kernel
theorem d_S_takeMissing_37 : decode c_S_takeMissing 37 = .ok (.aload_n 0, 1) := by decide +kernel
theorem d_S_takeMissing_38 : decode c_S_takeMissing 38 = .ok (.getfield 19, 3) := by decide +kernel
theorem d_S_takeMissing_41 : decode c_S_takeMissing 41 = .ok (.iload 4, 2) := by decide +kernel
theorem d_S_takeMissing_43 : decode c_S_takeMissing 43 = .ok (.iastore, 1) := by decide +kernel
theorem d_S_takeMissing_44 : decode c_S_takeMissing 44 = .ok (.aload_n 0, 1) := by decide +kernel
theorem d_S_takeMissing_45 : decode c_S_takeMissing 45 = .ok (.getfield 15, 3) := by decide +kernel
theorem d_S_takeMissing_48 : decode c_S_takeMissing 48 = .ok (.iload 4, 2) := by decide +kernel
theorem d_S_takeMissing_50 : decode c_S_takeMissing 50 = .ok (.iconst 1, 1) := by decide +kernel
theorem d_S_takeMissing_51 : decode c_S_takeMissing 51 = .ok (.bastore, 1) := by decide +kernel
theorem d_S_takeMissing_52 : decode c_S_takeMissing 52 = .ok (.aload_n 0, 1) := by decide +kernel
theorem d_S_takeMissing_53 : decode c_S_takeMissing 53 = .ok (.dup, 1) := by decide +kernel
theorem d_S_takeMissing_54 : decode c_S_takeMissing 54 = .ok (.getfield 19, 3) := by decide +kernel
theorem d_S_takeMissing_57 : decode c_S_takeMissing 57 = .ok (.iconst 1, 1) := by decide +kernel
theorem d_S_takeMissing_58 : decode c_S_takeMissing 58 = .ok (.iadd, 1) := by decide +kernel
theorem d_S_takeMissing_59 : decode c_S_takeMissing 59 = .ok (.putfield 19, 3) := by decide +kernel
theorem d_S_takeMissing_62 : decode c_S_takeMissing 62 = .ok (.iinc 3 1, 3) := by decide +kernel
theorem d_S_takeMissing_65 : decode c_S_takeMissing 65 = .ok (.goto (-58), 3) := by decide +kernel
theorem d_S_takeMissing_68 : decode c_S_takeMissing 68 = .ok (.aload_n 0, 1) := by decide +kernel
theorem d_S_takeMissing_69 : decode c_S_takeMissing 69 = .ok (.getfield 19, 3) := by decide +kernel
theorem d_S_takeMissing_72 : decode c_S_takeMissing 72 = .ok (.iload_n 2, 1) := by decide +kernel
theorem d_S_takeMissing_73 : decode c_S_takeMissing 73 = .ok (.isub, 1) := by decide +kernel
theorem d_S_takeMissing_74 : decode c_S_takeMissing 74 = .ok (.ireturn, 1) := by decide +kernel
theorem d_S_hasSameAs_0 : decode c_S_hasSameAs 0 = .ok (.aload_n 0, 1) := by decide +kernel
theorem d_S_hasSameAs_1 : decode c_S_hasSameAs 1 = .ok (.getfield 19, 3) := by decide +kernel
theorem d_S_hasSameAs_4 : decode c_S_hasSameAs 4 = .ok (.aload_n 1, 1) := by decide +kernel
theorem d_S_hasSameAs_5 : decode c_S_hasSameAs 5 = .ok (.getfield 19, 3) := by decide +kernel
theorem d_S_hasSameAs_8 : decode c_S_hasSameAs 8 = .ok (.if_icmp .eq 5, 3) := by decide +kernel
theorem d_S_hasSameAs_11 : decode c_S_hasSameAs 11 = .ok (.iconst 0, 1) := by decide +kernel
theorem d_S_hasSameAs_12 : decode c_S_hasSameAs 12 = .ok (.ireturn, 1) := by decide +kernel
theorem d_S_hasSameAs_13 : decode c_S_hasSameAs 13 = .ok (.iconst 0, 1) := by decide +kernel
theorem d_S_hasSameAs_14 : decode c_S_hasSameAs 14 = .ok (.istore_n 2, 1) := by decide +kernel
theorem d_S_hasSameAs_15 : decode c_S_hasSameAs 15 = .ok (.iload_n 2, 1) := by decide +kernel
theorem d_S_hasSameAs_16 : decode c_S_hasSameAs 16 = .ok (.aload_n 0, 1) := by decide +kernel
theorem d_S_hasSameAs_17 : decode c_S_hasSameAs 17 = .ok (.getfield 19, 3) := by decide +kernel
theorem d_S_hasSameAs_20 : decode c_S_hasSameAs 20 = .ok (.if_icmp .ge 25, 3) := by decide +kernel
theorem d_S_hasSameAs_23 : decode c_S_hasSameAs 23 = .ok (.aload_n 1, 1) := by decide +kernel
theorem d_S_hasSameAs_24 : decode c_S_hasSameAs 24 = .ok (.getfield 15, 3) := by decide +kernel
theorem d_S_hasSameAs_27 : decode c_S_hasSameAs 27 = .ok (.aload_n 0, 1) := by decide +kernel
theorem d_S_hasSameAs_28 : decode c_S_hasSameAs 28 = .ok (.getfield 9, 3) := by decide +kernel
theorem d_S_hasSameAs_31 : decode c_S_hasSameAs 31 = .ok (.iload_n 2, 1) := by decide +kernel
theorem d_S_hasSameAs_32 : decode c_S_hasSameAs 32 = .ok (.iaload, 1) := by decide +kernel
theorem d_S_hasSameAs_33 : decode c_S_hasSameAs 33 = .ok (.baload, 1) := by decide +kernel
theorem d_S_hasSameAs_34 : decode c_S_hasSameAs 34 = .ok (.ifCond .ne 5, 3) := by decide +kernel
theorem d_S_hasSameAs_37 : decode c_S_hasSameAs 37 = .ok (.iconst 0, 1) := by decide +kernel
theorem d_S_hasSameAs_38 : decode c_S_hasSameAs 38 = .ok (.ireturn, 1) := by decide +kernel
theorem d_S_hasSameAs_39 : decode c_S_hasSameAs 39 = .ok (.iinc 2 1, 3) := by decide +kernel
theorem d_S_hasSameAs_42 : decode c_S_hasSameAs 42 = .ok (.goto (-27), 3) := by decide +kernel
theorem d_S_hasSameAs_45 : decode c_S_hasSameAs 45 = .ok (.iconst 1, 1) := by decide +kernel
theorem d_S_hasSameAs_46 : decode c_S_hasSameAs 46 = .ok (.ireturn, 1) := by decide +kernel
theorem d_S_beginBatch_0 : decode c_S_beginBatch 0 = .ok (.aload_n 0, 1) := by decide +kernel
theorem d_S_beginBatch_1 : decode c_S_beginBatch 1 = .ok (.getfield 23, 3) := by decide +kernel
theorem d_S_beginBatch_4 : decode c_S_beginBatch 4 = .ok (.iconst (-1), 1) := by decide +kernel
theorem d_S_beginBatch_5 : decode c_S_beginBatch 5 = .ok (.if_icmp .eq 5, 3) := by decide +kernel
theorem d_S_beginBatch_8 : decode c_S_beginBatch 8 = .ok (.iconst 0, 1) := by decide +kernel
theorem d_S_beginBatch_9 : decode c_S_beginBatch 9 = .ok (.ireturn, 1) := by decide +kernel
theorem d_S_beginBatch_10 : decode c_S_beginBatch 10 = .ok (.aload_n 0, 1) := by decide +kernel
theorem d_S_beginBatch_11 : decode c_S_beginBatch 11 = .ok (.aload_n 0, 1) := by decide +kernel
theorem d_S_beginBatch_12 : decode c_S_beginBatch 12 = .ok (.getfield 19, 3) := by decide +kernel
theorem d_S_beginBatch_15 : decode c_S_beginBatch 15 = .ok (.putfield 23, 3) := by decide +kernel
theorem d_S_beginBatch_18 : decode c_S_beginBatch 18 = .ok (.iconst 1, 1) := by decide +kernel
theorem d_S_beginBatch_19 : decode c_S_beginBatch 19 = .ok (.ireturn, 1) := by decide +kernel
theorem d_S_endBatch_0 : decode c_S_endBatch 0 = .ok (.aload_n 0, 1) := by decide +kernel
theorem d_S_endBatch_1 : decode c_S_endBatch 1 = .ok (.getfield 23, 3) := by decide +kernel
theorem d_S_endBatch_4 : decode c_S_endBatch 4 = .ok (.iconst (-1), 1) := by decide +kernel
theorem d_S_endBatch_5 : decode c_S_endBatch 5 = .ok (.if_icmp .ne 5, 3) := by decide +kernel
theorem d_S_endBatch_8 : decode c_S_endBatch 8 = .ok (.iconst 0, 1) := by decide +kernel
theorem d_S_endBatch_9 : decode c_S_endBatch 9 = .ok (.ireturn, 1) := by decide +kernel
theorem d_S_endBatch_10 : decode c_S_endBatch 10 = .ok (.aload_n 0, 1) := by decide +kernel
theorem d_S_endBatch_11 : decode c_S_endBatch 11 = .ok (.iconst (-1), 1) := by decide +kernel
theorem d_S_endBatch_12 : decode c_S_endBatch 12 = .ok (.putfield 23, 3) := by decide +kernel
theorem d_S_endBatch_15 : decode c_S_endBatch 15 = .ok (.iconst 1, 1) := by decide +kernel
theorem d_S_endBatch_16 : decode c_S_endBatch 16 = .ok (.ireturn, 1) := by decide +kernel
theorem d_S_sizeToSee_0 : decode c_S_sizeToSee 0 = .ok (.aload_n 0, 1) := by decide +kernel
theorem d_S_sizeToSee_1 : decode c_S_sizeToSee 1 = .ok (.getfield 23, 3) := by decide +kernel
theorem d_S_sizeToSee_4 : decode c_S_sizeToSee 4 = .ok (.iconst (-1), 1) := by decide +kernel
theorem d_S_sizeToSee_5 : decode c_S_sizeToSee 5 = .ok (.if_icmp .ne 10, 3) := by decide +kernel
theorem d_S_sizeToSee_8 : decode c_S_sizeToSee 8 = .ok (.aload_n 0, 1) := by decide +kernel
theorem d_S_sizeToSee_9 : decode c_S_sizeToSee 9 = .ok (.getfield 19, 3) := by decide +kernel
theorem d_S_sizeToSee_12 : decode c_S_sizeToSee 12 = .ok (.goto 7, 3) := by decide +kernel
theorem d_S_sizeToSee_15 : decode c_S_sizeToSee 15 = .ok (.aload_n 0, 1) := by decide +kernel
theorem d_S_sizeToSee_16 : decode c_S_sizeToSee 16 = .ok (.getfield 23, 3) := by decide +kernel
theorem d_S_sizeToSee_19 : decode c_S_sizeToSee 19 = .ok (.ireturn, 1) := by decide +kernel
theorem d_S_known_0 : decode c_S_known 0 = .ok (.iload_n 2, 1) := by decide +kernel
theorem d_S_known_1 : decode c_S_known 1 = .ok (.ifCond .ne 12, 3) := by decide +kernel
theorem d_S_known_4 : decode c_S_known 4 = .ok (.aload_n 0, 1) := by decide +kernel
theorem d_S_known_5 : decode c_S_known 5 = .ok (.iload_n 1, 1) := by decide +kernel
theorem d_S_known_6 : decode c_S_known 6 = .ok (.lload_n 3, 1) := by decide +kernel
theorem d_S_known_7 : decode c_S_known 7 = .ok (.iload 5, 2) := by decide +kernel
theorem d_S_known_9 : decode c_S_known 9 = .ok (.invokevirtual 46, 3) := by decide +kernel
theorem d_S_known_12 : decode c_S_known 12 = .ok (.lreturn, 1) := by decide +kernel
theorem d_S_known_13 : decode c_S_known 13 = .ok (.iload_n 2, 1) := by decide +kernel
theorem d_S_known_14 : decode c_S_known 14 = .ok (.iconst 2, 1) := by decide +kernel
theorem d_S_known_15 : decode c_S_known 15 = .ok (.if_icmp .ne 12, 3) := by decide +kernel
theorem d_S_known_18 : decode c_S_known 18 = .ok (.aload_n 0, 1) := by decide +kernel
theorem d_S_known_19 : decode c_S_known 19 = .ok (.iload_n 1, 1) := by decide +kernel
theorem d_S_known_20 : decode c_S_known 20 = .ok (.lload_n 3, 1) := by decide +kernel
theorem d_S_known_21 : decode c_S_known 21 = .ok (.iload 5, 2) := by decide +kernel
theorem d_S_known_23 : decode c_S_known 23 = .ok (.invokevirtual 50, 3) := by decide +kernel
theorem d_S_known_26 : decode c_S_known 26 = .ok (.lreturn, 1) := by decide +kernel
theorem d_S_known_27 : decode c_S_known 27 = .ok (.aload_n 0, 1) := by decide +kernel
theorem d_S_known_28 : decode c_S_known 28 = .ok (.aload_n 0, 1) := by decide +kernel
theorem d_S_known_29 : decode c_S_known 29 = .ok (.iload_n 1, 1) := by decide +kernel
theorem d_S_known_30 : decode c_S_known 30 = .ok (.iload_n 2, 1) := by decide +kernel
theorem d_S_known_31 : decode c_S_known 31 = .ok (.lload_n 3, 1) := by decide +kernel
theorem d_S_known_32 : decode c_S_known 32 = .ok (.iload 5, 2) := by decide +kernel
theorem d_S_known_34 : decode c_S_known 34 = .ok (.invokevirtual 53, 3) := by decide +kernel
theorem d_S_known_37 : decode c_S_known 37 = .ok (.invokevirtual 57, 3) := by decide +kernel
theorem d_S_known_40 : decode c_S_known 40 = .ok (.lreturn, 1) := by decide +kernel
theorem d_S_isInConflict_0 : decode c_S_isInConflict 0 = .ok (.aload_n 0, 1) := by decide +kernel
theorem d_S_isInConflict_1 : decode c_S_isInConflict 1 = .ok (.iload_n 1, 1) := by decide +kernel
theorem d_S_isInConflict_2 : decode c_S_isInConflict 2 = .ok (.ldc2_w 61, 3) := by decide +kernel
theorem d_S_isInConflict_5 : decode c_S_isInConflict 5 = .ok (.aload_n 0, 1) := by decide +kernel
theorem d_S_isInConflict_6 : decode c_S_isInConflict 6 = .ok (.getfield 19, 3) := by decide +kernel
theorem d_S_isInConflict_9 : decode c_S_isInConflict 9 = .ok (.invokevirtual 63, 3) := by decide +kernel
theorem d_S_isInConflict_12 : decode c_S_isInConflict 12 = .ok (.iconst (-1), 1) := by decide +kernel
theorem d_S_isInConflict_13 : decode c_S_isInConflict 13 = .ok (.if_icmp .ne 22, 3) := by decide +kernel
theorem d_S_isInConflict_16 : decode c_S_isInConflict 16 = .ok (.aload_n 0, 1) := by decide +kernel
theorem d_S_isInConflict_17 : decode c_S_isInConflict 17 = .ok (.iload_n 1, 1) := by decide +kernel
theorem d_S_isInConflict_18 : decode c_S_isInConflict 18 = .ok (.ldc2_w 61, 3) := by decide +kernel
theorem d_S_isInConflict_21 : decode c_S_isInConflict 21 = .ok (.aload_n 0, 1) := by decide +kernel
theorem d_S_isInConflict_22 : decode c_S_isInConflict 22 = .ok (.getfield 19, 3) := by decide +kernel
theorem d_S_isInConflict_25 : decode c_S_isInConflict 25 = .ok (.invokevirtual 67, 3) := by decide +kernel
theorem d_S_isInConflict_28 : decode c_S_isInConflict 28 = .ok (.ifCond .eq 7, 3) := by decide +kernel
theorem d_S_isInConflict_31 : decode c_S_isInConflict 31 = .ok (.iconst 1, 1) := by decide +kernel
theorem d_S_isInConflict_32 : decode c_S_isInConflict 32 = .ok (.goto 4, 3) := by decide +kernel
theorem d_S_isInConflict_35 : decode c_S_isInConflict 35 = .ok (.iconst 0, 1) := by decide +kernel
theorem d_S_isInConflict_36 : decode c_S_isInConflict 36 = .ok (.ireturn, 1) := by decide +kernel
theorem d_S_sumOfCounts_0 : decode c_S_sumOfCounts 0 = .ok (.lconst 0, 1) := by decide +kernel
theorem d_S_sumOfCounts_1 : decode c_S_sumOfCounts 1 = .ok (.lstore 5, 2) := by decide +kernel
theorem d_S_sumOfCounts_3 : decode c_S_sumOfCounts 3 = .ok (.iconst 0, 1) := by decide +kernel
theorem d_S_sumOfCounts_4 : decode c_S_sumOfCounts 4 = .ok (.istore 7, 2) := by decide +kernel
theorem d_S_sumOfCounts_6 : decode c_S_sumOfCounts 6 = .ok (.iload 7, 2) := by decide +kernel
theorem d_S_sumOfCounts_8 : decode c_S_sumOfCounts 8 = .ok (.iload 4, 2) := by decide +kernel
theorem d_S_sumOfCounts_10 : decode c_S_sumOfCounts 10 = .ok (.if_icmp .ge 49, 3) := by decide +kernel
theorem d_S_sumOfCounts_13 : decode c_S_sumOfCounts 13 = .ok (.aload_n 0, 1) := by decide +kernel
theorem d_S_sumOfCounts_14 : decode c_S_sumOfCounts 14 = .ok (.getfield 26, 3) := by decide +kernel
theorem d_S_sumOfCounts_17 : decode c_S_sumOfCounts 17 = .ok (.aload_n 0, 1) := by decide +kernel
theorem d_S_sumOfCounts_18 : decode c_S_sumOfCounts 18 = .ok (.getfield 9, 3) := by decide +kernel
theorem d_S_sumOfCounts_21 : decode c_S_sumOfCounts 21 = .ok (.iload 7, 2) := by decide +kernel
theorem d_S_sumOfCounts_23 : decode c_S_sumOfCounts 23 = .ok (.iaload, 1) := by decide +kernel
theorem d_S_sumOfCounts_24 : decode c_S_sumOfCounts 24 = .ok (.iload_n 1, 1) := by decide +kernel
theorem d_S_sumOfCounts_25 : decode c_S_sumOfCounts 25 = .ok (.iconst 0, 1) := by decide +kernel
theorem d_S_sumOfCounts_26 : decode c_S_sumOfCounts 26 = .ok (.lload_n 2, 1) := by decide +kernel
theorem d_S_sumOfCounts_27 : decode c_S_sumOfCounts 27 = .ok (.invokevirtual 71, 3) := by decide +kernel
theorem d_S_sumOfCounts_30 : decode c_S_sumOfCounts 30 = .ok (.ifCond .eq 23, 3) := by decide +kernel
theorem d_S_sumOfCounts_33 : decode c_S_sumOfCounts 33 = .ok (.lload 5, 2) := by decide +kernel
theorem d_S_sumOfCounts_35 : decode c_S_sumOfCounts 35 = .ok (.aload_n 0, 1) := by decide +kernel
theorem d_S_sumOfCounts_36 : decode c_S_sumOfCounts 36 = .ok (.getfield 26, 3) := by decide +kernel
theorem d_S_sumOfCounts_39 : decode c_S_sumOfCounts 39 = .ok (.getfield 75, 3) := by decide +kernel
theorem d_S_sumOfCounts_42 : decode c_S_sumOfCounts 42 = .ok (.aload_n 0, 1) := by decide +kernel
theorem d_S_sumOfCounts_43 : decode c_S_sumOfCounts 43 = .ok (.getfield 9, 3) := by decide +kernel
theorem d_S_sumOfCounts_46 : decode c_S_sumOfCounts 46 = .ok (.iload 7, 2) := by decide +kernel
theorem d_S_sumOfCounts_48 : decode c_S_sumOfCounts 48 = .ok (.iaload, 1) := by decide +kernel
theorem d_S_sumOfCounts_49 : decode c_S_sumOfCounts 49 = .ok (.laload, 1) := by decide +kernel
theorem d_S_sumOfCounts_50 : decode c_S_sumOfCounts 50 = .ok (.ladd, 1) := by decide +kernel
theorem d_S_sumOfCounts_51 : decode c_S_sumOfCounts 51 = .ok (.lstore 5, 2) := by decide +kernel
theorem d_S_sumOfCounts_53 : decode c_S_sumOfCounts 53 = .ok (.iinc 7 1, 3) := by decide +kernel
theorem d_S_sumOfCounts_56 : decode c_S_sumOfCounts 56 = .ok (.goto (-50), 3) := by decide +kernel
theorem d_S_sumOfCounts_59 : decode c_S_sumOfCounts 59 = .ok (.lload 5, 2) := by decide +kernel
theorem d_S_sumOfCounts_61 : decode c_S_sumOfCounts 61 = .ok (.lreturn, 1) := by decide +kernel
theorem d_S_knownMark_0 : decode c_S_knownMark 0 = .ok (.aload_n 0, 1) := by decide +kernel
theorem d_S_knownMark_1 : decode c_S_knownMark 1 = .ok (.iload_n 1, 1) := by decide +kernel
theorem d_S_knownMark_2 : decode c_S_knownMark 2 = .ok (.lload_n 2, 1) := by decide +kernel
theorem d_S_knownMark_3 : decode c_S_knownMark 3 = .ok (.iload 4, 2) := by decide +kernel
theorem d_S_knownMark_5 : decode c_S_knownMark 5 = .ok (.invokevirtual 63, 3) := by decide +kernel
theorem d_S_knownMark_8 : decode c_S_knownMark 8 = .ok (.istore 5, 2) := by decide +kernel
theorem d_S_knownMark_10 : decode c_S_knownMark 10 = .ok (.iload 5, 2) := by decide +kernel
theorem d_S_knownMark_12 : decode c_S_knownMark 12 = .ok (.iconst (-1), 1) := by decide +kernel
theorem d_S_knownMark_13 : decode c_S_knownMark 13 = .ok (.if_icmp .eq 14, 3) := by decide +kernel
theorem d_S_knownMark_16 : decode c_S_knownMark 16 = .ok (.aload_n 0, 1) := by decide +kernel
theorem d_S_knownMark_17 : decode c_S_knownMark 17 = .ok (.getfield 26, 3) := by decide +kernel
theorem d_S_knownMark_20 : decode c_S_knownMark 20 = .ok (.getfield 75, 3) := by decide +kernel
theorem d_S_knownMark_23 : decode c_S_knownMark 23 = .ok (.iload 5, 2) := by decide +kernel
theorem d_S_knownMark_25 : decode c_S_knownMark 25 = .ok (.laload, 1) := by decide +kernel
theorem d_S_knownMark_26 : decode c_S_knownMark 26 = .ok (.lreturn, 1) := by decide +kernel
theorem d_S_knownMark_27 : decode c_S_knownMark 27 = .ok (.aload_n 0, 1) := by decide +kernel
theorem d_S_knownMark_28 : decode c_S_knownMark 28 = .ok (.iload_n 1, 1) := by decide +kernel
theorem d_S_knownMark_29 : decode c_S_knownMark 29 = .ok (.lload_n 2, 1) := by decide +kernel
theorem d_S_knownMark_30 : decode c_S_knownMark 30 = .ok (.iload 4, 2) := by decide +kernel
theorem d_S_knownMark_32 : decode c_S_knownMark 32 = .ok (.invokevirtual 67, 3) := by decide +kernel
theorem d_S_knownMark_35 : decode c_S_knownMark 35 = .ok (.ifCond .eq 5, 3) := by decide +kernel
theorem d_S_knownMark_38 : decode c_S_knownMark 38 = .ok (.lconst 0, 1) := by decide +kernel
theorem d_S_knownMark_39 : decode c_S_knownMark 39 = .ok (.lreturn, 1) := by decide +kernel
theorem d_S_knownMark_40 : decode c_S_knownMark 40 = .ok (.aload_n 0, 1) := by decide +kernel
theorem d_S_knownMark_41 : decode c_S_knownMark 41 = .ok (.aload_n 0, 1) := by decide +kernel
theorem d_S_knownMark_42 : decode c_S_knownMark 42 = .ok (.iload_n 1, 1) := by decide +kernel
theorem d_S_knownMark_43 : decode c_S_knownMark 43 = .ok (.iconst 2, 1) := by decide +kernel
theorem d_S_knownMark_44 : decode c_S_knownMark 44 = .ok (.lload_n 2, 1) := by decide +kernel
theorem d_S_knownMark_45 : decode c_S_knownMark 45 = .ok (.iload 4, 2) := by decide +kernel
theorem d_S_knownMark_47 : decode c_S_knownMark 47 = .ok (.invokevirtual 53, 3) := by decide +kernel
theorem d_S_knownMark_50 : decode c_S_knownMark 50 = .ok (.invokevirtual 57, 3) := by decide +kernel
theorem d_S_knownMark_53 : decode c_S_knownMark 53 = .ok (.lreturn, 1) := by decide +kernel
theorem d_S_latest_0 : decode c_S_latest 0 = .ok (.iconst (-1), 1) := by decide +kernel
theorem d_S_latest_1 : decode c_S_latest 1 = .ok (.istore 6, 2) := by decide +kernel
theorem d_S_latest_3 : decode c_S_latest 3 = .ok (.iconst 0, 1) := by decide +kernel
theorem d_S_latest_4 : decode c_S_latest 4 = .ok (.istore 7, 2) := by decide +kernel
theorem d_S_latest_6 : decode c_S_latest 6 = .ok (.iload 7, 2) := by decide +kernel
theorem d_S_latest_8 : decode c_S_latest 8 = .ok (.iload 5, 2) := by decide +kernel
theorem d_S_latest_10 : decode c_S_latest 10 = .ok (.if_icmp .ge 57, 3) := by decide +kernel
theorem d_S_latest_13 : decode c_S_latest 13 = .ok (.aload_n 0, 1) := by decide +kernel
theorem d_S_latest_14 : decode c_S_latest 14 = .ok (.getfield 9, 3) := by decide +kernel
theorem d_S_latest_17 : decode c_S_latest 17 = .ok (.iload 7, 2) := by decide +kernel
theorem d_S_latest_19 : decode c_S_latest 19 = .ok (.iaload, 1) := by decide +kernel
theorem d_S_latest_20 : decode c_S_latest 20 = .ok (.istore 8, 2) := by decide +kernel
theorem d_S_latest_22 : decode c_S_latest 22 = .ok (.aload_n 0, 1) := by decide +kernel
theorem d_S_latest_23 : decode c_S_latest 23 = .ok (.getfield 26, 3) := by decide +kernel
theorem d_S_latest_26 : decode c_S_latest 26 = .ok (.iload 8, 2) := by decide +kernel
theorem d_S_latest_28 : decode c_S_latest 28 = .ok (.iload_n 1, 1) := by decide +kernel
theorem d_S_latest_29 : decode c_S_latest 29 = .ok (.iload_n 2, 1) := by decide +kernel
theorem d_S_latest_30 : decode c_S_latest 30 = .ok (.lload_n 3, 1) := by decide +kernel
theorem d_S_latest_31 : decode c_S_latest 31 = .ok (.invokevirtual 71, 3) := by decide +kernel
theorem d_S_latest_34 : decode c_S_latest 34 = .ok (.ifCond .eq 27, 3) := by decide +kernel
theorem d_S_latest_37 : decode c_S_latest 37 = .ok (.iload 6, 2) := by decide +kernel
theorem d_S_latest_39 : decode c_S_latest 39 = .ok (.iconst (-1), 1) := by decide +kernel
theorem d_S_latest_40 : decode c_S_latest 40 = .ok (.if_icmp .eq 17, 3) := by decide +kernel
theorem d_S_latest_43 : decode c_S_latest 43 = .ok (.aload_n 0, 1) := by decide +kernel
theorem d_S_latest_44 : decode c_S_latest 44 = .ok (.getfield 26, 3) := by decide +kernel
theorem d_S_latest_47 : decode c_S_latest 47 = .ok (.iload 8, 2) := by decide +kernel
theorem d_S_latest_49 : decode c_S_latest 49 = .ok (.iload 6, 2) := by decide +kernel
theorem d_S_latest_51 : decode c_S_latest 51 = .ok (.invokevirtual 78, 3) := by decide +kernel
theorem d_S_latest_54 : decode c_S_latest 54 = .ok (.ifCond .eq 7, 3) := by decide +kernel
theorem d_S_latest_57 : decode c_S_latest 57 = .ok (.iload 8, 2) := by decide +kernel
theorem d_S_latest_59 : decode c_S_latest 59 = .ok (.istore 6, 2) := by decide +kernel
theorem d_S_latest_61 : decode c_S_latest 61 = .ok (.iinc 7 1, 3) := by decide +kernel
theorem d_S_latest_64 : decode c_S_latest 64 = .ok (.goto (-58), 3) := by decide +kernel
theorem d_S_latest_67 : decode c_S_latest 67 = .ok (.iload 6, 2) := by decide +kernel
theorem d_S_latest_69 : decode c_S_latest 69 = .ok (.ireturn, 1) := by decide +kernel
theorem d_S_settling_0 : decode c_S_settling 0 = .ok (.aload_n 0, 1) := by decide +kernel
theorem d_S_settling_1 : decode c_S_settling 1 = .ok (.iload_n 1, 1) := by decide +kernel
theorem d_S_settling_2 : decode c_S_settling 2 = .ok (.iconst 3, 1) := by decide +kernel
theorem d_S_settling_3 : decode c_S_settling 3 = .ok (.lload_n 2, 1) := by decide +kernel
theorem d_S_settling_4 : decode c_S_settling 4 = .ok (.iload 4, 2) := by decide +kernel
theorem d_S_settling_6 : decode c_S_settling 6 = .ok (.invokevirtual 53, 3) := by decide +kernel
theorem d_S_settling_9 : decode c_S_settling 9 = .ok (.istore 5, 2) := by decide +kernel
theorem d_S_settling_11 : decode c_S_settling 11 = .ok (.aload_n 0, 1) := by decide +kernel
theorem d_S_settling_12 : decode c_S_settling 12 = .ok (.iload_n 1, 1) := by decide +kernel
theorem d_S_settling_13 : decode c_S_settling 13 = .ok (.iconst 2, 1) := by decide +kernel
theorem d_S_settling_14 : decode c_S_settling 14 = .ok (.lload_n 2, 1) := by decide +kernel
theorem d_S_settling_15 : decode c_S_settling 15 = .ok (.iload 4, 2) := by decide +kernel
theorem d_S_settling_17 : decode c_S_settling 17 = .ok (.invokevirtual 53, 3) := by decide +kernel
theorem d_S_settling_20 : decode c_S_settling 20 = .ok (.istore 6, 2) := by decide +kernel
theorem d_S_settling_22 : decode c_S_settling 22 = .ok (.iload 5, 2) := by decide +kernel
theorem d_S_settling_24 : decode c_S_settling 24 = .ok (.iconst (-1), 1) := by decide +kernel
theorem d_S_settling_25 : decode c_S_settling 25 = .ok (.if_icmp .eq 9, 3) := by decide +kernel
theorem d_S_settling_28 : decode c_S_settling 28 = .ok (.iload 6, 2) := by decide +kernel
theorem d_S_settling_30 : decode c_S_settling 30 = .ok (.iconst (-1), 1) := by decide +kernel
theorem d_S_settling_31 : decode c_S_settling 31 = .ok (.if_icmp .ne 6, 3) := by decide +kernel
theorem d_S_settling_34 : decode c_S_settling 34 = .ok (.iload 5, 2) := by decide +kernel
theorem d_S_settling_36 : decode c_S_settling 36 = .ok (.ireturn, 1) := by decide +kernel
theorem d_S_settling_37 : decode c_S_settling 37 = .ok (.aload_n 0, 1) := by decide +kernel
theorem d_S_settling_38 : decode c_S_settling 38 = .ok (.getfield 26, 3) := by decide +kernel
theorem d_S_settling_41 : decode c_S_settling 41 = .ok (.getfield 82, 3) := by decide +kernel
theorem d_S_settling_44 : decode c_S_settling 44 = .ok (.iload 5, 2) := by decide +kernel
theorem d_S_settling_46 : decode c_S_settling 46 = .ok (.laload, 1) := by decide +kernel
theorem d_S_settling_47 : decode c_S_settling 47 = .ok (.aload_n 0, 1) := by decide +kernel
theorem d_S_settling_48 : decode c_S_settling 48 = .ok (.getfield 26, 3) := by decide +kernel
theorem d_S_settling_51 : decode c_S_settling 51 = .ok (.getfield 82, 3) := by decide +kernel
theorem d_S_settling_54 : decode c_S_settling 54 = .ok (.iload 6, 2) := by decide +kernel
theorem d_S_settling_56 : decode c_S_settling 56 = .ok (.laload, 1) := by decide +kernel
theorem d_S_settling_57 : decode c_S_settling 57 = .ok (.lcmp, 1) := by decide +kernel
theorem d_S_settling_58 : decode c_S_settling 58 = .ok (.ifCond .lt 8, 3) := by decide +kernel
theorem d_S_settling_61 : decode c_S_settling 61 = .ok (.iload 5, 2) := by decide +kernel
theorem d_S_settling_63 : decode c_S_settling 63 = .ok (.goto 4, 3) := by decide +kernel
theorem d_S_settling_66 : decode c_S_settling 66 = .ok (.iconst (-1), 1) := by decide +kernel
theorem d_S_settling_67 : decode c_S_settling 67 = .ok (.ireturn, 1) := by decide +kernel
theorem d_S_hasUnlikeMarks_0 : decode c_S_hasUnlikeMarks 0 = .ok (.aload_n 0, 1) := by decide +kernel
theorem d_S_hasUnlikeMarks_1 : decode c_S_hasUnlikeMarks 1 = .ok (.iload_n 1, 1) := by decide +kernel
theorem d_S_hasUnlikeMarks_2 : decode c_S_hasUnlikeMarks 2 = .ok (.iconst 2, 1) := by decide +kernel
theorem d_S_hasUnlikeMarks_3 : decode c_S_hasUnlikeMarks 3 = .ok (.lload_n 2, 1) := by decide +kernel
theorem d_S_hasUnlikeMarks_4 : decode c_S_hasUnlikeMarks 4 = .ok (.iload 4, 2) := by decide +kernel
theorem d_S_hasUnlikeMarks_6 : decode c_S_hasUnlikeMarks 6 = .ok (.invokevirtual 53, 3) := by decide +kernel
theorem d_S_hasUnlikeMarks_9 : decode c_S_hasUnlikeMarks 9 = .ok (.istore 5, 2) := by decide +kernel
theorem d_S_hasUnlikeMarks_11 : decode c_S_hasUnlikeMarks 11 = .ok (.iload 5, 2) := by decide +kernel
theorem d_S_hasUnlikeMarks_13 : decode c_S_hasUnlikeMarks 13 = .ok (.iconst (-1), 1) := by decide +kernel
theorem d_S_hasUnlikeMarks_14 : decode c_S_hasUnlikeMarks 14 = .ok (.if_icmp .ne 5, 3) := by decide +kernel
theorem d_S_hasUnlikeMarks_17 : decode c_S_hasUnlikeMarks 17 = .ok (.iconst 0, 1) := by decide +kernel
theorem d_S_hasUnlikeMarks_18 : decode c_S_hasUnlikeMarks 18 = .ok (.ireturn, 1) := by decide +kernel
theorem d_S_hasUnlikeMarks_19 : decode c_S_hasUnlikeMarks 19 = .ok (.iconst 0, 1) := by decide +kernel
theorem d_S_hasUnlikeMarks_20 : decode c_S_hasUnlikeMarks 20 = .ok (.istore 6, 2) := by decide +kernel
theorem d_S_hasUnlikeMarks_22 : decode c_S_hasUnlikeMarks 22 = .ok (.iload 6, 2) := by decide +kernel
theorem d_S_hasUnlikeMarks_24 : decode c_S_hasUnlikeMarks 24 = .ok (.iload 4, 2) := by decide +kernel
theorem d_S_hasUnlikeMarks_26 : decode c_S_hasUnlikeMarks 26 = .ok (.if_icmp .ge 60, 3) := by decide +kernel
theorem d_S_hasUnlikeMarks_29 : decode c_S_hasUnlikeMarks 29 = .ok (.aload_n 0, 1) := by decide +kernel
theorem d_S_hasUnlikeMarks_30 : decode c_S_hasUnlikeMarks 30 = .ok (.getfield 26, 3) := by decide +kernel
theorem d_S_hasUnlikeMarks_33 : decode c_S_hasUnlikeMarks 33 = .ok (.aload_n 0, 1) := by decide +kernel
theorem d_S_hasUnlikeMarks_34 : decode c_S_hasUnlikeMarks 34 = .ok (.getfield 9, 3) := by decide +kernel
theorem d_S_hasUnlikeMarks_37 : decode c_S_hasUnlikeMarks 37 = .ok (.iload 6, 2) := by decide +kernel
theorem d_S_hasUnlikeMarks_39 : decode c_S_hasUnlikeMarks 39 = .ok (.iaload, 1) := by decide +kernel
theorem d_S_hasUnlikeMarks_40 : decode c_S_hasUnlikeMarks 40 = .ok (.iload_n 1, 1) := by decide +kernel
theorem d_S_hasUnlikeMarks_41 : decode c_S_hasUnlikeMarks 41 = .ok (.iconst 2, 1) := by decide +kernel
theorem d_S_hasUnlikeMarks_42 : decode c_S_hasUnlikeMarks 42 = .ok (.lload_n 2, 1) := by decide +kernel
theorem d_S_hasUnlikeMarks_43 : decode c_S_hasUnlikeMarks 43 = .ok (.invokevirtual 71, 3) := by decide +kernel
theorem d_S_hasUnlikeMarks_46 : decode c_S_hasUnlikeMarks 46 = .ok (.ifCond .eq 34, 3) := by decide +kernel
theorem d_S_hasUnlikeMarks_49 : decode c_S_hasUnlikeMarks 49 = .ok (.aload_n 0, 1) := by decide +kernel
theorem d_S_hasUnlikeMarks_50 : decode c_S_hasUnlikeMarks 50 = .ok (.getfield 26, 3) := by decide +kernel
theorem d_S_hasUnlikeMarks_53 : decode c_S_hasUnlikeMarks 53 = .ok (.getfield 75, 3) := by decide +kernel
theorem d_S_hasUnlikeMarks_56 : decode c_S_hasUnlikeMarks 56 = .ok (.aload_n 0, 1) := by decide +kernel
theorem d_S_hasUnlikeMarks_57 : decode c_S_hasUnlikeMarks 57 = .ok (.getfield 9, 3) := by decide +kernel
theorem d_S_hasUnlikeMarks_60 : decode c_S_hasUnlikeMarks 60 = .ok (.iload 6, 2) := by decide +kernel
theorem d_S_hasUnlikeMarks_62 : decode c_S_hasUnlikeMarks 62 = .ok (.iaload, 1) := by decide +kernel
theorem d_S_hasUnlikeMarks_63 : decode c_S_hasUnlikeMarks 63 = .ok (.laload, 1) := by decide +kernel
theorem d_S_hasUnlikeMarks_64 : decode c_S_hasUnlikeMarks 64 = .ok (.aload_n 0, 1) := by decide +kernel
theorem d_S_hasUnlikeMarks_65 : decode c_S_hasUnlikeMarks 65 = .ok (.getfield 26, 3) := by decide +kernel
theorem d_S_hasUnlikeMarks_68 : decode c_S_hasUnlikeMarks 68 = .ok (.getfield 75, 3) := by decide +kernel
theorem d_S_hasUnlikeMarks_71 : decode c_S_hasUnlikeMarks 71 = .ok (.iload 5, 2) := by decide +kernel
theorem d_S_hasUnlikeMarks_73 : decode c_S_hasUnlikeMarks 73 = .ok (.laload, 1) := by decide +kernel
theorem d_S_hasUnlikeMarks_74 : decode c_S_hasUnlikeMarks 74 = .ok (.lcmp, 1) := by decide +kernel
theorem d_S_hasUnlikeMarks_75 : decode c_S_hasUnlikeMarks 75 = .ok (.ifCond .eq 5, 3) := by decide +kernel
theorem d_S_hasUnlikeMarks_78 : decode c_S_hasUnlikeMarks 78 = .ok (.iconst 1, 1) := by decide +kernel
theorem d_S_hasUnlikeMarks_79 : decode c_S_hasUnlikeMarks 79 = .ok (.ireturn, 1) := by decide +kernel
theorem d_S_hasUnlikeMarks_80 : decode c_S_hasUnlikeMarks 80 = .ok (.iinc 6 1, 3) := by decide +kernel
theorem d_S_hasUnlikeMarks_83 : decode c_S_hasUnlikeMarks 83 = .ok (.goto (-61), 3) := by decide +kernel
theorem d_S_hasUnlikeMarks_86 : decode c_S_hasUnlikeMarks 86 = .ok (.iconst 0, 1) := by decide +kernel
theorem d_S_hasUnlikeMarks_87 : decode c_S_hasUnlikeMarks 87 = .ok (.ireturn, 1) := by decide +kernel
theorem d_S_valueOrZero_0 : decode c_S_valueOrZero 0 = .ok (.iload_n 1, 1) := by decide +kernel
theorem d_S_valueOrZero_1 : decode c_S_valueOrZero 1 = .ok (.iconst (-1), 1) := by decide +kernel
theorem d_S_valueOrZero_2 : decode c_S_valueOrZero 2 = .ok (.if_icmp .ne 7, 3) := by decide +kernel
theorem d_S_valueOrZero_5 : decode c_S_valueOrZero 5 = .ok (.lconst 0, 1) := by decide +kernel
theorem d_S_valueOrZero_6 : decode c_S_valueOrZero 6 = .ok (.goto 12, 3) := by decide +kernel
theorem d_S_valueOrZero_9 : decode c_S_valueOrZero 9 = .ok (.aload_n 0, 1) := by decide +kernel
theorem d_S_valueOrZero_10 : decode c_S_valueOrZero 10 = .ok (.getfield 26, 3) := by decide +kernel
theorem d_S_valueOrZero_13 : decode c_S_valueOrZero 13 = .ok (.getfield 75, 3) := by decide +kernel
theorem d_S_valueOrZero_16 : decode c_S_valueOrZero 16 = .ok (.iload_n 1, 1) := by decide +kernel
theorem d_S_valueOrZero_17 : decode c_S_valueOrZero 17 = .ok (.laload, 1) := by decide +kernel
theorem d_S_valueOrZero_18 : decode c_S_valueOrZero 18 = .ok (.lreturn, 1) := by decide +kernel
end
section
/-! decode rows of ShopDesks$Tellings -/
theorem d_T_init_0 : decode c_T_init 0 = .ok (.aload_n 0, 1) := by decide +kernel
theorem d_T_init_1 : decode c_T_init 1 = .ok (.invokespecial 3, 3) := by decide +kernel
theorem d_T_init_4 : decode c_T_init 4 = .ok (.aload_n 0, 1) := by decide +kernel
theorem d_T_init_5 : decode c_T_init 5 = .ok (.sipush 300, 3) := by decide +kernel
theorem d_T_init_8 : decode c_T_init 8 = .ok (.newarray .int, 2) := by decide +kernel
theorem d_T_init_10 : decode c_T_init 10 = .ok (.putfield 9, 3) := by decide +kernel
theorem d_T_init_13 : decode c_T_init 13 = .ok (.aload_n 0, 1) := by decide +kernel
theorem d_T_init_14 : decode c_T_init 14 = .ok (.sipush 300, 3) := by decide +kernel
theorem d_T_init_17 : decode c_T_init 17 = .ok (.newarray .long, 2) := by decide +kernel
theorem d_T_init_19 : decode c_T_init 19 = .ok (.putfield 15, 3) := by decide +kernel
theorem d_T_init_22 : decode c_T_init 22 = .ok (.aload_n 0, 1) := by decide +kernel
theorem d_T_init_23 : decode c_T_init 23 = .ok (.sipush 300, 3) := by decide +kernel
theorem d_T_init_26 : decode c_T_init 26 = .ok (.newarray .int, 2) := by decide +kernel
theorem d_T_init_28 : decode c_T_init 28 = .ok (.putfield 19, 3) := by decide +kernel
theorem d_T_init_31 : decode c_T_init 31 = .ok (.aload_n 0, 1) := by decide +kernel
theorem d_T_init_32 : decode c_T_init 32 = .ok (.sipush 300, 3) := by decide +kernel
theorem d_T_init_35 : decode c_T_init 35 = .ok (.newarray .int, 2) := by decide +kernel
theorem d_T_init_37 : decode c_T_init 37 = .ok (.putfield 22, 3) := by decide +kernel
theorem d_T_init_40 : decode c_T_init 40 = .ok (.aload_n 0, 1) := by decide +kernel
theorem d_T_init_41 : decode c_T_init 41 = .ok (.sipush 300, 3) := by decide +kernel
theorem d_T_init_44 : decode c_T_init 44 = .ok (.newarray .long, 2) := by decide +kernel
theorem d_T_init_46 : decode c_T_init 46 = .ok (.putfield 25, 3) := by decide +kernel
theorem d_T_init_49 : decode c_T_init 49 = .ok (.aload_n 0, 1) := by decide +kernel
theorem d_T_init_50 : decode c_T_init 50 = .ok (.sipush 300, 3) := by decide +kernel
theorem d_T_init_53 : decode c_T_init 53 = .ok (.newarray .long, 2) := by decide +kernel
theorem d_T_init_55 : decode c_T_init 55 = .ok (.putfield 28, 3) := by decide +kernel
theorem d_T_init_58 : decode c_T_init 58 = .ok (.aload_n 0, 1) := by decide +kernel
theorem d_T_init_59 : decode c_T_init 59 = .ok (.iconst 0, 1) := by decide +kernel
theorem d_T_init_60 : decode c_T_init 60 = .ok (.putfield 31, 3) := by decide +kernel
theorem d_T_init_63 : decode c_T_init 63 = .ok (.return_, 1) := by decide +kernel
theorem d_T_isTold_0 : decode c_T_isTold 0 = .ok (.iconst 0, 1) := by decide +kernel
theorem d_T_isTold_1 : decode c_T_isTold 1 = .ok (.istore 4, 2) := by decide +kernel
theorem d_T_isTold_3 : decode c_T_isTold 3 = .ok (.iload 4, 2) := by decide +kernel
theorem d_T_isTold_5 : decode c_T_isTold 5 = .ok (.aload_n 0, 1) := by decide +kernel
theorem d_T_isTold_6 : decode c_T_isTold 6 = .ok (.getfield 31, 3) := by decide +kernel
theorem d_T_isTold_9 : decode c_T_isTold 9 = .ok (.if_icmp .ge 34, 3) := by decide +kernel
theorem d_T_isTold_12 : decode c_T_isTold 12 = .ok (.aload_n 0, 1) := by decide +kernel
theorem d_T_isTold_13 : decode c_T_isTold 13 = .ok (.getfield 15, 3) := by decide +kernel
theorem d_T_isTold_16 : decode c_T_isTold 16 = .ok (.iload 4, 2) := by decide +kernel
theorem d_T_isTold_18 : decode c_T_isTold 18 = .ok (.laload, 1) := by decide +kernel
theorem d_T_isTold_19 : decode c_T_isTold 19 = .ok (.lload_n 2, 1) := by decide +kernel
theorem d_T_isTold_20 : decode c_T_isTold 20 = .ok (.lcmp, 1) := by decide +kernel
theorem d_T_isTold_21 : decode c_T_isTold 21 = .ok (.ifCond .ne 16, 3) := by decide +kernel
theorem d_T_isTold_24 : decode c_T_isTold 24 = .ok (.aload_n 0, 1) := by decide +kernel
theorem d_T_isTold_25 : decode c_T_isTold 25 = .ok (.getfield 9, 3) := by decide +kernel
theorem d_T_isTold_28 : decode c_T_isTold 28 = .ok (.iload 4, 2) := by decide +kernel
theorem d_T_isTold_30 : decode c_T_isTold 30 = .ok (.iaload, 1) := by decide +kernel
theorem d_T_isTold_31 : decode c_T_isTold 31 = .ok (.iload_n 1, 1) := by decide +kernel
theorem d_T_isTold_32 : decode c_T_isTold 32 = .ok (.if_icmp .ne 5, 3) := by decide +kernel
theorem d_T_isTold_35 : decode c_T_isTold 35 = .ok (.iconst 1, 1) := by decide +kernel
theorem d_T_isTold_36 : decode c_T_isTold 36 = .ok (.ireturn, 1) := by decide +kernel
theorem d_T_isTold_37 : decode c_T_isTold 37 = .ok (.iinc 4 1, 3) := by decide +kernel
theorem d_T_isTold_40 : decode c_T_isTold 40 = .ok (.goto (-37), 3) := by decide +kernel
theorem d_T_isTold_43 : decode c_T_isTold 43 = .ok (.iconst 0, 1) := by decide +kernel
theorem d_T_isTold_44 : decode c_T_isTold 44 = .ok (.ireturn, 1) := by decide +kernel
theorem d_T_append_0 : decode c_T_append 0 = .ok (.aload_n 0, 1) := by decide +kernel
theorem d_T_append_1 : decode c_T_append 1 = .ok (.getfield 9, 3) := by decide +kernel
theorem d_T_append_4 : decode c_T_append 4 = .ok (.aload_n 0, 1) := by decide +kernel
theorem d_T_append_5 : decode c_T_append 5 = .ok (.getfield 31, 3) := by decide +kernel
theorem d_T_append_8 : decode c_T_append 8 = .ok (.iload_n 1, 1) := by decide +kernel
theorem d_T_append_9 : decode c_T_append 9 = .ok (.iastore, 1) := by decide +kernel
theorem d_T_append_10 : decode c_T_append 10 = .ok (.aload_n 0, 1) := by decide +kernel
theorem d_T_append_11 : decode c_T_append 11 = .ok (.getfield 15, 3) := by decide +kernel
theorem d_T_append_14 : decode c_T_append 14 = .ok (.aload_n 0, 1) := by decide +kernel
theorem d_T_append_15 : decode c_T_append 15 = .ok (.getfield 31, 3) := by decide +kernel
theorem d_T_append_18 : decode c_T_append 18 = .ok (.lload_n 2, 1) := by decide +kernel
theorem d_T_append_19 : decode c_T_append 19 = .ok (.lastore, 1) := by decide +kernel
theorem d_T_append_20 : decode c_T_append 20 = .ok (.aload_n 0, 1) := by decide +kernel
theorem d_T_append_21 : decode c_T_append 21 = .ok (.getfield 19, 3) := by decide +kernel
theorem d_T_append_24 : decode c_T_append 24 = .ok (.aload_n 0, 1) := by decide +kernel
theorem d_T_append_25 : decode c_T_append 25 = .ok (.getfield 31, 3) := by decide +kernel
theorem d_T_append_28 : decode c_T_append 28 = .ok (.iload 4, 2) := by decide +kernel
theorem d_T_append_30 : decode c_T_append 30 = .ok (.iastore, 1) := by decide +kernel
theorem d_T_append_31 : decode c_T_append 31 = .ok (.aload_n 0, 1) := by decide +kernel
theorem d_T_append_32 : decode c_T_append 32 = .ok (.getfield 22, 3) := by decide +kernel
theorem d_T_append_35 : decode c_T_append 35 = .ok (.aload_n 0, 1) := by decide +kernel
theorem d_T_append_36 : decode c_T_append 36 = .ok (.getfield 31, 3) := by decide +kernel
theorem d_T_append_39 : decode c_T_append 39 = .ok (.iload 5, 2) := by decide +kernel
theorem d_T_append_41 : decode c_T_append 41 = .ok (.iastore, 1) := by decide +kernel
theorem d_T_append_42 : decode c_T_append 42 = .ok (.aload_n 0, 1) := by decide +kernel
theorem d_T_append_43 : decode c_T_append 43 = .ok (.getfield 25, 3) := by decide +kernel
theorem d_T_append_46 : decode c_T_append 46 = .ok (.aload_n 0, 1) := by decide +kernel
theorem d_T_append_47 : decode c_T_append 47 = .ok (.getfield 31, 3) := by decide +kernel
theorem d_T_append_50 : decode c_T_append 50 = .ok (.lload 6, 2) := by decide +kernel
theorem d_T_append_52 : decode c_T_append 52 = .ok (.lastore, 1) := by decide +kernel
theorem d_T_append_53 : decode c_T_append 53 = .ok (.aload_n 0, 1) := by decide +kernel
theorem d_T_append_54 : decode c_T_append 54 = .ok (.getfield 28, 3) := by decide +kernel
theorem d_T_append_57 : decode c_T_append 57 = .ok (.aload_n 0, 1) := by decide +kernel
theorem d_T_append_58 : decode c_T_append 58 = .ok (.getfield 31, 3) := by decide +kernel
theorem d_T_append_61 : decode c_T_append 61 = .ok (.lload 8, 2) := by decide +kernel
theorem d_T_append_63 : decode c_T_append 63 = .ok (.lastore, 1) := by decide +kernel
theorem d_T_append_64 : decode c_T_append 64 = .ok (.aload_n 0, 1) := by decide +kernel
theorem d_T_append_65 : decode c_T_append 65 = .ok (.dup, 1) := by decide +kernel
theorem d_T_append_66 : decode c_T_append 66 = .ok (.getfield 31, 3) := by decide +kernel
theorem d_T_append_69 : decode c_T_append 69 = .ok (.iconst 1, 1) := by decide +kernel
theorem d_T_append_70 : decode c_T_append 70 = .ok (.iadd, 1) := by decide +kernel
theorem d_T_append_71 : decode c_T_append 71 = .ok (.putfield 31, 3) := by decide +kernel
theorem d_T_append_74 : decode c_T_append 74 = .ok (.return_, 1) := by decide +kernel
theorem d_T_holds_0 : decode c_T_holds 0 = .ok (.aload_n 0, 1) := by decide +kernel
theorem d_T_holds_1 : decode c_T_holds 1 = .ok (.getfield 19, 3) := by decide +kernel
theorem d_T_holds_4 : decode c_T_holds 4 = .ok (.iload_n 1, 1) := by decide +kernel
theorem d_T_holds_5 : decode c_T_holds 5 = .ok (.iaload, 1) := by decide +kernel
theorem d_T_holds_6 : decode c_T_holds 6 = .ok (.iload_n 2, 1) := by decide +kernel
theorem d_T_holds_7 : decode c_T_holds 7 = .ok (.if_icmp .ne 29, 3) := by decide +kernel
theorem d_T_holds_10 : decode c_T_holds 10 = .ok (.aload_n 0, 1) := by decide +kernel
theorem d_T_holds_11 : decode c_T_holds 11 = .ok (.getfield 22, 3) := by decide +kernel
theorem d_T_holds_14 : decode c_T_holds 14 = .ok (.iload_n 1, 1) := by decide +kernel
theorem d_T_holds_15 : decode c_T_holds 15 = .ok (.iaload, 1) := by decide +kernel
theorem d_T_holds_16 : decode c_T_holds 16 = .ok (.iload_n 3, 1) := by decide +kernel
theorem d_T_holds_17 : decode c_T_holds 17 = .ok (.if_icmp .ne 19, 3) := by decide +kernel
theorem d_T_holds_20 : decode c_T_holds 20 = .ok (.aload_n 0, 1) := by decide +kernel
theorem d_T_holds_21 : decode c_T_holds 21 = .ok (.getfield 28, 3) := by decide +kernel
theorem d_T_holds_24 : decode c_T_holds 24 = .ok (.iload_n 1, 1) := by decide +kernel
theorem d_T_holds_25 : decode c_T_holds 25 = .ok (.laload, 1) := by decide +kernel
theorem d_T_holds_26 : decode c_T_holds 26 = .ok (.lload 4, 2) := by decide +kernel
theorem d_T_holds_28 : decode c_T_holds 28 = .ok (.lcmp, 1) := by decide +kernel
theorem d_T_holds_29 : decode c_T_holds 29 = .ok (.ifCond .gt 7, 3) := by decide +kernel
theorem d_T_holds_32 : decode c_T_holds 32 = .ok (.iconst 1, 1) := by decide +kernel
theorem d_T_holds_33 : decode c_T_holds 33 = .ok (.goto 4, 3) := by decide +kernel
theorem d_T_holds_36 : decode c_T_holds 36 = .ok (.iconst 0, 1) := by decide +kernel
theorem d_T_holds_37 : decode c_T_holds 37 = .ok (.ireturn, 1) := by decide +kernel
theorem d_T_isLater_0 : decode c_T_isLater 0 = .ok (.aload_n 0, 1) := by decide +kernel
theorem d_T_isLater_1 : decode c_T_isLater 1 = .ok (.getfield 28, 3) := by decide +kernel
theorem d_T_isLater_4 : decode c_T_isLater 4 = .ok (.iload_n 1, 1) := by decide +kernel
theorem d_T_isLater_5 : decode c_T_isLater 5 = .ok (.laload, 1) := by decide +kernel
theorem d_T_isLater_6 : decode c_T_isLater 6 = .ok (.aload_n 0, 1) := by decide +kernel
theorem d_T_isLater_7 : decode c_T_isLater 7 = .ok (.getfield 28, 3) := by decide +kernel
theorem d_T_isLater_10 : decode c_T_isLater 10 = .ok (.iload_n 2, 1) := by decide +kernel
theorem d_T_isLater_11 : decode c_T_isLater 11 = .ok (.laload, 1) := by decide +kernel
theorem d_T_isLater_12 : decode c_T_isLater 12 = .ok (.lcmp, 1) := by decide +kernel
theorem d_T_isLater_13 : decode c_T_isLater 13 = .ok (.ifCond .eq 25, 3) := by decide +kernel
theorem d_T_isLater_16 : decode c_T_isLater 16 = .ok (.aload_n 0, 1) := by decide +kernel
theorem d_T_isLater_17 : decode c_T_isLater 17 = .ok (.getfield 28, 3) := by decide +kernel
theorem d_T_isLater_20 : decode c_T_isLater 20 = .ok (.iload_n 1, 1) := by decide +kernel
theorem d_T_isLater_21 : decode c_T_isLater 21 = .ok (.laload, 1) := by decide +kernel
theorem d_T_isLater_22 : decode c_T_isLater 22 = .ok (.aload_n 0, 1) := by decide +kernel
theorem d_T_isLater_23 : decode c_T_isLater 23 = .ok (.getfield 28, 3) := by decide +kernel
theorem d_T_isLater_26 : decode c_T_isLater 26 = .ok (.iload_n 2, 1) := by decide +kernel
theorem d_T_isLater_27 : decode c_T_isLater 27 = .ok (.laload, 1) := by decide +kernel
theorem d_T_isLater_28 : decode c_T_isLater 28 = .ok (.lcmp, 1) := by decide +kernel
theorem d_T_isLater_29 : decode c_T_isLater 29 = .ok (.ifCond .le 7, 3) := by decide +kernel
theorem d_T_isLater_32 : decode c_T_isLater 32 = .ok (.iconst 1, 1) := by decide +kernel
theorem d_T_isLater_33 : decode c_T_isLater 33 = .ok (.goto 4, 3) := by decide +kernel
theorem d_T_isLater_36 : decode c_T_isLater 36 = .ok (.iconst 0, 1) := by decide +kernel
theorem d_T_isLater_37 : decode c_T_isLater 37 = .ok (.ireturn, 1) := by decide +kernel
theorem d_T_isLater_38 : decode c_T_isLater 38 = .ok (.aload_n 0, 1) := by decide +kernel
theorem d_T_isLater_39 : decode c_T_isLater 39 = .ok (.getfield 9, 3) := by decide +kernel
theorem d_T_isLater_42 : decode c_T_isLater 42 = .ok (.iload_n 1, 1) := by decide +kernel
theorem d_T_isLater_43 : decode c_T_isLater 43 = .ok (.iaload, 1) := by decide +kernel
theorem d_T_isLater_44 : decode c_T_isLater 44 = .ok (.aload_n 0, 1) := by decide +kernel
theorem d_T_isLater_45 : decode c_T_isLater 45 = .ok (.getfield 9, 3) := by decide +kernel
theorem d_T_isLater_48 : decode c_T_isLater 48 = .ok (.iload_n 2, 1) := by decide +kernel
theorem d_T_isLater_49 : decode c_T_isLater 49 = .ok (.iaload, 1) := by decide +kernel
theorem d_T_isLater_50 : decode c_T_isLater 50 = .ok (.if_icmp .eq 24, 3) := by decide +kernel
theorem d_T_isLater_53 : decode c_T_isLater 53 = .ok (.aload_n 0, 1) := by decide +kernel
theorem d_T_isLater_54 : decode c_T_isLater 54 = .ok (.getfield 9, 3) := by decide +kernel
theorem d_T_isLater_57 : decode c_T_isLater 57 = .ok (.iload_n 1, 1) := by decide +kernel
theorem d_T_isLater_58 : decode c_T_isLater 58 = .ok (.iaload, 1) := by decide +kernel
theorem d_T_isLater_59 : decode c_T_isLater 59 = .ok (.aload_n 0, 1) := by decide +kernel
theorem d_T_isLater_60 : decode c_T_isLater 60 = .ok (.getfield 9, 3) := by decide +kernel
theorem d_T_isLater_63 : decode c_T_isLater 63 = .ok (.iload_n 2, 1) := by decide +kernel
theorem d_T_isLater_64 : decode c_T_isLater 64 = .ok (.iaload, 1) := by decide +kernel
theorem d_T_isLater_65 : decode c_T_isLater 65 = .ok (.if_icmp .le 7, 3) := by decide +kernel
theorem d_T_isLater_68 : decode c_T_isLater 68 = .ok (.iconst 1, 1) := by decide +kernel
theorem d_T_isLater_69 : decode c_T_isLater 69 = .ok (.goto 4, 3) := by decide +kernel
theorem d_T_isLater_72 : decode c_T_isLater 72 = .ok (.iconst 0, 1) := by decide +kernel
theorem d_T_isLater_73 : decode c_T_isLater 73 = .ok (.ireturn, 1) := by decide +kernel
theorem d_T_isLater_74 : decode c_T_isLater 74 = .ok (.aload_n 0, 1) := by decide +kernel
theorem d_T_isLater_75 : decode c_T_isLater 75 = .ok (.getfield 15, 3) := by decide +kernel
theorem d_T_isLater_78 : decode c_T_isLater 78 = .ok (.iload_n 1, 1) := by decide +kernel
theorem d_T_isLater_79 : decode c_T_isLater 79 = .ok (.laload, 1) := by decide +kernel
theorem d_T_isLater_80 : decode c_T_isLater 80 = .ok (.aload_n 0, 1) := by decide +kernel
theorem d_T_isLater_81 : decode c_T_isLater 81 = .ok (.getfield 15, 3) := by decide +kernel
theorem d_T_isLater_84 : decode c_T_isLater 84 = .ok (.iload_n 2, 1) := by decide +kernel
theorem d_T_isLater_85 : decode c_T_isLater 85 = .ok (.laload, 1) := by decide +kernel
theorem d_T_isLater_86 : decode c_T_isLater 86 = .ok (.lcmp, 1) := by decide +kernel
theorem d_T_isLater_87 : decode c_T_isLater 87 = .ok (.ifCond .le 7, 3) := by decide +kernel
theorem d_T_isLater_90 : decode c_T_isLater 90 = .ok (.iconst 1, 1) := by decide +kernel
theorem d_T_isLater_91 : decode c_T_isLater 91 = .ok (.goto 4, 3) := by decide +kernel
theorem d_T_isLater_94 : decode c_T_isLater 94 = .ok (.iconst 0, 1) := by decide +kernel
theorem d_T_isLater_95 : decode c_T_isLater 95 = .ok (.ireturn, 1) := by decide +kernel
end
section
/-! decode rows of ShopDesksLaw -/
theorem d_W_tell_0 : decode c_W_tell 0 = .ok (.aload 10, 2) := by decide +kernel
theorem d_W_tell_2 : decode c_W_tell 2 = .ok (.iconst 0, 1) := by decide +kernel
theorem d_W_tell_3 : decode c_W_tell 3 = .ok (.aload_n 0, 1) := by decide +kernel
theorem d_W_tell_4 : decode c_W_tell 4 = .ok (.iload_n 1, 1) := by decide +kernel
theorem d_W_tell_5 : decode c_W_tell 5 = .ok (.lload_n 2, 1) := by decide +kernel
theorem d_W_tell_6 : decode c_W_tell 6 = .ok (.iload 4, 2) := by decide +kernel
theorem d_W_tell_8 : decode c_W_tell 8 = .ok (.iload 5, 2) := by decide +kernel
theorem d_W_tell_10 : decode c_W_tell 10 = .ok (.lload 6, 2) := by decide +kernel
theorem d_W_tell_12 : decode c_W_tell 12 = .ok (.lload 8, 2) := by decide +kernel
theorem d_W_tell_14 : decode c_W_tell 14 = .ok (.invokevirtual 7, 3) := by decide +kernel
theorem d_W_tell_17 : decode c_W_tell 17 = .ok (.i2l, 1) := by decide +kernel
theorem d_W_tell_18 : decode c_W_tell 18 = .ok (.lastore, 1) := by decide +kernel
theorem d_W_tell_19 : decode c_W_tell 19 = .ok (.goto 15, 3) := by decide +kernel
theorem d_W_tell_22 : decode c_W_tell 22 = .ok (.astore 11, 2) := by decide +kernel
theorem d_W_tell_24 : decode c_W_tell 24 = .ok (.iconst 1, 1) := by decide +kernel
theorem d_W_tell_25 : decode c_W_tell 25 = .ok (.ireturn, 1) := by decide +kernel
theorem d_W_tell_26 : decode c_W_tell 26 = .ok (.astore 11, 2) := by decide +kernel
theorem d_W_tell_28 : decode c_W_tell 28 = .ok (.iconst 2, 1) := by decide +kernel
theorem d_W_tell_29 : decode c_W_tell 29 = .ok (.ireturn, 1) := by decide +kernel
theorem d_W_tell_30 : decode c_W_tell 30 = .ok (.astore 11, 2) := by decide +kernel
theorem d_W_tell_32 : decode c_W_tell 32 = .ok (.iconst 3, 1) := by decide +kernel
theorem d_W_tell_33 : decode c_W_tell 33 = .ok (.ireturn, 1) := by decide +kernel
theorem d_W_tell_34 : decode c_W_tell 34 = .ok (.iconst 0, 1) := by decide +kernel
theorem d_W_tell_35 : decode c_W_tell 35 = .ok (.ireturn, 1) := by decide +kernel
theorem d_W_set_0 : decode c_W_set 0 = .ok (.aload_n 2, 1) := by decide +kernel
theorem d_W_set_1 : decode c_W_set 1 = .ok (.iconst 0, 1) := by decide +kernel
theorem d_W_set_2 : decode c_W_set 2 = .ok (.aload_n 0, 1) := by decide +kernel
theorem d_W_set_3 : decode c_W_set 3 = .ok (.iload_n 1, 1) := by decide +kernel
theorem d_W_set_4 : decode c_W_set 4 = .ok (.invokevirtual 19, 3) := by decide +kernel
theorem d_W_set_7 : decode c_W_set 7 = .ok (.i2l, 1) := by decide +kernel
theorem d_W_set_8 : decode c_W_set 8 = .ok (.lastore, 1) := by decide +kernel
theorem d_W_set_9 : decode c_W_set 9 = .ok (.goto 9, 3) := by decide +kernel
theorem d_W_set_12 : decode c_W_set 12 = .ok (.astore_n 3, 1) := by decide +kernel
theorem d_W_set_13 : decode c_W_set 13 = .ok (.iconst 1, 1) := by decide +kernel
theorem d_W_set_14 : decode c_W_set 14 = .ok (.ireturn, 1) := by decide +kernel
theorem d_W_set_15 : decode c_W_set 15 = .ok (.astore_n 3, 1) := by decide +kernel
theorem d_W_set_16 : decode c_W_set 16 = .ok (.iconst 2, 1) := by decide +kernel
theorem d_W_set_17 : decode c_W_set 17 = .ok (.ireturn, 1) := by decide +kernel
theorem d_W_set_18 : decode c_W_set 18 = .ok (.iconst 0, 1) := by decide +kernel
theorem d_W_set_19 : decode c_W_set 19 = .ok (.ireturn, 1) := by decide +kernel
theorem d_W_join_0 : decode c_W_join 0 = .ok (.aload_n 3, 1) := by decide +kernel
theorem d_W_join_1 : decode c_W_join 1 = .ok (.iconst 0, 1) := by decide +kernel
theorem d_W_join_2 : decode c_W_join 2 = .ok (.aload_n 0, 1) := by decide +kernel
theorem d_W_join_3 : decode c_W_join 3 = .ok (.iload_n 1, 1) := by decide +kernel
theorem d_W_join_4 : decode c_W_join 4 = .ok (.iload_n 2, 1) := by decide +kernel
theorem d_W_join_5 : decode c_W_join 5 = .ok (.invokevirtual 23, 3) := by decide +kernel
theorem d_W_join_8 : decode c_W_join 8 = .ok (.i2l, 1) := by decide +kernel
theorem d_W_join_9 : decode c_W_join 9 = .ok (.lastore, 1) := by decide +kernel
theorem d_W_join_10 : decode c_W_join 10 = .ok (.goto 7, 3) := by decide +kernel
theorem d_W_join_13 : decode c_W_join 13 = .ok (.astore 4, 2) := by decide +kernel
theorem d_W_join_15 : decode c_W_join 15 = .ok (.iconst 1, 1) := by decide +kernel
theorem d_W_join_16 : decode c_W_join 16 = .ok (.ireturn, 1) := by decide +kernel
theorem d_W_join_17 : decode c_W_join 17 = .ok (.iconst 0, 1) := by decide +kernel
theorem d_W_join_18 : decode c_W_join 18 = .ok (.ireturn, 1) := by decide +kernel
theorem d_W_equal_0 : decode c_W_equal 0 = .ok (.aload_n 3, 1) := by decide +kernel
theorem d_W_equal_1 : decode c_W_equal 1 = .ok (.iconst 0, 1) := by decide +kernel
theorem d_W_equal_2 : decode c_W_equal 2 = .ok (.aload_n 0, 1) := by decide +kernel
theorem d_W_equal_3 : decode c_W_equal 3 = .ok (.iload_n 1, 1) := by decide +kernel
theorem d_W_equal_4 : decode c_W_equal 4 = .ok (.iload_n 2, 1) := by decide +kernel
theorem d_W_equal_5 : decode c_W_equal 5 = .ok (.invokevirtual 27, 3) := by decide +kernel
theorem d_W_equal_8 : decode c_W_equal 8 = .ok (.ifCond .eq 7, 3) := by decide +kernel
theorem d_W_equal_11 : decode c_W_equal 11 = .ok (.lconst 1, 1) := by decide +kernel
theorem d_W_equal_12 : decode c_W_equal 12 = .ok (.goto 4, 3) := by decide +kernel
theorem d_W_equal_15 : decode c_W_equal 15 = .ok (.lconst 0, 1) := by decide +kernel
theorem d_W_equal_16 : decode c_W_equal 16 = .ok (.lastore, 1) := by decide +kernel
theorem d_W_equal_17 : decode c_W_equal 17 = .ok (.goto 7, 3) := by decide +kernel
theorem d_W_equal_20 : decode c_W_equal 20 = .ok (.astore 4, 2) := by decide +kernel
theorem d_W_equal_22 : decode c_W_equal 22 = .ok (.iconst 1, 1) := by decide +kernel
theorem d_W_equal_23 : decode c_W_equal 23 = .ok (.ireturn, 1) := by decide +kernel
theorem d_W_equal_24 : decode c_W_equal 24 = .ok (.iconst 0, 1) := by decide +kernel
theorem d_W_equal_25 : decode c_W_equal 25 = .ok (.ireturn, 1) := by decide +kernel
theorem d_W_at_0 : decode c_W_at 0 = .ok (.aload 6, 2) := by decide +kernel
theorem d_W_at_2 : decode c_W_at 2 = .ok (.iconst 0, 1) := by decide +kernel
theorem d_W_at_3 : decode c_W_at 3 = .ok (.aload_n 0, 1) := by decide +kernel
theorem d_W_at_4 : decode c_W_at 4 = .ok (.iload_n 1, 1) := by decide +kernel
theorem d_W_at_5 : decode c_W_at 5 = .ok (.iload_n 2, 1) := by decide +kernel
theorem d_W_at_6 : decode c_W_at 6 = .ok (.iload_n 3, 1) := by decide +kernel
theorem d_W_at_7 : decode c_W_at 7 = .ok (.lload 4, 2) := by decide +kernel
theorem d_W_at_9 : decode c_W_at 9 = .ok (.invokevirtual 31, 3) := by decide +kernel
theorem d_W_at_12 : decode c_W_at 12 = .ok (.lastore, 1) := by decide +kernel
theorem d_W_at_13 : decode c_W_at 13 = .ok (.goto 11, 3) := by decide +kernel
theorem d_W_at_16 : decode c_W_at 16 = .ok (.astore 7, 2) := by decide +kernel
theorem d_W_at_18 : decode c_W_at 18 = .ok (.iconst 1, 1) := by decide +kernel
theorem d_W_at_19 : decode c_W_at 19 = .ok (.ireturn, 1) := by decide +kernel
theorem d_W_at_20 : decode c_W_at 20 = .ok (.astore 7, 2) := by decide +kernel
theorem d_W_at_22 : decode c_W_at 22 = .ok (.iconst 2, 1) := by decide +kernel
theorem d_W_at_23 : decode c_W_at 23 = .ok (.ireturn, 1) := by decide +kernel
theorem d_W_at_24 : decode c_W_at 24 = .ok (.iconst 0, 1) := by decide +kernel
theorem d_W_at_25 : decode c_W_at 25 = .ok (.ireturn, 1) := by decide +kernel
theorem d_W_conflict_0 : decode c_W_conflict 0 = .ok (.aload_n 3, 1) := by decide +kernel
theorem d_W_conflict_1 : decode c_W_conflict 1 = .ok (.iconst 0, 1) := by decide +kernel
theorem d_W_conflict_2 : decode c_W_conflict 2 = .ok (.aload_n 0, 1) := by decide +kernel
theorem d_W_conflict_3 : decode c_W_conflict 3 = .ok (.iload_n 1, 1) := by decide +kernel
theorem d_W_conflict_4 : decode c_W_conflict 4 = .ok (.iload_n 2, 1) := by decide +kernel
theorem d_W_conflict_5 : decode c_W_conflict 5 = .ok (.invokevirtual 35, 3) := by decide +kernel
theorem d_W_conflict_8 : decode c_W_conflict 8 = .ok (.i2l, 1) := by decide +kernel
theorem d_W_conflict_9 : decode c_W_conflict 9 = .ok (.lastore, 1) := by decide +kernel
theorem d_W_conflict_10 : decode c_W_conflict 10 = .ok (.goto 11, 3) := by decide +kernel
theorem d_W_conflict_13 : decode c_W_conflict 13 = .ok (.astore 4, 2) := by decide +kernel
theorem d_W_conflict_15 : decode c_W_conflict 15 = .ok (.iconst 1, 1) := by decide +kernel
theorem d_W_conflict_16 : decode c_W_conflict 16 = .ok (.ireturn, 1) := by decide +kernel
theorem d_W_conflict_17 : decode c_W_conflict 17 = .ok (.astore 4, 2) := by decide +kernel
theorem d_W_conflict_19 : decode c_W_conflict 19 = .ok (.iconst 2, 1) := by decide +kernel
theorem d_W_conflict_20 : decode c_W_conflict 20 = .ok (.ireturn, 1) := by decide +kernel
theorem d_W_conflict_21 : decode c_W_conflict 21 = .ok (.iconst 0, 1) := by decide +kernel
theorem d_W_conflict_22 : decode c_W_conflict 22 = .ok (.ireturn, 1) := by decide +kernel
theorem d_W_mark_0 : decode c_W_mark 0 = .ok (.aload_n 2, 1) := by decide +kernel
theorem d_W_mark_1 : decode c_W_mark 1 = .ok (.iconst 0, 1) := by decide +kernel
theorem d_W_mark_2 : decode c_W_mark 2 = .ok (.aload_n 0, 1) := by decide +kernel
theorem d_W_mark_3 : decode c_W_mark 3 = .ok (.iload_n 1, 1) := by decide +kernel
theorem d_W_mark_4 : decode c_W_mark 4 = .ok (.invokevirtual 38, 3) := by decide +kernel
theorem d_W_mark_7 : decode c_W_mark 7 = .ok (.i2l, 1) := by decide +kernel
theorem d_W_mark_8 : decode c_W_mark 8 = .ok (.lastore, 1) := by decide +kernel
theorem d_W_mark_9 : decode c_W_mark 9 = .ok (.goto 6, 3) := by decide +kernel
theorem d_W_mark_12 : decode c_W_mark 12 = .ok (.astore_n 3, 1) := by decide +kernel
theorem d_W_mark_13 : decode c_W_mark 13 = .ok (.iconst 1, 1) := by decide +kernel
theorem d_W_mark_14 : decode c_W_mark 14 = .ok (.ireturn, 1) := by decide +kernel
theorem d_W_mark_15 : decode c_W_mark 15 = .ok (.iconst 0, 1) := by decide +kernel
theorem d_W_mark_16 : decode c_W_mark 16 = .ok (.ireturn, 1) := by decide +kernel
theorem d_W_since_0 : decode c_W_since 0 = .ok (.aload 5, 2) := by decide +kernel
theorem d_W_since_2 : decode c_W_since 2 = .ok (.iconst 0, 1) := by decide +kernel
theorem d_W_since_3 : decode c_W_since 3 = .ok (.aload_n 0, 1) := by decide +kernel
theorem d_W_since_4 : decode c_W_since 4 = .ok (.iload_n 1, 1) := by decide +kernel
theorem d_W_since_5 : decode c_W_since 5 = .ok (.iload_n 2, 1) := by decide +kernel
theorem d_W_since_6 : decode c_W_since 6 = .ok (.iload_n 3, 1) := by decide +kernel
theorem d_W_since_7 : decode c_W_since 7 = .ok (.iload 4, 2) := by decide +kernel
theorem d_W_since_9 : decode c_W_since 9 = .ok (.invokevirtual 41, 3) := by decide +kernel
theorem d_W_since_12 : decode c_W_since 12 = .ok (.lastore, 1) := by decide +kernel
theorem d_W_since_13 : decode c_W_since 13 = .ok (.goto 11, 3) := by decide +kernel
theorem d_W_since_16 : decode c_W_since 16 = .ok (.astore 6, 2) := by decide +kernel
theorem d_W_since_18 : decode c_W_since 18 = .ok (.iconst 1, 1) := by decide +kernel
theorem d_W_since_19 : decode c_W_since 19 = .ok (.ireturn, 1) := by decide +kernel
theorem d_W_since_20 : decode c_W_since 20 = .ok (.astore 6, 2) := by decide +kernel
theorem d_W_since_22 : decode c_W_since 22 = .ok (.iconst 2, 1) := by decide +kernel
theorem d_W_since_23 : decode c_W_since 23 = .ok (.ireturn, 1) := by decide +kernel
theorem d_W_since_24 : decode c_W_since 24 = .ok (.iconst 0, 1) := by decide +kernel
theorem d_W_since_25 : decode c_W_since 25 = .ok (.ireturn, 1) := by decide +kernel
theorem d_W_batch_0 : decode c_W_batch 0 = .ok (.aload_n 3, 1) := by decide +kernel
theorem d_W_batch_1 : decode c_W_batch 1 = .ok (.iconst 0, 1) := by decide +kernel
theorem d_W_batch_2 : decode c_W_batch 2 = .ok (.aload_n 0, 1) := by decide +kernel
theorem d_W_batch_3 : decode c_W_batch 3 = .ok (.iload_n 1, 1) := by decide +kernel
theorem d_W_batch_4 : decode c_W_batch 4 = .ok (.iload_n 2, 1) := by decide +kernel
theorem d_W_batch_5 : decode c_W_batch 5 = .ok (.invokevirtual 45, 3) := by decide +kernel
theorem d_W_batch_8 : decode c_W_batch 8 = .ok (.ifCond .eq 7, 3) := by decide +kernel
theorem d_W_batch_11 : decode c_W_batch 11 = .ok (.lconst 1, 1) := by decide +kernel
theorem d_W_batch_12 : decode c_W_batch 12 = .ok (.goto 4, 3) := by decide +kernel
theorem d_W_batch_15 : decode c_W_batch 15 = .ok (.lconst 0, 1) := by decide +kernel
theorem d_W_batch_16 : decode c_W_batch 16 = .ok (.lastore, 1) := by decide +kernel
theorem d_W_batch_17 : decode c_W_batch 17 = .ok (.goto 7, 3) := by decide +kernel
theorem d_W_batch_20 : decode c_W_batch 20 = .ok (.astore 4, 2) := by decide +kernel
theorem d_W_batch_22 : decode c_W_batch 22 = .ok (.iconst 1, 1) := by decide +kernel
theorem d_W_batch_23 : decode c_W_batch 23 = .ok (.ireturn, 1) := by decide +kernel
theorem d_W_batch_24 : decode c_W_batch 24 = .ok (.iconst 0, 1) := by decide +kernel
theorem d_W_batch_25 : decode c_W_batch 25 = .ok (.ireturn, 1) := by decide +kernel
theorem d_W_right_0 : decode c_W_right 0 = .ok (.aload 4, 2) := by decide +kernel
theorem d_W_right_2 : decode c_W_right 2 = .ok (.iconst 0, 1) := by decide +kernel
theorem d_W_right_3 : decode c_W_right 3 = .ok (.aload_n 0, 1) := by decide +kernel
theorem d_W_right_4 : decode c_W_right 4 = .ok (.iload_n 1, 1) := by decide +kernel
theorem d_W_right_5 : decode c_W_right 5 = .ok (.iload_n 2, 1) := by decide +kernel
theorem d_W_right_6 : decode c_W_right 6 = .ok (.iload_n 3, 1) := by decide +kernel
theorem d_W_right_7 : decode c_W_right 7 = .ok (.invokevirtual 49, 3) := by decide +kernel
theorem d_W_right_10 : decode c_W_right 10 = .ok (.ifCond .eq 7, 3) := by decide +kernel
theorem d_W_right_13 : decode c_W_right 13 = .ok (.lconst 1, 1) := by decide +kernel
theorem d_W_right_14 : decode c_W_right 14 = .ok (.goto 4, 3) := by decide +kernel
theorem d_W_right_17 : decode c_W_right 17 = .ok (.lconst 0, 1) := by decide +kernel
theorem d_W_right_18 : decode c_W_right 18 = .ok (.lastore, 1) := by decide +kernel
theorem d_W_right_19 : decode c_W_right 19 = .ok (.goto 11, 3) := by decide +kernel
theorem d_W_right_22 : decode c_W_right 22 = .ok (.astore 5, 2) := by decide +kernel
theorem d_W_right_24 : decode c_W_right 24 = .ok (.iconst 1, 1) := by decide +kernel
theorem d_W_right_25 : decode c_W_right 25 = .ok (.ireturn, 1) := by decide +kernel
theorem d_W_right_26 : decode c_W_right 26 = .ok (.astore 5, 2) := by decide +kernel
theorem d_W_right_28 : decode c_W_right 28 = .ok (.iconst 2, 1) := by decide +kernel
theorem d_W_right_29 : decode c_W_right 29 = .ok (.ireturn, 1) := by decide +kernel
theorem d_W_right_30 : decode c_W_right 30 = .ok (.iconst 0, 1) := by decide +kernel
theorem d_W_right_31 : decode c_W_right 31 = .ok (.ireturn, 1) := by decide +kernel
theorem d_W_seen_0 : decode c_W_seen 0 = .ok (.aload 5, 2) := by decide +kernel
theorem d_W_seen_2 : decode c_W_seen 2 = .ok (.iconst 0, 1) := by decide +kernel
theorem d_W_seen_3 : decode c_W_seen 3 = .ok (.aload_n 0, 1) := by decide +kernel
theorem d_W_seen_4 : decode c_W_seen 4 = .ok (.iload_n 1, 1) := by decide +kernel
theorem d_W_seen_5 : decode c_W_seen 5 = .ok (.iload_n 2, 1) := by decide +kernel
theorem d_W_seen_6 : decode c_W_seen 6 = .ok (.iload_n 3, 1) := by decide +kernel
theorem d_W_seen_7 : decode c_W_seen 7 = .ok (.iload 4, 2) := by decide +kernel
theorem d_W_seen_9 : decode c_W_seen 9 = .ok (.invokevirtual 53, 3) := by decide +kernel
theorem d_W_seen_12 : decode c_W_seen 12 = .ok (.lastore, 1) := by decide +kernel
theorem d_W_seen_13 : decode c_W_seen 13 = .ok (.goto 15, 3) := by decide +kernel
theorem d_W_seen_16 : decode c_W_seen 16 = .ok (.astore 6, 2) := by decide +kernel
theorem d_W_seen_18 : decode c_W_seen 18 = .ok (.iconst 1, 1) := by decide +kernel
theorem d_W_seen_19 : decode c_W_seen 19 = .ok (.ireturn, 1) := by decide +kernel
theorem d_W_seen_20 : decode c_W_seen 20 = .ok (.astore 6, 2) := by decide +kernel
theorem d_W_seen_22 : decode c_W_seen 22 = .ok (.iconst 2, 1) := by decide +kernel
theorem d_W_seen_23 : decode c_W_seen 23 = .ok (.ireturn, 1) := by decide +kernel
theorem d_W_seen_24 : decode c_W_seen 24 = .ok (.astore 6, 2) := by decide +kernel
theorem d_W_seen_26 : decode c_W_seen 26 = .ok (.iconst 3, 1) := by decide +kernel
theorem d_W_seen_27 : decode c_W_seen 27 = .ok (.ireturn, 1) := by decide +kernel
theorem d_W_seen_28 : decode c_W_seen 28 = .ok (.iconst 0, 1) := by decide +kernel
theorem d_W_seen_29 : decode c_W_seen 29 = .ok (.ireturn, 1) := by decide +kernel
theorem d_W_entry_0 : decode c_W_entry 0 = .ok (.aload_n 2, 1) := by decide +kernel
theorem d_W_entry_1 : decode c_W_entry 1 = .ok (.iconst 0, 1) := by decide +kernel
theorem d_W_entry_2 : decode c_W_entry 2 = .ok (.aload_n 0, 1) := by decide +kernel
theorem d_W_entry_3 : decode c_W_entry 3 = .ok (.iload_n 1, 1) := by decide +kernel
theorem d_W_entry_4 : decode c_W_entry 4 = .ok (.invokevirtual 56, 3) := by decide +kernel
theorem d_W_entry_7 : decode c_W_entry 7 = .ok (.i2l, 1) := by decide +kernel
theorem d_W_entry_8 : decode c_W_entry 8 = .ok (.lastore, 1) := by decide +kernel
theorem d_W_entry_9 : decode c_W_entry 9 = .ok (.goto 9, 3) := by decide +kernel
theorem d_W_entry_12 : decode c_W_entry 12 = .ok (.astore_n 3, 1) := by decide +kernel
theorem d_W_entry_13 : decode c_W_entry 13 = .ok (.iconst 1, 1) := by decide +kernel
theorem d_W_entry_14 : decode c_W_entry 14 = .ok (.ireturn, 1) := by decide +kernel
theorem d_W_entry_15 : decode c_W_entry 15 = .ok (.astore_n 3, 1) := by decide +kernel
theorem d_W_entry_16 : decode c_W_entry 16 = .ok (.iconst 2, 1) := by decide +kernel
theorem d_W_entry_17 : decode c_W_entry 17 = .ok (.ireturn, 1) := by decide +kernel
theorem d_W_entry_18 : decode c_W_entry 18 = .ok (.iconst 0, 1) := by decide +kernel
theorem d_W_entry_19 : decode c_W_entry 19 = .ok (.ireturn, 1) := by decide +kernel
theorem d_W_row_0 : decode c_W_row 0 = .ok (.aload 5, 2) := by decide +kernel
theorem d_W_row_2 : decode c_W_row 2 = .ok (.iconst 0, 1) := by decide +kernel
theorem d_W_row_3 : decode c_W_row 3 = .ok (.aload_n 0, 1) := by decide +kernel
theorem d_W_row_4 : decode c_W_row 4 = .ok (.iload_n 1, 1) := by decide +kernel
theorem d_W_row_5 : decode c_W_row 5 = .ok (.iload_n 2, 1) := by decide +kernel
theorem d_W_row_6 : decode c_W_row 6 = .ok (.lload_n 3, 1) := by decide +kernel
theorem d_W_row_7 : decode c_W_row 7 = .ok (.invokevirtual 59, 3) := by decide +kernel
theorem d_W_row_10 : decode c_W_row 10 = .ok (.i2l, 1) := by decide +kernel
theorem d_W_row_11 : decode c_W_row 11 = .ok (.lastore, 1) := by decide +kernel
theorem d_W_row_12 : decode c_W_row 12 = .ok (.goto 15, 3) := by decide +kernel
theorem d_W_row_15 : decode c_W_row 15 = .ok (.astore 6, 2) := by decide +kernel
theorem d_W_row_17 : decode c_W_row 17 = .ok (.iconst 1, 1) := by decide +kernel
theorem d_W_row_18 : decode c_W_row 18 = .ok (.ireturn, 1) := by decide +kernel
theorem d_W_row_19 : decode c_W_row 19 = .ok (.astore 6, 2) := by decide +kernel
theorem d_W_row_21 : decode c_W_row 21 = .ok (.iconst 2, 1) := by decide +kernel
theorem d_W_row_22 : decode c_W_row 22 = .ok (.ireturn, 1) := by decide +kernel
theorem d_W_row_23 : decode c_W_row 23 = .ok (.astore 6, 2) := by decide +kernel
theorem d_W_row_25 : decode c_W_row 25 = .ok (.iconst 3, 1) := by decide +kernel
theorem d_W_row_26 : decode c_W_row 26 = .ok (.ireturn, 1) := by decide +kernel
theorem d_W_row_27 : decode c_W_row 27 = .ok (.iconst 0, 1) := by decide +kernel
theorem d_W_row_28 : decode c_W_row 28 = .ok (.ireturn, 1) := by decide +kernel
theorem d_W_close_0 : decode c_W_close 0 = .ok (.aload_n 2, 1) := by decide +kernel
theorem d_W_close_1 : decode c_W_close 1 = .ok (.iconst 0, 1) := by decide +kernel
theorem d_W_close_2 : decode c_W_close 2 = .ok (.aload_n 0, 1) := by decide +kernel
theorem d_W_close_3 : decode c_W_close 3 = .ok (.iload_n 1, 1) := by decide +kernel
theorem d_W_close_4 : decode c_W_close 4 = .ok (.invokevirtual 63, 3) := by decide +kernel
theorem d_W_close_7 : decode c_W_close 7 = .ok (.i2l, 1) := by decide +kernel
theorem d_W_close_8 : decode c_W_close 8 = .ok (.lastore, 1) := by decide +kernel
theorem d_W_close_9 : decode c_W_close 9 = .ok (.goto 9, 3) := by decide +kernel
theorem d_W_close_12 : decode c_W_close 12 = .ok (.astore_n 3, 1) := by decide +kernel
theorem d_W_close_13 : decode c_W_close 13 = .ok (.iconst 1, 1) := by decide +kernel
theorem d_W_close_14 : decode c_W_close 14 = .ok (.ireturn, 1) := by decide +kernel
theorem d_W_close_15 : decode c_W_close 15 = .ok (.astore_n 3, 1) := by decide +kernel
theorem d_W_close_16 : decode c_W_close 16 = .ok (.iconst 2, 1) := by decide +kernel
theorem d_W_close_17 : decode c_W_close 17 = .ok (.ireturn, 1) := by decide +kernel
theorem d_W_close_18 : decode c_W_close 18 = .ok (.iconst 0, 1) := by decide +kernel
theorem d_W_close_19 : decode c_W_close 19 = .ok (.ireturn, 1) := by decide +kernel
theorem d_W_balance_0 : decode c_W_balance 0 = .ok (.aload_n 3, 1) := by decide +kernel
theorem d_W_balance_1 : decode c_W_balance 1 = .ok (.iconst 0, 1) := by decide +kernel
theorem d_W_balance_2 : decode c_W_balance 2 = .ok (.aload_n 0, 1) := by decide +kernel
theorem d_W_balance_3 : decode c_W_balance 3 = .ok (.iload_n 1, 1) := by decide +kernel
theorem d_W_balance_4 : decode c_W_balance 4 = .ok (.iload_n 2, 1) := by decide +kernel
theorem d_W_balance_5 : decode c_W_balance 5 = .ok (.invokevirtual 66, 3) := by decide +kernel
theorem d_W_balance_8 : decode c_W_balance 8 = .ok (.lastore, 1) := by decide +kernel
theorem d_W_balance_9 : decode c_W_balance 9 = .ok (.goto 7, 3) := by decide +kernel
theorem d_W_balance_12 : decode c_W_balance 12 = .ok (.astore 4, 2) := by decide +kernel
theorem d_W_balance_14 : decode c_W_balance 14 = .ok (.iconst 1, 1) := by decide +kernel
theorem d_W_balance_15 : decode c_W_balance 15 = .ok (.ireturn, 1) := by decide +kernel
theorem d_W_balance_16 : decode c_W_balance 16 = .ok (.iconst 0, 1) := by decide +kernel
theorem d_W_balance_17 : decode c_W_balance 17 = .ok (.ireturn, 1) := by decide +kernel
theorem d_W_closeMonth_0 : decode c_W_closeMonth 0 = .ok (.aload_n 2, 1) := by decide +kernel
theorem d_W_closeMonth_1 : decode c_W_closeMonth 1 = .ok (.iconst 0, 1) := by decide +kernel
theorem d_W_closeMonth_2 : decode c_W_closeMonth 2 = .ok (.aload_n 0, 1) := by decide +kernel
theorem d_W_closeMonth_3 : decode c_W_closeMonth 3 = .ok (.iload_n 1, 1) := by decide +kernel
theorem d_W_closeMonth_4 : decode c_W_closeMonth 4 = .ok (.invokevirtual 70, 3) := by decide +kernel
theorem d_W_closeMonth_7 : decode c_W_closeMonth 7 = .ok (.ifCond .eq 7, 3) := by decide +kernel
theorem d_W_closeMonth_10 : decode c_W_closeMonth 10 = .ok (.lconst 1, 1) := by decide +kernel
theorem d_W_closeMonth_11 : decode c_W_closeMonth 11 = .ok (.goto 4, 3) := by decide +kernel
theorem d_W_closeMonth_14 : decode c_W_closeMonth 14 = .ok (.lconst 0, 1) := by decide +kernel
theorem d_W_closeMonth_15 : decode c_W_closeMonth 15 = .ok (.lastore, 1) := by decide +kernel
theorem d_W_closeMonth_16 : decode c_W_closeMonth 16 = .ok (.goto 6, 3) := by decide +kernel
theorem d_W_closeMonth_19 : decode c_W_closeMonth 19 = .ok (.astore_n 3, 1) := by decide +kernel
theorem d_W_closeMonth_20 : decode c_W_closeMonth 20 = .ok (.iconst 1, 1) := by decide +kernel
theorem d_W_closeMonth_21 : decode c_W_closeMonth 21 = .ok (.ireturn, 1) := by decide +kernel
theorem d_W_closeMonth_22 : decode c_W_closeMonth 22 = .ok (.iconst 0, 1) := by decide +kernel
theorem d_W_closeMonth_23 : decode c_W_closeMonth 23 = .ok (.ireturn, 1) := by decide +kernel
theorem d_W_reverse_0 : decode c_W_reverse 0 = .ok (.aload_n 3, 1) := by decide +kernel
theorem d_W_reverse_1 : decode c_W_reverse 1 = .ok (.iconst 0, 1) := by decide +kernel
theorem d_W_reverse_2 : decode c_W_reverse 2 = .ok (.aload_n 0, 1) := by decide +kernel
theorem d_W_reverse_3 : decode c_W_reverse 3 = .ok (.iload_n 1, 1) := by decide +kernel
theorem d_W_reverse_4 : decode c_W_reverse 4 = .ok (.iload_n 2, 1) := by decide +kernel
theorem d_W_reverse_5 : decode c_W_reverse 5 = .ok (.invokevirtual 74, 3) := by decide +kernel
theorem d_W_reverse_8 : decode c_W_reverse 8 = .ok (.i2l, 1) := by decide +kernel
theorem d_W_reverse_9 : decode c_W_reverse 9 = .ok (.lastore, 1) := by decide +kernel
theorem d_W_reverse_10 : decode c_W_reverse 10 = .ok (.goto 15, 3) := by decide +kernel
theorem d_W_reverse_13 : decode c_W_reverse 13 = .ok (.astore 4, 2) := by decide +kernel
theorem d_W_reverse_15 : decode c_W_reverse 15 = .ok (.iconst 1, 1) := by decide +kernel
theorem d_W_reverse_16 : decode c_W_reverse 16 = .ok (.ireturn, 1) := by decide +kernel
theorem d_W_reverse_17 : decode c_W_reverse 17 = .ok (.astore 4, 2) := by decide +kernel
theorem d_W_reverse_19 : decode c_W_reverse 19 = .ok (.iconst 2, 1) := by decide +kernel
theorem d_W_reverse_20 : decode c_W_reverse 20 = .ok (.ireturn, 1) := by decide +kernel
theorem d_W_reverse_21 : decode c_W_reverse 21 = .ok (.astore 4, 2) := by decide +kernel
theorem d_W_reverse_23 : decode c_W_reverse 23 = .ok (.iconst 3, 1) := by decide +kernel
theorem d_W_reverse_24 : decode c_W_reverse 24 = .ok (.ireturn, 1) := by decide +kernel
theorem d_W_reverse_25 : decode c_W_reverse 25 = .ok (.iconst 0, 1) := by decide +kernel
theorem d_W_reverse_26 : decode c_W_reverse 26 = .ok (.ireturn, 1) := by decide +kernel
theorem d_W_law_0 : decode c_W_law 0 = .ok (.new 8, 3) := by decide +kernel
theorem d_W_law_3 : decode c_W_law 3 = .ok (.dup, 1) := by decide +kernel
theorem d_W_law_4 : decode c_W_law 4 = .ok (.invokespecial 77, 3) := by decide +kernel
theorem d_W_law_7 : decode c_W_law 7 = .ok (.astore_n 1, 1) := by decide +kernel
theorem d_W_law_8 : decode c_W_law 8 = .ok (.new 78, 3) := by decide +kernel
theorem d_W_law_11 : decode c_W_law 11 = .ok (.dup, 1) := by decide +kernel
theorem d_W_law_12 : decode c_W_law 12 = .ok (.invokespecial 80, 3) := by decide +kernel
theorem d_W_law_15 : decode c_W_law 15 = .ok (.astore_n 2, 1) := by decide +kernel
theorem d_W_law_16 : decode c_W_law 16 = .ok (.iconst 1, 1) := by decide +kernel
theorem d_W_law_17 : decode c_W_law 17 = .ok (.newarray .long, 2) := by decide +kernel
theorem d_W_law_19 : decode c_W_law 19 = .ok (.astore_n 3, 1) := by decide +kernel
theorem d_W_law_20 : decode c_W_law 20 = .ok (.iconst 0, 1) := by decide +kernel
theorem d_W_law_21 : decode c_W_law 21 = .ok (.istore 4, 2) := by decide +kernel
theorem d_W_law_23 : decode c_W_law 23 = .ok (.iload 4, 2) := by decide +kernel
theorem d_W_law_25 : decode c_W_law 25 = .ok (.aload_n 0, 1) := by decide +kernel
theorem d_W_law_26 : decode c_W_law 26 = .ok (.arraylength, 1) := by decide +kernel
theorem d_W_law_27 : decode c_W_law 27 = .ok (.bipush 10, 2) := by decide +kernel
theorem d_W_law_29 : decode c_W_law 29 = .ok (.isub, 1) := by decide +kernel
theorem d_W_law_30 : decode c_W_law 30 = .ok (.if_icmp .gt 1099, 3) := by decide +kernel
theorem d_W_law_33 : decode c_W_law 33 = .ok (.aload_n 0, 1) := by decide +kernel
theorem d_W_law_34 : decode c_W_law 34 = .ok (.iload 4, 2) := by decide +kernel
theorem d_W_law_36 : decode c_W_law 36 = .ok (.iaload, 1) := by decide +kernel
theorem d_W_law_37 : decode c_W_law 37 = .ok (.bipush 31, 2) := by decide +kernel
theorem d_W_law_39 : decode c_W_law 39 = .ok (.iand, 1) := by decide +kernel
theorem d_W_law_40 : decode c_W_law 40 = .ok (.tableswitch 1083 0 16 #[84, 276, 304, 344, 384, 480, 520, 548, 612, 668, 736, 800, 828, 912, 940, 980, 1043], 84) := by decide +kernel
theorem d_W_law_124 : decode c_W_law 124 = .ok (.aload_n 1, 1) := by decide +kernel
theorem d_W_law_125 : decode c_W_law 125 = .ok (.aload_n 0, 1) := by decide +kernel
theorem d_W_law_126 : decode c_W_law 126 = .ok (.iload 4, 2) := by decide +kernel
theorem d_W_law_128 : decode c_W_law 128 = .ok (.iconst 1, 1) := by decide +kernel
theorem d_W_law_129 : decode c_W_law 129 = .ok (.iadd, 1) := by decide +kernel
theorem d_W_law_130 : decode c_W_law 130 = .ok (.iaload, 1) := by decide +kernel
theorem d_W_law_131 : decode c_W_law 131 = .ok (.aload_n 0, 1) := by decide +kernel
theorem d_W_law_132 : decode c_W_law 132 = .ok (.iload 4, 2) := by decide +kernel
theorem d_W_law_134 : decode c_W_law 134 = .ok (.iconst 2, 1) := by decide +kernel
theorem d_W_law_135 : decode c_W_law 135 = .ok (.iadd, 1) := by decide +kernel
theorem d_W_law_136 : decode c_W_law 136 = .ok (.iaload, 1) := by decide +kernel
theorem d_W_law_137 : decode c_W_law 137 = .ok (.i2l, 1) := by decide +kernel
theorem d_W_law_138 : decode c_W_law 138 = .ok (.bipush 32, 2) := by decide +kernel
theorem d_W_law_140 : decode c_W_law 140 = .ok (.lshl, 1) := by decide +kernel
theorem d_W_law_141 : decode c_W_law 141 = .ok (.aload_n 0, 1) := by decide +kernel
theorem d_W_law_142 : decode c_W_law 142 = .ok (.iload 4, 2) := by decide +kernel
theorem d_W_law_144 : decode c_W_law 144 = .ok (.iconst 3, 1) := by decide +kernel
theorem d_W_law_145 : decode c_W_law 145 = .ok (.iadd, 1) := by decide +kernel
theorem d_W_law_146 : decode c_W_law 146 = .ok (.iaload, 1) := by decide +kernel
theorem d_W_law_147 : decode c_W_law 147 = .ok (.i2l, 1) := by decide +kernel
theorem d_W_law_148 : decode c_W_law 148 = .ok (.ldc2_w 81, 3) := by decide +kernel
theorem d_W_law_151 : decode c_W_law 151 = .ok (.land, 1) := by decide +kernel
theorem d_W_law_152 : decode c_W_law 152 = .ok (.lor, 1) := by decide +kernel
theorem d_W_law_153 : decode c_W_law 153 = .ok (.aload_n 0, 1) := by decide +kernel
theorem d_W_law_154 : decode c_W_law 154 = .ok (.iload 4, 2) := by decide +kernel
theorem d_W_law_156 : decode c_W_law 156 = .ok (.iconst 4, 1) := by decide +kernel
theorem d_W_law_157 : decode c_W_law 157 = .ok (.iadd, 1) := by decide +kernel
theorem d_W_law_158 : decode c_W_law 158 = .ok (.iaload, 1) := by decide +kernel
theorem d_W_law_159 : decode c_W_law 159 = .ok (.aload_n 0, 1) := by decide +kernel
theorem d_W_law_160 : decode c_W_law 160 = .ok (.iload 4, 2) := by decide +kernel
theorem d_W_law_162 : decode c_W_law 162 = .ok (.iconst 5, 1) := by decide +kernel
theorem d_W_law_163 : decode c_W_law 163 = .ok (.iadd, 1) := by decide +kernel
theorem d_W_law_164 : decode c_W_law 164 = .ok (.iaload, 1) := by decide +kernel
theorem d_W_law_165 : decode c_W_law 165 = .ok (.aload_n 0, 1) := by decide +kernel
theorem d_W_law_166 : decode c_W_law 166 = .ok (.iload 4, 2) := by decide +kernel
theorem d_W_law_168 : decode c_W_law 168 = .ok (.bipush 6, 2) := by decide +kernel
theorem d_W_law_170 : decode c_W_law 170 = .ok (.iadd, 1) := by decide +kernel
theorem d_W_law_171 : decode c_W_law 171 = .ok (.iaload, 1) := by decide +kernel
theorem d_W_law_172 : decode c_W_law 172 = .ok (.i2l, 1) := by decide +kernel
theorem d_W_law_173 : decode c_W_law 173 = .ok (.bipush 32, 2) := by decide +kernel
theorem d_W_law_175 : decode c_W_law 175 = .ok (.lshl, 1) := by decide +kernel
theorem d_W_law_176 : decode c_W_law 176 = .ok (.aload_n 0, 1) := by decide +kernel
theorem d_W_law_177 : decode c_W_law 177 = .ok (.iload 4, 2) := by decide +kernel
theorem d_W_law_179 : decode c_W_law 179 = .ok (.bipush 7, 2) := by decide +kernel
theorem d_W_law_181 : decode c_W_law 181 = .ok (.iadd, 1) := by decide +kernel
theorem d_W_law_182 : decode c_W_law 182 = .ok (.iaload, 1) := by decide +kernel
theorem d_W_law_183 : decode c_W_law 183 = .ok (.i2l, 1) := by decide +kernel
theorem d_W_law_184 : decode c_W_law 184 = .ok (.ldc2_w 81, 3) := by decide +kernel
theorem d_W_law_187 : decode c_W_law 187 = .ok (.land, 1) := by decide +kernel
theorem d_W_law_188 : decode c_W_law 188 = .ok (.lor, 1) := by decide +kernel
theorem d_W_law_189 : decode c_W_law 189 = .ok (.aload_n 0, 1) := by decide +kernel
theorem d_W_law_190 : decode c_W_law 190 = .ok (.iload 4, 2) := by decide +kernel
theorem d_W_law_192 : decode c_W_law 192 = .ok (.bipush 8, 2) := by decide +kernel
theorem d_W_law_194 : decode c_W_law 194 = .ok (.iadd, 1) := by decide +kernel
theorem d_W_law_195 : decode c_W_law 195 = .ok (.iaload, 1) := by decide +kernel
theorem d_W_law_196 : decode c_W_law 196 = .ok (.i2l, 1) := by decide +kernel
theorem d_W_law_197 : decode c_W_law 197 = .ok (.bipush 32, 2) := by decide +kernel
theorem d_W_law_199 : decode c_W_law 199 = .ok (.lshl, 1) := by decide +kernel
theorem d_W_law_200 : decode c_W_law 200 = .ok (.aload_n 0, 1) := by decide +kernel
theorem d_W_law_201 : decode c_W_law 201 = .ok (.iload 4, 2) := by decide +kernel
theorem d_W_law_203 : decode c_W_law 203 = .ok (.bipush 9, 2) := by decide +kernel
theorem d_W_law_205 : decode c_W_law 205 = .ok (.iadd, 1) := by decide +kernel
theorem d_W_law_206 : decode c_W_law 206 = .ok (.iaload, 1) := by decide +kernel
theorem d_W_law_207 : decode c_W_law 207 = .ok (.i2l, 1) := by decide +kernel
theorem d_W_law_208 : decode c_W_law 208 = .ok (.ldc2_w 81, 3) := by decide +kernel
theorem d_W_law_211 : decode c_W_law 211 = .ok (.land, 1) := by decide +kernel
theorem d_W_law_212 : decode c_W_law 212 = .ok (.lor, 1) := by decide +kernel
theorem d_W_law_213 : decode c_W_law 213 = .ok (.aload_n 3, 1) := by decide +kernel
theorem d_W_law_214 : decode c_W_law 214 = .ok (.invokestatic 83, 3) := by decide +kernel
theorem d_W_law_217 : decode c_W_law 217 = .ok (.istore 5, 2) := by decide +kernel
theorem d_W_law_219 : decode c_W_law 219 = .ok (.aload_n 2, 1) := by decide +kernel
theorem d_W_law_220 : decode c_W_law 220 = .ok (.aload_n 0, 1) := by decide +kernel
theorem d_W_law_221 : decode c_W_law 221 = .ok (.iload 4, 2) := by decide +kernel
theorem d_W_law_223 : decode c_W_law 223 = .ok (.iconst 1, 1) := by decide +kernel
theorem d_W_law_224 : decode c_W_law 224 = .ok (.iadd, 1) := by decide +kernel
theorem d_W_law_225 : decode c_W_law 225 = .ok (.iaload, 1) := by decide +kernel
theorem d_W_law_226 : decode c_W_law 226 = .ok (.aload_n 0, 1) := by decide +kernel
theorem d_W_law_227 : decode c_W_law 227 = .ok (.iload 4, 2) := by decide +kernel
theorem d_W_law_229 : decode c_W_law 229 = .ok (.iconst 2, 1) := by decide +kernel
theorem d_W_law_230 : decode c_W_law 230 = .ok (.iadd, 1) := by decide +kernel
theorem d_W_law_231 : decode c_W_law 231 = .ok (.iaload, 1) := by decide +kernel
theorem d_W_law_232 : decode c_W_law 232 = .ok (.i2l, 1) := by decide +kernel
theorem d_W_law_233 : decode c_W_law 233 = .ok (.bipush 32, 2) := by decide +kernel
theorem d_W_law_235 : decode c_W_law 235 = .ok (.lshl, 1) := by decide +kernel
theorem d_W_law_236 : decode c_W_law 236 = .ok (.aload_n 0, 1) := by decide +kernel
theorem d_W_law_237 : decode c_W_law 237 = .ok (.iload 4, 2) := by decide +kernel
theorem d_W_law_239 : decode c_W_law 239 = .ok (.iconst 3, 1) := by decide +kernel
theorem d_W_law_240 : decode c_W_law 240 = .ok (.iadd, 1) := by decide +kernel
theorem d_W_law_241 : decode c_W_law 241 = .ok (.iaload, 1) := by decide +kernel
theorem d_W_law_242 : decode c_W_law 242 = .ok (.i2l, 1) := by decide +kernel
theorem d_W_law_243 : decode c_W_law 243 = .ok (.ldc2_w 81, 3) := by decide +kernel
theorem d_W_law_246 : decode c_W_law 246 = .ok (.land, 1) := by decide +kernel
theorem d_W_law_247 : decode c_W_law 247 = .ok (.lor, 1) := by decide +kernel
theorem d_W_law_248 : decode c_W_law 248 = .ok (.aload_n 0, 1) := by decide +kernel
theorem d_W_law_249 : decode c_W_law 249 = .ok (.iload 4, 2) := by decide +kernel
theorem d_W_law_251 : decode c_W_law 251 = .ok (.iconst 4, 1) := by decide +kernel
theorem d_W_law_252 : decode c_W_law 252 = .ok (.iadd, 1) := by decide +kernel
theorem d_W_law_253 : decode c_W_law 253 = .ok (.iaload, 1) := by decide +kernel
theorem d_W_law_254 : decode c_W_law 254 = .ok (.aload_n 0, 1) := by decide +kernel
theorem d_W_law_255 : decode c_W_law 255 = .ok (.iload 4, 2) := by decide +kernel
theorem d_W_law_257 : decode c_W_law 257 = .ok (.iconst 5, 1) := by decide +kernel
theorem d_W_law_258 : decode c_W_law 258 = .ok (.iadd, 1) := by decide +kernel
theorem d_W_law_259 : decode c_W_law 259 = .ok (.iaload, 1) := by decide +kernel
theorem d_W_law_260 : decode c_W_law 260 = .ok (.aload_n 0, 1) := by decide +kernel
theorem d_W_law_261 : decode c_W_law 261 = .ok (.iload 4, 2) := by decide +kernel
theorem d_W_law_263 : decode c_W_law 263 = .ok (.bipush 6, 2) := by decide +kernel
theorem d_W_law_265 : decode c_W_law 265 = .ok (.iadd, 1) := by decide +kernel
theorem d_W_law_266 : decode c_W_law 266 = .ok (.iaload, 1) := by decide +kernel
theorem d_W_law_267 : decode c_W_law 267 = .ok (.i2l, 1) := by decide +kernel
theorem d_W_law_268 : decode c_W_law 268 = .ok (.bipush 32, 2) := by decide +kernel
theorem d_W_law_270 : decode c_W_law 270 = .ok (.lshl, 1) := by decide +kernel
theorem d_W_law_271 : decode c_W_law 271 = .ok (.aload_n 0, 1) := by decide +kernel
theorem d_W_law_272 : decode c_W_law 272 = .ok (.iload 4, 2) := by decide +kernel
theorem d_W_law_274 : decode c_W_law 274 = .ok (.bipush 7, 2) := by decide +kernel
theorem d_W_law_276 : decode c_W_law 276 = .ok (.iadd, 1) := by decide +kernel
theorem d_W_law_277 : decode c_W_law 277 = .ok (.iaload, 1) := by decide +kernel
theorem d_W_law_278 : decode c_W_law 278 = .ok (.i2l, 1) := by decide +kernel
theorem d_W_law_279 : decode c_W_law 279 = .ok (.ldc2_w 81, 3) := by decide +kernel
theorem d_W_law_282 : decode c_W_law 282 = .ok (.land, 1) := by decide +kernel
theorem d_W_law_283 : decode c_W_law 283 = .ok (.lor, 1) := by decide +kernel
theorem d_W_law_284 : decode c_W_law 284 = .ok (.aload_n 0, 1) := by decide +kernel
theorem d_W_law_285 : decode c_W_law 285 = .ok (.iload 4, 2) := by decide +kernel
theorem d_W_law_287 : decode c_W_law 287 = .ok (.bipush 8, 2) := by decide +kernel
theorem d_W_law_289 : decode c_W_law 289 = .ok (.iadd, 1) := by decide +kernel
theorem d_W_law_290 : decode c_W_law 290 = .ok (.iaload, 1) := by decide +kernel
theorem d_W_law_291 : decode c_W_law 291 = .ok (.i2l, 1) := by decide +kernel
theorem d_W_law_292 : decode c_W_law 292 = .ok (.bipush 32, 2) := by decide +kernel
theorem d_W_law_294 : decode c_W_law 294 = .ok (.lshl, 1) := by decide +kernel
theorem d_W_law_295 : decode c_W_law 295 = .ok (.aload_n 0, 1) := by decide +kernel
theorem d_W_law_296 : decode c_W_law 296 = .ok (.iload 4, 2) := by decide +kernel
theorem d_W_law_298 : decode c_W_law 298 = .ok (.bipush 9, 2) := by decide +kernel
theorem d_W_law_300 : decode c_W_law 300 = .ok (.iadd, 1) := by decide +kernel
theorem d_W_law_301 : decode c_W_law 301 = .ok (.iaload, 1) := by decide +kernel
theorem d_W_law_302 : decode c_W_law 302 = .ok (.i2l, 1) := by decide +kernel
theorem d_W_law_303 : decode c_W_law 303 = .ok (.ldc2_w 81, 3) := by decide +kernel
theorem d_W_law_306 : decode c_W_law 306 = .ok (.land, 1) := by decide +kernel
theorem d_W_law_307 : decode c_W_law 307 = .ok (.lor, 1) := by decide +kernel
theorem d_W_law_308 : decode c_W_law 308 = .ok (.invokevirtual 88, 3) := by decide +kernel
theorem d_W_law_311 : decode c_W_law 311 = .ok (.istore 6, 2) := by decide +kernel
theorem d_W_law_313 : decode c_W_law 313 = .ok (.goto 810, 3) := by decide +kernel
theorem d_W_law_316 : decode c_W_law 316 = .ok (.aload_n 1, 1) := by decide +kernel
theorem d_W_law_317 : decode c_W_law 317 = .ok (.aload_n 0, 1) := by decide +kernel
theorem d_W_law_318 : decode c_W_law 318 = .ok (.iload 4, 2) := by decide +kernel
theorem d_W_law_320 : decode c_W_law 320 = .ok (.iconst 1, 1) := by decide +kernel
theorem d_W_law_321 : decode c_W_law 321 = .ok (.iadd, 1) := by decide +kernel
theorem d_W_law_322 : decode c_W_law 322 = .ok (.iaload, 1) := by decide +kernel
theorem d_W_law_323 : decode c_W_law 323 = .ok (.aload_n 3, 1) := by decide +kernel
theorem d_W_law_324 : decode c_W_law 324 = .ok (.invokestatic 89, 3) := by decide +kernel
theorem d_W_law_327 : decode c_W_law 327 = .ok (.istore 5, 2) := by decide +kernel
theorem d_W_law_329 : decode c_W_law 329 = .ok (.aload_n 2, 1) := by decide +kernel
theorem d_W_law_330 : decode c_W_law 330 = .ok (.aload_n 0, 1) := by decide +kernel
theorem d_W_law_331 : decode c_W_law 331 = .ok (.iload 4, 2) := by decide +kernel
theorem d_W_law_333 : decode c_W_law 333 = .ok (.iconst 1, 1) := by decide +kernel
theorem d_W_law_334 : decode c_W_law 334 = .ok (.iadd, 1) := by decide +kernel
theorem d_W_law_335 : decode c_W_law 335 = .ok (.iaload, 1) := by decide +kernel
theorem d_W_law_336 : decode c_W_law 336 = .ok (.invokevirtual 92, 3) := by decide +kernel
theorem d_W_law_339 : decode c_W_law 339 = .ok (.istore 6, 2) := by decide +kernel
theorem d_W_law_341 : decode c_W_law 341 = .ok (.goto 782, 3) := by decide +kernel
theorem d_W_law_344 : decode c_W_law 344 = .ok (.aload_n 1, 1) := by decide +kernel
theorem d_W_law_345 : decode c_W_law 345 = .ok (.aload_n 0, 1) := by decide +kernel
theorem d_W_law_346 : decode c_W_law 346 = .ok (.iload 4, 2) := by decide +kernel
theorem d_W_law_348 : decode c_W_law 348 = .ok (.iconst 1, 1) := by decide +kernel
theorem d_W_law_349 : decode c_W_law 349 = .ok (.iadd, 1) := by decide +kernel
theorem d_W_law_350 : decode c_W_law 350 = .ok (.iaload, 1) := by decide +kernel
theorem d_W_law_351 : decode c_W_law 351 = .ok (.aload_n 0, 1) := by decide +kernel
theorem d_W_law_352 : decode c_W_law 352 = .ok (.iload 4, 2) := by decide +kernel
theorem d_W_law_354 : decode c_W_law 354 = .ok (.iconst 2, 1) := by decide +kernel
theorem d_W_law_355 : decode c_W_law 355 = .ok (.iadd, 1) := by decide +kernel
theorem d_W_law_356 : decode c_W_law 356 = .ok (.iaload, 1) := by decide +kernel
theorem d_W_law_357 : decode c_W_law 357 = .ok (.aload_n 3, 1) := by decide +kernel
theorem d_W_law_358 : decode c_W_law 358 = .ok (.invokestatic 93, 3) := by decide +kernel
theorem d_W_law_361 : decode c_W_law 361 = .ok (.istore 5, 2) := by decide +kernel
theorem d_W_law_363 : decode c_W_law 363 = .ok (.aload_n 2, 1) := by decide +kernel
theorem d_W_law_364 : decode c_W_law 364 = .ok (.aload_n 0, 1) := by decide +kernel
theorem d_W_law_365 : decode c_W_law 365 = .ok (.iload 4, 2) := by decide +kernel
theorem d_W_law_367 : decode c_W_law 367 = .ok (.iconst 1, 1) := by decide +kernel
theorem d_W_law_368 : decode c_W_law 368 = .ok (.iadd, 1) := by decide +kernel
theorem d_W_law_369 : decode c_W_law 369 = .ok (.iaload, 1) := by decide +kernel
theorem d_W_law_370 : decode c_W_law 370 = .ok (.aload_n 0, 1) := by decide +kernel
theorem d_W_law_371 : decode c_W_law 371 = .ok (.iload 4, 2) := by decide +kernel
theorem d_W_law_373 : decode c_W_law 373 = .ok (.iconst 2, 1) := by decide +kernel
theorem d_W_law_374 : decode c_W_law 374 = .ok (.iadd, 1) := by decide +kernel
theorem d_W_law_375 : decode c_W_law 375 = .ok (.iaload, 1) := by decide +kernel
theorem d_W_law_376 : decode c_W_law 376 = .ok (.invokevirtual 96, 3) := by decide +kernel
theorem d_W_law_379 : decode c_W_law 379 = .ok (.istore 6, 2) := by decide +kernel
theorem d_W_law_381 : decode c_W_law 381 = .ok (.goto 742, 3) := by decide +kernel
theorem d_W_law_384 : decode c_W_law 384 = .ok (.aload_n 1, 1) := by decide +kernel
theorem d_W_law_385 : decode c_W_law 385 = .ok (.aload_n 0, 1) := by decide +kernel
theorem d_W_law_386 : decode c_W_law 386 = .ok (.iload 4, 2) := by decide +kernel
theorem d_W_law_388 : decode c_W_law 388 = .ok (.iconst 1, 1) := by decide +kernel
theorem d_W_law_389 : decode c_W_law 389 = .ok (.iadd, 1) := by decide +kernel
theorem d_W_law_390 : decode c_W_law 390 = .ok (.iaload, 1) := by decide +kernel
theorem d_W_law_391 : decode c_W_law 391 = .ok (.aload_n 0, 1) := by decide +kernel
theorem d_W_law_392 : decode c_W_law 392 = .ok (.iload 4, 2) := by decide +kernel
theorem d_W_law_394 : decode c_W_law 394 = .ok (.iconst 2, 1) := by decide +kernel
theorem d_W_law_395 : decode c_W_law 395 = .ok (.iadd, 1) := by decide +kernel
theorem d_W_law_396 : decode c_W_law 396 = .ok (.iaload, 1) := by decide +kernel
theorem d_W_law_397 : decode c_W_law 397 = .ok (.aload_n 3, 1) := by decide +kernel
theorem d_W_law_398 : decode c_W_law 398 = .ok (.invokestatic 97, 3) := by decide +kernel
theorem d_W_law_401 : decode c_W_law 401 = .ok (.istore 5, 2) := by decide +kernel
theorem d_W_law_403 : decode c_W_law 403 = .ok (.aload_n 2, 1) := by decide +kernel
theorem d_W_law_404 : decode c_W_law 404 = .ok (.aload_n 0, 1) := by decide +kernel
theorem d_W_law_405 : decode c_W_law 405 = .ok (.iload 4, 2) := by decide +kernel
theorem d_W_law_407 : decode c_W_law 407 = .ok (.iconst 1, 1) := by decide +kernel
theorem d_W_law_408 : decode c_W_law 408 = .ok (.iadd, 1) := by decide +kernel
theorem d_W_law_409 : decode c_W_law 409 = .ok (.iaload, 1) := by decide +kernel
theorem d_W_law_410 : decode c_W_law 410 = .ok (.aload_n 0, 1) := by decide +kernel
theorem d_W_law_411 : decode c_W_law 411 = .ok (.iload 4, 2) := by decide +kernel
theorem d_W_law_413 : decode c_W_law 413 = .ok (.iconst 2, 1) := by decide +kernel
theorem d_W_law_414 : decode c_W_law 414 = .ok (.iadd, 1) := by decide +kernel
theorem d_W_law_415 : decode c_W_law 415 = .ok (.iaload, 1) := by decide +kernel
theorem d_W_law_416 : decode c_W_law 416 = .ok (.invokevirtual 99, 3) := by decide +kernel
theorem d_W_law_419 : decode c_W_law 419 = .ok (.istore 6, 2) := by decide +kernel
theorem d_W_law_421 : decode c_W_law 421 = .ok (.goto 702, 3) := by decide +kernel
theorem d_W_law_424 : decode c_W_law 424 = .ok (.aload_n 1, 1) := by decide +kernel
theorem d_W_law_425 : decode c_W_law 425 = .ok (.aload_n 0, 1) := by decide +kernel
theorem d_W_law_426 : decode c_W_law 426 = .ok (.iload 4, 2) := by decide +kernel
theorem d_W_law_428 : decode c_W_law 428 = .ok (.iconst 1, 1) := by decide +kernel
theorem d_W_law_429 : decode c_W_law 429 = .ok (.iadd, 1) := by decide +kernel
theorem d_W_law_430 : decode c_W_law 430 = .ok (.iaload, 1) := by decide +kernel
theorem d_W_law_431 : decode c_W_law 431 = .ok (.aload_n 0, 1) := by decide +kernel
theorem d_W_law_432 : decode c_W_law 432 = .ok (.iload 4, 2) := by decide +kernel
theorem d_W_law_434 : decode c_W_law 434 = .ok (.iconst 2, 1) := by decide +kernel
theorem d_W_law_435 : decode c_W_law 435 = .ok (.iadd, 1) := by decide +kernel
theorem d_W_law_436 : decode c_W_law 436 = .ok (.iaload, 1) := by decide +kernel
theorem d_W_law_437 : decode c_W_law 437 = .ok (.aload_n 0, 1) := by decide +kernel
theorem d_W_law_438 : decode c_W_law 438 = .ok (.iload 4, 2) := by decide +kernel
theorem d_W_law_440 : decode c_W_law 440 = .ok (.iconst 3, 1) := by decide +kernel
theorem d_W_law_441 : decode c_W_law 441 = .ok (.iadd, 1) := by decide +kernel
theorem d_W_law_442 : decode c_W_law 442 = .ok (.iaload, 1) := by decide +kernel
theorem d_W_law_443 : decode c_W_law 443 = .ok (.aload_n 0, 1) := by decide +kernel
theorem d_W_law_444 : decode c_W_law 444 = .ok (.iload 4, 2) := by decide +kernel
theorem d_W_law_446 : decode c_W_law 446 = .ok (.iconst 4, 1) := by decide +kernel
theorem d_W_law_447 : decode c_W_law 447 = .ok (.iadd, 1) := by decide +kernel
theorem d_W_law_448 : decode c_W_law 448 = .ok (.iaload, 1) := by decide +kernel
theorem d_W_law_449 : decode c_W_law 449 = .ok (.i2l, 1) := by decide +kernel
theorem d_W_law_450 : decode c_W_law 450 = .ok (.bipush 32, 2) := by decide +kernel
theorem d_W_law_452 : decode c_W_law 452 = .ok (.lshl, 1) := by decide +kernel
theorem d_W_law_453 : decode c_W_law 453 = .ok (.aload_n 0, 1) := by decide +kernel
theorem d_W_law_454 : decode c_W_law 454 = .ok (.iload 4, 2) := by decide +kernel
theorem d_W_law_456 : decode c_W_law 456 = .ok (.iconst 5, 1) := by decide +kernel
theorem d_W_law_457 : decode c_W_law 457 = .ok (.iadd, 1) := by decide +kernel
theorem d_W_law_458 : decode c_W_law 458 = .ok (.iaload, 1) := by decide +kernel
theorem d_W_law_459 : decode c_W_law 459 = .ok (.i2l, 1) := by decide +kernel
theorem d_W_law_460 : decode c_W_law 460 = .ok (.ldc2_w 81, 3) := by decide +kernel
theorem d_W_law_463 : decode c_W_law 463 = .ok (.land, 1) := by decide +kernel
theorem d_W_law_464 : decode c_W_law 464 = .ok (.lor, 1) := by decide +kernel
theorem d_W_law_465 : decode c_W_law 465 = .ok (.aload_n 3, 1) := by decide +kernel
theorem d_W_law_466 : decode c_W_law 466 = .ok (.invokestatic 100, 3) := by decide +kernel
theorem d_W_law_469 : decode c_W_law 469 = .ok (.istore 5, 2) := by decide +kernel
theorem d_W_law_471 : decode c_W_law 471 = .ok (.aload_n 2, 1) := by decide +kernel
theorem d_W_law_472 : decode c_W_law 472 = .ok (.aload_n 0, 1) := by decide +kernel
theorem d_W_law_473 : decode c_W_law 473 = .ok (.iload 4, 2) := by decide +kernel
theorem d_W_law_475 : decode c_W_law 475 = .ok (.iconst 1, 1) := by decide +kernel
theorem d_W_law_476 : decode c_W_law 476 = .ok (.iadd, 1) := by decide +kernel
theorem d_W_law_477 : decode c_W_law 477 = .ok (.iaload, 1) := by decide +kernel
theorem d_W_law_478 : decode c_W_law 478 = .ok (.aload_n 0, 1) := by decide +kernel
theorem d_W_law_479 : decode c_W_law 479 = .ok (.iload 4, 2) := by decide +kernel
theorem d_W_law_481 : decode c_W_law 481 = .ok (.iconst 2, 1) := by decide +kernel
theorem d_W_law_482 : decode c_W_law 482 = .ok (.iadd, 1) := by decide +kernel
theorem d_W_law_483 : decode c_W_law 483 = .ok (.iaload, 1) := by decide +kernel
theorem d_W_law_484 : decode c_W_law 484 = .ok (.aload_n 0, 1) := by decide +kernel
theorem d_W_law_485 : decode c_W_law 485 = .ok (.iload 4, 2) := by decide +kernel
theorem d_W_law_487 : decode c_W_law 487 = .ok (.iconst 3, 1) := by decide +kernel
theorem d_W_law_488 : decode c_W_law 488 = .ok (.iadd, 1) := by decide +kernel
theorem d_W_law_489 : decode c_W_law 489 = .ok (.iaload, 1) := by decide +kernel
theorem d_W_law_490 : decode c_W_law 490 = .ok (.aload_n 0, 1) := by decide +kernel
theorem d_W_law_491 : decode c_W_law 491 = .ok (.iload 4, 2) := by decide +kernel
theorem d_W_law_493 : decode c_W_law 493 = .ok (.iconst 4, 1) := by decide +kernel
theorem d_W_law_494 : decode c_W_law 494 = .ok (.iadd, 1) := by decide +kernel
theorem d_W_law_495 : decode c_W_law 495 = .ok (.iaload, 1) := by decide +kernel
theorem d_W_law_496 : decode c_W_law 496 = .ok (.i2l, 1) := by decide +kernel
theorem d_W_law_497 : decode c_W_law 497 = .ok (.bipush 32, 2) := by decide +kernel
theorem d_W_law_499 : decode c_W_law 499 = .ok (.lshl, 1) := by decide +kernel
theorem d_W_law_500 : decode c_W_law 500 = .ok (.aload_n 0, 1) := by decide +kernel
theorem d_W_law_501 : decode c_W_law 501 = .ok (.iload 4, 2) := by decide +kernel
theorem d_W_law_503 : decode c_W_law 503 = .ok (.iconst 5, 1) := by decide +kernel
theorem d_W_law_504 : decode c_W_law 504 = .ok (.iadd, 1) := by decide +kernel
theorem d_W_law_505 : decode c_W_law 505 = .ok (.iaload, 1) := by decide +kernel
theorem d_W_law_506 : decode c_W_law 506 = .ok (.i2l, 1) := by decide +kernel
theorem d_W_law_507 : decode c_W_law 507 = .ok (.ldc2_w 81, 3) := by decide +kernel
theorem d_W_law_510 : decode c_W_law 510 = .ok (.land, 1) := by decide +kernel
theorem d_W_law_511 : decode c_W_law 511 = .ok (.lor, 1) := by decide +kernel
theorem d_W_law_512 : decode c_W_law 512 = .ok (.invokevirtual 103, 3) := by decide +kernel
theorem d_W_law_515 : decode c_W_law 515 = .ok (.lstore 6, 2) := by decide +kernel
theorem d_W_law_517 : decode c_W_law 517 = .ok (.goto 606, 3) := by decide +kernel
theorem d_W_law_520 : decode c_W_law 520 = .ok (.aload_n 1, 1) := by decide +kernel
theorem d_W_law_521 : decode c_W_law 521 = .ok (.aload_n 0, 1) := by decide +kernel
theorem d_W_law_522 : decode c_W_law 522 = .ok (.iload 4, 2) := by decide +kernel
theorem d_W_law_524 : decode c_W_law 524 = .ok (.iconst 1, 1) := by decide +kernel
theorem d_W_law_525 : decode c_W_law 525 = .ok (.iadd, 1) := by decide +kernel
theorem d_W_law_526 : decode c_W_law 526 = .ok (.iaload, 1) := by decide +kernel
theorem d_W_law_527 : decode c_W_law 527 = .ok (.aload_n 0, 1) := by decide +kernel
theorem d_W_law_528 : decode c_W_law 528 = .ok (.iload 4, 2) := by decide +kernel
theorem d_W_law_530 : decode c_W_law 530 = .ok (.iconst 2, 1) := by decide +kernel
theorem d_W_law_531 : decode c_W_law 531 = .ok (.iadd, 1) := by decide +kernel
theorem d_W_law_532 : decode c_W_law 532 = .ok (.iaload, 1) := by decide +kernel
theorem d_W_law_533 : decode c_W_law 533 = .ok (.aload_n 3, 1) := by decide +kernel
theorem d_W_law_534 : decode c_W_law 534 = .ok (.invokestatic 104, 3) := by decide +kernel
theorem d_W_law_537 : decode c_W_law 537 = .ok (.istore 5, 2) := by decide +kernel
theorem d_W_law_539 : decode c_W_law 539 = .ok (.aload_n 2, 1) := by decide +kernel
theorem d_W_law_540 : decode c_W_law 540 = .ok (.aload_n 0, 1) := by decide +kernel
theorem d_W_law_541 : decode c_W_law 541 = .ok (.iload 4, 2) := by decide +kernel
theorem d_W_law_543 : decode c_W_law 543 = .ok (.iconst 1, 1) := by decide +kernel
theorem d_W_law_544 : decode c_W_law 544 = .ok (.iadd, 1) := by decide +kernel
theorem d_W_law_545 : decode c_W_law 545 = .ok (.iaload, 1) := by decide +kernel
theorem d_W_law_546 : decode c_W_law 546 = .ok (.aload_n 0, 1) := by decide +kernel
theorem d_W_law_547 : decode c_W_law 547 = .ok (.iload 4, 2) := by decide +kernel
theorem d_W_law_549 : decode c_W_law 549 = .ok (.iconst 2, 1) := by decide +kernel
theorem d_W_law_550 : decode c_W_law 550 = .ok (.iadd, 1) := by decide +kernel
theorem d_W_law_551 : decode c_W_law 551 = .ok (.iaload, 1) := by decide +kernel
theorem d_W_law_552 : decode c_W_law 552 = .ok (.invokevirtual 106, 3) := by decide +kernel
theorem d_W_law_555 : decode c_W_law 555 = .ok (.istore 6, 2) := by decide +kernel
theorem d_W_law_557 : decode c_W_law 557 = .ok (.goto 566, 3) := by decide +kernel
theorem d_W_law_560 : decode c_W_law 560 = .ok (.aload_n 1, 1) := by decide +kernel
theorem d_W_law_561 : decode c_W_law 561 = .ok (.aload_n 0, 1) := by decide +kernel
theorem d_W_law_562 : decode c_W_law 562 = .ok (.iload 4, 2) := by decide +kernel
theorem d_W_law_564 : decode c_W_law 564 = .ok (.iconst 1, 1) := by decide +kernel
theorem d_W_law_565 : decode c_W_law 565 = .ok (.iadd, 1) := by decide +kernel
theorem d_W_law_566 : decode c_W_law 566 = .ok (.iaload, 1) := by decide +kernel
theorem d_W_law_567 : decode c_W_law 567 = .ok (.aload_n 3, 1) := by decide +kernel
theorem d_W_law_568 : decode c_W_law 568 = .ok (.invokestatic 107, 3) := by decide +kernel
theorem d_W_law_571 : decode c_W_law 571 = .ok (.istore 5, 2) := by decide +kernel
theorem d_W_law_573 : decode c_W_law 573 = .ok (.aload_n 2, 1) := by decide +kernel
theorem d_W_law_574 : decode c_W_law 574 = .ok (.aload_n 0, 1) := by decide +kernel
theorem d_W_law_575 : decode c_W_law 575 = .ok (.iload 4, 2) := by decide +kernel
theorem d_W_law_577 : decode c_W_law 577 = .ok (.iconst 1, 1) := by decide +kernel
theorem d_W_law_578 : decode c_W_law 578 = .ok (.iadd, 1) := by decide +kernel
theorem d_W_law_579 : decode c_W_law 579 = .ok (.iaload, 1) := by decide +kernel
theorem d_W_law_580 : decode c_W_law 580 = .ok (.invokevirtual 109, 3) := by decide +kernel
theorem d_W_law_583 : decode c_W_law 583 = .ok (.istore 6, 2) := by decide +kernel
theorem d_W_law_585 : decode c_W_law 585 = .ok (.goto 538, 3) := by decide +kernel
theorem d_W_law_588 : decode c_W_law 588 = .ok (.aload_n 1, 1) := by decide +kernel
theorem d_W_law_589 : decode c_W_law 589 = .ok (.aload_n 0, 1) := by decide +kernel
theorem d_W_law_590 : decode c_W_law 590 = .ok (.iload 4, 2) := by decide +kernel
theorem d_W_law_592 : decode c_W_law 592 = .ok (.iconst 1, 1) := by decide +kernel
theorem d_W_law_593 : decode c_W_law 593 = .ok (.iadd, 1) := by decide +kernel
theorem d_W_law_594 : decode c_W_law 594 = .ok (.iaload, 1) := by decide +kernel
theorem d_W_law_595 : decode c_W_law 595 = .ok (.aload_n 0, 1) := by decide +kernel
theorem d_W_law_596 : decode c_W_law 596 = .ok (.iload 4, 2) := by decide +kernel
theorem d_W_law_598 : decode c_W_law 598 = .ok (.iconst 2, 1) := by decide +kernel
theorem d_W_law_599 : decode c_W_law 599 = .ok (.iadd, 1) := by decide +kernel
theorem d_W_law_600 : decode c_W_law 600 = .ok (.iaload, 1) := by decide +kernel
theorem d_W_law_601 : decode c_W_law 601 = .ok (.aload_n 0, 1) := by decide +kernel
theorem d_W_law_602 : decode c_W_law 602 = .ok (.iload 4, 2) := by decide +kernel
theorem d_W_law_604 : decode c_W_law 604 = .ok (.iconst 3, 1) := by decide +kernel
theorem d_W_law_605 : decode c_W_law 605 = .ok (.iadd, 1) := by decide +kernel
theorem d_W_law_606 : decode c_W_law 606 = .ok (.iaload, 1) := by decide +kernel
theorem d_W_law_607 : decode c_W_law 607 = .ok (.aload_n 0, 1) := by decide +kernel
theorem d_W_law_608 : decode c_W_law 608 = .ok (.iload 4, 2) := by decide +kernel
theorem d_W_law_610 : decode c_W_law 610 = .ok (.iconst 4, 1) := by decide +kernel
theorem d_W_law_611 : decode c_W_law 611 = .ok (.iadd, 1) := by decide +kernel
theorem d_W_law_612 : decode c_W_law 612 = .ok (.iaload, 1) := by decide +kernel
theorem d_W_law_613 : decode c_W_law 613 = .ok (.aload_n 3, 1) := by decide +kernel
theorem d_W_law_614 : decode c_W_law 614 = .ok (.invokestatic 110, 3) := by decide +kernel
theorem d_W_law_617 : decode c_W_law 617 = .ok (.istore 5, 2) := by decide +kernel
theorem d_W_law_619 : decode c_W_law 619 = .ok (.aload_n 2, 1) := by decide +kernel
theorem d_W_law_620 : decode c_W_law 620 = .ok (.aload_n 0, 1) := by decide +kernel
theorem d_W_law_621 : decode c_W_law 621 = .ok (.iload 4, 2) := by decide +kernel
theorem d_W_law_623 : decode c_W_law 623 = .ok (.iconst 1, 1) := by decide +kernel
theorem d_W_law_624 : decode c_W_law 624 = .ok (.iadd, 1) := by decide +kernel
theorem d_W_law_625 : decode c_W_law 625 = .ok (.iaload, 1) := by decide +kernel
theorem d_W_law_626 : decode c_W_law 626 = .ok (.aload_n 0, 1) := by decide +kernel
theorem d_W_law_627 : decode c_W_law 627 = .ok (.iload 4, 2) := by decide +kernel
theorem d_W_law_629 : decode c_W_law 629 = .ok (.iconst 2, 1) := by decide +kernel
theorem d_W_law_630 : decode c_W_law 630 = .ok (.iadd, 1) := by decide +kernel
theorem d_W_law_631 : decode c_W_law 631 = .ok (.iaload, 1) := by decide +kernel
theorem d_W_law_632 : decode c_W_law 632 = .ok (.aload_n 0, 1) := by decide +kernel
theorem d_W_law_633 : decode c_W_law 633 = .ok (.iload 4, 2) := by decide +kernel
theorem d_W_law_635 : decode c_W_law 635 = .ok (.iconst 3, 1) := by decide +kernel
theorem d_W_law_636 : decode c_W_law 636 = .ok (.iadd, 1) := by decide +kernel
theorem d_W_law_637 : decode c_W_law 637 = .ok (.iaload, 1) := by decide +kernel
theorem d_W_law_638 : decode c_W_law 638 = .ok (.aload_n 0, 1) := by decide +kernel
theorem d_W_law_639 : decode c_W_law 639 = .ok (.iload 4, 2) := by decide +kernel
theorem d_W_law_641 : decode c_W_law 641 = .ok (.iconst 4, 1) := by decide +kernel
theorem d_W_law_642 : decode c_W_law 642 = .ok (.iadd, 1) := by decide +kernel
theorem d_W_law_643 : decode c_W_law 643 = .ok (.iaload, 1) := by decide +kernel
theorem d_W_law_644 : decode c_W_law 644 = .ok (.invokevirtual 113, 3) := by decide +kernel
theorem d_W_law_647 : decode c_W_law 647 = .ok (.lstore 6, 2) := by decide +kernel
theorem d_W_law_649 : decode c_W_law 649 = .ok (.goto 474, 3) := by decide +kernel
theorem d_W_law_652 : decode c_W_law 652 = .ok (.aload_n 1, 1) := by decide +kernel
theorem d_W_law_653 : decode c_W_law 653 = .ok (.aload_n 0, 1) := by decide +kernel
theorem d_W_law_654 : decode c_W_law 654 = .ok (.iload 4, 2) := by decide +kernel
theorem d_W_law_656 : decode c_W_law 656 = .ok (.iconst 1, 1) := by decide +kernel
theorem d_W_law_657 : decode c_W_law 657 = .ok (.iadd, 1) := by decide +kernel
theorem d_W_law_658 : decode c_W_law 658 = .ok (.iaload, 1) := by decide +kernel
theorem d_W_law_659 : decode c_W_law 659 = .ok (.aload_n 0, 1) := by decide +kernel
theorem d_W_law_660 : decode c_W_law 660 = .ok (.iload 4, 2) := by decide +kernel
theorem d_W_law_662 : decode c_W_law 662 = .ok (.iconst 2, 1) := by decide +kernel
theorem d_W_law_663 : decode c_W_law 663 = .ok (.iadd, 1) := by decide +kernel
theorem d_W_law_664 : decode c_W_law 664 = .ok (.iaload, 1) := by decide +kernel
theorem d_W_law_665 : decode c_W_law 665 = .ok (.ifCond .eq 7, 3) := by decide +kernel
theorem d_W_law_668 : decode c_W_law 668 = .ok (.iconst 1, 1) := by decide +kernel
theorem d_W_law_669 : decode c_W_law 669 = .ok (.goto 4, 3) := by decide +kernel
theorem d_W_law_672 : decode c_W_law 672 = .ok (.iconst 0, 1) := by decide +kernel
theorem d_W_law_673 : decode c_W_law 673 = .ok (.aload_n 3, 1) := by decide +kernel
theorem d_W_law_674 : decode c_W_law 674 = .ok (.invokestatic 114, 3) := by decide +kernel
theorem d_W_law_677 : decode c_W_law 677 = .ok (.istore 5, 2) := by decide +kernel
theorem d_W_law_679 : decode c_W_law 679 = .ok (.aload_n 2, 1) := by decide +kernel
theorem d_W_law_680 : decode c_W_law 680 = .ok (.aload_n 0, 1) := by decide +kernel
theorem d_W_law_681 : decode c_W_law 681 = .ok (.iload 4, 2) := by decide +kernel
theorem d_W_law_683 : decode c_W_law 683 = .ok (.iconst 1, 1) := by decide +kernel
theorem d_W_law_684 : decode c_W_law 684 = .ok (.iadd, 1) := by decide +kernel
theorem d_W_law_685 : decode c_W_law 685 = .ok (.iaload, 1) := by decide +kernel
theorem d_W_law_686 : decode c_W_law 686 = .ok (.aload_n 0, 1) := by decide +kernel
theorem d_W_law_687 : decode c_W_law 687 = .ok (.iload 4, 2) := by decide +kernel
theorem d_W_law_689 : decode c_W_law 689 = .ok (.iconst 2, 1) := by decide +kernel
theorem d_W_law_690 : decode c_W_law 690 = .ok (.iadd, 1) := by decide +kernel
theorem d_W_law_691 : decode c_W_law 691 = .ok (.iaload, 1) := by decide +kernel
theorem d_W_law_692 : decode c_W_law 692 = .ok (.ifCond .eq 7, 3) := by decide +kernel
theorem d_W_law_695 : decode c_W_law 695 = .ok (.iconst 1, 1) := by decide +kernel
theorem d_W_law_696 : decode c_W_law 696 = .ok (.goto 4, 3) := by decide +kernel
theorem d_W_law_699 : decode c_W_law 699 = .ok (.iconst 0, 1) := by decide +kernel
theorem d_W_law_700 : decode c_W_law 700 = .ok (.invokevirtual 117, 3) := by decide +kernel
theorem d_W_law_703 : decode c_W_law 703 = .ok (.istore 6, 2) := by decide +kernel
theorem d_W_law_705 : decode c_W_law 705 = .ok (.goto 418, 3) := by decide +kernel
theorem d_W_law_708 : decode c_W_law 708 = .ok (.aload_n 1, 1) := by decide +kernel
theorem d_W_law_709 : decode c_W_law 709 = .ok (.aload_n 0, 1) := by decide +kernel
theorem d_W_law_710 : decode c_W_law 710 = .ok (.iload 4, 2) := by decide +kernel
theorem d_W_law_712 : decode c_W_law 712 = .ok (.iconst 1, 1) := by decide +kernel
theorem d_W_law_713 : decode c_W_law 713 = .ok (.iadd, 1) := by decide +kernel
theorem d_W_law_714 : decode c_W_law 714 = .ok (.iaload, 1) := by decide +kernel
theorem d_W_law_715 : decode c_W_law 715 = .ok (.aload_n 0, 1) := by decide +kernel
theorem d_W_law_716 : decode c_W_law 716 = .ok (.iload 4, 2) := by decide +kernel
theorem d_W_law_718 : decode c_W_law 718 = .ok (.iconst 2, 1) := by decide +kernel
theorem d_W_law_719 : decode c_W_law 719 = .ok (.iadd, 1) := by decide +kernel
theorem d_W_law_720 : decode c_W_law 720 = .ok (.iaload, 1) := by decide +kernel
theorem d_W_law_721 : decode c_W_law 721 = .ok (.aload_n 0, 1) := by decide +kernel
theorem d_W_law_722 : decode c_W_law 722 = .ok (.iload 4, 2) := by decide +kernel
theorem d_W_law_724 : decode c_W_law 724 = .ok (.iconst 3, 1) := by decide +kernel
theorem d_W_law_725 : decode c_W_law 725 = .ok (.iadd, 1) := by decide +kernel
theorem d_W_law_726 : decode c_W_law 726 = .ok (.iaload, 1) := by decide +kernel
theorem d_W_law_727 : decode c_W_law 727 = .ok (.ifCond .eq 7, 3) := by decide +kernel
theorem d_W_law_730 : decode c_W_law 730 = .ok (.iconst 1, 1) := by decide +kernel
theorem d_W_law_731 : decode c_W_law 731 = .ok (.goto 4, 3) := by decide +kernel
theorem d_W_law_734 : decode c_W_law 734 = .ok (.iconst 0, 1) := by decide +kernel
theorem d_W_law_735 : decode c_W_law 735 = .ok (.aload_n 3, 1) := by decide +kernel
theorem d_W_law_736 : decode c_W_law 736 = .ok (.invokestatic 118, 3) := by decide +kernel
theorem d_W_law_739 : decode c_W_law 739 = .ok (.istore 5, 2) := by decide +kernel
theorem d_W_law_741 : decode c_W_law 741 = .ok (.aload_n 2, 1) := by decide +kernel
theorem d_W_law_742 : decode c_W_law 742 = .ok (.aload_n 0, 1) := by decide +kernel
theorem d_W_law_743 : decode c_W_law 743 = .ok (.iload 4, 2) := by decide +kernel
theorem d_W_law_745 : decode c_W_law 745 = .ok (.iconst 1, 1) := by decide +kernel
theorem d_W_law_746 : decode c_W_law 746 = .ok (.iadd, 1) := by decide +kernel
theorem d_W_law_747 : decode c_W_law 747 = .ok (.iaload, 1) := by decide +kernel
theorem d_W_law_748 : decode c_W_law 748 = .ok (.aload_n 0, 1) := by decide +kernel
theorem d_W_law_749 : decode c_W_law 749 = .ok (.iload 4, 2) := by decide +kernel
theorem d_W_law_751 : decode c_W_law 751 = .ok (.iconst 2, 1) := by decide +kernel
theorem d_W_law_752 : decode c_W_law 752 = .ok (.iadd, 1) := by decide +kernel
theorem d_W_law_753 : decode c_W_law 753 = .ok (.iaload, 1) := by decide +kernel
theorem d_W_law_754 : decode c_W_law 754 = .ok (.aload_n 0, 1) := by decide +kernel
theorem d_W_law_755 : decode c_W_law 755 = .ok (.iload 4, 2) := by decide +kernel
theorem d_W_law_757 : decode c_W_law 757 = .ok (.iconst 3, 1) := by decide +kernel
theorem d_W_law_758 : decode c_W_law 758 = .ok (.iadd, 1) := by decide +kernel
theorem d_W_law_759 : decode c_W_law 759 = .ok (.iaload, 1) := by decide +kernel
theorem d_W_law_760 : decode c_W_law 760 = .ok (.ifCond .eq 7, 3) := by decide +kernel
theorem d_W_law_763 : decode c_W_law 763 = .ok (.iconst 1, 1) := by decide +kernel
theorem d_W_law_764 : decode c_W_law 764 = .ok (.goto 4, 3) := by decide +kernel
theorem d_W_law_767 : decode c_W_law 767 = .ok (.iconst 0, 1) := by decide +kernel
theorem d_W_law_768 : decode c_W_law 768 = .ok (.invokevirtual 121, 3) := by decide +kernel
theorem d_W_law_771 : decode c_W_law 771 = .ok (.istore 6, 2) := by decide +kernel
theorem d_W_law_773 : decode c_W_law 773 = .ok (.goto 350, 3) := by decide +kernel
theorem d_W_law_776 : decode c_W_law 776 = .ok (.aload_n 1, 1) := by decide +kernel
theorem d_W_law_777 : decode c_W_law 777 = .ok (.aload_n 0, 1) := by decide +kernel
theorem d_W_law_778 : decode c_W_law 778 = .ok (.iload 4, 2) := by decide +kernel
theorem d_W_law_780 : decode c_W_law 780 = .ok (.iconst 1, 1) := by decide +kernel
theorem d_W_law_781 : decode c_W_law 781 = .ok (.iadd, 1) := by decide +kernel
theorem d_W_law_782 : decode c_W_law 782 = .ok (.iaload, 1) := by decide +kernel
theorem d_W_law_783 : decode c_W_law 783 = .ok (.aload_n 0, 1) := by decide +kernel
theorem d_W_law_784 : decode c_W_law 784 = .ok (.iload 4, 2) := by decide +kernel
theorem d_W_law_786 : decode c_W_law 786 = .ok (.iconst 2, 1) := by decide +kernel
theorem d_W_law_787 : decode c_W_law 787 = .ok (.iadd, 1) := by decide +kernel
theorem d_W_law_788 : decode c_W_law 788 = .ok (.iaload, 1) := by decide +kernel
theorem d_W_law_789 : decode c_W_law 789 = .ok (.aload_n 0, 1) := by decide +kernel
theorem d_W_law_790 : decode c_W_law 790 = .ok (.iload 4, 2) := by decide +kernel
theorem d_W_law_792 : decode c_W_law 792 = .ok (.iconst 3, 1) := by decide +kernel
theorem d_W_law_793 : decode c_W_law 793 = .ok (.iadd, 1) := by decide +kernel
theorem d_W_law_794 : decode c_W_law 794 = .ok (.iaload, 1) := by decide +kernel
theorem d_W_law_795 : decode c_W_law 795 = .ok (.aload_n 0, 1) := by decide +kernel
theorem d_W_law_796 : decode c_W_law 796 = .ok (.iload 4, 2) := by decide +kernel
theorem d_W_law_798 : decode c_W_law 798 = .ok (.iconst 4, 1) := by decide +kernel
theorem d_W_law_799 : decode c_W_law 799 = .ok (.iadd, 1) := by decide +kernel
theorem d_W_law_800 : decode c_W_law 800 = .ok (.iaload, 1) := by decide +kernel
theorem d_W_law_801 : decode c_W_law 801 = .ok (.aload_n 3, 1) := by decide +kernel
theorem d_W_law_802 : decode c_W_law 802 = .ok (.invokestatic 122, 3) := by decide +kernel
theorem d_W_law_805 : decode c_W_law 805 = .ok (.istore 5, 2) := by decide +kernel
theorem d_W_law_807 : decode c_W_law 807 = .ok (.aload_n 2, 1) := by decide +kernel
theorem d_W_law_808 : decode c_W_law 808 = .ok (.aload_n 0, 1) := by decide +kernel
theorem d_W_law_809 : decode c_W_law 809 = .ok (.iload 4, 2) := by decide +kernel
theorem d_W_law_811 : decode c_W_law 811 = .ok (.iconst 1, 1) := by decide +kernel
theorem d_W_law_812 : decode c_W_law 812 = .ok (.iadd, 1) := by decide +kernel
theorem d_W_law_813 : decode c_W_law 813 = .ok (.iaload, 1) := by decide +kernel
theorem d_W_law_814 : decode c_W_law 814 = .ok (.aload_n 0, 1) := by decide +kernel
theorem d_W_law_815 : decode c_W_law 815 = .ok (.iload 4, 2) := by decide +kernel
theorem d_W_law_817 : decode c_W_law 817 = .ok (.iconst 2, 1) := by decide +kernel
theorem d_W_law_818 : decode c_W_law 818 = .ok (.iadd, 1) := by decide +kernel
theorem d_W_law_819 : decode c_W_law 819 = .ok (.iaload, 1) := by decide +kernel
theorem d_W_law_820 : decode c_W_law 820 = .ok (.aload_n 0, 1) := by decide +kernel
theorem d_W_law_821 : decode c_W_law 821 = .ok (.iload 4, 2) := by decide +kernel
theorem d_W_law_823 : decode c_W_law 823 = .ok (.iconst 3, 1) := by decide +kernel
theorem d_W_law_824 : decode c_W_law 824 = .ok (.iadd, 1) := by decide +kernel
theorem d_W_law_825 : decode c_W_law 825 = .ok (.iaload, 1) := by decide +kernel
theorem d_W_law_826 : decode c_W_law 826 = .ok (.aload_n 0, 1) := by decide +kernel
theorem d_W_law_827 : decode c_W_law 827 = .ok (.iload 4, 2) := by decide +kernel
theorem d_W_law_829 : decode c_W_law 829 = .ok (.iconst 4, 1) := by decide +kernel
theorem d_W_law_830 : decode c_W_law 830 = .ok (.iadd, 1) := by decide +kernel
theorem d_W_law_831 : decode c_W_law 831 = .ok (.iaload, 1) := by decide +kernel
theorem d_W_law_832 : decode c_W_law 832 = .ok (.invokevirtual 124, 3) := by decide +kernel
theorem d_W_law_835 : decode c_W_law 835 = .ok (.lstore 6, 2) := by decide +kernel
theorem d_W_law_837 : decode c_W_law 837 = .ok (.goto 286, 3) := by decide +kernel
theorem d_W_law_840 : decode c_W_law 840 = .ok (.aload_n 1, 1) := by decide +kernel
theorem d_W_law_841 : decode c_W_law 841 = .ok (.aload_n 0, 1) := by decide +kernel
theorem d_W_law_842 : decode c_W_law 842 = .ok (.iload 4, 2) := by decide +kernel
theorem d_W_law_844 : decode c_W_law 844 = .ok (.iconst 1, 1) := by decide +kernel
theorem d_W_law_845 : decode c_W_law 845 = .ok (.iadd, 1) := by decide +kernel
theorem d_W_law_846 : decode c_W_law 846 = .ok (.iaload, 1) := by decide +kernel
theorem d_W_law_847 : decode c_W_law 847 = .ok (.aload_n 3, 1) := by decide +kernel
theorem d_W_law_848 : decode c_W_law 848 = .ok (.invokestatic 125, 3) := by decide +kernel
theorem d_W_law_851 : decode c_W_law 851 = .ok (.istore 5, 2) := by decide +kernel
theorem d_W_law_853 : decode c_W_law 853 = .ok (.aload_n 2, 1) := by decide +kernel
theorem d_W_law_854 : decode c_W_law 854 = .ok (.aload_n 0, 1) := by decide +kernel
theorem d_W_law_855 : decode c_W_law 855 = .ok (.iload 4, 2) := by decide +kernel
theorem d_W_law_857 : decode c_W_law 857 = .ok (.iconst 1, 1) := by decide +kernel
theorem d_W_law_858 : decode c_W_law 858 = .ok (.iadd, 1) := by decide +kernel
theorem d_W_law_859 : decode c_W_law 859 = .ok (.iaload, 1) := by decide +kernel
theorem d_W_law_860 : decode c_W_law 860 = .ok (.invokevirtual 127, 3) := by decide +kernel
theorem d_W_law_863 : decode c_W_law 863 = .ok (.istore 6, 2) := by decide +kernel
theorem d_W_law_865 : decode c_W_law 865 = .ok (.goto 258, 3) := by decide +kernel
theorem d_W_law_868 : decode c_W_law 868 = .ok (.aload_n 1, 1) := by decide +kernel
theorem d_W_law_869 : decode c_W_law 869 = .ok (.aload_n 0, 1) := by decide +kernel
theorem d_W_law_870 : decode c_W_law 870 = .ok (.iload 4, 2) := by decide +kernel
theorem d_W_law_872 : decode c_W_law 872 = .ok (.iconst 1, 1) := by decide +kernel
theorem d_W_law_873 : decode c_W_law 873 = .ok (.iadd, 1) := by decide +kernel
theorem d_W_law_874 : decode c_W_law 874 = .ok (.iaload, 1) := by decide +kernel
theorem d_W_law_875 : decode c_W_law 875 = .ok (.aload_n 0, 1) := by decide +kernel
theorem d_W_law_876 : decode c_W_law 876 = .ok (.iload 4, 2) := by decide +kernel
theorem d_W_law_878 : decode c_W_law 878 = .ok (.iconst 2, 1) := by decide +kernel
theorem d_W_law_879 : decode c_W_law 879 = .ok (.iadd, 1) := by decide +kernel
theorem d_W_law_880 : decode c_W_law 880 = .ok (.iaload, 1) := by decide +kernel
theorem d_W_law_881 : decode c_W_law 881 = .ok (.aload_n 0, 1) := by decide +kernel
theorem d_W_law_882 : decode c_W_law 882 = .ok (.iload 4, 2) := by decide +kernel
theorem d_W_law_884 : decode c_W_law 884 = .ok (.iconst 3, 1) := by decide +kernel
theorem d_W_law_885 : decode c_W_law 885 = .ok (.iadd, 1) := by decide +kernel
theorem d_W_law_886 : decode c_W_law 886 = .ok (.iaload, 1) := by decide +kernel
theorem d_W_law_887 : decode c_W_law 887 = .ok (.i2l, 1) := by decide +kernel
theorem d_W_law_888 : decode c_W_law 888 = .ok (.bipush 32, 2) := by decide +kernel
theorem d_W_law_890 : decode c_W_law 890 = .ok (.lshl, 1) := by decide +kernel
theorem d_W_law_891 : decode c_W_law 891 = .ok (.aload_n 0, 1) := by decide +kernel
theorem d_W_law_892 : decode c_W_law 892 = .ok (.iload 4, 2) := by decide +kernel
theorem d_W_law_894 : decode c_W_law 894 = .ok (.iconst 4, 1) := by decide +kernel
theorem d_W_law_895 : decode c_W_law 895 = .ok (.iadd, 1) := by decide +kernel
theorem d_W_law_896 : decode c_W_law 896 = .ok (.iaload, 1) := by decide +kernel
theorem d_W_law_897 : decode c_W_law 897 = .ok (.i2l, 1) := by decide +kernel
theorem d_W_law_898 : decode c_W_law 898 = .ok (.ldc2_w 81, 3) := by decide +kernel
theorem d_W_law_901 : decode c_W_law 901 = .ok (.land, 1) := by decide +kernel
theorem d_W_law_902 : decode c_W_law 902 = .ok (.lor, 1) := by decide +kernel
theorem d_W_law_903 : decode c_W_law 903 = .ok (.aload_n 3, 1) := by decide +kernel
theorem d_W_law_904 : decode c_W_law 904 = .ok (.invokestatic 128, 3) := by decide +kernel
theorem d_W_law_907 : decode c_W_law 907 = .ok (.istore 5, 2) := by decide +kernel
theorem d_W_law_909 : decode c_W_law 909 = .ok (.aload_n 2, 1) := by decide +kernel
theorem d_W_law_910 : decode c_W_law 910 = .ok (.aload_n 0, 1) := by decide +kernel
theorem d_W_law_911 : decode c_W_law 911 = .ok (.iload 4, 2) := by decide +kernel
theorem d_W_law_913 : decode c_W_law 913 = .ok (.iconst 1, 1) := by decide +kernel
theorem d_W_law_914 : decode c_W_law 914 = .ok (.iadd, 1) := by decide +kernel
theorem d_W_law_915 : decode c_W_law 915 = .ok (.iaload, 1) := by decide +kernel
theorem d_W_law_916 : decode c_W_law 916 = .ok (.aload_n 0, 1) := by decide +kernel
theorem d_W_law_917 : decode c_W_law 917 = .ok (.iload 4, 2) := by decide +kernel
theorem d_W_law_919 : decode c_W_law 919 = .ok (.iconst 2, 1) := by decide +kernel
theorem d_W_law_920 : decode c_W_law 920 = .ok (.iadd, 1) := by decide +kernel
theorem d_W_law_921 : decode c_W_law 921 = .ok (.iaload, 1) := by decide +kernel
theorem d_W_law_922 : decode c_W_law 922 = .ok (.aload_n 0, 1) := by decide +kernel
theorem d_W_law_923 : decode c_W_law 923 = .ok (.iload 4, 2) := by decide +kernel
theorem d_W_law_925 : decode c_W_law 925 = .ok (.iconst 3, 1) := by decide +kernel
theorem d_W_law_926 : decode c_W_law 926 = .ok (.iadd, 1) := by decide +kernel
theorem d_W_law_927 : decode c_W_law 927 = .ok (.iaload, 1) := by decide +kernel
theorem d_W_law_928 : decode c_W_law 928 = .ok (.i2l, 1) := by decide +kernel
theorem d_W_law_929 : decode c_W_law 929 = .ok (.bipush 32, 2) := by decide +kernel
theorem d_W_law_931 : decode c_W_law 931 = .ok (.lshl, 1) := by decide +kernel
theorem d_W_law_932 : decode c_W_law 932 = .ok (.aload_n 0, 1) := by decide +kernel
theorem d_W_law_933 : decode c_W_law 933 = .ok (.iload 4, 2) := by decide +kernel
theorem d_W_law_935 : decode c_W_law 935 = .ok (.iconst 4, 1) := by decide +kernel
theorem d_W_law_936 : decode c_W_law 936 = .ok (.iadd, 1) := by decide +kernel
theorem d_W_law_937 : decode c_W_law 937 = .ok (.iaload, 1) := by decide +kernel
theorem d_W_law_938 : decode c_W_law 938 = .ok (.i2l, 1) := by decide +kernel
theorem d_W_law_939 : decode c_W_law 939 = .ok (.ldc2_w 81, 3) := by decide +kernel
theorem d_W_law_942 : decode c_W_law 942 = .ok (.land, 1) := by decide +kernel
theorem d_W_law_943 : decode c_W_law 943 = .ok (.lor, 1) := by decide +kernel
theorem d_W_law_944 : decode c_W_law 944 = .ok (.invokevirtual 131, 3) := by decide +kernel
theorem d_W_law_947 : decode c_W_law 947 = .ok (.istore 6, 2) := by decide +kernel
theorem d_W_law_949 : decode c_W_law 949 = .ok (.goto 174, 3) := by decide +kernel
theorem d_W_law_952 : decode c_W_law 952 = .ok (.aload_n 1, 1) := by decide +kernel
theorem d_W_law_953 : decode c_W_law 953 = .ok (.aload_n 0, 1) := by decide +kernel
theorem d_W_law_954 : decode c_W_law 954 = .ok (.iload 4, 2) := by decide +kernel
theorem d_W_law_956 : decode c_W_law 956 = .ok (.iconst 1, 1) := by decide +kernel
theorem d_W_law_957 : decode c_W_law 957 = .ok (.iadd, 1) := by decide +kernel
theorem d_W_law_958 : decode c_W_law 958 = .ok (.iaload, 1) := by decide +kernel
theorem d_W_law_959 : decode c_W_law 959 = .ok (.aload_n 3, 1) := by decide +kernel
theorem d_W_law_960 : decode c_W_law 960 = .ok (.invokestatic 132, 3) := by decide +kernel
theorem d_W_law_963 : decode c_W_law 963 = .ok (.istore 5, 2) := by decide +kernel
theorem d_W_law_965 : decode c_W_law 965 = .ok (.aload_n 2, 1) := by decide +kernel
theorem d_W_law_966 : decode c_W_law 966 = .ok (.aload_n 0, 1) := by decide +kernel
theorem d_W_law_967 : decode c_W_law 967 = .ok (.iload 4, 2) := by decide +kernel
theorem d_W_law_969 : decode c_W_law 969 = .ok (.iconst 1, 1) := by decide +kernel
theorem d_W_law_970 : decode c_W_law 970 = .ok (.iadd, 1) := by decide +kernel
theorem d_W_law_971 : decode c_W_law 971 = .ok (.iaload, 1) := by decide +kernel
theorem d_W_law_972 : decode c_W_law 972 = .ok (.invokevirtual 134, 3) := by decide +kernel
theorem d_W_law_975 : decode c_W_law 975 = .ok (.istore 6, 2) := by decide +kernel
theorem d_W_law_977 : decode c_W_law 977 = .ok (.goto 146, 3) := by decide +kernel
theorem d_W_law_980 : decode c_W_law 980 = .ok (.aload_n 1, 1) := by decide +kernel
theorem d_W_law_981 : decode c_W_law 981 = .ok (.aload_n 0, 1) := by decide +kernel
theorem d_W_law_982 : decode c_W_law 982 = .ok (.iload 4, 2) := by decide +kernel
theorem d_W_law_984 : decode c_W_law 984 = .ok (.iconst 1, 1) := by decide +kernel
theorem d_W_law_985 : decode c_W_law 985 = .ok (.iadd, 1) := by decide +kernel
theorem d_W_law_986 : decode c_W_law 986 = .ok (.iaload, 1) := by decide +kernel
theorem d_W_law_987 : decode c_W_law 987 = .ok (.aload_n 0, 1) := by decide +kernel
theorem d_W_law_988 : decode c_W_law 988 = .ok (.iload 4, 2) := by decide +kernel
theorem d_W_law_990 : decode c_W_law 990 = .ok (.iconst 2, 1) := by decide +kernel
theorem d_W_law_991 : decode c_W_law 991 = .ok (.iadd, 1) := by decide +kernel
theorem d_W_law_992 : decode c_W_law 992 = .ok (.iaload, 1) := by decide +kernel
theorem d_W_law_993 : decode c_W_law 993 = .ok (.aload_n 3, 1) := by decide +kernel
theorem d_W_law_994 : decode c_W_law 994 = .ok (.invokestatic 135, 3) := by decide +kernel
theorem d_W_law_997 : decode c_W_law 997 = .ok (.istore 5, 2) := by decide +kernel
theorem d_W_law_999 : decode c_W_law 999 = .ok (.aload_n 2, 1) := by decide +kernel
theorem d_W_law_1000 : decode c_W_law 1000 = .ok (.aload_n 0, 1) := by decide +kernel
theorem d_W_law_1001 : decode c_W_law 1001 = .ok (.iload 4, 2) := by decide +kernel
theorem d_W_law_1003 : decode c_W_law 1003 = .ok (.iconst 1, 1) := by decide +kernel
theorem d_W_law_1004 : decode c_W_law 1004 = .ok (.iadd, 1) := by decide +kernel
theorem d_W_law_1005 : decode c_W_law 1005 = .ok (.iaload, 1) := by decide +kernel
theorem d_W_law_1006 : decode c_W_law 1006 = .ok (.aload_n 0, 1) := by decide +kernel
theorem d_W_law_1007 : decode c_W_law 1007 = .ok (.iload 4, 2) := by decide +kernel
theorem d_W_law_1009 : decode c_W_law 1009 = .ok (.iconst 2, 1) := by decide +kernel
theorem d_W_law_1010 : decode c_W_law 1010 = .ok (.iadd, 1) := by decide +kernel
theorem d_W_law_1011 : decode c_W_law 1011 = .ok (.iaload, 1) := by decide +kernel
theorem d_W_law_1012 : decode c_W_law 1012 = .ok (.invokevirtual 137, 3) := by decide +kernel
theorem d_W_law_1015 : decode c_W_law 1015 = .ok (.lstore 6, 2) := by decide +kernel
theorem d_W_law_1017 : decode c_W_law 1017 = .ok (.goto 106, 3) := by decide +kernel
theorem d_W_law_1020 : decode c_W_law 1020 = .ok (.aload_n 1, 1) := by decide +kernel
theorem d_W_law_1021 : decode c_W_law 1021 = .ok (.aload_n 0, 1) := by decide +kernel
theorem d_W_law_1022 : decode c_W_law 1022 = .ok (.iload 4, 2) := by decide +kernel
theorem d_W_law_1024 : decode c_W_law 1024 = .ok (.iconst 1, 1) := by decide +kernel
theorem d_W_law_1025 : decode c_W_law 1025 = .ok (.iadd, 1) := by decide +kernel
theorem d_W_law_1026 : decode c_W_law 1026 = .ok (.iaload, 1) := by decide +kernel
theorem d_W_law_1027 : decode c_W_law 1027 = .ok (.aload_n 3, 1) := by decide +kernel
theorem d_W_law_1028 : decode c_W_law 1028 = .ok (.invokestatic 138, 3) := by decide +kernel
theorem d_W_law_1031 : decode c_W_law 1031 = .ok (.istore 5, 2) := by decide +kernel
theorem d_W_law_1033 : decode c_W_law 1033 = .ok (.aload_n 2, 1) := by decide +kernel
theorem d_W_law_1034 : decode c_W_law 1034 = .ok (.aload_n 0, 1) := by decide +kernel
theorem d_W_law_1035 : decode c_W_law 1035 = .ok (.iload 4, 2) := by decide +kernel
theorem d_W_law_1037 : decode c_W_law 1037 = .ok (.iconst 1, 1) := by decide +kernel
theorem d_W_law_1038 : decode c_W_law 1038 = .ok (.iadd, 1) := by decide +kernel
theorem d_W_law_1039 : decode c_W_law 1039 = .ok (.iaload, 1) := by decide +kernel
theorem d_W_law_1040 : decode c_W_law 1040 = .ok (.invokevirtual 140, 3) := by decide +kernel
theorem d_W_law_1043 : decode c_W_law 1043 = .ok (.istore 6, 2) := by decide +kernel
theorem d_W_law_1045 : decode c_W_law 1045 = .ok (.aload_n 2, 1) := by decide +kernel
theorem d_W_law_1046 : decode c_W_law 1046 = .ok (.invokevirtual 141, 3) := by decide +kernel
theorem d_W_law_1049 : decode c_W_law 1049 = .ok (.iload 5, 2) := by decide +kernel
theorem d_W_law_1051 : decode c_W_law 1051 = .ok (.if_icmp .eq 5, 3) := by decide +kernel
theorem d_W_law_1054 : decode c_W_law 1054 = .ok (.iconst 0, 1) := by decide +kernel
theorem d_W_law_1055 : decode c_W_law 1055 = .ok (.ireturn, 1) := by decide +kernel
theorem d_W_law_1056 : decode c_W_law 1056 = .ok (.iload 5, 2) := by decide +kernel
theorem d_W_law_1058 : decode c_W_law 1058 = .ok (.ifCond .ne 22, 3) := by decide +kernel
theorem d_W_law_1061 : decode c_W_law 1061 = .ok (.aload_n 3, 1) := by decide +kernel
theorem d_W_law_1062 : decode c_W_law 1062 = .ok (.iconst 0, 1) := by decide +kernel
theorem d_W_law_1063 : decode c_W_law 1063 = .ok (.laload, 1) := by decide +kernel
theorem d_W_law_1064 : decode c_W_law 1064 = .ok (.iload 6, 2) := by decide +kernel
theorem d_W_law_1066 : decode c_W_law 1066 = .ok (.ifCond .eq 7, 3) := by decide +kernel
theorem d_W_law_1069 : decode c_W_law 1069 = .ok (.lconst 1, 1) := by decide +kernel
theorem d_W_law_1070 : decode c_W_law 1070 = .ok (.goto 4, 3) := by decide +kernel
theorem d_W_law_1073 : decode c_W_law 1073 = .ok (.lconst 0, 1) := by decide +kernel
theorem d_W_law_1074 : decode c_W_law 1074 = .ok (.lcmp, 1) := by decide +kernel
theorem d_W_law_1075 : decode c_W_law 1075 = .ok (.ifCond .eq 5, 3) := by decide +kernel
theorem d_W_law_1078 : decode c_W_law 1078 = .ok (.iconst 0, 1) := by decide +kernel
theorem d_W_law_1079 : decode c_W_law 1079 = .ok (.ireturn, 1) := by decide +kernel
theorem d_W_law_1080 : decode c_W_law 1080 = .ok (.goto 43, 3) := by decide +kernel
theorem d_W_law_1083 : decode c_W_law 1083 = .ok (.aload_n 1, 1) := by decide +kernel
theorem d_W_law_1084 : decode c_W_law 1084 = .ok (.aload_n 0, 1) := by decide +kernel
theorem d_W_law_1085 : decode c_W_law 1085 = .ok (.iload 4, 2) := by decide +kernel
theorem d_W_law_1087 : decode c_W_law 1087 = .ok (.iconst 1, 1) := by decide +kernel
theorem d_W_law_1088 : decode c_W_law 1088 = .ok (.iadd, 1) := by decide +kernel
theorem d_W_law_1089 : decode c_W_law 1089 = .ok (.iaload, 1) := by decide +kernel
theorem d_W_law_1090 : decode c_W_law 1090 = .ok (.aload_n 0, 1) := by decide +kernel
theorem d_W_law_1091 : decode c_W_law 1091 = .ok (.iload 4, 2) := by decide +kernel
theorem d_W_law_1093 : decode c_W_law 1093 = .ok (.iconst 2, 1) := by decide +kernel
theorem d_W_law_1094 : decode c_W_law 1094 = .ok (.iadd, 1) := by decide +kernel
theorem d_W_law_1095 : decode c_W_law 1095 = .ok (.iaload, 1) := by decide +kernel
theorem d_W_law_1096 : decode c_W_law 1096 = .ok (.aload_n 3, 1) := by decide +kernel
theorem d_W_law_1097 : decode c_W_law 1097 = .ok (.invokestatic 145, 3) := by decide +kernel
theorem d_W_law_1100 : decode c_W_law 1100 = .ok (.istore 5, 2) := by decide +kernel
theorem d_W_law_1102 : decode c_W_law 1102 = .ok (.aload_n 2, 1) := by decide +kernel
theorem d_W_law_1103 : decode c_W_law 1103 = .ok (.aload_n 0, 1) := by decide +kernel
theorem d_W_law_1104 : decode c_W_law 1104 = .ok (.iload 4, 2) := by decide +kernel
theorem d_W_law_1106 : decode c_W_law 1106 = .ok (.iconst 1, 1) := by decide +kernel
theorem d_W_law_1107 : decode c_W_law 1107 = .ok (.iadd, 1) := by decide +kernel
theorem d_W_law_1108 : decode c_W_law 1108 = .ok (.iaload, 1) := by decide +kernel
theorem d_W_law_1109 : decode c_W_law 1109 = .ok (.aload_n 0, 1) := by decide +kernel
theorem d_W_law_1110 : decode c_W_law 1110 = .ok (.iload 4, 2) := by decide +kernel
theorem d_W_law_1112 : decode c_W_law 1112 = .ok (.iconst 2, 1) := by decide +kernel
theorem d_W_law_1113 : decode c_W_law 1113 = .ok (.iadd, 1) := by decide +kernel
theorem d_W_law_1114 : decode c_W_law 1114 = .ok (.iaload, 1) := by decide +kernel
theorem d_W_law_1115 : decode c_W_law 1115 = .ok (.invokevirtual 147, 3) := by decide +kernel
theorem d_W_law_1118 : decode c_W_law 1118 = .ok (.istore 6, 2) := by decide +kernel
theorem d_W_law_1120 : decode c_W_law 1120 = .ok (.goto 3, 3) := by decide +kernel
theorem d_W_law_1123 : decode c_W_law 1123 = .ok (.iinc 4 10, 3) := by decide +kernel
theorem d_W_law_1126 : decode c_W_law 1126 = .ok (.goto (-1103), 3) := by decide +kernel
theorem d_W_law_1129 : decode c_W_law 1129 = .ok (.iconst 1, 1) := by decide +kernel
theorem d_W_law_1130 : decode c_W_law 1130 = .ok (.ireturn, 1) := by decide +kernel
end
section
/-! decode rows of ShopDesks -/
theorem d_X_init_0 : decode c_X_init 0 = .ok (.aload_n 0, 1) := by decide +kernel
theorem d_X_init_1 : decode c_X_init 1 = .ok (.invokespecial 3, 3) := by decide +kernel
theorem d_X_init_4 : decode c_X_init 4 = .ok (.aload_n 0, 1) := by decide +kernel
theorem d_X_init_5 : decode c_X_init 5 = .ok (.new 9, 3) := by decide +kernel
theorem d_X_init_8 : decode c_X_init 8 = .ok (.dup, 1) := by decide +kernel
theorem d_X_init_9 : decode c_X_init 9 = .ok (.invokespecial 11, 3) := by decide +kernel
theorem d_X_init_12 : decode c_X_init 12 = .ok (.putfield 12, 3) := by decide +kernel
theorem d_X_init_15 : decode c_X_init 15 = .ok (.aload_n 0, 1) := by decide +kernel
theorem d_X_init_16 : decode c_X_init 16 = .ok (.bipush 8, 2) := by decide +kernel
theorem d_X_init_18 : decode c_X_init 18 = .ok (.anewarray 16, 3) := by decide +kernel
theorem d_X_init_21 : decode c_X_init 21 = .ok (.putfield 18, 3) := by decide +kernel
theorem d_X_init_24 : decode c_X_init 24 = .ok (.iconst 0, 1) := by decide +kernel
theorem d_X_init_25 : decode c_X_init 25 = .ok (.istore_n 1, 1) := by decide +kernel
theorem d_X_init_26 : decode c_X_init 26 = .ok (.iload_n 1, 1) := by decide +kernel
theorem d_X_init_27 : decode c_X_init 27 = .ok (.bipush 8, 2) := by decide +kernel
theorem d_X_init_29 : decode c_X_init 29 = .ok (.if_icmp .ge 26, 3) := by decide +kernel
theorem d_X_init_32 : decode c_X_init 32 = .ok (.aload_n 0, 1) := by decide +kernel
theorem d_X_init_33 : decode c_X_init 33 = .ok (.getfield 18, 3) := by decide +kernel
theorem d_X_init_36 : decode c_X_init 36 = .ok (.iload_n 1, 1) := by decide +kernel
theorem d_X_init_37 : decode c_X_init 37 = .ok (.new 16, 3) := by decide +kernel
theorem d_X_init_40 : decode c_X_init 40 = .ok (.dup, 1) := by decide +kernel
theorem d_X_init_41 : decode c_X_init 41 = .ok (.aload_n 0, 1) := by decide +kernel
theorem d_X_init_42 : decode c_X_init 42 = .ok (.getfield 12, 3) := by decide +kernel
theorem d_X_init_45 : decode c_X_init 45 = .ok (.invokespecial 22, 3) := by decide +kernel
theorem d_X_init_48 : decode c_X_init 48 = .ok (.aastore, 1) := by decide +kernel
theorem d_X_init_49 : decode c_X_init 49 = .ok (.iinc 1 1, 3) := by decide +kernel
theorem d_X_init_52 : decode c_X_init 52 = .ok (.goto (-26), 3) := by decide +kernel
theorem d_X_init_55 : decode c_X_init 55 = .ok (.aload_n 0, 1) := by decide +kernel
theorem d_X_init_56 : decode c_X_init 56 = .ok (.iconst 0, 1) := by decide +kernel
theorem d_X_init_57 : decode c_X_init 57 = .ok (.putfield 25, 3) := by decide +kernel
theorem d_X_init_60 : decode c_X_init 60 = .ok (.aload_n 0, 1) := by decide +kernel
theorem d_X_init_61 : decode c_X_init 61 = .ok (.bipush 16, 2) := by decide +kernel
theorem d_X_init_63 : decode c_X_init 63 = .ok (.newarray .boolean, 2) := by decide +kernel
theorem d_X_init_65 : decode c_X_init 65 = .ok (.putfield 29, 3) := by decide +kernel
theorem d_X_init_68 : decode c_X_init 68 = .ok (.aload_n 0, 1) := by decide +kernel
theorem d_X_init_69 : decode c_X_init 69 = .ok (.new 33, 3) := by decide +kernel
theorem d_X_init_72 : decode c_X_init 72 = .ok (.dup, 1) := by decide +kernel
theorem d_X_init_73 : decode c_X_init 73 = .ok (.invokespecial 35, 3) := by decide +kernel
theorem d_X_init_76 : decode c_X_init 76 = .ok (.putfield 36, 3) := by decide +kernel
theorem d_X_init_79 : decode c_X_init 79 = .ok (.return_, 1) := by decide +kernel
theorem d_X_tell_0 : decode c_X_tell 0 = .ok (.iload_n 1, 1) := by decide +kernel
theorem d_X_tell_1 : decode c_X_tell 1 = .ok (.invokestatic 40, 3) := by decide +kernel
theorem d_X_tell_4 : decode c_X_tell 4 = .ok (.iload 4, 2) := by decide +kernel
theorem d_X_tell_6 : decode c_X_tell 6 = .ok (.invokestatic 44, 3) := by decide +kernel
theorem d_X_tell_9 : decode c_X_tell 9 = .ok (.iload 5, 2) := by decide +kernel
theorem d_X_tell_11 : decode c_X_tell 11 = .ok (.invokestatic 47, 3) := by decide +kernel
theorem d_X_tell_14 : decode c_X_tell 14 = .ok (.aload_n 0, 1) := by decide +kernel
theorem d_X_tell_15 : decode c_X_tell 15 = .ok (.getfield 12, 3) := by decide +kernel
theorem d_X_tell_18 : decode c_X_tell 18 = .ok (.iload_n 1, 1) := by decide +kernel
theorem d_X_tell_19 : decode c_X_tell 19 = .ok (.lload_n 2, 1) := by decide +kernel
theorem d_X_tell_20 : decode c_X_tell 20 = .ok (.invokevirtual 50, 3) := by decide +kernel
theorem d_X_tell_23 : decode c_X_tell 23 = .ok (.ifCond .eq 5, 3) := by decide +kernel
theorem d_X_tell_26 : decode c_X_tell 26 = .ok (.iconst 0, 1) := by decide +kernel
theorem d_X_tell_27 : decode c_X_tell 27 = .ok (.ireturn, 1) := by decide +kernel
theorem d_X_tell_28 : decode c_X_tell 28 = .ok (.aload_n 0, 1) := by decide +kernel
theorem d_X_tell_29 : decode c_X_tell 29 = .ok (.getfield 12, 3) := by decide +kernel
theorem d_X_tell_32 : decode c_X_tell 32 = .ok (.getfield 54, 3) := by decide +kernel
theorem d_X_tell_35 : decode c_X_tell 35 = .ok (.sipush 300, 3) := by decide +kernel
theorem d_X_tell_38 : decode c_X_tell 38 = .ok (.if_icmp .lt 13, 3) := by decide +kernel
theorem d_X_tell_41 : decode c_X_tell 41 = .ok (.new 57, 3) := by decide +kernel
theorem d_X_tell_44 : decode c_X_tell 44 = .ok (.dup, 1) := by decide +kernel
theorem d_X_tell_45 : decode c_X_tell 45 = .ok (.ldc 59, 2) := by decide +kernel
theorem d_X_tell_47 : decode c_X_tell 47 = .ok (.invokespecial 61, 3) := by decide +kernel
theorem d_X_tell_50 : decode c_X_tell 50 = .ok (.athrow, 1) := by decide +kernel
theorem d_X_tell_51 : decode c_X_tell 51 = .ok (.aload_n 0, 1) := by decide +kernel
theorem d_X_tell_52 : decode c_X_tell 52 = .ok (.getfield 12, 3) := by decide +kernel
theorem d_X_tell_55 : decode c_X_tell 55 = .ok (.iload_n 1, 1) := by decide +kernel
theorem d_X_tell_56 : decode c_X_tell 56 = .ok (.lload_n 2, 1) := by decide +kernel
theorem d_X_tell_57 : decode c_X_tell 57 = .ok (.iload 4, 2) := by decide +kernel
theorem d_X_tell_59 : decode c_X_tell 59 = .ok (.iload 5, 2) := by decide +kernel
theorem d_X_tell_61 : decode c_X_tell 61 = .ok (.lload 6, 2) := by decide +kernel
theorem d_X_tell_63 : decode c_X_tell 63 = .ok (.lload 8, 2) := by decide +kernel
theorem d_X_tell_65 : decode c_X_tell 65 = .ok (.invokevirtual 64, 3) := by decide +kernel
theorem d_X_tell_68 : decode c_X_tell 68 = .ok (.iconst 1, 1) := by decide +kernel
theorem d_X_tell_69 : decode c_X_tell 69 = .ok (.ireturn, 1) := by decide +kernel
theorem d_X_set_0 : decode c_X_set 0 = .ok (.iload_n 1, 1) := by decide +kernel
theorem d_X_set_1 : decode c_X_set 1 = .ok (.invokestatic 40, 3) := by decide +kernel
theorem d_X_set_4 : decode c_X_set 4 = .ok (.aload_n 0, 1) := by decide +kernel
theorem d_X_set_5 : decode c_X_set 5 = .ok (.getfield 25, 3) := by decide +kernel
theorem d_X_set_8 : decode c_X_set 8 = .ok (.bipush 8, 2) := by decide +kernel
theorem d_X_set_10 : decode c_X_set 10 = .ok (.if_icmp .lt 13, 3) := by decide +kernel
theorem d_X_set_13 : decode c_X_set 13 = .ok (.new 57, 3) := by decide +kernel
theorem d_X_set_16 : decode c_X_set 16 = .ok (.dup, 1) := by decide +kernel
theorem d_X_set_17 : decode c_X_set 17 = .ok (.ldc 68, 2) := by decide +kernel
theorem d_X_set_19 : decode c_X_set 19 = .ok (.invokespecial 61, 3) := by decide +kernel
theorem d_X_set_22 : decode c_X_set 22 = .ok (.athrow, 1) := by decide +kernel
theorem d_X_set_23 : decode c_X_set 23 = .ok (.aload_n 0, 1) := by decide +kernel
theorem d_X_set_24 : decode c_X_set 24 = .ok (.getfield 18, 3) := by decide +kernel
theorem d_X_set_27 : decode c_X_set 27 = .ok (.aload_n 0, 1) := by decide +kernel
theorem d_X_set_28 : decode c_X_set 28 = .ok (.getfield 25, 3) := by decide +kernel
theorem d_X_set_31 : decode c_X_set 31 = .ok (.aaload, 1) := by decide +kernel
theorem d_X_set_32 : decode c_X_set 32 = .ok (.iload_n 1, 1) := by decide +kernel
theorem d_X_set_33 : decode c_X_set 33 = .ok (.invokevirtual 70, 3) := by decide +kernel
theorem d_X_set_36 : decode c_X_set 36 = .ok (.aload_n 0, 1) := by decide +kernel
theorem d_X_set_37 : decode c_X_set 37 = .ok (.dup, 1) := by decide +kernel
theorem d_X_set_38 : decode c_X_set 38 = .ok (.getfield 25, 3) := by decide +kernel
theorem d_X_set_41 : decode c_X_set 41 = .ok (.iconst 1, 1) := by decide +kernel
theorem d_X_set_42 : decode c_X_set 42 = .ok (.iadd, 1) := by decide +kernel
theorem d_X_set_43 : decode c_X_set 43 = .ok (.putfield 25, 3) := by decide +kernel
theorem d_X_set_46 : decode c_X_set 46 = .ok (.aload_n 0, 1) := by decide +kernel
theorem d_X_set_47 : decode c_X_set 47 = .ok (.getfield 25, 3) := by decide +kernel
theorem d_X_set_50 : decode c_X_set 50 = .ok (.iconst 1, 1) := by decide +kernel
theorem d_X_set_51 : decode c_X_set 51 = .ok (.isub, 1) := by decide +kernel
theorem d_X_set_52 : decode c_X_set 52 = .ok (.ireturn, 1) := by decide +kernel
theorem d_X_join_0 : decode c_X_join 0 = .ok (.aload_n 0, 1) := by decide +kernel
theorem d_X_join_1 : decode c_X_join 1 = .ok (.iload_n 1, 1) := by decide +kernel
theorem d_X_join_2 : decode c_X_join 2 = .ok (.invokevirtual 73, 3) := by decide +kernel
theorem d_X_join_5 : decode c_X_join 5 = .ok (.aload_n 0, 1) := by decide +kernel
theorem d_X_join_6 : decode c_X_join 6 = .ok (.iload_n 2, 1) := by decide +kernel
theorem d_X_join_7 : decode c_X_join 7 = .ok (.invokevirtual 73, 3) := by decide +kernel
theorem d_X_join_10 : decode c_X_join 10 = .ok (.aload_n 0, 1) := by decide +kernel
theorem d_X_join_11 : decode c_X_join 11 = .ok (.getfield 18, 3) := by decide +kernel
theorem d_X_join_14 : decode c_X_join 14 = .ok (.iload_n 1, 1) := by decide +kernel
theorem d_X_join_15 : decode c_X_join 15 = .ok (.aaload, 1) := by decide +kernel
theorem d_X_join_16 : decode c_X_join 16 = .ok (.aload_n 0, 1) := by decide +kernel
theorem d_X_join_17 : decode c_X_join 17 = .ok (.getfield 18, 3) := by decide +kernel
theorem d_X_join_20 : decode c_X_join 20 = .ok (.iload_n 2, 1) := by decide +kernel
theorem d_X_join_21 : decode c_X_join 21 = .ok (.aaload, 1) := by decide +kernel
theorem d_X_join_22 : decode c_X_join 22 = .ok (.invokevirtual 76, 3) := by decide +kernel
theorem d_X_join_25 : decode c_X_join 25 = .ok (.ireturn, 1) := by decide +kernel
theorem d_X_equal_0 : decode c_X_equal 0 = .ok (.aload_n 0, 1) := by decide +kernel
theorem d_X_equal_1 : decode c_X_equal 1 = .ok (.iload_n 1, 1) := by decide +kernel
theorem d_X_equal_2 : decode c_X_equal 2 = .ok (.invokevirtual 73, 3) := by decide +kernel
theorem d_X_equal_5 : decode c_X_equal 5 = .ok (.aload_n 0, 1) := by decide +kernel
theorem d_X_equal_6 : decode c_X_equal 6 = .ok (.iload_n 2, 1) := by decide +kernel
theorem d_X_equal_7 : decode c_X_equal 7 = .ok (.invokevirtual 73, 3) := by decide +kernel
theorem d_X_equal_10 : decode c_X_equal 10 = .ok (.aload_n 0, 1) := by decide +kernel
theorem d_X_equal_11 : decode c_X_equal 11 = .ok (.getfield 18, 3) := by decide +kernel
theorem d_X_equal_14 : decode c_X_equal 14 = .ok (.iload_n 1, 1) := by decide +kernel
theorem d_X_equal_15 : decode c_X_equal 15 = .ok (.aaload, 1) := by decide +kernel
theorem d_X_equal_16 : decode c_X_equal 16 = .ok (.aload_n 0, 1) := by decide +kernel
theorem d_X_equal_17 : decode c_X_equal 17 = .ok (.getfield 18, 3) := by decide +kernel
theorem d_X_equal_20 : decode c_X_equal 20 = .ok (.iload_n 2, 1) := by decide +kernel
theorem d_X_equal_21 : decode c_X_equal 21 = .ok (.aaload, 1) := by decide +kernel
theorem d_X_equal_22 : decode c_X_equal 22 = .ok (.invokevirtual 80, 3) := by decide +kernel
theorem d_X_equal_25 : decode c_X_equal 25 = .ok (.ireturn, 1) := by decide +kernel
theorem d_X_at_0 : decode c_X_at 0 = .ok (.aload_n 0, 1) := by decide +kernel
theorem d_X_at_1 : decode c_X_at 1 = .ok (.iload_n 1, 1) := by decide +kernel
theorem d_X_at_2 : decode c_X_at 2 = .ok (.invokevirtual 73, 3) := by decide +kernel
theorem d_X_at_5 : decode c_X_at 5 = .ok (.iload_n 2, 1) := by decide +kernel
theorem d_X_at_6 : decode c_X_at 6 = .ok (.invokestatic 44, 3) := by decide +kernel
theorem d_X_at_9 : decode c_X_at 9 = .ok (.iload_n 3, 1) := by decide +kernel
theorem d_X_at_10 : decode c_X_at 10 = .ok (.invokestatic 47, 3) := by decide +kernel
theorem d_X_at_13 : decode c_X_at 13 = .ok (.aload_n 0, 1) := by decide +kernel
theorem d_X_at_14 : decode c_X_at 14 = .ok (.getfield 18, 3) := by decide +kernel
theorem d_X_at_17 : decode c_X_at 17 = .ok (.iload_n 1, 1) := by decide +kernel
theorem d_X_at_18 : decode c_X_at 18 = .ok (.aaload, 1) := by decide +kernel
theorem d_X_at_19 : decode c_X_at 19 = .ok (.iload_n 2, 1) := by decide +kernel
theorem d_X_at_20 : decode c_X_at 20 = .ok (.iload_n 3, 1) := by decide +kernel
theorem d_X_at_21 : decode c_X_at 21 = .ok (.lload 4, 2) := by decide +kernel
theorem d_X_at_23 : decode c_X_at 23 = .ok (.aload_n 0, 1) := by decide +kernel
theorem d_X_at_24 : decode c_X_at 24 = .ok (.getfield 18, 3) := by decide +kernel
theorem d_X_at_27 : decode c_X_at 27 = .ok (.iload_n 1, 1) := by decide +kernel
theorem d_X_at_28 : decode c_X_at 28 = .ok (.aaload, 1) := by decide +kernel
theorem d_X_at_29 : decode c_X_at 29 = .ok (.getfield 84, 3) := by decide +kernel
theorem d_X_at_32 : decode c_X_at 32 = .ok (.invokevirtual 87, 3) := by decide +kernel
theorem d_X_at_35 : decode c_X_at 35 = .ok (.lreturn, 1) := by decide +kernel
theorem d_X_conflict_0 : decode c_X_conflict 0 = .ok (.aload_n 0, 1) := by decide +kernel
theorem d_X_conflict_1 : decode c_X_conflict 1 = .ok (.iload_n 1, 1) := by decide +kernel
theorem d_X_conflict_2 : decode c_X_conflict 2 = .ok (.invokevirtual 73, 3) := by decide +kernel
theorem d_X_conflict_5 : decode c_X_conflict 5 = .ok (.iload_n 2, 1) := by decide +kernel
theorem d_X_conflict_6 : decode c_X_conflict 6 = .ok (.ifCond .ge 13, 3) := by decide +kernel
theorem d_X_conflict_9 : decode c_X_conflict 9 = .ok (.new 91, 3) := by decide +kernel
theorem d_X_conflict_12 : decode c_X_conflict 12 = .ok (.dup, 1) := by decide +kernel
theorem d_X_conflict_13 : decode c_X_conflict 13 = .ok (.ldc 93, 2) := by decide +kernel
theorem d_X_conflict_15 : decode c_X_conflict 15 = .ok (.invokespecial 95, 3) := by decide +kernel
theorem d_X_conflict_18 : decode c_X_conflict 18 = .ok (.athrow, 1) := by decide +kernel
theorem d_X_conflict_19 : decode c_X_conflict 19 = .ok (.iconst 0, 1) := by decide +kernel
theorem d_X_conflict_20 : decode c_X_conflict 20 = .ok (.istore_n 3, 1) := by decide +kernel
theorem d_X_conflict_21 : decode c_X_conflict 21 = .ok (.iconst 0, 1) := by decide +kernel
theorem d_X_conflict_22 : decode c_X_conflict 22 = .ok (.istore 4, 2) := by decide +kernel
theorem d_X_conflict_24 : decode c_X_conflict 24 = .ok (.iload 4, 2) := by decide +kernel
theorem d_X_conflict_26 : decode c_X_conflict 26 = .ok (.bipush 10, 2) := by decide +kernel
theorem d_X_conflict_28 : decode c_X_conflict 28 = .ok (.if_icmp .ge 34, 3) := by decide +kernel
theorem d_X_conflict_31 : decode c_X_conflict 31 = .ok (.aload_n 0, 1) := by decide +kernel
theorem d_X_conflict_32 : decode c_X_conflict 32 = .ok (.getfield 18, 3) := by decide +kernel
theorem d_X_conflict_35 : decode c_X_conflict 35 = .ok (.iload_n 1, 1) := by decide +kernel
theorem d_X_conflict_36 : decode c_X_conflict 36 = .ok (.aaload, 1) := by decide +kernel
theorem d_X_conflict_37 : decode c_X_conflict 37 = .ok (.iload 4, 2) := by decide +kernel
theorem d_X_conflict_39 : decode c_X_conflict 39 = .ok (.invokevirtual 96, 3) := by decide +kernel
theorem d_X_conflict_42 : decode c_X_conflict 42 = .ok (.ifCond .eq 14, 3) := by decide +kernel
theorem d_X_conflict_45 : decode c_X_conflict 45 = .ok (.iload_n 3, 1) := by decide +kernel
theorem d_X_conflict_46 : decode c_X_conflict 46 = .ok (.iload_n 2, 1) := by decide +kernel
theorem d_X_conflict_47 : decode c_X_conflict 47 = .ok (.if_icmp .ne 6, 3) := by decide +kernel
theorem d_X_conflict_50 : decode c_X_conflict 50 = .ok (.iload 4, 2) := by decide +kernel
theorem d_X_conflict_52 : decode c_X_conflict 52 = .ok (.ireturn, 1) := by decide +kernel
theorem d_X_conflict_53 : decode c_X_conflict 53 = .ok (.iinc 3 1, 3) := by decide +kernel
theorem d_X_conflict_56 : decode c_X_conflict 56 = .ok (.iinc 4 1, 3) := by decide +kernel
theorem d_X_conflict_59 : decode c_X_conflict 59 = .ok (.goto (-35), 3) := by decide +kernel
theorem d_X_conflict_62 : decode c_X_conflict 62 = .ok (.iconst (-1), 1) := by decide +kernel
theorem d_X_conflict_63 : decode c_X_conflict 63 = .ok (.ireturn, 1) := by decide +kernel
theorem d_X_mark_0 : decode c_X_mark 0 = .ok (.aload_n 0, 1) := by decide +kernel
theorem d_X_mark_1 : decode c_X_mark 1 = .ok (.iload_n 1, 1) := by decide +kernel
theorem d_X_mark_2 : decode c_X_mark 2 = .ok (.invokevirtual 73, 3) := by decide +kernel
theorem d_X_mark_5 : decode c_X_mark 5 = .ok (.aload_n 0, 1) := by decide +kernel
theorem d_X_mark_6 : decode c_X_mark 6 = .ok (.getfield 18, 3) := by decide +kernel
theorem d_X_mark_9 : decode c_X_mark 9 = .ok (.iload_n 1, 1) := by decide +kernel
theorem d_X_mark_10 : decode c_X_mark 10 = .ok (.aaload, 1) := by decide +kernel
theorem d_X_mark_11 : decode c_X_mark 11 = .ok (.getfield 84, 3) := by decide +kernel
theorem d_X_mark_14 : decode c_X_mark 14 = .ok (.ireturn, 1) := by decide +kernel
theorem d_X_since_0 : decode c_X_since 0 = .ok (.aload_n 0, 1) := by decide +kernel
theorem d_X_since_1 : decode c_X_since 1 = .ok (.iload_n 1, 1) := by decide +kernel
theorem d_X_since_2 : decode c_X_since 2 = .ok (.invokevirtual 73, 3) := by decide +kernel
theorem d_X_since_5 : decode c_X_since 5 = .ok (.iload_n 2, 1) := by decide +kernel
theorem d_X_since_6 : decode c_X_since 6 = .ok (.i2l, 1) := by decide +kernel
theorem d_X_since_7 : decode c_X_since 7 = .ok (.iload_n 3, 1) := by decide +kernel
theorem d_X_since_8 : decode c_X_since 8 = .ok (.i2l, 1) := by decide +kernel
theorem d_X_since_9 : decode c_X_since 9 = .ok (.ladd, 1) := by decide +kernel
theorem d_X_since_10 : decode c_X_since 10 = .ok (.lstore 5, 2) := by decide +kernel
theorem d_X_since_12 : decode c_X_since 12 = .ok (.lload 5, 2) := by decide +kernel
theorem d_X_since_14 : decode c_X_since 14 = .ok (.aload_n 0, 1) := by decide +kernel
theorem d_X_since_15 : decode c_X_since 15 = .ok (.getfield 18, 3) := by decide +kernel
theorem d_X_since_18 : decode c_X_since 18 = .ok (.iload_n 1, 1) := by decide +kernel
theorem d_X_since_19 : decode c_X_since 19 = .ok (.aaload, 1) := by decide +kernel
theorem d_X_since_20 : decode c_X_since 20 = .ok (.getfield 84, 3) := by decide +kernel
theorem d_X_since_23 : decode c_X_since 23 = .ok (.i2l, 1) := by decide +kernel
theorem d_X_since_24 : decode c_X_since 24 = .ok (.lcmp, 1) := by decide +kernel
theorem d_X_since_25 : decode c_X_since 25 = .ok (.ifCond .lt 13, 3) := by decide +kernel
theorem d_X_since_28 : decode c_X_since 28 = .ok (.new 100, 3) := by decide +kernel
theorem d_X_since_31 : decode c_X_since 31 = .ok (.dup, 1) := by decide +kernel
theorem d_X_since_32 : decode c_X_since 32 = .ok (.ldc 102, 2) := by decide +kernel
theorem d_X_since_34 : decode c_X_since 34 = .ok (.invokespecial 104, 3) := by decide +kernel
theorem d_X_since_37 : decode c_X_since 37 = .ok (.athrow, 1) := by decide +kernel
theorem d_X_since_38 : decode c_X_since 38 = .ok (.iload_n 2, 1) := by decide +kernel
theorem d_X_since_39 : decode c_X_since 39 = .ok (.ifCond .lt 7, 3) := by decide +kernel
theorem d_X_since_42 : decode c_X_since 42 = .ok (.iload_n 3, 1) := by decide +kernel
theorem d_X_since_43 : decode c_X_since 43 = .ok (.ifCond .ge 13, 3) := by decide +kernel
theorem d_X_since_46 : decode c_X_since 46 = .ok (.new 91, 3) := by decide +kernel
theorem d_X_since_49 : decode c_X_since 49 = .ok (.dup, 1) := by decide +kernel
theorem d_X_since_50 : decode c_X_since 50 = .ok (.ldc 105, 2) := by decide +kernel
theorem d_X_since_52 : decode c_X_since 52 = .ok (.invokespecial 95, 3) := by decide +kernel
theorem d_X_since_55 : decode c_X_since 55 = .ok (.athrow, 1) := by decide +kernel
theorem d_X_since_56 : decode c_X_since 56 = .ok (.iload 4, 2) := by decide +kernel
theorem d_X_since_58 : decode c_X_since 58 = .ok (.ifCond .lt 9, 3) := by decide +kernel
theorem d_X_since_61 : decode c_X_since 61 = .ok (.iload 4, 2) := by decide +kernel
theorem d_X_since_63 : decode c_X_since 63 = .ok (.iconst 2, 1) := by decide +kernel
theorem d_X_since_64 : decode c_X_since 64 = .ok (.if_icmp .le 13, 3) := by decide +kernel
theorem d_X_since_67 : decode c_X_since 67 = .ok (.new 91, 3) := by decide +kernel
theorem d_X_since_70 : decode c_X_since 70 = .ok (.dup, 1) := by decide +kernel
theorem d_X_since_71 : decode c_X_since 71 = .ok (.ldc 107, 2) := by decide +kernel
theorem d_X_since_73 : decode c_X_since 73 = .ok (.invokespecial 95, 3) := by decide +kernel
theorem d_X_since_76 : decode c_X_since 76 = .ok (.athrow, 1) := by decide +kernel
theorem d_X_since_77 : decode c_X_since 77 = .ok (.aload_n 0, 1) := by decide +kernel
theorem d_X_since_78 : decode c_X_since 78 = .ok (.getfield 18, 3) := by decide +kernel
theorem d_X_since_81 : decode c_X_since 81 = .ok (.iload_n 1, 1) := by decide +kernel
theorem d_X_since_82 : decode c_X_since 82 = .ok (.aaload, 1) := by decide +kernel
theorem d_X_since_83 : decode c_X_since 83 = .ok (.getfield 109, 3) := by decide +kernel
theorem d_X_since_86 : decode c_X_since 86 = .ok (.lload 5, 2) := by decide +kernel
theorem d_X_since_88 : decode c_X_since 88 = .ok (.l2i, 1) := by decide +kernel
theorem d_X_since_89 : decode c_X_since 89 = .ok (.iaload, 1) := by decide +kernel
theorem d_X_since_90 : decode c_X_since 90 = .ok (.istore 7, 2) := by decide +kernel
theorem d_X_since_92 : decode c_X_since 92 = .ok (.iload 4, 2) := by decide +kernel
theorem d_X_since_94 : decode c_X_since 94 = .ok (.ifCond .ne 15, 3) := by decide +kernel
theorem d_X_since_97 : decode c_X_since 97 = .ok (.aload_n 0, 1) := by decide +kernel
theorem d_X_since_98 : decode c_X_since 98 = .ok (.getfield 12, 3) := by decide +kernel
theorem d_X_since_101 : decode c_X_since 101 = .ok (.getfield 113, 3) := by decide +kernel
theorem d_X_since_104 : decode c_X_since 104 = .ok (.iload 7, 2) := by decide +kernel
theorem d_X_since_106 : decode c_X_since 106 = .ok (.iaload, 1) := by decide +kernel
theorem d_X_since_107 : decode c_X_since 107 = .ok (.i2l, 1) := by decide +kernel
theorem d_X_since_108 : decode c_X_since 108 = .ok (.lreturn, 1) := by decide +kernel
theorem d_X_since_109 : decode c_X_since 109 = .ok (.iload 4, 2) := by decide +kernel
theorem d_X_since_111 : decode c_X_since 111 = .ok (.iconst 1, 1) := by decide +kernel
theorem d_X_since_112 : decode c_X_since 112 = .ok (.if_icmp .ne 16, 3) := by decide +kernel
theorem d_X_since_115 : decode c_X_since 115 = .ok (.aload_n 0, 1) := by decide +kernel
theorem d_X_since_116 : decode c_X_since 116 = .ok (.getfield 12, 3) := by decide +kernel
theorem d_X_since_119 : decode c_X_since 119 = .ok (.getfield 116, 3) := by decide +kernel
theorem d_X_since_122 : decode c_X_since 122 = .ok (.iload 7, 2) := by decide +kernel
theorem d_X_since_124 : decode c_X_since 124 = .ok (.laload, 1) := by decide +kernel
theorem d_X_since_125 : decode c_X_since 125 = .ok (.goto 13, 3) := by decide +kernel
theorem d_X_since_128 : decode c_X_since 128 = .ok (.aload_n 0, 1) := by decide +kernel
theorem d_X_since_129 : decode c_X_since 129 = .ok (.getfield 12, 3) := by decide +kernel
theorem d_X_since_132 : decode c_X_since 132 = .ok (.getfield 120, 3) := by decide +kernel
theorem d_X_since_135 : decode c_X_since 135 = .ok (.iload 7, 2) := by decide +kernel
theorem d_X_since_137 : decode c_X_since 137 = .ok (.laload, 1) := by decide +kernel
theorem d_X_since_138 : decode c_X_since 138 = .ok (.lreturn, 1) := by decide +kernel
theorem d_X_batch_0 : decode c_X_batch 0 = .ok (.aload_n 0, 1) := by decide +kernel
theorem d_X_batch_1 : decode c_X_batch 1 = .ok (.iload_n 1, 1) := by decide +kernel
theorem d_X_batch_2 : decode c_X_batch 2 = .ok (.invokevirtual 73, 3) := by decide +kernel
theorem d_X_batch_5 : decode c_X_batch 5 = .ok (.iload_n 2, 1) := by decide +kernel
theorem d_X_batch_6 : decode c_X_batch 6 = .ok (.ifCond .eq 15, 3) := by decide +kernel
theorem d_X_batch_9 : decode c_X_batch 9 = .ok (.aload_n 0, 1) := by decide +kernel
theorem d_X_batch_10 : decode c_X_batch 10 = .ok (.getfield 18, 3) := by decide +kernel
theorem d_X_batch_13 : decode c_X_batch 13 = .ok (.iload_n 1, 1) := by decide +kernel
theorem d_X_batch_14 : decode c_X_batch 14 = .ok (.aaload, 1) := by decide +kernel
theorem d_X_batch_15 : decode c_X_batch 15 = .ok (.invokevirtual 123, 3) := by decide +kernel
theorem d_X_batch_18 : decode c_X_batch 18 = .ok (.goto 12, 3) := by decide +kernel
theorem d_X_batch_21 : decode c_X_batch 21 = .ok (.aload_n 0, 1) := by decide +kernel
theorem d_X_batch_22 : decode c_X_batch 22 = .ok (.getfield 18, 3) := by decide +kernel
theorem d_X_batch_25 : decode c_X_batch 25 = .ok (.iload_n 1, 1) := by decide +kernel
theorem d_X_batch_26 : decode c_X_batch 26 = .ok (.aaload, 1) := by decide +kernel
theorem d_X_batch_27 : decode c_X_batch 27 = .ok (.invokevirtual 127, 3) := by decide +kernel
theorem d_X_batch_30 : decode c_X_batch 30 = .ok (.ireturn, 1) := by decide +kernel
theorem d_X_right_0 : decode c_X_right 0 = .ok (.iload_n 1, 1) := by decide +kernel
theorem d_X_right_1 : decode c_X_right 1 = .ok (.invokestatic 130, 3) := by decide +kernel
theorem d_X_right_4 : decode c_X_right 4 = .ok (.iload_n 2, 1) := by decide +kernel
theorem d_X_right_5 : decode c_X_right 5 = .ok (.invokestatic 47, 3) := by decide +kernel
theorem d_X_right_8 : decode c_X_right 8 = .ok (.iload_n 1, 1) := by decide +kernel
theorem d_X_right_9 : decode c_X_right 9 = .ok (.iconst 4, 1) := by decide +kernel
theorem d_X_right_10 : decode c_X_right 10 = .ok (.imul, 1) := by decide +kernel
theorem d_X_right_11 : decode c_X_right 11 = .ok (.iload_n 2, 1) := by decide +kernel
theorem d_X_right_12 : decode c_X_right 12 = .ok (.iadd, 1) := by decide +kernel
theorem d_X_right_13 : decode c_X_right 13 = .ok (.istore 4, 2) := by decide +kernel
theorem d_X_right_15 : decode c_X_right 15 = .ok (.aload_n 0, 1) := by decide +kernel
theorem d_X_right_16 : decode c_X_right 16 = .ok (.getfield 29, 3) := by decide +kernel
theorem d_X_right_19 : decode c_X_right 19 = .ok (.iload 4, 2) := by decide +kernel
theorem d_X_right_21 : decode c_X_right 21 = .ok (.baload, 1) := by decide +kernel
theorem d_X_right_22 : decode c_X_right 22 = .ok (.iload_n 3, 1) := by decide +kernel
theorem d_X_right_23 : decode c_X_right 23 = .ok (.if_icmp .eq 7, 3) := by decide +kernel
theorem d_X_right_26 : decode c_X_right 26 = .ok (.iconst 1, 1) := by decide +kernel
theorem d_X_right_27 : decode c_X_right 27 = .ok (.goto 4, 3) := by decide +kernel
theorem d_X_right_30 : decode c_X_right 30 = .ok (.iconst 0, 1) := by decide +kernel
theorem d_X_right_31 : decode c_X_right 31 = .ok (.istore 5, 2) := by decide +kernel
theorem d_X_right_33 : decode c_X_right 33 = .ok (.aload_n 0, 1) := by decide +kernel
theorem d_X_right_34 : decode c_X_right 34 = .ok (.getfield 29, 3) := by decide +kernel
theorem d_X_right_37 : decode c_X_right 37 = .ok (.iload 4, 2) := by decide +kernel
theorem d_X_right_39 : decode c_X_right 39 = .ok (.iload_n 3, 1) := by decide +kernel
theorem d_X_right_40 : decode c_X_right 40 = .ok (.bastore, 1) := by decide +kernel
theorem d_X_right_41 : decode c_X_right 41 = .ok (.iload 5, 2) := by decide +kernel
theorem d_X_right_43 : decode c_X_right 43 = .ok (.ireturn, 1) := by decide +kernel
theorem d_X_seen_0 : decode c_X_seen 0 = .ok (.iload_n 1, 1) := by decide +kernel
theorem d_X_seen_1 : decode c_X_seen 1 = .ok (.invokestatic 130, 3) := by decide +kernel
theorem d_X_seen_4 : decode c_X_seen 4 = .ok (.aload_n 0, 1) := by decide +kernel
theorem d_X_seen_5 : decode c_X_seen 5 = .ok (.iload_n 2, 1) := by decide +kernel
theorem d_X_seen_6 : decode c_X_seen 6 = .ok (.invokevirtual 73, 3) := by decide +kernel
theorem d_X_seen_9 : decode c_X_seen 9 = .ok (.iload_n 3, 1) := by decide +kernel
theorem d_X_seen_10 : decode c_X_seen 10 = .ok (.invokestatic 44, 3) := by decide +kernel
theorem d_X_seen_13 : decode c_X_seen 13 = .ok (.iload 4, 2) := by decide +kernel
theorem d_X_seen_15 : decode c_X_seen 15 = .ok (.invokestatic 47, 3) := by decide +kernel
theorem d_X_seen_18 : decode c_X_seen 18 = .ok (.aload_n 0, 1) := by decide +kernel
theorem d_X_seen_19 : decode c_X_seen 19 = .ok (.getfield 29, 3) := by decide +kernel
theorem d_X_seen_22 : decode c_X_seen 22 = .ok (.iload_n 1, 1) := by decide +kernel
theorem d_X_seen_23 : decode c_X_seen 23 = .ok (.iconst 4, 1) := by decide +kernel
theorem d_X_seen_24 : decode c_X_seen 24 = .ok (.imul, 1) := by decide +kernel
theorem d_X_seen_25 : decode c_X_seen 25 = .ok (.iload 4, 2) := by decide +kernel
theorem d_X_seen_27 : decode c_X_seen 27 = .ok (.iadd, 1) := by decide +kernel
theorem d_X_seen_28 : decode c_X_seen 28 = .ok (.baload, 1) := by decide +kernel
theorem d_X_seen_29 : decode c_X_seen 29 = .ok (.ifCond .ne 13, 3) := by decide +kernel
theorem d_X_seen_32 : decode c_X_seen 32 = .ok (.new 57, 3) := by decide +kernel
theorem d_X_seen_35 : decode c_X_seen 35 = .ok (.dup, 1) := by decide +kernel
theorem d_X_seen_36 : decode c_X_seen 36 = .ok (.ldc 133, 2) := by decide +kernel
theorem d_X_seen_38 : decode c_X_seen 38 = .ok (.invokespecial 61, 3) := by decide +kernel
theorem d_X_seen_41 : decode c_X_seen 41 = .ok (.athrow, 1) := by decide +kernel
theorem d_X_seen_42 : decode c_X_seen 42 = .ok (.aload_n 0, 1) := by decide +kernel
theorem d_X_seen_43 : decode c_X_seen 43 = .ok (.getfield 18, 3) := by decide +kernel
theorem d_X_seen_46 : decode c_X_seen 46 = .ok (.iload_n 2, 1) := by decide +kernel
theorem d_X_seen_47 : decode c_X_seen 47 = .ok (.aaload, 1) := by decide +kernel
theorem d_X_seen_48 : decode c_X_seen 48 = .ok (.iload_n 3, 1) := by decide +kernel
theorem d_X_seen_49 : decode c_X_seen 49 = .ok (.iload 4, 2) := by decide +kernel
theorem d_X_seen_51 : decode c_X_seen 51 = .ok (.ldc2_w 135, 3) := by decide +kernel
theorem d_X_seen_54 : decode c_X_seen 54 = .ok (.aload_n 0, 1) := by decide +kernel
theorem d_X_seen_55 : decode c_X_seen 55 = .ok (.getfield 18, 3) := by decide +kernel
theorem d_X_seen_58 : decode c_X_seen 58 = .ok (.iload_n 2, 1) := by decide +kernel
theorem d_X_seen_59 : decode c_X_seen 59 = .ok (.aaload, 1) := by decide +kernel
theorem d_X_seen_60 : decode c_X_seen 60 = .ok (.invokevirtual 137, 3) := by decide +kernel
theorem d_X_seen_63 : decode c_X_seen 63 = .ok (.invokevirtual 87, 3) := by decide +kernel
theorem d_X_seen_66 : decode c_X_seen 66 = .ok (.lreturn, 1) := by decide +kernel
theorem d_X_entry_0 : decode c_X_entry 0 = .ok (.iload_n 1, 1) := by decide +kernel
theorem d_X_entry_1 : decode c_X_entry 1 = .ok (.invokestatic 141, 3) := by decide +kernel
theorem d_X_entry_4 : decode c_X_entry 4 = .ok (.aload_n 0, 1) := by decide +kernel
theorem d_X_entry_5 : decode c_X_entry 5 = .ok (.invokevirtual 144, 3) := by decide +kernel
theorem d_X_entry_8 : decode c_X_entry 8 = .ok (.aload_n 0, 1) := by decide +kernel
theorem d_X_entry_9 : decode c_X_entry 9 = .ok (.getfield 36, 3) := by decide +kernel
theorem d_X_entry_12 : decode c_X_entry 12 = .ok (.iload_n 1, 1) := by decide +kernel
theorem d_X_entry_13 : decode c_X_entry 13 = .ok (.invokevirtual 147, 3) := by decide +kernel
theorem d_X_entry_16 : decode c_X_entry 16 = .ok (.ireturn, 1) := by decide +kernel
theorem d_X_row_0 : decode c_X_row 0 = .ok (.aload_n 0, 1) := by decide +kernel
theorem d_X_row_1 : decode c_X_row 1 = .ok (.iload_n 1, 1) := by decide +kernel
theorem d_X_row_2 : decode c_X_row 2 = .ok (.invokevirtual 151, 3) := by decide +kernel
theorem d_X_row_5 : decode c_X_row 5 = .ok (.iload_n 2, 1) := by decide +kernel
theorem d_X_row_6 : decode c_X_row 6 = .ok (.invokestatic 154, 3) := by decide +kernel
theorem d_X_row_9 : decode c_X_row 9 = .ok (.lload_n 3, 1) := by decide +kernel
theorem d_X_row_10 : decode c_X_row 10 = .ok (.ldc2_w 157, 3) := by decide +kernel
theorem d_X_row_13 : decode c_X_row 13 = .ok (.lcmp, 1) := by decide +kernel
theorem d_X_row_14 : decode c_X_row 14 = .ok (.ifCond .lt 11, 3) := by decide +kernel
theorem d_X_row_17 : decode c_X_row 17 = .ok (.lload_n 3, 1) := by decide +kernel
theorem d_X_row_18 : decode c_X_row 18 = .ok (.ldc2_w 159, 3) := by decide +kernel
theorem d_X_row_21 : decode c_X_row 21 = .ok (.lcmp, 1) := by decide +kernel
theorem d_X_row_22 : decode c_X_row 22 = .ok (.ifCond .le 13, 3) := by decide +kernel
theorem d_X_row_25 : decode c_X_row 25 = .ok (.new 91, 3) := by decide +kernel
theorem d_X_row_28 : decode c_X_row 28 = .ok (.dup, 1) := by decide +kernel
theorem d_X_row_29 : decode c_X_row 29 = .ok (.ldc 161, 2) := by decide +kernel
theorem d_X_row_31 : decode c_X_row 31 = .ok (.invokespecial 95, 3) := by decide +kernel
theorem d_X_row_34 : decode c_X_row 34 = .ok (.athrow, 1) := by decide +kernel
theorem d_X_row_35 : decode c_X_row 35 = .ok (.aload_n 0, 1) := by decide +kernel
theorem d_X_row_36 : decode c_X_row 36 = .ok (.getfield 36, 3) := by decide +kernel
theorem d_X_row_39 : decode c_X_row 39 = .ok (.getfield 163, 3) := by decide +kernel
theorem d_X_row_42 : decode c_X_row 42 = .ok (.iload_n 1, 1) := by decide +kernel
theorem d_X_row_43 : decode c_X_row 43 = .ok (.aaload, 1) := by decide +kernel
theorem d_X_row_44 : decode c_X_row 44 = .ok (.astore 5, 2) := by decide +kernel
theorem d_X_row_46 : decode c_X_row 46 = .ok (.aload 5, 2) := by decide +kernel
theorem d_X_row_48 : decode c_X_row 48 = .ok (.invokevirtual 167, 3) := by decide +kernel
theorem d_X_row_51 : decode c_X_row 51 = .ok (.ifCond .ne 13, 3) := by decide +kernel
theorem d_X_row_54 : decode c_X_row 54 = .ok (.aload 5, 2) := by decide +kernel
theorem d_X_row_56 : decode c_X_row 56 = .ok (.getfield 172, 3) := by decide +kernel
theorem d_X_row_59 : decode c_X_row 59 = .ok (.bipush 6, 2) := by decide +kernel
theorem d_X_row_61 : decode c_X_row 61 = .ok (.if_icmp .lt 13, 3) := by decide +kernel
theorem d_X_row_64 : decode c_X_row 64 = .ok (.new 57, 3) := by decide +kernel
theorem d_X_row_67 : decode c_X_row 67 = .ok (.dup, 1) := by decide +kernel
theorem d_X_row_68 : decode c_X_row 68 = .ok (.ldc 175, 2) := by decide +kernel
theorem d_X_row_70 : decode c_X_row 70 = .ok (.invokespecial 61, 3) := by decide +kernel
theorem d_X_row_73 : decode c_X_row 73 = .ok (.athrow, 1) := by decide +kernel
theorem d_X_row_74 : decode c_X_row 74 = .ok (.aload 5, 2) := by decide +kernel
theorem d_X_row_76 : decode c_X_row 76 = .ok (.iload_n 2, 1) := by decide +kernel
theorem d_X_row_77 : decode c_X_row 77 = .ok (.lload_n 3, 1) := by decide +kernel
theorem d_X_row_78 : decode c_X_row 78 = .ok (.invokevirtual 177, 3) := by decide +kernel
theorem d_X_row_81 : decode c_X_row 81 = .ok (.aload 5, 2) := by decide +kernel
theorem d_X_row_83 : decode c_X_row 83 = .ok (.getfield 172, 3) := by decide +kernel
theorem d_X_row_86 : decode c_X_row 86 = .ok (.ireturn, 1) := by decide +kernel
theorem d_X_close_0 : decode c_X_close 0 = .ok (.aload_n 0, 1) := by decide +kernel
theorem d_X_close_1 : decode c_X_close 1 = .ok (.iload_n 1, 1) := by decide +kernel
theorem d_X_close_2 : decode c_X_close 2 = .ok (.invokevirtual 151, 3) := by decide +kernel
theorem d_X_close_5 : decode c_X_close 5 = .ok (.aload_n 0, 1) := by decide +kernel
theorem d_X_close_6 : decode c_X_close 6 = .ok (.getfield 36, 3) := by decide +kernel
theorem d_X_close_9 : decode c_X_close 9 = .ok (.getfield 163, 3) := by decide +kernel
theorem d_X_close_12 : decode c_X_close 12 = .ok (.iload_n 1, 1) := by decide +kernel
theorem d_X_close_13 : decode c_X_close 13 = .ok (.aaload, 1) := by decide +kernel
theorem d_X_close_14 : decode c_X_close 14 = .ok (.astore_n 2, 1) := by decide +kernel
theorem d_X_close_15 : decode c_X_close 15 = .ok (.aload_n 2, 1) := by decide +kernel
theorem d_X_close_16 : decode c_X_close 16 = .ok (.invokevirtual 167, 3) := by decide +kernel
theorem d_X_close_19 : decode c_X_close 19 = .ok (.ifCond .eq 13, 3) := by decide +kernel
theorem d_X_close_22 : decode c_X_close 22 = .ok (.new 57, 3) := by decide +kernel
theorem d_X_close_25 : decode c_X_close 25 = .ok (.dup, 1) := by decide +kernel
theorem d_X_close_26 : decode c_X_close 26 = .ok (.ldc 181, 2) := by decide +kernel
theorem d_X_close_28 : decode c_X_close 28 = .ok (.invokespecial 61, 3) := by decide +kernel
theorem d_X_close_31 : decode c_X_close 31 = .ok (.athrow, 1) := by decide +kernel
theorem d_X_close_32 : decode c_X_close 32 = .ok (.aload_n 0, 1) := by decide +kernel
theorem d_X_close_33 : decode c_X_close 33 = .ok (.getfield 36, 3) := by decide +kernel
theorem d_X_close_36 : decode c_X_close 36 = .ok (.aload_n 2, 1) := by decide +kernel
theorem d_X_close_37 : decode c_X_close 37 = .ok (.getfield 183, 3) := by decide +kernel
theorem d_X_close_40 : decode c_X_close 40 = .ok (.invokevirtual 186, 3) := by decide +kernel
theorem d_X_close_43 : decode c_X_close 43 = .ok (.ifCond .ne 10, 3) := by decide +kernel
theorem d_X_close_46 : decode c_X_close 46 = .ok (.aload_n 2, 1) := by decide +kernel
theorem d_X_close_47 : decode c_X_close 47 = .ok (.invokevirtual 189, 3) := by decide +kernel
theorem d_X_close_50 : decode c_X_close 50 = .ok (.ifCond .ne 5, 3) := by decide +kernel
theorem d_X_close_53 : decode c_X_close 53 = .ok (.iconst 0, 1) := by decide +kernel
theorem d_X_close_54 : decode c_X_close 54 = .ok (.ireturn, 1) := by decide +kernel
theorem d_X_close_55 : decode c_X_close 55 = .ok (.aload_n 0, 1) := by decide +kernel
theorem d_X_close_56 : decode c_X_close 56 = .ok (.getfield 36, 3) := by decide +kernel
theorem d_X_close_59 : decode c_X_close 59 = .ok (.iload_n 1, 1) := by decide +kernel
theorem d_X_close_60 : decode c_X_close 60 = .ok (.invokevirtual 192, 3) := by decide +kernel
theorem d_X_close_63 : decode c_X_close 63 = .ok (.ireturn, 1) := by decide +kernel
theorem d_X_balance_0 : decode c_X_balance 0 = .ok (.iload_n 1, 1) := by decide +kernel
theorem d_X_balance_1 : decode c_X_balance 1 = .ok (.invokestatic 154, 3) := by decide +kernel
theorem d_X_balance_4 : decode c_X_balance 4 = .ok (.aload_n 0, 1) := by decide +kernel
theorem d_X_balance_5 : decode c_X_balance 5 = .ok (.getfield 36, 3) := by decide +kernel
theorem d_X_balance_8 : decode c_X_balance 8 = .ok (.iload_n 1, 1) := by decide +kernel
theorem d_X_balance_9 : decode c_X_balance 9 = .ok (.iload_n 2, 1) := by decide +kernel
theorem d_X_balance_10 : decode c_X_balance 10 = .ok (.invokevirtual 195, 3) := by decide +kernel
theorem d_X_balance_13 : decode c_X_balance 13 = .ok (.lreturn, 1) := by decide +kernel
theorem d_X_closeMonth_0 : decode c_X_closeMonth 0 = .ok (.iload_n 1, 1) := by decide +kernel
theorem d_X_closeMonth_1 : decode c_X_closeMonth 1 = .ok (.ifCond .lt 9, 3) := by decide +kernel
theorem d_X_closeMonth_4 : decode c_X_closeMonth 4 = .ok (.iload_n 1, 1) := by decide +kernel
theorem d_X_closeMonth_5 : decode c_X_closeMonth 5 = .ok (.bipush 120, 2) := by decide +kernel
theorem d_X_closeMonth_7 : decode c_X_closeMonth 7 = .ok (.if_icmp .lt 13, 3) := by decide +kernel
theorem d_X_closeMonth_10 : decode c_X_closeMonth 10 = .ok (.new 91, 3) := by decide +kernel
theorem d_X_closeMonth_13 : decode c_X_closeMonth 13 = .ok (.dup, 1) := by decide +kernel
theorem d_X_closeMonth_14 : decode c_X_closeMonth 14 = .ok (.ldc 199, 2) := by decide +kernel
theorem d_X_closeMonth_16 : decode c_X_closeMonth 16 = .ok (.invokespecial 95, 3) := by decide +kernel
theorem d_X_closeMonth_19 : decode c_X_closeMonth 19 = .ok (.athrow, 1) := by decide +kernel
theorem d_X_closeMonth_20 : decode c_X_closeMonth 20 = .ok (.iload_n 1, 1) := by decide +kernel
theorem d_X_closeMonth_21 : decode c_X_closeMonth 21 = .ok (.aload_n 0, 1) := by decide +kernel
theorem d_X_closeMonth_22 : decode c_X_closeMonth 22 = .ok (.getfield 36, 3) := by decide +kernel
theorem d_X_closeMonth_25 : decode c_X_closeMonth 25 = .ok (.getfield 201, 3) := by decide +kernel
theorem d_X_closeMonth_28 : decode c_X_closeMonth 28 = .ok (.if_icmp .gt 5, 3) := by decide +kernel
theorem d_X_closeMonth_31 : decode c_X_closeMonth 31 = .ok (.iconst 0, 1) := by decide +kernel
theorem d_X_closeMonth_32 : decode c_X_closeMonth 32 = .ok (.ireturn, 1) := by decide +kernel
theorem d_X_closeMonth_33 : decode c_X_closeMonth 33 = .ok (.aload_n 0, 1) := by decide +kernel
theorem d_X_closeMonth_34 : decode c_X_closeMonth 34 = .ok (.getfield 36, 3) := by decide +kernel
theorem d_X_closeMonth_37 : decode c_X_closeMonth 37 = .ok (.iload_n 1, 1) := by decide +kernel
theorem d_X_closeMonth_38 : decode c_X_closeMonth 38 = .ok (.putfield 201, 3) := by decide +kernel
theorem d_X_closeMonth_41 : decode c_X_closeMonth 41 = .ok (.iconst 1, 1) := by decide +kernel
theorem d_X_closeMonth_42 : decode c_X_closeMonth 42 = .ok (.ireturn, 1) := by decide +kernel
theorem d_X_reverse_0 : decode c_X_reverse 0 = .ok (.iload_n 1, 1) := by decide +kernel
theorem d_X_reverse_1 : decode c_X_reverse 1 = .ok (.iconst 1, 1) := by decide +kernel
theorem d_X_reverse_2 : decode c_X_reverse 2 = .ok (.if_icmp .lt 14, 3) := by decide +kernel
theorem d_X_reverse_5 : decode c_X_reverse 5 = .ok (.iload_n 1, 1) := by decide +kernel
theorem d_X_reverse_6 : decode c_X_reverse 6 = .ok (.aload_n 0, 1) := by decide +kernel
theorem d_X_reverse_7 : decode c_X_reverse 7 = .ok (.getfield 36, 3) := by decide +kernel
theorem d_X_reverse_10 : decode c_X_reverse 10 = .ok (.getfield 204, 3) := by decide +kernel
theorem d_X_reverse_13 : decode c_X_reverse 13 = .ok (.if_icmp .le 13, 3) := by decide +kernel
theorem d_X_reverse_16 : decode c_X_reverse 16 = .ok (.new 100, 3) := by decide +kernel
theorem d_X_reverse_19 : decode c_X_reverse 19 = .ok (.dup, 1) := by decide +kernel
theorem d_X_reverse_20 : decode c_X_reverse 20 = .ok (.ldc 207, 2) := by decide +kernel
theorem d_X_reverse_22 : decode c_X_reverse 22 = .ok (.invokespecial 104, 3) := by decide +kernel
theorem d_X_reverse_25 : decode c_X_reverse 25 = .ok (.athrow, 1) := by decide +kernel
theorem d_X_reverse_26 : decode c_X_reverse 26 = .ok (.iload_n 2, 1) := by decide +kernel
theorem d_X_reverse_27 : decode c_X_reverse 27 = .ok (.invokestatic 141, 3) := by decide +kernel
theorem d_X_reverse_30 : decode c_X_reverse 30 = .ok (.aload_n 0, 1) := by decide +kernel
theorem d_X_reverse_31 : decode c_X_reverse 31 = .ok (.getfield 36, 3) := by decide +kernel
theorem d_X_reverse_34 : decode c_X_reverse 34 = .ok (.getfield 163, 3) := by decide +kernel
theorem d_X_reverse_37 : decode c_X_reverse 37 = .ok (.aload_n 0, 1) := by decide +kernel
theorem d_X_reverse_38 : decode c_X_reverse 38 = .ok (.getfield 36, 3) := by decide +kernel
theorem d_X_reverse_41 : decode c_X_reverse 41 = .ok (.getfield 209, 3) := by decide +kernel
theorem d_X_reverse_44 : decode c_X_reverse 44 = .ok (.iload_n 1, 1) := by decide +kernel
theorem d_X_reverse_45 : decode c_X_reverse 45 = .ok (.iaload, 1) := by decide +kernel
theorem d_X_reverse_46 : decode c_X_reverse 46 = .ok (.aaload, 1) := by decide +kernel
theorem d_X_reverse_47 : decode c_X_reverse 47 = .ok (.astore_n 3, 1) := by decide +kernel
theorem d_X_reverse_48 : decode c_X_reverse 48 = .ok (.aload_n 3, 1) := by decide +kernel
theorem d_X_reverse_49 : decode c_X_reverse 49 = .ok (.getfield 212, 3) := by decide +kernel
theorem d_X_reverse_52 : decode c_X_reverse 52 = .ok (.ifCond .ne 10, 3) := by decide +kernel
theorem d_X_reverse_55 : decode c_X_reverse 55 = .ok (.aload_n 3, 1) := by decide +kernel
theorem d_X_reverse_56 : decode c_X_reverse 56 = .ok (.getfield 216, 3) := by decide +kernel
theorem d_X_reverse_59 : decode c_X_reverse 59 = .ok (.ifCond .eq 13, 3) := by decide +kernel
theorem d_X_reverse_62 : decode c_X_reverse 62 = .ok (.new 57, 3) := by decide +kernel
theorem d_X_reverse_65 : decode c_X_reverse 65 = .ok (.dup, 1) := by decide +kernel
theorem d_X_reverse_66 : decode c_X_reverse 66 = .ok (.ldc 219, 2) := by decide +kernel
theorem d_X_reverse_68 : decode c_X_reverse 68 = .ok (.invokespecial 61, 3) := by decide +kernel
theorem d_X_reverse_71 : decode c_X_reverse 71 = .ok (.athrow, 1) := by decide +kernel
theorem d_X_reverse_72 : decode c_X_reverse 72 = .ok (.aload_n 0, 1) := by decide +kernel
theorem d_X_reverse_73 : decode c_X_reverse 73 = .ok (.invokevirtual 144, 3) := by decide +kernel
theorem d_X_reverse_76 : decode c_X_reverse 76 = .ok (.aload_n 0, 1) := by decide +kernel
theorem d_X_reverse_77 : decode c_X_reverse 77 = .ok (.getfield 36, 3) := by decide +kernel
theorem d_X_reverse_80 : decode c_X_reverse 80 = .ok (.iload_n 2, 1) := by decide +kernel
theorem d_X_reverse_81 : decode c_X_reverse 81 = .ok (.invokevirtual 186, 3) := by decide +kernel
theorem d_X_reverse_84 : decode c_X_reverse 84 = .ok (.ifCond .eq 5, 3) := by decide +kernel
theorem d_X_reverse_87 : decode c_X_reverse 87 = .ok (.iconst 0, 1) := by decide +kernel
theorem d_X_reverse_88 : decode c_X_reverse 88 = .ok (.ireturn, 1) := by decide +kernel
theorem d_X_reverse_89 : decode c_X_reverse 89 = .ok (.aload_n 0, 1) := by decide +kernel
theorem d_X_reverse_90 : decode c_X_reverse 90 = .ok (.getfield 36, 3) := by decide +kernel
theorem d_X_reverse_93 : decode c_X_reverse 93 = .ok (.aload_n 3, 1) := by decide +kernel
theorem d_X_reverse_94 : decode c_X_reverse 94 = .ok (.iload_n 2, 1) := by decide +kernel
theorem d_X_reverse_95 : decode c_X_reverse 95 = .ok (.invokevirtual 221, 3) := by decide +kernel
theorem d_X_reverse_98 : decode c_X_reverse 98 = .ok (.ireturn, 1) := by decide +kernel
theorem d_X_needTeller_0 : decode c_X_needTeller 0 = .ok (.iload_n 0, 1) := by decide +kernel
theorem d_X_needTeller_1 : decode c_X_needTeller 1 = .ok (.ifCond .lt 9, 3) := by decide +kernel
theorem d_X_needTeller_4 : decode c_X_needTeller 4 = .ok (.iload_n 0, 1) := by decide +kernel
theorem d_X_needTeller_5 : decode c_X_needTeller 5 = .ok (.bipush 6, 2) := by decide +kernel
theorem d_X_needTeller_7 : decode c_X_needTeller 7 = .ok (.if_icmp .lt 13, 3) := by decide +kernel
theorem d_X_needTeller_10 : decode c_X_needTeller 10 = .ok (.new 100, 3) := by decide +kernel
theorem d_X_needTeller_13 : decode c_X_needTeller 13 = .ok (.dup, 1) := by decide +kernel
theorem d_X_needTeller_14 : decode c_X_needTeller 14 = .ok (.ldc 225, 2) := by decide +kernel
theorem d_X_needTeller_16 : decode c_X_needTeller 16 = .ok (.invokespecial 104, 3) := by decide +kernel
theorem d_X_needTeller_19 : decode c_X_needTeller 19 = .ok (.athrow, 1) := by decide +kernel
theorem d_X_needTeller_20 : decode c_X_needTeller 20 = .ok (.return_, 1) := by decide +kernel
theorem d_X_needThing_0 : decode c_X_needThing 0 = .ok (.iload_n 0, 1) := by decide +kernel
theorem d_X_needThing_1 : decode c_X_needThing 1 = .ok (.ifCond .lt 9, 3) := by decide +kernel
theorem d_X_needThing_4 : decode c_X_needThing 4 = .ok (.iload_n 0, 1) := by decide +kernel
theorem d_X_needThing_5 : decode c_X_needThing 5 = .ok (.bipush 10, 2) := by decide +kernel
theorem d_X_needThing_7 : decode c_X_needThing 7 = .ok (.if_icmp .lt 13, 3) := by decide +kernel
theorem d_X_needThing_10 : decode c_X_needThing 10 = .ok (.new 100, 3) := by decide +kernel
theorem d_X_needThing_13 : decode c_X_needThing 13 = .ok (.dup, 1) := by decide +kernel
theorem d_X_needThing_14 : decode c_X_needThing 14 = .ok (.ldc 227, 2) := by decide +kernel
theorem d_X_needThing_16 : decode c_X_needThing 16 = .ok (.invokespecial 104, 3) := by decide +kernel
theorem d_X_needThing_19 : decode c_X_needThing 19 = .ok (.athrow, 1) := by decide +kernel
theorem d_X_needThing_20 : decode c_X_needThing 20 = .ok (.return_, 1) := by decide +kernel
theorem d_X_needKind_0 : decode c_X_needKind 0 = .ok (.iload_n 0, 1) := by decide +kernel
theorem d_X_needKind_1 : decode c_X_needKind 1 = .ok (.ifCond .lt 8, 3) := by decide +kernel
theorem d_X_needKind_4 : decode c_X_needKind 4 = .ok (.iload_n 0, 1) := by decide +kernel
theorem d_X_needKind_5 : decode c_X_needKind 5 = .ok (.iconst 4, 1) := by decide +kernel
theorem d_X_needKind_6 : decode c_X_needKind 6 = .ok (.if_icmp .lt 13, 3) := by decide +kernel
theorem d_X_needKind_9 : decode c_X_needKind 9 = .ok (.new 91, 3) := by decide +kernel
theorem d_X_needKind_12 : decode c_X_needKind 12 = .ok (.dup, 1) := by decide +kernel
theorem d_X_needKind_13 : decode c_X_needKind 13 = .ok (.ldc 229, 2) := by decide +kernel
theorem d_X_needKind_15 : decode c_X_needKind 15 = .ok (.invokespecial 95, 3) := by decide +kernel
theorem d_X_needKind_18 : decode c_X_needKind 18 = .ok (.athrow, 1) := by decide +kernel
theorem d_X_needKind_19 : decode c_X_needKind 19 = .ok (.return_, 1) := by decide +kernel
theorem d_X_needPerson_0 : decode c_X_needPerson 0 = .ok (.iload_n 0, 1) := by decide +kernel
theorem d_X_needPerson_1 : decode c_X_needPerson 1 = .ok (.ifCond .lt 8, 3) := by decide +kernel
theorem d_X_needPerson_4 : decode c_X_needPerson 4 = .ok (.iload_n 0, 1) := by decide +kernel
theorem d_X_needPerson_5 : decode c_X_needPerson 5 = .ok (.iconst 4, 1) := by decide +kernel
theorem d_X_needPerson_6 : decode c_X_needPerson 6 = .ok (.if_icmp .lt 13, 3) := by decide +kernel
theorem d_X_needPerson_9 : decode c_X_needPerson 9 = .ok (.new 100, 3) := by decide +kernel
theorem d_X_needPerson_12 : decode c_X_needPerson 12 = .ok (.dup, 1) := by decide +kernel
theorem d_X_needPerson_13 : decode c_X_needPerson 13 = .ok (.ldc 231, 2) := by decide +kernel
theorem d_X_needPerson_15 : decode c_X_needPerson 15 = .ok (.invokespecial 104, 3) := by decide +kernel
theorem d_X_needPerson_18 : decode c_X_needPerson 18 = .ok (.athrow, 1) := by decide +kernel
theorem d_X_needPerson_19 : decode c_X_needPerson 19 = .ok (.return_, 1) := by decide +kernel
theorem d_X_needAccount_0 : decode c_X_needAccount 0 = .ok (.iload_n 0, 1) := by decide +kernel
theorem d_X_needAccount_1 : decode c_X_needAccount 1 = .ok (.ifCond .lt 9, 3) := by decide +kernel
theorem d_X_needAccount_4 : decode c_X_needAccount 4 = .ok (.iload_n 0, 1) := by decide +kernel
theorem d_X_needAccount_5 : decode c_X_needAccount 5 = .ok (.bipush 10, 2) := by decide +kernel
theorem d_X_needAccount_7 : decode c_X_needAccount 7 = .ok (.if_icmp .lt 13, 3) := by decide +kernel
theorem d_X_needAccount_10 : decode c_X_needAccount 10 = .ok (.new 100, 3) := by decide +kernel
theorem d_X_needAccount_13 : decode c_X_needAccount 13 = .ok (.dup, 1) := by decide +kernel
theorem d_X_needAccount_14 : decode c_X_needAccount 14 = .ok (.ldc 233, 2) := by decide +kernel
theorem d_X_needAccount_16 : decode c_X_needAccount 16 = .ok (.invokespecial 104, 3) := by decide +kernel
theorem d_X_needAccount_19 : decode c_X_needAccount 19 = .ok (.athrow, 1) := by decide +kernel
theorem d_X_needAccount_20 : decode c_X_needAccount 20 = .ok (.return_, 1) := by decide +kernel
theorem d_X_needDay_0 : decode c_X_needDay 0 = .ok (.iload_n 0, 1) := by decide +kernel
theorem d_X_needDay_1 : decode c_X_needDay 1 = .ok (.ifCond .lt 10, 3) := by decide +kernel
theorem d_X_needDay_4 : decode c_X_needDay 4 = .ok (.iload_n 0, 1) := by decide +kernel
theorem d_X_needDay_5 : decode c_X_needDay 5 = .ok (.sipush 3600, 3) := by decide +kernel
theorem d_X_needDay_8 : decode c_X_needDay 8 = .ok (.if_icmp .lt 13, 3) := by decide +kernel
theorem d_X_needDay_11 : decode c_X_needDay 11 = .ok (.new 91, 3) := by decide +kernel
theorem d_X_needDay_14 : decode c_X_needDay 14 = .ok (.dup, 1) := by decide +kernel
theorem d_X_needDay_15 : decode c_X_needDay 15 = .ok (.ldc 235, 2) := by decide +kernel
theorem d_X_needDay_17 : decode c_X_needDay 17 = .ok (.invokespecial 95, 3) := by decide +kernel
theorem d_X_needDay_20 : decode c_X_needDay 20 = .ok (.athrow, 1) := by decide +kernel
theorem d_X_needDay_21 : decode c_X_needDay 21 = .ok (.return_, 1) := by decide +kernel
theorem d_X_needSet_0 : decode c_X_needSet 0 = .ok (.iload_n 1, 1) := by decide +kernel
theorem d_X_needSet_1 : decode c_X_needSet 1 = .ok (.ifCond .lt 11, 3) := by decide +kernel
theorem d_X_needSet_4 : decode c_X_needSet 4 = .ok (.iload_n 1, 1) := by decide +kernel
theorem d_X_needSet_5 : decode c_X_needSet 5 = .ok (.aload_n 0, 1) := by decide +kernel
theorem d_X_needSet_6 : decode c_X_needSet 6 = .ok (.getfield 25, 3) := by decide +kernel
theorem d_X_needSet_9 : decode c_X_needSet 9 = .ok (.if_icmp .lt 13, 3) := by decide +kernel
theorem d_X_needSet_12 : decode c_X_needSet 12 = .ok (.new 100, 3) := by decide +kernel
theorem d_X_needSet_15 : decode c_X_needSet 15 = .ok (.dup, 1) := by decide +kernel
theorem d_X_needSet_16 : decode c_X_needSet 16 = .ok (.ldc 237, 2) := by decide +kernel
theorem d_X_needSet_18 : decode c_X_needSet 18 = .ok (.invokespecial 104, 3) := by decide +kernel
theorem d_X_needSet_21 : decode c_X_needSet 21 = .ok (.athrow, 1) := by decide +kernel
theorem d_X_needSet_22 : decode c_X_needSet 22 = .ok (.return_, 1) := by decide +kernel
theorem d_X_needEntry_0 : decode c_X_needEntry 0 = .ok (.iload_n 1, 1) := by decide +kernel
theorem d_X_needEntry_1 : decode c_X_needEntry 1 = .ok (.ifCond .lt 14, 3) := by decide +kernel
theorem d_X_needEntry_4 : decode c_X_needEntry 4 = .ok (.iload_n 1, 1) := by decide +kernel
theorem d_X_needEntry_5 : decode c_X_needEntry 5 = .ok (.aload_n 0, 1) := by decide +kernel
theorem d_X_needEntry_6 : decode c_X_needEntry 6 = .ok (.getfield 36, 3) := by decide +kernel
theorem d_X_needEntry_9 : decode c_X_needEntry 9 = .ok (.getfield 239, 3) := by decide +kernel
theorem d_X_needEntry_12 : decode c_X_needEntry 12 = .ok (.if_icmp .lt 13, 3) := by decide +kernel
theorem d_X_needEntry_15 : decode c_X_needEntry 15 = .ok (.new 100, 3) := by decide +kernel
theorem d_X_needEntry_18 : decode c_X_needEntry 18 = .ok (.dup, 1) := by decide +kernel
theorem d_X_needEntry_19 : decode c_X_needEntry 19 = .ok (.ldc 242, 2) := by decide +kernel
theorem d_X_needEntry_21 : decode c_X_needEntry 21 = .ok (.invokespecial 104, 3) := by decide +kernel
theorem d_X_needEntry_24 : decode c_X_needEntry 24 = .ok (.athrow, 1) := by decide +kernel
theorem d_X_needEntry_25 : decode c_X_needEntry 25 = .ok (.return_, 1) := by decide +kernel
theorem d_X_needRoomForEntry_0 : decode c_X_needRoomForEntry 0 = .ok (.aload_n 0, 1) := by decide +kernel
theorem d_X_needRoomForEntry_1 : decode c_X_needRoomForEntry 1 = .ok (.getfield 36, 3) := by decide +kernel
theorem d_X_needRoomForEntry_4 : decode c_X_needRoomForEntry 4 = .ok (.getfield 239, 3) := by decide +kernel
theorem d_X_needRoomForEntry_7 : decode c_X_needRoomForEntry 7 = .ok (.bipush 60, 2) := by decide +kernel
theorem d_X_needRoomForEntry_9 : decode c_X_needRoomForEntry 9 = .ok (.if_icmp .lt 13, 3) := by decide +kernel
theorem d_X_needRoomForEntry_12 : decode c_X_needRoomForEntry 12 = .ok (.new 57, 3) := by decide +kernel
theorem d_X_needRoomForEntry_15 : decode c_X_needRoomForEntry 15 = .ok (.dup, 1) := by decide +kernel
theorem d_X_needRoomForEntry_16 : decode c_X_needRoomForEntry 16 = .ok (.ldc 244, 2) := by decide +kernel
theorem d_X_needRoomForEntry_18 : decode c_X_needRoomForEntry 18 = .ok (.invokespecial 61, 3) := by decide +kernel
theorem d_X_needRoomForEntry_21 : decode c_X_needRoomForEntry 21 = .ok (.athrow, 1) := by decide +kernel
theorem d_X_needRoomForEntry_22 : decode c_X_needRoomForEntry 22 = .ok (.return_, 1) := by decide +kernel
end
section
/-! THE WORLD OF ONE OBJECT: n cells one behind the other from o on; cell i is S i (ints of array i) (longs of array i) (int fields of object i). So the state is three memories: iA, lA (arrays by cell and place), fI (int and boolean fields by cell and slot). -/
abbrev wM : Type := (Nat → Nat → Int32) × (Nat → Nat → Int64) × (Nat → Nat → Int32)
abbrev wS : Type := Nat → (Nat → Int32) → (Nat → Int64) → (Nat → Int32) → va_E
def wl (S : wS) (o n : Nat) (M : wM) : va_W := (List.range n).map (fun i => (o + i, S i (M.1 i) (M.2.1 i) (M.2.2 i)))
def wP (D : va_G) (cl : List vw_C) (S : wS) (o n : Nat) (M : wM) (H : Heap) : Prop := va_P D cl (wl S o n M) H
/-- which cells a method may change: the world's, and those that come from sz on -/
def wA (o n sz : Nat) : Nat → Prop := fun q => (o ≤ q ∧ q < o + n) ∨ sz ≤ q
theorem wl_at {S : wS} {o n : Nat} {M : wM} {i : Nat} (hi : i < n) : (wl S o n M)[i]? = some (o + i, S i (M.1 i) (M.2.1 i) (M.2.2 i)) := by
  simp [wl, hi]
theorem wl_ex {S : wS} {o n : Nat} {M : wM} {k : Nat} {q : Nat × va_E} (h : (wl S o n M)[k]? = some q) : k < n ∧ q = (o + k, S k (M.1 k) (M.2.1 k) (M.2.2 k)) := by
  by_cases hk : k < n
  · rw [wl_at hk] at h
    exact ⟨hk, (Option.some.inj h).symm⟩
  · have : (wl S o n M)[k]? = none := by simp [wl, hk]
    rw [this] at h
    cases h
theorem wP_of {D : va_G} {cl : List vw_C} {S : wS} {o n : Nat} {M : wM} {H : Heap} (h : ∀ i, i < n → va_at D cl (o + i, S i (M.1 i) (M.2.1 i) (M.2.2 i)) H) : wP D cl S o n M H := by
  intro k q hq
  obtain ⟨hk, rfl⟩ := wl_ex hq
  exact h k hk
theorem wP_at {D : va_G} {cl : List vw_C} {S : wS} {o n : Nat} {M : wM} {H : Heap} (h : wP D cl S o n M H) {i : Nat} (hi : i < n) : va_at D cl (o + i, S i (M.1 i) (M.2.1 i) (M.2.2 i)) H := h i _ (wl_at hi)
theorem wP_lt {D : va_G} {cl : List vw_C} {S : wS} {o n : Nat} {M : wM} {H : Heap} (h : wP D cl S o n M H) {i : Nat} (hi : i < n) : o + i < H.size := (wP_at h hi).lt
theorem wP_kept {D : va_G} {cl : List vw_C} {S : wS} {o n : Nat} {M : wM} {H H1 : Heap} (h : wP D cl S o n M H) (hq : ∀ i, i < n → H1[o + i]? = H[o + i]?) : wP D cl S o n M H1 := wP_of (fun i hi => (wP_at h hi).kept (hq i hi))
theorem wl_D {A : Nat → Prop} {S : wS} {o n : Nat} {M : wM} (hA : ∀ i, i < n → A (o + i)) : va_D A (wl S o n M) := by
  refine ⟨fun i j p q hp hq e => ?_, fun k q hq => ?_⟩
  · obtain ⟨hi, rfl⟩ := wl_ex hp
    obtain ⟨hj, rfl⟩ := wl_ex hq
    have e' : o + i = o + j := e
    omega
  · obtain ⟨hk, rfl⟩ := wl_ex hq
    exact hA k hk
theorem wl_set {S : wS} {o n : Nat} {M M' : wM} {i : Nat} {e : va_E} (he : S i (M'.1 i) (M'.2.1 i) (M'.2.2 i) = e) (ho : ∀ q, q ≠ i → M'.1 q = M.1 q ∧ M'.2.1 q = M.2.1 q ∧ M'.2.2 q = M.2.2 q) : (wl S o n M).set i (o + i, e) = wl S o n M' := by
  apply List.ext_getElem?
  intro k
  by_cases hk : k < n
  · rw [wl_at hk]
    by_cases hki : i = k
    · subst hki
      have hl : i < (wl S o n M).length := by simp [wl, hk]
      rw [List.getElem?_set_self hl, he]
    · rw [List.getElem?_set_ne hki, wl_at hk]
      obtain ⟨e1, e2, e3⟩ := ho k (fun z => hki z.symm)
      rw [e1, e2, e3]
  · have h1 : (wl S o n M')[k]? = none := by simp [wl, hk]
    have h2 : ((wl S o n M).set i (o + i, e))[k]? = none := by simp [wl, hk]
    rw [h1, h2]
/-- a memory with one place changed -/
def up2 {α : Type} (f : Nat → Nat → α) (i k : Nat) (x : α) : Nat → Nat → α := fun a b => if a = i then (if b = k then x else f a b) else f a b
theorem up2_s {α : Type} (f : Nat → Nat → α) (i k : Nat) (x : α) : up2 f i k x i k = x := by simp [up2]
theorem up2_o {α : Type} (f : Nat → Nat → α) (i k : Nat) (x : α) {a : Nat} (h : a ≠ i) : up2 f i k x a = f a := by funext b; simp [up2, h]
theorem up2_k {α : Type} (f : Nat → Nat → α) (i k : Nat) (x : α) {a b : Nat} (h : b ≠ k) : up2 f i k x a b = f a b := by
  simp [up2, h]
theorem up2_r {α : Type} (f : Nat → Nat → α) (i k : Nat) (x : α) : up2 f i k x i = fun b => if b = k then x else f i b := by funext b; simp [up2]
def wI (M : wM) (i k : Nat) (x : Int32) : wM := (up2 M.1 i k x, M.2.1, M.2.2)
def wL (M : wM) (i k : Nat) (x : Int64) : wM := (M.1, up2 M.2.1 i k x, M.2.2)
def wF (M : wM) (i k : Nat) (x : Int32) : wM := (M.1, M.2.1, up2 M.2.2 i k x)
theorem wI_o {M : wM} {i k : Nat} {x : Int32} (q : Nat) (h : q ≠ i) : (wI M i k x).1 q = M.1 q ∧ (wI M i k x).2.1 q = M.2.1 q ∧ (wI M i k x).2.2 q = M.2.2 q := ⟨up2_o _ _ _ _ h, rfl, rfl⟩
theorem wL_o {M : wM} {i k : Nat} {x : Int64} (q : Nat) (h : q ≠ i) : (wL M i k x).1 q = M.1 q ∧ (wL M i k x).2.1 q = M.2.1 q ∧ (wL M i k x).2.2 q = M.2.2 q := ⟨rfl, up2_o _ _ _ _ h, rfl⟩
theorem wF_o {M : wM} {i k : Nat} {x : Int32} (q : Nat) (h : q ≠ i) : (wF M i k x).1 q = M.1 q ∧ (wF M i k x).2.1 q = M.2.1 q ∧ (wF M i k x).2.2 q = M.2.2 q := ⟨rfl, rfl, up2_o _ _ _ _ h⟩
theorem w_inc (k : Nat) : nI k + Int32.ofInt 1 = nI (k + 1) := (nI_succ k).symm
section WROWS
variable {p : Program} {l : Launch} {e : Env} {R : Room} {s : State} {m : MethodId} {args : Array Value} {below : List Frame} {meth : Method} {c : Code} {H : Heap} {locs : List Loc} {cells slots : Nat} {Q : State → Prop}
variable {cc : ByteArray} {pc : Nat} {ls : Array Slot} {rest : List Value} {D : va_G} {cl : List vw_C} {A : Nat → Prop} {tys : List (ClassId × FieldType)} {H0 : Heap} {S : wS} {o n : Nat} {M : wM}
/-- the int, or long, on top by another name -/
theorem w_topi {x y : Int32} (h : x = y) (kk : W p l e R s m args below meth c H locs cells slots Q (F0 m pc ls (.int y :: rest))) : W p l e R s m args below meth c H locs cells slots Q (F0 m pc ls (.int x :: rest)) := by rw [h]; exact kk
theorem w_topl {x y : Int64} (h : x = y) (kk : W p l e R s m args below meth c H locs cells slots Q (F0 m pc ls (.long y :: rest))) : W p l e R s m args below meth c H locs cells slots Q (F0 m pc ls (.long x :: rest)) := by rw [h]; exact kk
/-- getfield of the object in cell i -/
theorem w_get (hexec : p.tables.exec = Jvm.exec) (hb : c.code = cc) {own C : String} {T : u_T} {N ci index : Nat} {Ts : List Cond} (hts : ∀ w ∈ Ts, w.before args s = true) (hin : ∀ w ∈ u_ws C T N, w ∈ Ts) (hown : s.vm.findClass own = some m.cls) (hK : va_K D cl tys s) (hP : wP D cl S o n M H) (i : Nat) (hi : i < n) {fs : List Value} (he : S i (M.1 i) (M.2.1 i) (M.2.2 i) = .inr (ci, fs)) (hc : cl[ci]? = some (C, T, N)) (k : Nat) (hk : k < N) (hlink : (Cond.fieldLink own index (T k).1 (T k).2.1 (T k).2.2.1).before args s = true) {v : Value} (hv : fs[k]? = some v) (hdg : decode cc pc = .ok (.getfield index, 3))
    (kk : W p l e R s m args below meth c H locs cells slots Q (F0 m (pc + 3) ls (v :: rest))) : W p l e R s m args below meth c H locs cells slots Q (F0 m pc ls (.ref (o + i) :: rest)) :=
  va_get (D := D) (ws := wl S o n M) hexec hb hts hin hown hK hP i (by rw [wl_at hi, he]) hc k hk hlink (fun _ h => h) hv hdg kk
/-- putfield of an int or boolean -/
theorem w_put (hexec : p.tables.exec = Jvm.exec) (hb : c.code = cc) {own C : String} {T : u_T} {N ci index : Nat} {Ts : List Cond} (hts : ∀ w ∈ Ts, w.before args s = true) (hin : ∀ w ∈ u_ws C T N, w ∈ Ts) (ty0 : Nat → FieldType) (hty : ∀ k, k < N → parseFieldDescriptor (T k).2.2.1 = some (ty0 k)) (hnm : ∀ a, a < N → ∀ b, b < N → a ≠ b → (T a).2.1 ≠ (T b).2.1) (hown : s.vm.findClass own = some m.cls) (hK : va_K D cl tys s) (hP : wP D cl S o n M H) (hW : ∀ i, i < n → A (o + i)) (hS : va_S A H0 H locs) (i : Nat) (hi : i < n) {fs : List Value} (he : S i (M.1 i) (M.2.1 i) (M.2.2 i) = .inr (ci, fs)) (hc : cl[ci]? = some (C, T, N)) (k : Nat) (hk : k < N) (hlink : (Cond.fieldLink own index (T k).1 (T k).2.1 (T k).2.2.1).before args s = true) (hfin : (T k).2.2.2 = false) {x : Int32} (hn : narrow (ty0 k) (.int x) = .int x) (hfit : fits (ty0 k) (.int x) = true) (hl : k < fs.length)
    (he' : S i (M.1 i) (M.2.1 i) ((wF M i k x).2.2 i) = .inr (ci, fs.set k (.int x))) (hdg : decode cc pc = .ok (.putfield index, 3))
    (kk : ∀ (H1 : Heap) (locs1 : List Loc), wP D cl S o n (wF M i k x) H1 → va_S A H0 H1 locs1 → W p l e R s m args below meth c H1 locs1 cells slots Q (F0 m (pc + 3) ls rest)) : W p l e R s m args below meth c H locs cells slots Q (F0 m pc ls (.int x :: .ref (o + i) :: rest)) :=
  va_put (D := D) (ws := wl S o n M) hexec hb hts hin ty0 hty hnm hown hK hP (wl_D hW) hS i (by rw [wl_at hi, he]) hc k hk hlink (fun _ h => h) hfin (hty k hk) hn hfit hl hdg
    (fun H1 locs1 hP1 _ hS1 => kk H1 locs1 (by rw [wl_set (M := M) (M' := wF M i k x) he' (fun q h => wF_o q h)] at hP1; exact hP1) hS1)
theorem w_iald (hexec : p.tables.exec = Jvm.exec) (hb : c.code = cc) (hK : va_K D cl tys s) (hP : wP D cl S o n M H) (i t0 : Nat) (hi : i < n) {cA : ClassId} {N : Nat} {f : Nat → Int32} (he : S i (M.1 i) (M.2.1 i) (M.2.2 i) = .inl (cA, N, .inl f)) (ht : tys[t0]? = some (cA, .int)) {k : Nat} (hk : k < N) (hN : N < 2147483648) (hdg : decode cc pc = .ok (.iaload, 1))
    (kk : W p l e R s m args below meth c H locs cells slots Q (F0 m (pc + 1) ls (.int (f k) :: rest))) : W p l e R s m args below meth c H locs cells slots Q (F0 m pc ls (.int (nI k) :: .ref (o + i) :: rest)) :=
  va_iald (D := D) (ws := wl S o n M) hexec hb hK hP i t0 (by rw [wl_at hi, he]) ht (vp_in_nI hk hN) hdg (by rw [nI_clamp (show k < 2 ^ 31 by omega)]; exact kk)
theorem w_zald (hexec : p.tables.exec = Jvm.exec) (hb : c.code = cc) (hK : va_K D cl tys s) (hP : wP D cl S o n M H) (i t0 : Nat) (hi : i < n) {cA : ClassId} {N : Nat} {f : Nat → Int32} (he : S i (M.1 i) (M.2.1 i) (M.2.2 i) = .inl (cA, N, .inl f)) (ht : tys[t0]? = some (cA, .boolean)) {k : Nat} (hk : k < N) (hN : N < 2147483648) (hdg : decode cc pc = .ok (.baload, 1))
    (kk : W p l e R s m args below meth c H locs cells slots Q (F0 m (pc + 1) ls (.int (f k) :: rest))) : W p l e R s m args below meth c H locs cells slots Q (F0 m pc ls (.int (nI k) :: .ref (o + i) :: rest)) :=
  va_zald (D := D) (ws := wl S o n M) hexec hb hK hP i t0 (by rw [wl_at hi, he]) ht (vp_in_nI hk hN) hdg (by rw [nI_clamp (show k < 2 ^ 31 by omega)]; exact kk)
theorem w_lald (hexec : p.tables.exec = Jvm.exec) (hb : c.code = cc) (hK : va_K D cl tys s) (hP : wP D cl S o n M H) (i t0 : Nat) (hi : i < n) {cA : ClassId} {N : Nat} {f : Nat → Int64} (he : S i (M.1 i) (M.2.1 i) (M.2.2 i) = .inl (cA, N, .inr (.inl f))) (ht : tys[t0]? = some (cA, .long)) {k : Nat} (hk : k < N) (hN : N < 2147483648) (hdg : decode cc pc = .ok (.laload, 1))
    (kk : W p l e R s m args below meth c H locs cells slots Q (F0 m (pc + 1) ls (.long (f k) :: rest))) : W p l e R s m args below meth c H locs cells slots Q (F0 m pc ls (.int (nI k) :: .ref (o + i) :: rest)) :=
  va_lald (D := D) (ws := wl S o n M) hexec hb hK hP i t0 (by rw [wl_at hi, he]) ht (vp_in_nI hk hN) hdg (by rw [nI_clamp (show k < 2 ^ 31 by omega)]; exact kk)
theorem w_aald (hexec : p.tables.exec = Jvm.exec) (hb : c.code = cc) (hK : va_K D cl tys s) (hP : wP D cl S o n M H) (i t0 : Nat) (hi : i < n) {cA : ClassId} {C : String} {N : Nat} {f : Nat → Option Nat} (he : S i (M.1 i) (M.2.1 i) (M.2.2 i) = .inl (cA, N, .inr (.inr (.inr (.inr f))))) (ht : tys[t0]? = some (cA, .object C)) {k : Nat} (hk : k < N) (hN : N < 2147483648) {a : Nat} (hf : f k = some a) (hdg : decode cc pc = .ok (.aaload, 1))
    (kk : W p l e R s m args below meth c H locs cells slots Q (F0 m (pc + 1) ls (.ref a :: rest))) : W p l e R s m args below meth c H locs cells slots Q (F0 m pc ls (.int (nI k) :: .ref (o + i) :: rest)) :=
  va_aldq (D := D) (ws := wl S o n M) (C := C) hexec hb hK hP i t0 (by rw [wl_at hi, he]) ht (vp_in_nI hk hN) hdg (by rw [nI_clamp (show k < 2 ^ 31 by omega), hf]; exact kk)
theorem w_iast (hexec : p.tables.exec = Jvm.exec) (hb : c.code = cc) (hK : va_K D cl tys s) (hP : wP D cl S o n M H) (hW : ∀ i, i < n → A (o + i)) (hS : va_S A H0 H locs) (i t0 : Nat) (hi : i < n) {cA : ClassId} {N : Nat} (he : ∀ f, S i f (M.2.1 i) (M.2.2 i) = .inl (cA, N, .inl f)) (ht : tys[t0]? = some (cA, .int)) {k : Nat} {x : Int32} (hk : k < N) (hN : N < 2147483648) (hdg : decode cc pc = .ok (.iastore, 1))
    (kk : ∀ (H1 : Heap) (locs1 : List Loc), wP D cl S o n (wI M i k x) H1 → va_S A H0 H1 locs1 → W p l e R s m args below meth c H1 locs1 cells slots Q (F0 m (pc + 1) ls rest)) : W p l e R s m args below meth c H locs cells slots Q (F0 m pc ls (.int x :: .int (nI k) :: .ref (o + i) :: rest)) :=
  va_iast (D := D) (ws := wl S o n M) (f := M.1 i) hexec hb hK hP (wl_D hW) hS i t0 (by rw [wl_at hi, he]) ht (vp_in_nI hk hN) hdg
    (fun H1 locs1 hP1 _ hS1 => kk H1 locs1 (by
      rw [nI_clamp (show k < 2 ^ 31 by omega)] at hP1
      rw [wl_set (M := M) (M' := wI M i k x) ((he _).trans (by rw [show (wI M i k x).1 i = upd (M.1 i) k x from up2_r _ _ _ _])) (fun q h => wI_o q h)] at hP1
      exact hP1) hS1)
theorem w_zast (hexec : p.tables.exec = Jvm.exec) (hb : c.code = cc) (hK : va_K D cl tys s) (hP : wP D cl S o n M H) (hW : ∀ i, i < n → A (o + i)) (hS : va_S A H0 H locs) (i t0 : Nat) (hi : i < n) {cA : ClassId} {N : Nat} (he : ∀ f, S i f (M.2.1 i) (M.2.2 i) = .inl (cA, N, .inl f)) (ht : tys[t0]? = some (cA, .boolean)) {x : Int32} (hx : vp_nar .boolean x = x) {k : Nat} (hk : k < N) (hN : N < 2147483648) (hdg : decode cc pc = .ok (.bastore, 1))
    (kk : ∀ (H1 : Heap) (locs1 : List Loc), wP D cl S o n (wI M i k x) H1 → va_S A H0 H1 locs1 → W p l e R s m args below meth c H1 locs1 cells slots Q (F0 m (pc + 1) ls rest)) : W p l e R s m args below meth c H locs cells slots Q (F0 m pc ls (.int x :: .int (nI k) :: .ref (o + i) :: rest)) :=
  va_zast (D := D) (ws := wl S o n M) (f := M.1 i) hexec hb hK hP (wl_D hW) hS i t0 (by rw [wl_at hi, he]) ht (vp_in_nI hk hN) hdg
    (fun H1 locs1 hP1 _ hS1 => kk H1 locs1 (by
      rw [nI_clamp (show k < 2 ^ 31 by omega)] at hP1
      rw [hx, wl_set (M := M) (M' := wI M i k x) ((he _).trans (by rw [show (wI M i k x).1 i = upd (M.1 i) k x from up2_r _ _ _ _])) (fun q h => wI_o q h)] at hP1
      exact hP1) hS1)
theorem w_last (hexec : p.tables.exec = Jvm.exec) (hb : c.code = cc) (hK : va_K D cl tys s) (hP : wP D cl S o n M H) (hW : ∀ i, i < n → A (o + i)) (hS : va_S A H0 H locs) (i t0 : Nat) (hi : i < n) {cA : ClassId} {N : Nat} (he : ∀ f, S i (M.1 i) f (M.2.2 i) = .inl (cA, N, .inr (.inl f))) (ht : tys[t0]? = some (cA, .long)) {k : Nat} {x : Int64} (hk : k < N) (hN : N < 2147483648) (hdg : decode cc pc = .ok (.lastore, 1))
    (kk : ∀ (H1 : Heap) (locs1 : List Loc), wP D cl S o n (wL M i k x) H1 → va_S A H0 H1 locs1 → W p l e R s m args below meth c H1 locs1 cells slots Q (F0 m (pc + 1) ls rest)) : W p l e R s m args below meth c H locs cells slots Q (F0 m pc ls (.long x :: .int (nI k) :: .ref (o + i) :: rest)) :=
  va_last (D := D) (ws := wl S o n M) (f := M.2.1 i) hexec hb hK hP (wl_D hW) hS i t0 (by rw [wl_at hi, he]) ht (vp_in_nI hk hN) hdg
    (fun H1 locs1 hP1 _ hS1 => kk H1 locs1 (by
      rw [nI_clamp (show k < 2 ^ 31 by omega)] at hP1
      rw [wl_set (M := M) (M' := wL M i k x) ((he _).trans (by rw [show (wL M i k x).2.1 i = vp_updL (M.2.1 i) k x from up2_r _ _ _ _])) (fun q h => wL_o q h)] at hP1
      exact hP1) hS1)
end WROWS
/-! CALLS in such a world -/
def wB (D : va_G) (cl : List vw_C) (tys : List (ClassId × FieldType)) (S : wS) (o n : Nat) (M : wM) (sz : Nat) : State → Prop := fun U => U.heap.size = sz ∧ wP D cl S o n M U.heap ∧ va_K D cl tys U
def wQ (D : va_G) (cl : List vw_C) (tys : List (ClassId × FieldType)) (S : wS) (o n : Nat) : wM → State → Prop := fun M t => wP D cl S o n M t.heap ∧ va_K D cl tys t
theorem wA_le {o n sz sz' q : Nat} (h : sz ≤ sz') (hq : wA o n sz' q) : wA o n sz q := by
  rcases hq with h1 | h1
  · exact Or.inl h1
  · exact Or.inr (Nat.le_trans h h1)
theorem wA_in {o n sz i : Nat} (hi : i < n) : wA o n sz (o + i) := Or.inl ⟨by omega, by omega⟩
theorem w_blind {av : List Value} {D : va_G} {cl : List vw_C} {tys : List (ClassId × FieldType)} {S : wS} {o n : Nat} {M : wM} {sz : Nat} : FrameBlind (va_Pc av (wB D cl tys S o n M sz)) := fun a U g mk q => ⟨q.1, q.2.1, q.2.2.1, va_K.moved (u := U) (U := U.calling g mk a) (Vm.Alike.refl U.vm) q.2.2.2⟩
section WCALLS
variable {p : Program} {l : Launch} {e : Env} {R : Room} {s : State} {m : MethodId} {args : Array Value} {below : List Frame} {meth : Method} {c : Code} {H : Heap} {locs : List Loc} {cells slots : Nat} {Q : State → Prop}
variable {y : MethodName} {bytes cc : ByteArray} {maxL nL mc ms k index pc : Nat} {ret : Option FieldType} {ws : List Cond} {rm : Room} {Ts : List Cond} {own C : String} {As rest st0 : List Value} {ls : Array Slot}
variable {D : va_G} {cl : List vw_C} {tys : List (ClassId × FieldType)} {S : wS} {o n i ci N : Nat} {M : wM} {T : u_T} {fs : List Value} {A0 : Nat → Prop}
theorem w_recv (hK : va_K D cl tys s) (hP : wP D cl S o n M H) (hi : i < n) (he : S i (M.1 i) (M.2.1 i) (M.2.2 i) = .inr (ci, fs)) (hc : cl[ci]? = some (C, T, N)) : ∃ cell : Cell, H[o + i]? = some cell ∧ cell.vm.isStatics = false ∧ s.vm.findClass C = some cell.cls :=
  va_recv (q := (C, T, N)) hK hP hc (q0 := i) (by rw [wl_at hi, he])
theorem w_preS {av : List Value} (hK : va_K D cl tys s) (hP : wP D cl S o n M H) : PreS s H (va_Pc av (wB D cl tys S o n M H.size)) av := ⟨w_blind, fun U hU hW => ⟨rfl, by rw [hU], by rw [hU]; exact hP, va_K.moved hW.alike hK⟩⟩
theorem w_preV (hK : va_K D cl tys s) (hP : wP D cl S o n M H) (hi : i < n) (he : S i (M.1 i) (M.2.1 i) (M.2.2 i) = .inr (ci, fs)) (hc : cl[ci]? = some (C, T, N)) : PreV s H C (o + i) (va_Pc (.ref (o + i) :: As) (wB D cl tys S o n M H.size)) As :=
  ⟨w_blind, w_recv hK hP hi he hc, (w_preS hK hP).2⟩
theorem w_Vi {post : Int32 → wM → Prop} (CF : CallFix p m c cc nL s args Ts own) (hM : Met l y ws rm (va_Pc (.ref (o + i) :: As) (wB D cl tys S o n M H.size)) (va_Qi post (wQ D cl tys S o n) (wA o n H.size)) mc ms (wA o n H.size)) (cw : CallW R s args own C index y bytes maxL ret ws rm mc ms k)
    (hK : va_K D cl tys s) (hP : wP D cl S o n M H) (hi : i < n) (he : S i (M.1 i) (M.2.1 i) (M.2.2 i) = .inr (ci, fs)) (hc : cl[ci]? = some (C, T, N)) (hn : As.length = k) (hsize : ls.size = nL) (hst : st0 = As.reverse ++ .ref (o + i) :: rest) (hr : (rest.map fun v => v.category).sum ≤ 8) (hdg : decode cc pc = .ok (.invokevirtual index, 3)) (hf : cells + mc ≤ R.cells ∧ slots + ms ≤ R.slots)
    (hS : va_S A0 s.heap H locs) (hA0 : ∀ q, wA o n H.size q → A0 q)
    (kk : ∀ (r : Int32) (M1 : wM) (H1 : Heap) (locs1 : List Loc), post r M1 → wP D cl S o n M1 H1 → H.size ≤ H1.size → (∀ q : Nat, q < H.size → ¬ wA o n H.size q → H1[q]? = H[q]?) → va_S A0 s.heap H1 locs1 → W p l e R s m args below meth c H1 locs1 (cells + mc) (slots + ms) Q (F0 m (pc + 3) ls (.int r :: rest))) :
    W p l e R s m args below meth c H locs cells slots Q (F0 m pc ls st0) :=
  va_calli (va_runV (g := F0 m pc ls st0) CF hM cw (w_preV hK hP hi he hc) rfl hn hsize hst (lv_room hr) hdg hf) hS (fun q _ h => hA0 q h) hA0 (fun r M1 t H1 locs1 ht _ hw hB hz hk hS1 => kk r M1 H1 locs1 hw (by rw [← ht]; exact hB.1) hz hk hS1)
theorem w_Vl {post : Int64 → wM → Prop} (CF : CallFix p m c cc nL s args Ts own) (hM : Met l y ws rm (va_Pc (.ref (o + i) :: As) (wB D cl tys S o n M H.size)) (va_Ql post (wQ D cl tys S o n) (wA o n H.size)) mc ms (wA o n H.size)) (cw : CallW R s args own C index y bytes maxL ret ws rm mc ms k)
    (hK : va_K D cl tys s) (hP : wP D cl S o n M H) (hi : i < n) (he : S i (M.1 i) (M.2.1 i) (M.2.2 i) = .inr (ci, fs)) (hc : cl[ci]? = some (C, T, N)) (hn : As.length = k) (hsize : ls.size = nL) (hst : st0 = As.reverse ++ .ref (o + i) :: rest) (hr : (rest.map fun v => v.category).sum ≤ 8) (hdg : decode cc pc = .ok (.invokevirtual index, 3)) (hf : cells + mc ≤ R.cells ∧ slots + ms ≤ R.slots)
    (hS : va_S A0 s.heap H locs) (hA0 : ∀ q, wA o n H.size q → A0 q)
    (kk : ∀ (r : Int64) (M1 : wM) (H1 : Heap) (locs1 : List Loc), post r M1 → wP D cl S o n M1 H1 → H.size ≤ H1.size → (∀ q : Nat, q < H.size → ¬ wA o n H.size q → H1[q]? = H[q]?) → va_S A0 s.heap H1 locs1 → W p l e R s m args below meth c H1 locs1 (cells + mc) (slots + ms) Q (F0 m (pc + 3) ls (.long r :: rest))) :
    W p l e R s m args below meth c H locs cells slots Q (F0 m pc ls st0) :=
  va_calll (va_runV (g := F0 m pc ls st0) CF hM cw (w_preV hK hP hi he hc) rfl hn hsize hst (lv_room hr) hdg hf) hS (fun q _ h => hA0 q h) hA0 (fun r M1 t H1 locs1 ht _ hw hB hz hk hS1 => kk r M1 H1 locs1 hw (by rw [← ht]; exact hB.1) hz hk hS1)
theorem w_Vv {post : wM → Prop} (CF : CallFix p m c cc nL s args Ts own) (hM : Met l y ws rm (va_Pc (.ref (o + i) :: As) (wB D cl tys S o n M H.size)) (va_Qv post (wQ D cl tys S o n) (wA o n H.size)) mc ms (wA o n H.size)) (cw : CallW R s args own C index y bytes maxL ret ws rm mc ms k)
    (hK : va_K D cl tys s) (hP : wP D cl S o n M H) (hi : i < n) (he : S i (M.1 i) (M.2.1 i) (M.2.2 i) = .inr (ci, fs)) (hc : cl[ci]? = some (C, T, N)) (hn : As.length = k) (hsize : ls.size = nL) (hst : st0 = As.reverse ++ .ref (o + i) :: rest) (hr : (rest.map fun v => v.category).sum ≤ 8) (hdg : decode cc pc = .ok (.invokevirtual index, 3)) (hf : cells + mc ≤ R.cells ∧ slots + ms ≤ R.slots)
    (hS : va_S A0 s.heap H locs) (hA0 : ∀ q, wA o n H.size q → A0 q)
    (kk : ∀ (M1 : wM) (H1 : Heap) (locs1 : List Loc), post M1 → wP D cl S o n M1 H1 → H.size ≤ H1.size → (∀ q : Nat, q < H.size → ¬ wA o n H.size q → H1[q]? = H[q]?) → va_S A0 s.heap H1 locs1 → W p l e R s m args below meth c H1 locs1 (cells + mc) (slots + ms) Q (F0 m (pc + 3) ls rest)) :
    W p l e R s m args below meth c H locs cells slots Q (F0 m pc ls st0) :=
  va_callv (va_runV (g := F0 m pc ls st0) CF hM cw (w_preV hK hP hi he hc) rfl hn hsize hst (lv_room hr) hdg hf) hS (fun q _ h => hA0 q h) hA0 (fun M1 t H1 locs1 ht _ hw hB hz hk hS1 => kk M1 H1 locs1 hw (by rw [← ht]; exact hB.1) hz hk hS1)
end WCALLS
end
section
def xTexts : List (Nat × String) := [(225, "there is no such teller"), (227, "there is no such thing"), (229, "there is no such kind"), (59, "there are 300 tellings"), (68, "there are 8 sets"), (237, "there is no such set"), (93, "k is below 0"), (102, "there are not so many tellings"), (105, "mark or k is below 0"), (107, "what is not 0, 1 or 2"), (231, "there is no such person"), (133, "the person has no right to that kind"), (235, "day is not 0 .. 3599"), (244, "there are 60 entries"), (242, "there is no such entry"), (233, "there is no such account"), (161, "cents are not -1000000000 .. 1000000000"), (175, "the entry has 6 rows, or is closed"), (181, "the entry is closed"), (199, "month is not 0 .. 119"), (207, "there is no such number"), (219, "it is reversed, or reverses")]
/-! calls by the words of all tables; methods that may throw -/
theorem al {y : MethodName} {c : ByteArray} {n : Nat} {r : Option FieldType} {w : Cond} (h : w ∈ aw) : w ∈ wm y c n r := List.mem_cons_of_mem _ h
abbrev notMH (y : MethodName) (n : Nat) : Prop := y.cls ≠ "java/lang/invoke/MethodHandle" ∧ y.cls ≠ "java/lang/invoke/VarHandle" ∧ (parseMethodDescriptor y.desc).map (fun d => d.parameters.length) = some n
section KW
variable {s : State} {args : Array Value} {R rm : Room} {ym y : MethodName} {cm bytes : ByteArray} {nm maxL idx mc ms : Nat} {rr ret : Option FieldType} {own C : String}
theorem kV (hts : ∀ w ∈ wm ym cm nm rr, w.before args s = true) (n : Nat) (hc : Cond.code y bytes maxL ret ∈ aw) (hl : Cond.methodLink own idx y ∈ aw) (hi : Cond.instanceMethod y ∈ aw) (hs : Cond.selects C y y ∈ aw) (hn : Cond.initialized y.cls ∈ aw) (hd : notMH y n) (hrc : rm.cells = mc) (hrs : rm.slots = ms) (hR : rm.frames + 1 ≤ R.frames ∧ 8 + (maxL + 11) + rm.locals ≤ R.locals) : CallW R s args own C idx y bytes maxL ret (wm y bytes maxL ret) rm mc ms n :=
  ⟨callB_of n hts (wm_good hc) rfl hrc hrs (hts _ (al hn)) (hts _ (al hl)) hd hR, hts _ (al hi), hts _ (al hs)⟩
theorem kS (hts : ∀ w ∈ wm ym cm nm rr, w.before args s = true) (n : Nat) (hc : Cond.code y bytes maxL ret ∈ aw) (hl : Cond.methodLink own idx y ∈ aw) (hi : Cond.static y ∈ aw) (hn : Cond.initialized y.cls ∈ aw) (hd : notMH y n) (hrc : rm.cells = mc) (hrs : rm.slots = ms) (hR : rm.frames + 1 ≤ R.frames ∧ 8 + (maxL + 11) + rm.locals ≤ R.locals) : CallB R s args own idx y bytes maxL ret (wm y bytes maxL ret) rm mc ms n ∧ (Cond.static y).before args s = true :=
  ⟨callB_of n hts (wm_good hc) rfl hrc hrs (hts _ (al hn)) (hts _ (al hl)) hd hR, hts _ (al hi)⟩
end KW
/-- what a throw needs of the start: two statics of Throwable that lie apart from A, and the texts -/
def xStr (U : State) : Prop := ∀ q ∈ xTexts, ∃ a, vk_R "ShopDesks" q.1 q.2 a U
def xBad : List Cond := [.castable "java/lang/IndexOutOfBoundsException" "java/lang/IndexOutOfBoundsException", .castable "java/lang/IllegalArgumentException" "java/lang/IllegalArgumentException", .castable "java/lang/IllegalStateException" "java/lang/IllegalStateException", .declares ⟨"java/lang/RuntimeException", "<init>", "(Ljava/lang/String;)V"⟩, .declares ⟨"java/lang/Exception", "<init>", "(Ljava/lang/String;)V"⟩, .declares ⟨"java/lang/Throwable", "<init>", "(Ljava/lang/String;)V"⟩]
theorem xBad_warm {s U : State} (hW : s.WarmedH U.vm) (h : ∀ w ∈ xBad, va_Nw w s) : ∀ w ∈ xBad, va_Nw w U := by
  intro w hw
  have h0 := h w hw
  simp only [xBad, List.mem_cons, List.not_mem_nil, or_false] at hw
  rcases hw with rfl | rfl | rfl | rfl | rfl | rfl
  · exact va_Nw.warmC hW h0
  · exact va_Nw.warmC hW h0
  · exact va_Nw.warmC hW h0
  · exact va_Nw.warmD hW h0
  · exact va_Nw.warmD hW h0
  · exact va_Nw.warmD hW h0
theorem xBad_ot : ∀ w ∈ xBad, w.onTables = true := by decide +kernel
def xG (A : Nat → Prop) (U : State) : Prop := vx_Zq Bundle.tN "UNASSIGNED_STACK" Bundle.steD A U U.heap ∧ vx_Zq Bundle.tN "SUPPRESSED_SENTINEL" Bundle.listD A U U.heap ∧ xStr U ∧ ∀ w ∈ xBad, va_Nw w U
theorem xG_call {A0 A1 : Nat → Prop} {s U : State} {H : Heap} {locs : List Loc} (h : xG A0 s) (hS : va_S A0 s.heap H locs) (hA : ∀ q, A1 q → A0 q) (hU : U.heap = H) (hW : s.WarmedH U.vm) : xG A1 U := by
  obtain ⟨h1, h2, h3, h4⟩ := h
  refine ⟨?_, ?_, fun q hq => ?_, xBad_warm hW h4⟩
  · rw [hU]; exact (vx_Zq.moved hW.alike (h1.kept hS.2.1)).narrow hA
  · rw [hU]; exact (vx_Zq.moved hW.alike (h2.kept hS.2.1)).narrow hA
  · obtain ⟨a, ha⟩ := h3 q hq
    exact ⟨a, vk_R.warm hW ha⟩
theorem xG_blind {A : Nat → Prop} {U : State} {g : JFrame} {mk : MethodId} {a : Array Value} (h : xG A U) : xG A (U.calling g mk a) := by
  obtain ⟨h1, h2, h3, h4⟩ := h
  refine ⟨vx_Zq.moved (u := U) (U := U.calling g mk a) (Vm.Alike.refl U.vm) h1, vx_Zq.moved (u := U) (U := U.calling g mk a) (Vm.Alike.refl U.vm) h2, fun q hq => ?_, fun w hw => va_Nw.same (xBad_ot w hw) (u := U) rfl (h4 w hw)⟩
  obtain ⟨b, hb⟩ := h3 q hq
  exact ⟨b, vk_R.same (u := U) rfl hb⟩
def wBx (D : va_G) (cl : List vw_C) (tys : List (ClassId × FieldType)) (S : wS) (o n : Nat) (M : wM) (sz : Nat) : State → Prop := fun U => wB D cl tys S o n M sz U ∧ xG (wA o n sz) U
def xX (D : va_G) (cl : List vw_C) (tys : List (ClassId × FieldType)) (S : wS) (o n : Nat) (M : wM) (sz : Nat) (pE : String → Prop) : String → State → State → Prop := vx_X (fun (_ : Unit) => True) (fun E _ t => pE E ∧ wQ D cl tys S o n M t) (wA o n sz)
theorem wx_blind {av : List Value} {D : va_G} {cl : List vw_C} {tys : List (ClassId × FieldType)} {S : wS} {o n : Nat} {M : wM} {sz : Nat} : FrameBlind (va_Pc av (wBx D cl tys S o n M sz)) := fun a U g mk q => ⟨q.1, (w_blind (av := av) a U g mk ⟨q.1, q.2.1⟩).2, xG_blind q.2.2⟩
section XCALLS
variable {p : Program} {l : Launch} {e : Env} {R : Room} {s : State} {m : MethodId} {args : Array Value} {below : List Frame} {meth : Method} {c : Code} {H : Heap} {locs : List Loc} {cells slots : Nat}
variable {y : MethodName} {bytes cc : ByteArray} {maxL nL mc ms mc' ms' k index pc : Nat} {ret : Option FieldType} {ws : List Cond} {rm : Room} {Ts : List Cond} {own C : String} {As rest st0 : List Value} {ls : Array Slot}
variable {D : va_G} {cl : List vw_C} {tys : List (ClassId × FieldType)} {S : wS} {o n i ci N : Nat} {M : wM} {T : u_T} {fs : List Value} {pE pE' : String → Prop} {Qc : Array Value → State → Outcome → State → Prop}
theorem wx_preS {av : List Value} (hK : va_K D cl tys s) (hP : wP D cl S o n M H) (hG : xG (wA o n s.heap.size) s) (hS : va_S (wA o n s.heap.size) s.heap H locs) : PreS s H (va_Pc av (wBx D cl tys S o n M H.size)) av :=
  ⟨wx_blind, fun U hU hW => ⟨rfl, ((w_preS (av := av) hK hP).2 U hU hW).2, xG_call hG hS (fun q h => wA_le hS.1 h) hU hW⟩⟩
/-- what was thrown goes out of this method too -/
theorem x_out {E : String} {ce : Cell} {q9 : Addr} (hout : ∀ x ∈ c.exceptionTable.toList, covers x pc = false) (hlocks : meth.locks = false) (hK : va_K D cl tys s) (hP : wP D cl S o n M H) (hS : va_S (wA o n s.heap.size) s.heap H locs) (hcell : H[q9]? = some ce) (hcv : ce.vm = .none) (hcl : s.vm.findClass E = some ce.cls) (hpE : pE' E) (hc : cells ≤ mc') (hs : slots ≤ ms') :
    vx_W p l e R s m args below meth c H locs cells slots (vx_MQ below Qc (xX D cl tys S o n M s.heap.size pE') args s mc' ms' (wA o n s.heap.size)) (F0 m pc ls rest) q9 :=
  vx_out hout hlocks hcell hcv hcl (fun t ht ha => ⟨(), trivial, ⟨hpE, by rw [ht]; exact hP, va_K.moved ha hK⟩, hS.F ht⟩) hS.2.2 hc hs
/-- a static method that may throw, and gives nothing -/
theorem x_Sv {post : wM → Prop} (CF : CallFix p m c cc nL s args Ts own) (hM : vx_Met l y ws rm (va_Pc As (wBx D cl tys S o n M H.size)) (va_Qv post (wQ D cl tys S o n) (wA o n H.size)) (xX D cl tys S o n M H.size pE) mc ms (wA o n H.size)) (cw : CallB R s args own index y bytes maxL ret ws rm mc ms k ∧ (Cond.static y).before args s = true)
    (hK : va_K D cl tys s) (hP : wP D cl S o n M H) (hG : xG (wA o n s.heap.size) s) (hS : va_S (wA o n s.heap.size) s.heap H locs) (hn : As.length = k) (hsize : ls.size = nL) (hst : st0 = As.reverse ++ rest) (hr : (rest.map fun v => v.category).sum ≤ 8) (hdg : decode cc pc = .ok (.invokestatic index, 3)) (hf : cells + mc ≤ R.cells ∧ slots + ms ≤ R.slots)
    (hout : ∀ x ∈ c.exceptionTable.toList, covers x pc = false) (hlocks : meth.locks = false) (hpE : ∀ E, pE E → pE' E) (hc : cells + mc ≤ mc') (hs : slots + ms ≤ ms')
    (kk : ∀ (M1 : wM) (H1 : Heap) (locs1 : List Loc), post M1 → wP D cl S o n M1 H1 → va_S (wA o n s.heap.size) s.heap H1 locs1 → W p l e R s m args below meth c H1 locs1 (cells + mc) (slots + ms) (vx_MQ below Qc (xX D cl tys S o n M s.heap.size pE') args s mc' ms' (wA o n s.heap.size)) (F0 m (pc + 3) ls rest)) :
    W p l e R s m args below meth c H locs cells slots (vx_MQ below Qc (xX D cl tys S o n M s.heap.size pE') args s mc' ms' (wA o n s.heap.size)) (F0 m pc ls st0) :=
  vx_callv (vx_runS (g := F0 m pc ls st0) CF hM cw (wx_preS hK hP hG hS) rfl hn hsize hst (lv_room hr) hdg hf) hS (fun q _ h => wA_le hS.1 h) (fun q h => wA_le hS.1 h) (fun q _ h => wA_le hS.1 h)
    (fun E ce q9 u t H1 locs1 ht _ _ hB hz hk hS1 hcell hcv hcl => x_out hout hlocks hK (by rw [← ht]; exact hB.2.1) hS1 hcell hcv hcl (hpE E hB.1) hc hs)
    (fun M1 t H1 locs1 ht _ hw hB hz hk hS1 => kk M1 H1 locs1 hw (by rw [← ht]; exact hB.1) hS1)
/-- a method of an object that may throw, and gives nothing -/
theorem x_Vv {post : wM → Prop} (CF : CallFix p m c cc nL s args Ts own) (hM : vx_Met l y ws rm (va_Pc (.ref (o + i) :: As) (wBx D cl tys S o n M H.size)) (va_Qv post (wQ D cl tys S o n) (wA o n H.size)) (xX D cl tys S o n M H.size pE) mc ms (wA o n H.size)) (cw : CallW R s args own C index y bytes maxL ret ws rm mc ms k)
    (hK : va_K D cl tys s) (hP : wP D cl S o n M H) (hG : xG (wA o n s.heap.size) s) (hS : va_S (wA o n s.heap.size) s.heap H locs) (hi : i < n) (he : S i (M.1 i) (M.2.1 i) (M.2.2 i) = .inr (ci, fs)) (hcl : cl[ci]? = some (C, T, N)) (hn : As.length = k) (hsize : ls.size = nL) (hst : st0 = As.reverse ++ .ref (o + i) :: rest) (hr : (rest.map fun v => v.category).sum ≤ 8) (hdg : decode cc pc = .ok (.invokevirtual index, 3)) (hf : cells + mc ≤ R.cells ∧ slots + ms ≤ R.slots)
    (hout : ∀ x ∈ c.exceptionTable.toList, covers x pc = false) (hlocks : meth.locks = false) (hpE : ∀ E, pE E → pE' E) (hc : cells + mc ≤ mc') (hs : slots + ms ≤ ms')
    (kk : ∀ (M1 : wM) (H1 : Heap) (locs1 : List Loc), post M1 → wP D cl S o n M1 H1 → va_S (wA o n s.heap.size) s.heap H1 locs1 → W p l e R s m args below meth c H1 locs1 (cells + mc) (slots + ms) (vx_MQ below Qc (xX D cl tys S o n M s.heap.size pE') args s mc' ms' (wA o n s.heap.size)) (F0 m (pc + 3) ls rest)) :
    W p l e R s m args below meth c H locs cells slots (vx_MQ below Qc (xX D cl tys S o n M s.heap.size pE') args s mc' ms' (wA o n s.heap.size)) (F0 m pc ls st0) :=
  vx_callv (vx_runV (g := F0 m pc ls st0) CF hM cw ⟨wx_blind, w_recv hK hP hi he hcl, (wx_preS hK hP hG hS).2⟩ rfl hn hsize hst (lv_room hr) hdg hf) hS (fun q _ h => wA_le hS.1 h) (fun q h => wA_le hS.1 h) (fun q _ h => wA_le hS.1 h)
    (fun E ce q9 u t H1 locs1 ht _ _ hB hz hk hS1 hcell hcv hcl => x_out hout hlocks hK (by rw [← ht]; exact hB.2.1) hS1 hcell hcv hcl (hpE E hB.1) hc hs)
    (fun M1 t H1 locs1 ht _ hw hB hz hk hS1 => kk M1 H1 locs1 hw (by rw [← ht]; exact hB.1) hS1)
end XCALLS
theorem hat_X_104_in : ∀ w ∈ (vx_atS "ShopDesks" 104 "java/lang/IndexOutOfBoundsException" ["java/lang/RuntimeException", "java/lang/Exception"]).filter goodWord, w ∈ aw := by decide +kernel
theorem hat_X_104 {ym : MethodName} {cm : ByteArray} {nm : Nat} {rr : Option FieldType} {args : Array Value} {s : State} {A : Nat → Prop} (hts : ∀ w ∈ wm ym cm nm rr, w.before args s = true) (hG : xG A s) : ∀ w ∈ vx_atS "ShopDesks" 104 "java/lang/IndexOutOfBoundsException" ["java/lang/RuntimeException", "java/lang/Exception"], w.before args s = true :=
  vx_hat (B := xBad) (fun w hw => hts w (al (hat_X_104_in w hw))) (by decide +kernel) (fun w hw => va_Nw.use (xBad_ot w hw) (hG.2.2.2 w hw))
theorem hot_X_104 {ik : Nat} : ∀ w ∈ Cond.classLink "ShopDesks" ik "java/lang/IndexOutOfBoundsException" :: Cond.initialized "java/lang/IndexOutOfBoundsException" :: vx_atS "ShopDesks" 104 "java/lang/IndexOutOfBoundsException" ["java/lang/RuntimeException", "java/lang/Exception"], vx_ot w = true := by
  intro w hw
  rcases List.mem_cons.mp hw with rfl | hw
  · rfl
  · rcases List.mem_cons.mp hw with rfl | hw
    · rfl
    · exact (show ∀ w ∈ vx_atS "ShopDesks" 104 "java/lang/IndexOutOfBoundsException" ["java/lang/RuntimeException", "java/lang/Exception"], vx_ot w = true by decide +kernel) w hw
theorem hat_X_95_in : ∀ w ∈ (vx_atS "ShopDesks" 95 "java/lang/IllegalArgumentException" ["java/lang/RuntimeException", "java/lang/Exception"]).filter goodWord, w ∈ aw := by decide +kernel
theorem hat_X_95 {ym : MethodName} {cm : ByteArray} {nm : Nat} {rr : Option FieldType} {args : Array Value} {s : State} {A : Nat → Prop} (hts : ∀ w ∈ wm ym cm nm rr, w.before args s = true) (hG : xG A s) : ∀ w ∈ vx_atS "ShopDesks" 95 "java/lang/IllegalArgumentException" ["java/lang/RuntimeException", "java/lang/Exception"], w.before args s = true :=
  vx_hat (B := xBad) (fun w hw => hts w (al (hat_X_95_in w hw))) (by decide +kernel) (fun w hw => va_Nw.use (xBad_ot w hw) (hG.2.2.2 w hw))
theorem hot_X_95 {ik : Nat} : ∀ w ∈ Cond.classLink "ShopDesks" ik "java/lang/IllegalArgumentException" :: Cond.initialized "java/lang/IllegalArgumentException" :: vx_atS "ShopDesks" 95 "java/lang/IllegalArgumentException" ["java/lang/RuntimeException", "java/lang/Exception"], vx_ot w = true := by
  intro w hw
  rcases List.mem_cons.mp hw with rfl | hw
  · rfl
  · rcases List.mem_cons.mp hw with rfl | hw
    · rfl
    · exact (show ∀ w ∈ vx_atS "ShopDesks" 95 "java/lang/IllegalArgumentException" ["java/lang/RuntimeException", "java/lang/Exception"], vx_ot w = true by decide +kernel) w hw
theorem hat_X_61_in : ∀ w ∈ (vx_atS "ShopDesks" 61 "java/lang/IllegalStateException" ["java/lang/RuntimeException", "java/lang/Exception"]).filter goodWord, w ∈ aw := by decide +kernel
theorem hat_X_61 {ym : MethodName} {cm : ByteArray} {nm : Nat} {rr : Option FieldType} {args : Array Value} {s : State} {A : Nat → Prop} (hts : ∀ w ∈ wm ym cm nm rr, w.before args s = true) (hG : xG A s) : ∀ w ∈ vx_atS "ShopDesks" 61 "java/lang/IllegalStateException" ["java/lang/RuntimeException", "java/lang/Exception"], w.before args s = true :=
  vx_hat (B := xBad) (fun w hw => hts w (al (hat_X_61_in w hw))) (by decide +kernel) (fun w hw => va_Nw.use (xBad_ot w hw) (hG.2.2.2 w hw))
theorem hot_X_61 {ik : Nat} : ∀ w ∈ Cond.classLink "ShopDesks" ik "java/lang/IllegalStateException" :: Cond.initialized "java/lang/IllegalStateException" :: vx_atS "ShopDesks" 61 "java/lang/IllegalStateException" ["java/lang/RuntimeException", "java/lang/Exception"], vx_ot w = true := by
  intro w hw
  rcases List.mem_cons.mp hw with rfl | hw
  · rfl
  · rcases List.mem_cons.mp hw with rfl | hw
    · rfl
    · exact (show ∀ w ∈ vx_atS "ShopDesks" 61 "java/lang/IllegalStateException" ["java/lang/RuntimeException", "java/lang/Exception"], vx_ot w = true by decide +kernel) w hw
/-- 'throw new E("text")' in a method of the class whose memory is M still -/
theorem x_throwS {p : Program} {l : Launch} {e : Env} {R : Room} {s : State} {m : MethodId} {args : Array Value} {below : List Frame} {meth : Method} {c : Code} {H : Heap} {locs : List Loc} {cells slots : Nat} {cc : ByteArray} {pc ik is ic mc ms sa : Nat} {ls : Array Slot} {rest : List Value} {cls text : String} {D : va_G} {cl : List vw_C} {tys : List (ClassId × FieldType)} {S : wS} {o n : Nat} {M : wM} {pE : String → Prop} {Qc : Array Value → State → Outcome → State → Prop}
    (hexec : p.tables.exec = Jvm.exec) (hb : c.code = cc) (hl : l.stackTraces = false) (hown : s.vm.findClass "ShopDesks" = some m.cls) (hk : (Cond.classLink "ShopDesks" ik cls).before args s = true) (hini : (Cond.initialized cls).before args s = true) (hstr : vk_R "ShopDesks" is text sa s) (hat : ∀ w ∈ vx_atS "ShopDesks" ic cls ["java/lang/RuntimeException", "java/lang/Exception"], w.before args s = true)
    (hot : ∀ w ∈ Cond.classLink "ShopDesks" ik cls :: Cond.initialized cls :: vx_atS "ShopDesks" ic cls ["java/lang/RuntimeException", "java/lang/Exception"], vx_ot w = true) (hfit : Bundle.fit cls = true) (hG : xG (wA o n s.heap.size) s) (hK : va_K D cl tys s) (hP : wP D cl S o n M H) (hS : va_S (wA o n s.heap.size) s.heap H locs) (hsize : ls.size = c.maxLocals)
    (d0 : decode cc pc = .ok (.new ik, 3)) (d3 : decode cc (pc + 3) = .ok (.dup, 1)) (d4 : decode cc (pc + 4) = .ok (.ldc is, 2)) (d6 : decode cc (pc + 6) = .ok (.invokespecial ic, 3)) (d9 : decode cc (pc + 9) = .ok (.athrow, 1)) (hout : ∀ x ∈ c.exceptionTable.toList, covers x (pc + 9) = false)
    (hRf : 5 < R.frames) (hRl : (rest.map fun v => v.category).sum + 82 ≤ R.locals) (hRc : cells + 1 ≤ R.cells) (hRs : slots + 6 ≤ R.slots) (hlocks : meth.locks = false) (hpE : pE cls) (hc : cells + 1 ≤ mc) (hs : slots + 6 ≤ ms) :
    W p l e R s m args below meth c H locs cells slots (vx_MQ below Qc (xX D cl tys S o n M s.heap.size pE) args s mc ms (wA o n s.heap.size)) (F0 m pc ls rest) :=
  vx_throwS (names := ["java/lang/RuntimeException", "java/lang/Exception"]) hexec hb hl hown hfit (by decide) hk hini hstr hat hot hG.1 hG.2.1 hS hsize d0 d3 d4 d6 d9 hout hRf hRl hRc hRs hlocks (fun t ha hz hkk => ⟨(), trivial, ⟨hpE, wP_kept hP (fun i hi => hkk _ (wP_lt hP hi)), va_K.moved ha hK⟩, Nat.le_trans hS.1 hz, fun q h1 h2 => (hkk q (Nat.lt_of_lt_of_le h1 hS.1)).trans (hS.2.1 q h1 h2)⟩) hS.2.2 hc hs
/-- 'throw new E("text")' in a method of the class whose memory is M still -/
theorem x_throwSW {p : Program} {l : Launch} {e : Env} {R : Room} {s : State} {m : MethodId} {args : Array Value} {below : List Frame} {meth : Method} {c : Code} {H : Heap} {locs : List Loc} {cells slots : Nat} {cc : ByteArray} {pc ik is ic mc ms sa : Nat} {ls : Array Slot} {rest : List Value} {cls text : String} {D : va_G} {cl : List vw_C} {tys : List (ClassId × FieldType)} {S : wS} {o n : Nat} {M : wM} {pE : String → Prop} {Qc : Array Value → State → Outcome → State → Prop}
    (hexec : p.tables.exec = Jvm.exec) (hb : c.code = cc) (hl : l.stackTraces = false) (hown : s.vm.findClass "ShopDesks" = some m.cls) (hk : (Cond.classLink "ShopDesks" ik cls).before args s = true) (hini : (Cond.initialized cls).before args s = true) (hstr : vk_R "ShopDesks" is text sa s) (hat : ∀ w ∈ vx_atS "ShopDesks" ic cls ["java/lang/RuntimeException", "java/lang/Exception"], w.before args s = true)
    (hot : ∀ w ∈ Cond.classLink "ShopDesks" ik cls :: Cond.initialized cls :: vx_atS "ShopDesks" ic cls ["java/lang/RuntimeException", "java/lang/Exception"], vx_ot w = true) (hfit : Bundle.fit cls = true) (hG : xG (wA o n s.heap.size) s) (hK : va_K D cl tys s) (hP : wP D cl S o n M H) (hS : va_S (wA o n s.heap.size) s.heap H locs) (hsize : ls.size = c.maxLocals)
    (d0 : decode cc pc = .ok (.new ik, 3)) (d3 : decode cc (pc + 3) = .ok (.dup, 1)) (d4 : decode cc (pc + 4) = .ok (.ldc_w is, 3)) (d7 : decode cc (pc + 7) = .ok (.invokespecial ic, 3)) (d10 : decode cc (pc + 10) = .ok (.athrow, 1)) (hout : ∀ x ∈ c.exceptionTable.toList, covers x (pc + 10) = false)
    (hRf : 5 < R.frames) (hRl : (rest.map fun v => v.category).sum + 82 ≤ R.locals) (hRc : cells + 1 ≤ R.cells) (hRs : slots + 6 ≤ R.slots) (hlocks : meth.locks = false) (hpE : pE cls) (hc : cells + 1 ≤ mc) (hs : slots + 6 ≤ ms) :
    W p l e R s m args below meth c H locs cells slots (vx_MQ below Qc (xX D cl tys S o n M s.heap.size pE) args s mc ms (wA o n s.heap.size)) (F0 m pc ls rest) :=
  vx_throwSW (names := ["java/lang/RuntimeException", "java/lang/Exception"]) hexec hb hl hown hfit (by decide) hk hini hstr hat hot hG.1 hG.2.1 hS hsize d0 d3 d4 d7 d10 hout hRf hRl hRc hRs hlocks (fun t ha hz hkk => ⟨(), trivial, ⟨hpE, wP_kept hP (fun i hi => hkk _ (wP_lt hP hi)), va_K.moved ha hK⟩, Nat.le_trans hS.1 hz, fun q h1 h2 => (hkk q (Nat.lt_of_lt_of_le h1 hS.1)).trans (hS.2.1 q h1 h2)⟩) hS.2.2 hc hs
end
section
/-! no method handle, and how many arguments -/
theorem nm_X_init : notMH y_X_init 0 := by decide +kernel
theorem nm_T_init : notMH y_T_init 0 := by decide +kernel
theorem nm_S_init : notMH y_S_init 1 := by decide +kernel
theorem nm_L_init : notMH y_L_init 0 := by decide +kernel
theorem nm_E_init : notMH y_E_init 0 := by decide +kernel
theorem nm_W_tell : notMH y_W_tell 8 := by decide +kernel
theorem nm_X_tell : notMH y_X_tell 6 := by decide +kernel
theorem nm_X_needTeller : notMH y_X_needTeller 1 := by decide +kernel
theorem nm_X_needThing : notMH y_X_needThing 1 := by decide +kernel
theorem nm_X_needKind : notMH y_X_needKind 1 := by decide +kernel
theorem nm_T_isTold : notMH y_T_isTold 2 := by decide +kernel
theorem nm_T_append : notMH y_T_append 6 := by decide +kernel
theorem nm_W_set : notMH y_W_set 3 := by decide +kernel
theorem nm_X_set : notMH y_X_set 1 := by decide +kernel
theorem nm_S_takeAllOf : notMH y_S_takeAllOf 1 := by decide +kernel
theorem nm_S_insertByNumber : notMH y_S_insertByNumber 1 := by decide +kernel
theorem nm_W_join : notMH y_W_join 4 := by decide +kernel
theorem nm_X_join : notMH y_X_join 2 := by decide +kernel
theorem nm_X_needSet : notMH y_X_needSet 1 := by decide +kernel
theorem nm_S_takeMissing : notMH y_S_takeMissing 1 := by decide +kernel
theorem nm_W_equal : notMH y_W_equal 4 := by decide +kernel
theorem nm_X_equal : notMH y_X_equal 2 := by decide +kernel
theorem nm_S_hasSameAs : notMH y_S_hasSameAs 1 := by decide +kernel
theorem nm_W_at : notMH y_W_at 6 := by decide +kernel
theorem nm_X_at : notMH y_X_at 4 := by decide +kernel
theorem nm_S_known : notMH y_S_known 4 := by decide +kernel
theorem nm_S_sumOfCounts : notMH y_S_sumOfCounts 3 := by decide +kernel
theorem nm_T_holds : notMH y_T_holds 4 := by decide +kernel
theorem nm_S_knownMark : notMH y_S_knownMark 3 := by decide +kernel
theorem nm_S_settling : notMH y_S_settling 3 := by decide +kernel
theorem nm_S_latest : notMH y_S_latest 4 := by decide +kernel
theorem nm_T_isLater : notMH y_T_isLater 2 := by decide +kernel
theorem nm_S_hasUnlikeMarks : notMH y_S_hasUnlikeMarks 3 := by decide +kernel
theorem nm_S_valueOrZero : notMH y_S_valueOrZero 1 := by decide +kernel
theorem nm_W_conflict : notMH y_W_conflict 4 := by decide +kernel
theorem nm_X_conflict : notMH y_X_conflict 2 := by decide +kernel
theorem nm_S_isInConflict : notMH y_S_isInConflict 1 := by decide +kernel
theorem nm_W_mark : notMH y_W_mark 3 := by decide +kernel
theorem nm_X_mark : notMH y_X_mark 1 := by decide +kernel
theorem nm_W_since : notMH y_W_since 6 := by decide +kernel
theorem nm_X_since : notMH y_X_since 4 := by decide +kernel
theorem nm_W_batch : notMH y_W_batch 4 := by decide +kernel
theorem nm_X_batch : notMH y_X_batch 2 := by decide +kernel
theorem nm_S_beginBatch : notMH y_S_beginBatch 0 := by decide +kernel
theorem nm_S_endBatch : notMH y_S_endBatch 0 := by decide +kernel
theorem nm_W_right : notMH y_W_right 5 := by decide +kernel
theorem nm_X_right : notMH y_X_right 3 := by decide +kernel
theorem nm_X_needPerson : notMH y_X_needPerson 1 := by decide +kernel
theorem nm_W_seen : notMH y_W_seen 6 := by decide +kernel
theorem nm_X_seen : notMH y_X_seen 4 := by decide +kernel
theorem nm_S_sizeToSee : notMH y_S_sizeToSee 0 := by decide +kernel
theorem nm_W_entry : notMH y_W_entry 3 := by decide +kernel
theorem nm_X_entry : notMH y_X_entry 1 := by decide +kernel
theorem nm_X_needDay : notMH y_X_needDay 1 := by decide +kernel
theorem nm_X_needRoomForEntry : notMH y_X_needRoomForEntry 0 := by decide +kernel
theorem nm_L_openEntry : notMH y_L_openEntry 1 := by decide +kernel
theorem nm_W_row : notMH y_W_row 5 := by decide +kernel
theorem nm_X_row : notMH y_X_row 3 := by decide +kernel
theorem nm_X_needEntry : notMH y_X_needEntry 1 := by decide +kernel
theorem nm_X_needAccount : notMH y_X_needAccount 1 := by decide +kernel
theorem nm_E_isClosed : notMH y_E_isClosed 0 := by decide +kernel
theorem nm_E_addRow : notMH y_E_addRow 2 := by decide +kernel
theorem nm_W_close : notMH y_W_close 3 := by decide +kernel
theorem nm_X_close : notMH y_X_close 1 := by decide +kernel
theorem nm_L_isInClosedMonth : notMH y_L_isInClosedMonth 1 := by decide +kernel
theorem nm_E_isBalanced : notMH y_E_isBalanced 0 := by decide +kernel
theorem nm_L_giveNumber : notMH y_L_giveNumber 1 := by decide +kernel
theorem nm_W_balance : notMH y_W_balance 4 := by decide +kernel
theorem nm_X_balance : notMH y_X_balance 2 := by decide +kernel
theorem nm_L_sumUpTo : notMH y_L_sumUpTo 2 := by decide +kernel
theorem nm_E_sumOf : notMH y_E_sumOf 1 := by decide +kernel
theorem nm_W_closeMonth : notMH y_W_closeMonth 3 := by decide +kernel
theorem nm_X_closeMonth : notMH y_X_closeMonth 1 := by decide +kernel
theorem nm_W_reverse : notMH y_W_reverse 4 := by decide +kernel
theorem nm_X_reverse : notMH y_X_reverse 2 := by decide +kernel
theorem nm_L_addReversal : notMH y_L_addReversal 2 := by decide +kernel
theorem nm_E_takeTurnedRound : notMH y_E_takeTurnedRound 1 := by decide +kernel
theorem nm_M_init : notMH y_M_init 0 := by decide +kernel
theorem nm_M_thrown : notMH y_M_thrown 0 := by decide +kernel
theorem nm_M_tell : notMH y_M_tell 6 := by decide +kernel
theorem nm_M_isIn : notMH y_M_isIn 3 := by decide +kernel
theorem nm_M_isKind : notMH y_M_isKind 1 := by decide +kernel
theorem nm_M_find : notMH y_M_find 2 := by decide +kernel
theorem nm_M_set : notMH y_M_set 1 := by decide +kernel
theorem nm_M_join : notMH y_M_join 2 := by decide +kernel
theorem nm_M_isSet : notMH y_M_isSet 1 := by decide +kernel
theorem nm_M_has : notMH y_M_has 2 := by decide +kernel
theorem nm_M_add : notMH y_M_add 2 := by decide +kernel
theorem nm_M_equal : notMH y_M_equal 2 := by decide +kernel
theorem nm_M_at : notMH y_M_at 4 := by decide +kernel
theorem nm_M_known : notMH y_M_known 5 := by decide +kernel
theorem nm_M_speaks : notMH y_M_speaks 4 := by decide +kernel
theorem nm_M_isSettled : notMH y_M_isSettled 4 := by decide +kernel
theorem nm_M_latest : notMH y_M_latest 5 := by decide +kernel
theorem nm_M_later : notMH y_M_later 2 := by decide +kernel
theorem nm_M_isAfter : notMH y_M_isAfter 2 := by decide +kernel
theorem nm_M_areUnlike : notMH y_M_areUnlike 4 := by decide +kernel
theorem nm_M_conflict : notMH y_M_conflict 2 := by decide +kernel
theorem nm_M_end : notMH y_M_end 0 := by decide +kernel
theorem nm_M_mark : notMH y_M_mark 1 := by decide +kernel
theorem nm_M_since : notMH y_M_since 4 := by decide +kernel
theorem nm_M_batch : notMH y_M_batch 2 := by decide +kernel
theorem nm_M_right : notMH y_M_right 3 := by decide +kernel
theorem nm_M_seen : notMH y_M_seen 4 := by decide +kernel
theorem nm_M_entry : notMH y_M_entry 1 := by decide +kernel
theorem nm_M_open : notMH y_M_open 1 := by decide +kernel
theorem nm_M_row : notMH y_M_row 3 := by decide +kernel
theorem nm_M_isEntry : notMH y_M_isEntry 1 := by decide +kernel
theorem nm_M_addRow : notMH y_M_addRow 3 := by decide +kernel
theorem nm_M_close : notMH y_M_close 1 := by decide +kernel
theorem nm_M_closeNow : notMH y_M_closeNow 1 := by decide +kernel
theorem nm_M_balance : notMH y_M_balance 2 := by decide +kernel
theorem nm_M_closeMonth : notMH y_M_closeMonth 1 := by decide +kernel
theorem nm_M_reverse : notMH y_M_reverse 2 := by decide +kernel
end
section
/-! THE TWO WORLDS. The class: 0 the object, 1 Tellings, 2..7 its arrays, 8 the sets' array, 9 + 3 s set s (its order, its isIn behind it), 33 rights, 34 Ledger, 35 the entries' array, 36 entryOfNumber, 37 + 3 j entry j (its accounts, its cents behind it). The reference: 0 the object, 1..16 its arrays. -/
abbrev tys_ (cA : Nat → ClassId) : List (ClassId × FieldType) := [(cA 0, .int), (cA 1, .long), (cA 2, .boolean), (cA 3, .object "ShopDesks$TellingSet"), (cA 4, .object "ShopDesks$Entry")]
def SX (o : Nat) (cA : Nat → ClassId) : wS := fun i a b c =>
  if i = 0 then .inr (4, [.ref (o + 1), .ref (o + 8), .int (c 2), .ref (o + 33), .ref (o + 34)])
  else if i = 1 then .inr (3, [.ref (o + 2), .ref (o + 3), .ref (o + 4), .ref (o + 5), .ref (o + 6), .ref (o + 7), .int (c 6)])
  else if i = 8 then .inl (cA 3, 8, .inr (.inr (.inr (.inr (fun j => if j < 8 then some (o + (9 + 3 * j)) else none)))))
  else if i = 33 then .inl (cA 2, 16, .inl a)
  else if i = 34 then .inr (1, [.ref (o + 35), .ref (o + 36), .int (c 2), .int (c 3), .int (c 4)])
  else if i = 35 then .inl (cA 4, 60, .inr (.inr (.inr (.inr (fun j => if j < 60 then some (o + (37 + 3 * j)) else none)))))
  else if i = 36 then .inl (cA 0, 61, .inl a)
  else if i < 8 then (if i = 2 ∨ i = 4 ∨ i = 5 then .inl (cA 0, 300, .inl a) else .inl (cA 1, 300, .inr (.inl b)))
  else if i < 33 then (if (i - 9) % 3 = 0 then .inr (2, [.ref (o + 1), .ref (o + (i + 1)), .ref (o + (i + 2)), .int (c 3), .int (c 4)]) else if (i - 9) % 3 = 1 then .inl (cA 0, 300, .inl a) else .inl (cA 2, 300, .inl a))
  else (if (i - 37) % 3 = 0 then .inr (0, [.ref (o + (i + 1)), .ref (o + (i + 2)), .int (c 2), .int (c 3), .int (c 4), .int (c 5), .int (c 6)]) else if (i - 37) % 3 = 1 then .inl (cA 0, 6, .inl a) else .inl (cA 1, 6, .inr (.inl b)))
def SM (o : Nat) (cA : Nat → ClassId) : wS := fun i a b c =>
  if i = 0 then .inr (5, [.int (c 0), .int (c 1), .ref (o + 1), .ref (o + 2), .ref (o + 3), .ref (o + 4), .ref (o + 5), .ref (o + 6), .int (c 8), .ref (o + 7), .ref (o + 8), .ref (o + 9), .ref (o + 10), .int (c 13), .ref (o + 11), .ref (o + 12), .ref (o + 13), .ref (o + 14), .ref (o + 15), .ref (o + 16), .int (c 20), .int (c 21)])
  else if i = 1 ∨ i = 3 ∨ i = 4 then .inl (cA 0, 300, .inl a)
  else if i = 2 ∨ i = 5 ∨ i = 6 then .inl (cA 1, 300, .inr (.inl b))
  else if i = 7 ∨ i = 9 then .inl (cA 0, 8, .inl a)
  else if i = 8 then .inl (cA 0, 2400, .inl a)
  else if i = 10 then .inl (cA 2, 16, .inl a)
  else if i = 11 ∨ i = 12 ∨ i = 15 then .inl (cA 0, 60, .inl a)
  else if i = 13 then .inl (cA 0, 360, .inl a)
  else if i = 14 then .inl (cA 1, 360, .inr (.inl b))
  else .inl (cA 2, 60, .inl a)
theorem SX_0 {o : Nat} {cA : Nat → ClassId} {a : Nat → Int32} {b : Nat → Int64} {c : Nat → Int32} : SX o cA 0 a b c = .inr (4, [.ref (o + 1), .ref (o + 8), .int (c 2), .ref (o + 33), .ref (o + 34)]) := rfl
theorem SX_1 {o : Nat} {cA : Nat → ClassId} {a : Nat → Int32} {b : Nat → Int64} {c : Nat → Int32} : SX o cA 1 a b c = .inr (3, [.ref (o + 2), .ref (o + 3), .ref (o + 4), .ref (o + 5), .ref (o + 6), .ref (o + 7), .int (c 6)]) := rfl
theorem SX_2 {o : Nat} {cA : Nat → ClassId} {a : Nat → Int32} {b : Nat → Int64} {c : Nat → Int32} : SX o cA 2 a b c = .inl (cA 0, 300, .inl a) := rfl
theorem SX_3 {o : Nat} {cA : Nat → ClassId} {a : Nat → Int32} {b : Nat → Int64} {c : Nat → Int32} : SX o cA 3 a b c = .inl (cA 1, 300, .inr (.inl b)) := rfl
theorem SX_4 {o : Nat} {cA : Nat → ClassId} {a : Nat → Int32} {b : Nat → Int64} {c : Nat → Int32} : SX o cA 4 a b c = .inl (cA 0, 300, .inl a) := rfl
theorem SX_5 {o : Nat} {cA : Nat → ClassId} {a : Nat → Int32} {b : Nat → Int64} {c : Nat → Int32} : SX o cA 5 a b c = .inl (cA 0, 300, .inl a) := rfl
theorem SX_6 {o : Nat} {cA : Nat → ClassId} {a : Nat → Int32} {b : Nat → Int64} {c : Nat → Int32} : SX o cA 6 a b c = .inl (cA 1, 300, .inr (.inl b)) := rfl
theorem SX_7 {o : Nat} {cA : Nat → ClassId} {a : Nat → Int32} {b : Nat → Int64} {c : Nat → Int32} : SX o cA 7 a b c = .inl (cA 1, 300, .inr (.inl b)) := rfl
theorem SX_8 {o : Nat} {cA : Nat → ClassId} {a : Nat → Int32} {b : Nat → Int64} {c : Nat → Int32} : SX o cA 8 a b c = .inl (cA 3, 8, .inr (.inr (.inr (.inr (fun j => if j < 8 then some (o + (9 + 3 * j)) else none))))) := rfl
theorem SX_33 {o : Nat} {cA : Nat → ClassId} {a : Nat → Int32} {b : Nat → Int64} {c : Nat → Int32} : SX o cA 33 a b c = .inl (cA 2, 16, .inl a) := rfl
theorem SX_34 {o : Nat} {cA : Nat → ClassId} {a : Nat → Int32} {b : Nat → Int64} {c : Nat → Int32} : SX o cA 34 a b c = .inr (1, [.ref (o + 35), .ref (o + 36), .int (c 2), .int (c 3), .int (c 4)]) := rfl
theorem SX_35 {o : Nat} {cA : Nat → ClassId} {a : Nat → Int32} {b : Nat → Int64} {c : Nat → Int32} : SX o cA 35 a b c = .inl (cA 4, 60, .inr (.inr (.inr (.inr (fun j => if j < 60 then some (o + (37 + 3 * j)) else none))))) := rfl
theorem SX_36 {o : Nat} {cA : Nat → ClassId} {a : Nat → Int32} {b : Nat → Int64} {c : Nat → Int32} : SX o cA 36 a b c = .inl (cA 0, 61, .inl a) := rfl
theorem SX_s {o : Nat} {cA : Nat → ClassId} {a : Nat → Int32} {b : Nat → Int64} {c : Nat → Int32} {s : Nat} (h : s < 8) : SX o cA (9 + 3 * s) a b c = .inr (2, [.ref (o + 1), .ref (o + (9 + 3 * s + 1)), .ref (o + (9 + 3 * s + 2)), .int (c 3), .int (c 4)]) := by
  unfold SX
  rw [if_neg (by omega), if_neg (by omega), if_neg (by omega), if_neg (by omega), if_neg (by omega), if_neg (by omega), if_neg (by omega), if_neg (by omega), if_pos (by omega), if_pos (by omega)]
theorem SX_so {o : Nat} {cA : Nat → ClassId} {a : Nat → Int32} {b : Nat → Int64} {c : Nat → Int32} {s : Nat} (h : s < 8) : SX o cA (9 + 3 * s + 1) a b c = .inl (cA 0, 300, .inl a) := by
  unfold SX
  rw [if_neg (by omega), if_neg (by omega), if_neg (by omega), if_neg (by omega), if_neg (by omega), if_neg (by omega), if_neg (by omega), if_neg (by omega), if_pos (by omega), if_neg (by omega), if_pos (by omega)]
theorem SX_si {o : Nat} {cA : Nat → ClassId} {a : Nat → Int32} {b : Nat → Int64} {c : Nat → Int32} {s : Nat} (h : s < 8) : SX o cA (9 + 3 * s + 2) a b c = .inl (cA 2, 300, .inl a) := by
  unfold SX
  rw [if_neg (by omega), if_neg (by omega), if_neg (by omega), if_neg (by omega), if_neg (by omega), if_neg (by omega), if_neg (by omega), if_neg (by omega), if_pos (by omega), if_neg (by omega), if_neg (by omega)]
theorem SX_e {o : Nat} {cA : Nat → ClassId} {a : Nat → Int32} {b : Nat → Int64} {c : Nat → Int32} {j : Nat} (h : j < 60) : SX o cA (37 + 3 * j) a b c = .inr (0, [.ref (o + (37 + 3 * j + 1)), .ref (o + (37 + 3 * j + 2)), .int (c 2), .int (c 3), .int (c 4), .int (c 5), .int (c 6)]) := by
  unfold SX
  rw [if_neg (by omega), if_neg (by omega), if_neg (by omega), if_neg (by omega), if_neg (by omega), if_neg (by omega), if_neg (by omega), if_neg (by omega), if_neg (by omega), if_pos (by omega)]
theorem SX_ea {o : Nat} {cA : Nat → ClassId} {a : Nat → Int32} {b : Nat → Int64} {c : Nat → Int32} {j : Nat} (h : j < 60) : SX o cA (37 + 3 * j + 1) a b c = .inl (cA 0, 6, .inl a) := by
  unfold SX
  rw [if_neg (by omega), if_neg (by omega), if_neg (by omega), if_neg (by omega), if_neg (by omega), if_neg (by omega), if_neg (by omega), if_neg (by omega), if_neg (by omega), if_neg (by omega), if_pos (by omega)]
theorem SX_ec {o : Nat} {cA : Nat → ClassId} {a : Nat → Int32} {b : Nat → Int64} {c : Nat → Int32} {j : Nat} (h : j < 60) : SX o cA (37 + 3 * j + 2) a b c = .inl (cA 1, 6, .inr (.inl b)) := by
  unfold SX
  rw [if_neg (by omega), if_neg (by omega), if_neg (by omega), if_neg (by omega), if_neg (by omega), if_neg (by omega), if_neg (by omega), if_neg (by omega), if_neg (by omega), if_neg (by omega), if_neg (by omega)]
theorem SM_0 {o : Nat} {cA : Nat → ClassId} {a : Nat → Int32} {b : Nat → Int64} {c : Nat → Int32} : SM o cA 0 a b c = .inr (5, [.int (c 0), .int (c 1), .ref (o + 1), .ref (o + 2), .ref (o + 3), .ref (o + 4), .ref (o + 5), .ref (o + 6), .int (c 8), .ref (o + 7), .ref (o + 8), .ref (o + 9), .ref (o + 10), .int (c 13), .ref (o + 11), .ref (o + 12), .ref (o + 13), .ref (o + 14), .ref (o + 15), .ref (o + 16), .int (c 20), .int (c 21)]) := rfl
theorem SM_1 {o : Nat} {cA : Nat → ClassId} {a : Nat → Int32} {b : Nat → Int64} {c : Nat → Int32} : SM o cA 1 a b c = .inl (cA 0, 300, .inl a) := rfl
theorem SM_2 {o : Nat} {cA : Nat → ClassId} {a : Nat → Int32} {b : Nat → Int64} {c : Nat → Int32} : SM o cA 2 a b c = .inl (cA 1, 300, .inr (.inl b)) := rfl
theorem SM_3 {o : Nat} {cA : Nat → ClassId} {a : Nat → Int32} {b : Nat → Int64} {c : Nat → Int32} : SM o cA 3 a b c = .inl (cA 0, 300, .inl a) := rfl
theorem SM_4 {o : Nat} {cA : Nat → ClassId} {a : Nat → Int32} {b : Nat → Int64} {c : Nat → Int32} : SM o cA 4 a b c = .inl (cA 0, 300, .inl a) := rfl
theorem SM_5 {o : Nat} {cA : Nat → ClassId} {a : Nat → Int32} {b : Nat → Int64} {c : Nat → Int32} : SM o cA 5 a b c = .inl (cA 1, 300, .inr (.inl b)) := rfl
theorem SM_6 {o : Nat} {cA : Nat → ClassId} {a : Nat → Int32} {b : Nat → Int64} {c : Nat → Int32} : SM o cA 6 a b c = .inl (cA 1, 300, .inr (.inl b)) := rfl
theorem SM_7 {o : Nat} {cA : Nat → ClassId} {a : Nat → Int32} {b : Nat → Int64} {c : Nat → Int32} : SM o cA 7 a b c = .inl (cA 0, 8, .inl a) := rfl
theorem SM_8 {o : Nat} {cA : Nat → ClassId} {a : Nat → Int32} {b : Nat → Int64} {c : Nat → Int32} : SM o cA 8 a b c = .inl (cA 0, 2400, .inl a) := rfl
theorem SM_9 {o : Nat} {cA : Nat → ClassId} {a : Nat → Int32} {b : Nat → Int64} {c : Nat → Int32} : SM o cA 9 a b c = .inl (cA 0, 8, .inl a) := rfl
theorem SM_10 {o : Nat} {cA : Nat → ClassId} {a : Nat → Int32} {b : Nat → Int64} {c : Nat → Int32} : SM o cA 10 a b c = .inl (cA 2, 16, .inl a) := rfl
theorem SM_11 {o : Nat} {cA : Nat → ClassId} {a : Nat → Int32} {b : Nat → Int64} {c : Nat → Int32} : SM o cA 11 a b c = .inl (cA 0, 60, .inl a) := rfl
theorem SM_12 {o : Nat} {cA : Nat → ClassId} {a : Nat → Int32} {b : Nat → Int64} {c : Nat → Int32} : SM o cA 12 a b c = .inl (cA 0, 60, .inl a) := rfl
theorem SM_13 {o : Nat} {cA : Nat → ClassId} {a : Nat → Int32} {b : Nat → Int64} {c : Nat → Int32} : SM o cA 13 a b c = .inl (cA 0, 360, .inl a) := rfl
theorem SM_14 {o : Nat} {cA : Nat → ClassId} {a : Nat → Int32} {b : Nat → Int64} {c : Nat → Int32} : SM o cA 14 a b c = .inl (cA 1, 360, .inr (.inl b)) := rfl
theorem SM_15 {o : Nat} {cA : Nat → ClassId} {a : Nat → Int32} {b : Nat → Int64} {c : Nat → Int32} : SM o cA 15 a b c = .inl (cA 0, 60, .inl a) := rfl
theorem SM_16 {o : Nat} {cA : Nat → ClassId} {a : Nat → Int32} {b : Nat → Int64} {c : Nat → Int32} : SM o cA 16 a b c = .inl (cA 2, 60, .inl a) := rfl
theorem w_hv {x y : Int32} (h : x = y) : some (Value.int x) = some (Value.int y) := by rw [h]
theorem wF_r {M : wM} {i k : Nat} {x : Int32} : (wF M i k x).2.2 i = fun b => if b = k then x else M.2.2 i b := up2_r _ _ _ _
abbrev xP (D : va_G) (cA : Nat → ClassId) (o : Nat) (M : wM) (H : Heap) : Prop := wP D cls_ (SX o cA) o 217 M H
abbrev xB (D : va_G) (cA : Nat → ClassId) (o : Nat) (M : wM) (sz : Nat) : State → Prop := wB D cls_ (tys_ cA) (SX o cA) o 217 M sz
abbrev xBx (D : va_G) (cA : Nat → ClassId) (o : Nat) (M : wM) (sz : Nat) : State → Prop := wBx D cls_ (tys_ cA) (SX o cA) o 217 M sz
abbrev xQ (D : va_G) (cA : Nat → ClassId) (o : Nat) : wM → State → Prop := wQ D cls_ (tys_ cA) (SX o cA) o 217
abbrev xE (D : va_G) (cA : Nat → ClassId) (o : Nat) (M : wM) (sz : Nat) (pE : String → Prop) : String → State → State → Prop := xX D cls_ (tys_ cA) (SX o cA) o 217 M sz pE
abbrev xA (o sz : Nat) : Nat → Prop := wA o 217 sz
abbrev mB (D : va_G) (cA : Nat → ClassId) (o : Nat) (M : wM) (sz : Nat) : State → Prop := wB D cls_ (tys_ cA) (SM o cA) o 17 M sz
abbrev mQ (D : va_G) (cA : Nat → ClassId) (o : Nat) : wM → State → Prop := wQ D cls_ (tys_ cA) (SM o cA) o 17
abbrev mA (o sz : Nat) : Nat → Prop := wA o 17 sz
theorem inw_E {y : MethodName} {c : ByteArray} {n : Nat} {r : Option FieldType} : ∀ w ∈ u_ws R_E F_E 7, w ∈ wm y c n r := fun w h => al (in_E w h)
theorem inw_L {y : MethodName} {c : ByteArray} {n : Nat} {r : Option FieldType} : ∀ w ∈ u_ws R_L F_L 5, w ∈ wm y c n r := fun w h => al (in_L w h)
theorem inw_S {y : MethodName} {c : ByteArray} {n : Nat} {r : Option FieldType} : ∀ w ∈ u_ws R_S F_S 5, w ∈ wm y c n r := fun w h => al (in_S w h)
theorem inw_T {y : MethodName} {c : ByteArray} {n : Nat} {r : Option FieldType} : ∀ w ∈ u_ws R_T F_T 7, w ∈ wm y c n r := fun w h => al (in_T w h)
theorem inw_X {y : MethodName} {c : ByteArray} {n : Nat} {r : Option FieldType} : ∀ w ∈ u_ws R_X F_X 5, w ∈ wm y c n r := fun w h => al (in_X w h)
theorem inw_M {y : MethodName} {c : ByteArray} {n : Nat} {r : Option FieldType} : ∀ w ∈ u_ws R_M F_M 22, w ∈ wm y c n r := fun w h => al (in_M w h)
end
section
/-! small facts of numbers; Tellings -/
theorem i_le {a b : Nat} (ha : a < 2147483648) (hb : b < 2147483648) (h : nI a ≤ nI b) : a ≤ b := (nI_leI ha hb).mp h
theorem i_nle {a b : Nat} (ha : a < 2147483648) (hb : b < 2147483648) (h : ¬ nI a ≤ nI b) : b < a := Nat.lt_of_not_le (fun q => h ((nI_leI ha hb).mpr q))
theorem i_lt {a b : Nat} (ha : a < 2147483648) (hb : b < 2147483648) (h : nI a < nI b) : a < b := (nI_ltI ha hb).mp h
theorem i_nlt {a b : Nat} (ha : a < 2147483648) (hb : b < 2147483648) (h : ¬ nI a < nI b) : b ≤ a := Nat.le_of_not_lt (fun q => h ((nI_ltI ha hb).mpr q))
/-- a boolean as an int -/
def b2i (b : Bool) : Int32 := if b = true then 1 else 0
theorem b2i_t {p : Prop} [Decidable p] (h : p) : b2i (decide p) = 1 := by simp [b2i, h]
theorem b2i_f {p : Prop} [Decidable p] (h : ¬ p) : b2i (decide p) = 0 := by simp [b2i, h]
theorem b2i_0 {b : Bool} (h : b2i b = 0) : b = false := by cases b <;> simp_all [b2i]
theorem b2i_1 {b : Bool} (h : ¬ b2i b = 0) : b = true := by cases b <;> simp_all [b2i]
theorem b2i_nar (b : Bool) : narrow .boolean (.int (b2i b)) = .int (b2i b) := by cases b <;> rfl
/-- telling t is of thing th and kind kd, and its ON isn't behind tm -/
def x_hold (M : wM) (t : Nat) (th kd : Int32) (tm : Int64) : Bool := decide (M.1 4 t = th ∧ M.1 5 t = kd ∧ M.2.1 7 t ≤ tm)
/-- telling a is later than telling b -/
def x_later (M : wM) (a b : Nat) : Bool := if M.2.1 7 a = M.2.1 7 b then (if M.1 2 a = M.1 2 b then decide (M.2.1 3 b < M.2.1 3 a) else decide (M.1 2 b < M.1 2 a)) else decide (M.2.1 7 b < M.2.1 7 a)
set_option maxHeartbeats 4000000 in
set_option maxRecDepth 100000 in
/-- whether teller t told nu -/
theorem k_T_isTold (l : Launch) (D : va_G) (cA : Nat → ClassId) (o sz : Nat) (M : wM) (t : Int32) (nu : Int64) (n : Nat) (hn : n ≤ 300) (en : M.2.2 1 6 = nI n) : Met l y_T_isTold (wm y_T_isTold c_T_isTold 5 (some .boolean)) { frames := 0, cells := 0, slots := 0, locals := 0 } (va_Pc [.ref (o + 1), .int t, .long nu] (xB D cA o M sz)) (va_Qi (fun r M1 => M1 = M ∧ ((r = 1 ∧ ∃ j, j < n ∧ M.2.1 3 j = nu ∧ M.1 2 j = t) ∨ (r = 0 ∧ ∀ j, j < n → ¬ (M.2.1 3 j = nu ∧ M.1 2 j = t)))) (xQ D cA o) (xA o sz)) 0 0 (xA o sz) := by
  refine Met.ofW (cc := c_T_isTold) (maxL := 5) (ret := (some .boolean)) (by decide) rfl ?_
  intro p e s m args below meth c s₁ B hml hv
  obtain ⟨rfl, hsz, hP, hK⟩ := hv
  have hx := B.exec
  have hb := B.bytes
  have hr := B.returns
  have hts := atoms_spec (ws := wm y_T_isTold c_T_isTold 5 (some .boolean)) B.pre
  have hown : s.vm.findClass "ShopDesks$Tellings" = some m.cls := findClass_of_methodNamed B.named
  have hlocks := B.notSynchronized
  subst hsz
  have hS : va_S (xA o s.heap.size) s.heap s.heap [] := va_S.rf
  have hW : ∀ i, i < 217 → xA o s.heap.size (o + i) := fun i hi => wA_in hi
  have hl := lv_entry ([.ref (o + 1), .int t, .long nu]) (n := 5) (Nat.le_of_ble_eq_true rfl)
  rw [lg_entry_eq]
  generalize (lg_sl ([.ref (o + 1), .int t, .long nu]) ++ List.replicate (5 - (lg_sl ([.ref (o + 1), .int t, .long nu])).length) Slot.unset).toArray = ls at hl ⊢
  have hl : lv_has ls 5 [(0, .ref (o + 1)), (1, .int t), (2, .long nu)] := hl
  refine lv_iconst (v := 0) hx hb d_T_isTold_0 (by decide) ?_
  refine lv_istore (lv' := [(4, .int 0), (0, .ref (o + 1)), (1, .int t), (2, .long nu)]) hx hb d_T_isTold_1 hl (by decide) rfl (fun ls hl => ?_)
  have lp3 : ∀ (fuel : Nat) (k : Nat), n - k < fuel → (k ≤ n) → (∀ j, j < k → ¬ (M.2.1 3 j = nu ∧ M.1 2 j = t)) → ∀ (ls : Array Slot), lv_has ls 5 [(0, .ref (o + 1)), (1, .int t), (2, .long nu), (4, .int (nI k))] → W p l e (headSpec (wm y_T_isTold c_T_isTold 5 (some .boolean)) { frames := 0, cells := 0, slots := 0, locals := 0 }).room s m ([.ref (o + 1), .int t, .long nu] : List Value).toArray below meth c s.heap [] 0 0 (MQ below (va_Qi (fun r M1 => M1 = M ∧ ((r = 1 ∧ ∃ j, j < n ∧ M.2.1 3 j = nu ∧ M.1 2 j = t) ∨ (r = 0 ∧ ∀ j, j < n → ¬ (M.2.1 3 j = nu ∧ M.1 2 j = t)))) (xQ D cA o) (xA o s.heap.size)) ([.ref (o + 1), .int t, .long nu] : List Value).toArray s 0 0 (xA o s.heap.size)) (F0 m 3 ls []) := by
    intro fuel
    induction fuel with
    | zero => intro k hfu; exact absurd hfu (Nat.not_lt_zero _)
    | succ fuel ih =>
      intro k hfu hk hno ls hl
      refine lv_iload hx hb d_T_isTold_3 (lv_at hl 3 rfl) ?_
      refine lv_aload_n hx hb d_T_isTold_5 rfl (lv_at hl 0 rfl) ?_
      refine w_get (C := R_T) (T := F_T) (N := 7) (ci := 3) (v := .int (M.2.2 1 6)) hx hb hts inw_T hown hK hP 1 (by decide) SX_1 rfl 6 (by decide) (hts _ (al aF_T_31)) rfl d_T_isTold_6 ?_
      refine w_topi en ?_
      refine lv_icmp_ge (tgt := 43) hx hb d_T_isTold_9 (by decide) (fun c_1 => ?_) (fun c_1 => ?_)
      · have hkn : n ≤ k := i_le (by omega) (by omega) c_1
        refine lv_iconst (v := 0) hx hb d_T_isTold_43 (by decide) ?_
        exact W.zret (v := 0) hx hb hr rfl (fun tz hz9 hW9 => ⟨⟨0, M, rfl, ⟨rfl, Or.inr ⟨rfl, fun j hj => hno j (by omega)⟩⟩, by rw [hz9]; exact hP, va_K.moved hW9.alike hK⟩, hS.F hz9⟩) hS.2.2 d_T_isTold_44
      · have hkn : k < n := i_nle (by omega) (by omega) c_1
        refine lv_aload_n hx hb d_T_isTold_12 rfl (lv_at hl 0 rfl) ?_
        refine w_get (C := R_T) (T := F_T) (N := 7) (ci := 3) (v := .ref (o + 3)) hx hb hts inw_T hown hK hP 1 (by decide) SX_1 rfl 1 (by decide) (hts _ (al aF_T_15)) rfl d_T_isTold_13 ?_
        refine lv_iload hx hb d_T_isTold_16 (lv_at hl 3 rfl) ?_
        refine w_lald hx hb hK hP 3 1 (by decide) SX_3 rfl (k := k) (by omega) (by decide) d_T_isTold_18 ?_
        refine lv_lload_n hx hb d_T_isTold_19 rfl (lv_at hl 2 rfl) ?_
        refine W.lcmp hx hb d_T_isTold_20 ?_
        refine lv_if_ne (tgt := 37) hx hb d_T_isTold_21 (by decide) (fun c_2 => ?_) (fun c_2 => ?_)
        · rw [lg_cmp_eq] at c_2
          have hne : ¬ (M.2.1 3 k = nu ∧ M.1 2 k = t) := fun h => c_2 h.1
          refine lv_iinc (v := nI (k + 1)) (lv' := [(4, .int (nI (k + 1))), (0, .ref (o + 1)), (1, .int t), (2, .long nu)]) hx hb d_T_isTold_37 hl (k := 3) rfl (w_inc k) (by decide) rfl (fun ls hl => ?_)
          refine lv_goto (tgt := 3) hx hb d_T_isTold_40 (by decide) ?_
          exact ih (k + 1) (by omega) hkn (fun j hj => (Nat.lt_or_eq_of_le (Nat.le_of_lt_succ hj)).elim (fun h => hno j h) (fun h => h ▸ hne)) ls (lv_sub hl [1, 2, 3, 0] rfl)
        · rw [lg_cmp_eq] at c_2
          have h21 := c_2
          refine lv_aload_n hx hb d_T_isTold_24 rfl (lv_at hl 0 rfl) ?_
          refine w_get (C := R_T) (T := F_T) (N := 7) (ci := 3) (v := .ref (o + 2)) hx hb hts inw_T hown hK hP 1 (by decide) SX_1 rfl 0 (by decide) (hts _ (al aF_T_9)) rfl d_T_isTold_25 ?_
          refine lv_iload hx hb d_T_isTold_28 (lv_at hl 3 rfl) ?_
          refine w_iald hx hb hK hP 2 0 (by decide) SX_2 rfl (k := k) (by omega) (by decide) d_T_isTold_30 ?_
          refine lv_iload_n hx hb d_T_isTold_31 rfl (lv_at hl 1 rfl) ?_
          refine lv_icmp_ne (tgt := 37) hx hb d_T_isTold_32 (by decide) (fun c_3 => ?_) (fun c_3 => ?_)
          · have hne : ¬ (M.2.1 3 k = nu ∧ M.1 2 k = t) := fun h => c_3 h.2
            refine lv_iinc (v := nI (k + 1)) (lv' := [(4, .int (nI (k + 1))), (0, .ref (o + 1)), (1, .int t), (2, .long nu)]) hx hb d_T_isTold_37 hl (k := 3) rfl (w_inc k) (by decide) rfl (fun ls hl => ?_)
            refine lv_goto (tgt := 3) hx hb d_T_isTold_40 (by decide) ?_
            exact ih (k + 1) (by omega) hkn (fun j hj => (Nat.lt_or_eq_of_le (Nat.le_of_lt_succ hj)).elim (fun h => hno j h) (fun h => h ▸ hne)) ls (lv_sub hl [1, 2, 3, 0] rfl)
          · have h32 := c_3
            refine lv_iconst (v := 1) hx hb d_T_isTold_35 (by decide) ?_
            exact W.zret (v := 1) hx hb hr rfl (fun tz hz9 hW9 => ⟨⟨1, M, rfl, ⟨rfl, Or.inl ⟨rfl, k, hkn, h21, h32⟩⟩, by rw [hz9]; exact hP, va_K.moved hW9.alike hK⟩, hS.F hz9⟩) hS.2.2 d_T_isTold_36
  exact lp3 ((n - 0) + 1) 0 (Nat.lt_succ_self _) (Nat.zero_le _) (fun j h => absurd h (Nat.not_lt_zero _)) ls (lv_sub hl [1, 2, 3, 0] rfl)
set_option maxHeartbeats 4000000 in
set_option maxRecDepth 100000 in
/-- one telling more -/
theorem k_T_append (l : Launch) (D : va_G) (cA : Nat → ClassId) (o sz : Nat) (M : wM) (t th kd : Int32) (nu v on : Int64) (n : Nat) (hn : n ≤ 300) (en : M.2.2 1 6 = nI n) (hn2 : n < 300) : Met l y_T_append (wm y_T_append c_T_append 10 (none)) { frames := 0, cells := 0, slots := 0, locals := 0 } (va_Pc [.ref (o + 1), .int t, .long nu, .int th, .int kd, .long v, .long on] (xB D cA o M sz)) (va_Qv (fun M1 => M1 = wF (wL (wL (wI (wI (wL (wI M 2 n t) 3 n nu) 4 n th) 5 n kd) 6 n v) 7 n on) 1 6 (nI (n + 1))) (xQ D cA o) (xA o sz)) 0 0 (xA o sz) := by
  refine Met.ofW (cc := c_T_append) (maxL := 10) (ret := (none)) (by decide) rfl ?_
  intro p e s m args below meth c s₁ B hml hv
  obtain ⟨rfl, hsz, hP, hK⟩ := hv
  have hx := B.exec
  have hb := B.bytes
  have hr := B.returns
  have hts := atoms_spec (ws := wm y_T_append c_T_append 10 (none)) B.pre
  have hown : s.vm.findClass "ShopDesks$Tellings" = some m.cls := findClass_of_methodNamed B.named
  have hlocks := B.notSynchronized
  subst hsz
  have hS : va_S (xA o s.heap.size) s.heap s.heap [] := va_S.rf
  have hW : ∀ i, i < 217 → xA o s.heap.size (o + i) := fun i hi => wA_in hi
  have hl := lv_entry ([.ref (o + 1), .int t, .long nu, .int th, .int kd, .long v, .long on]) (n := 10) (Nat.le_of_ble_eq_true rfl)
  rw [lg_entry_eq]
  generalize (lg_sl ([.ref (o + 1), .int t, .long nu, .int th, .int kd, .long v, .long on]) ++ List.replicate (10 - (lg_sl ([.ref (o + 1), .int t, .long nu, .int th, .int kd, .long v, .long on])).length) Slot.unset).toArray = ls at hl ⊢
  have hl : lv_has ls 10 [(0, .ref (o + 1)), (1, .int t), (2, .long nu), (4, .int th), (5, .int kd), (6, .long v), (8, .long on)] := hl
  refine lv_aload_n hx hb d_T_append_0 rfl (lv_at hl 0 rfl) ?_
  refine w_get (C := R_T) (T := F_T) (N := 7) (ci := 3) (v := .ref (o + 2)) hx hb hts inw_T hown hK hP 1 (by decide) SX_1 rfl 0 (by decide) (hts _ (al aF_T_9)) rfl d_T_append_1 ?_
  refine lv_aload_n hx hb d_T_append_4 rfl (lv_at hl 0 rfl) ?_
  refine w_get (C := R_T) (T := F_T) (N := 7) (ci := 3) (v := .int (M.2.2 1 6)) hx hb hts inw_T hown hK hP 1 (by decide) SX_1 rfl 6 (by decide) (hts _ (al aF_T_31)) rfl d_T_append_5 ?_
  refine w_topi en ?_
  refine lv_iload_n hx hb d_T_append_8 rfl (lv_at hl 1 rfl) ?_
  refine w_iast hx hb hK hP hW hS 2 0 (by decide) (fun _ => SX_2) rfl (k := n) (by omega) (by decide) d_T_append_9 (fun H locs hP hS => ?_)
  refine lv_aload_n hx hb d_T_append_10 rfl (lv_at hl 0 rfl) ?_
  refine w_get (C := R_T) (T := F_T) (N := 7) (ci := 3) (v := .ref (o + 3)) hx hb hts inw_T hown hK hP 1 (by decide) SX_1 rfl 1 (by decide) (hts _ (al aF_T_15)) rfl d_T_append_11 ?_
  refine lv_aload_n hx hb d_T_append_14 rfl (lv_at hl 0 rfl) ?_
  refine w_get (C := R_T) (T := F_T) (N := 7) (ci := 3) (v := .int (M.2.2 1 6)) hx hb hts inw_T hown hK hP 1 (by decide) SX_1 rfl 6 (by decide) (hts _ (al aF_T_31)) rfl d_T_append_15 ?_
  refine w_topi en ?_
  refine lv_lload_n hx hb d_T_append_18 rfl (lv_at hl 2 rfl) ?_
  refine w_last hx hb hK hP hW hS 3 1 (by decide) (fun _ => SX_3) rfl (k := n) (by omega) (by decide) d_T_append_19 (fun H locs hP hS => ?_)
  refine lv_aload_n hx hb d_T_append_20 rfl (lv_at hl 0 rfl) ?_
  refine w_get (C := R_T) (T := F_T) (N := 7) (ci := 3) (v := .ref (o + 4)) hx hb hts inw_T hown hK hP 1 (by decide) SX_1 rfl 2 (by decide) (hts _ (al aF_T_19)) rfl d_T_append_21 ?_
  refine lv_aload_n hx hb d_T_append_24 rfl (lv_at hl 0 rfl) ?_
  refine w_get (C := R_T) (T := F_T) (N := 7) (ci := 3) (v := .int (M.2.2 1 6)) hx hb hts inw_T hown hK hP 1 (by decide) SX_1 rfl 6 (by decide) (hts _ (al aF_T_31)) rfl d_T_append_25 ?_
  refine w_topi en ?_
  refine lv_iload hx hb d_T_append_28 (lv_at hl 3 rfl) ?_
  refine w_iast hx hb hK hP hW hS 4 0 (by decide) (fun _ => SX_4) rfl (k := n) (by omega) (by decide) d_T_append_30 (fun H locs hP hS => ?_)
  refine lv_aload_n hx hb d_T_append_31 rfl (lv_at hl 0 rfl) ?_
  refine w_get (C := R_T) (T := F_T) (N := 7) (ci := 3) (v := .ref (o + 5)) hx hb hts inw_T hown hK hP 1 (by decide) SX_1 rfl 3 (by decide) (hts _ (al aF_T_22)) rfl d_T_append_32 ?_
  refine lv_aload_n hx hb d_T_append_35 rfl (lv_at hl 0 rfl) ?_
  refine w_get (C := R_T) (T := F_T) (N := 7) (ci := 3) (v := .int (M.2.2 1 6)) hx hb hts inw_T hown hK hP 1 (by decide) SX_1 rfl 6 (by decide) (hts _ (al aF_T_31)) rfl d_T_append_36 ?_
  refine w_topi en ?_
  refine lv_iload hx hb d_T_append_39 (lv_at hl 4 rfl) ?_
  refine w_iast hx hb hK hP hW hS 5 0 (by decide) (fun _ => SX_5) rfl (k := n) (by omega) (by decide) d_T_append_41 (fun H locs hP hS => ?_)
  refine lv_aload_n hx hb d_T_append_42 rfl (lv_at hl 0 rfl) ?_
  refine w_get (C := R_T) (T := F_T) (N := 7) (ci := 3) (v := .ref (o + 6)) hx hb hts inw_T hown hK hP 1 (by decide) SX_1 rfl 4 (by decide) (hts _ (al aF_T_25)) rfl d_T_append_43 ?_
  refine lv_aload_n hx hb d_T_append_46 rfl (lv_at hl 0 rfl) ?_
  refine w_get (C := R_T) (T := F_T) (N := 7) (ci := 3) (v := .int (M.2.2 1 6)) hx hb hts inw_T hown hK hP 1 (by decide) SX_1 rfl 6 (by decide) (hts _ (al aF_T_31)) rfl d_T_append_47 ?_
  refine w_topi en ?_
  refine lv_lload hx hb d_T_append_50 (lv_at hl 5 rfl) ?_
  refine w_last hx hb hK hP hW hS 6 1 (by decide) (fun _ => SX_6) rfl (k := n) (by omega) (by decide) d_T_append_52 (fun H locs hP hS => ?_)
  refine lv_aload_n hx hb d_T_append_53 rfl (lv_at hl 0 rfl) ?_
  refine w_get (C := R_T) (T := F_T) (N := 7) (ci := 3) (v := .ref (o + 7)) hx hb hts inw_T hown hK hP 1 (by decide) SX_1 rfl 5 (by decide) (hts _ (al aF_T_28)) rfl d_T_append_54 ?_
  refine lv_aload_n hx hb d_T_append_57 rfl (lv_at hl 0 rfl) ?_
  refine w_get (C := R_T) (T := F_T) (N := 7) (ci := 3) (v := .int (M.2.2 1 6)) hx hb hts inw_T hown hK hP 1 (by decide) SX_1 rfl 6 (by decide) (hts _ (al aF_T_31)) rfl d_T_append_58 ?_
  refine w_topi en ?_
  refine lv_lload hx hb d_T_append_61 (lv_at hl 6 rfl) ?_
  refine w_last hx hb hK hP hW hS 7 1 (by decide) (fun _ => SX_7) rfl (k := n) (by omega) (by decide) d_T_append_63 (fun H locs hP hS => ?_)
  refine lv_aload_n hx hb d_T_append_64 rfl (lv_at hl 0 rfl) ?_
  refine lv_dup hx hb d_T_append_65 rfl ?_
  refine w_get (C := R_T) (T := F_T) (N := 7) (ci := 3) (v := .int (M.2.2 1 6)) hx hb hts inw_T hown hK hP 1 (by decide) SX_1 rfl 6 (by decide) (hts _ (al aF_T_31)) rfl d_T_append_66 ?_
  refine w_topi en ?_
  refine lv_iconst (v := 1) hx hb d_T_append_69 (by decide) ?_
  refine lv_iadd hx hb d_T_append_70 ?_
  refine w_topi ((nI_succ n).symm) ?_
  refine w_put (C := R_T) (T := F_T) (N := 7) (ci := 3) (x := nI (n + 1)) hx hb hts inw_T ft_T ft_T_ok fn_T hown hK hP hW hS 1 (by decide) SX_1 rfl 6 (by decide) (hts _ (al aF_T_31)) rfl rfl rfl (Nat.le_of_ble_eq_true rfl) (by rw [wF_r]; exact SX_1.trans rfl) d_T_append_71 (fun H locs hP hS => ?_)
  exact W.vret hx hb hr (fun tz hz9 hW9 => ⟨⟨(wF (wL (wL (wI (wI (wL (wI M 2 n t) 3 n nu) 4 n th) 5 n kd) 6 n v) 7 n on) 1 6 (nI (n + 1))), rfl, rfl, by rw [hz9]; exact hP, va_K.moved hW9.alike hK⟩, hS.F hz9⟩) hS.2.2 d_T_append_74
set_option maxHeartbeats 4000000 in
set_option maxRecDepth 100000 in
/-- whether telling t is of that thing, kind and time -/
theorem k_T_holds (l : Launch) (D : va_G) (cA : Nat → ClassId) (o sz : Nat) (M : wM) (t : Nat) (ht : t < 300) (th kd : Int32) (tm : Int64) : Met l y_T_holds (wm y_T_holds c_T_holds 6 (some .boolean)) { frames := 0, cells := 0, slots := 0, locals := 0 } (va_Pc [.ref (o + 1), .int (nI t), .int th, .int kd, .long tm] (xB D cA o M sz)) (va_Qi (fun r M1 => M1 = M ∧ r = b2i (x_hold M t th kd tm)) (xQ D cA o) (xA o sz)) 0 0 (xA o sz) := by
  refine Met.ofW (cc := c_T_holds) (maxL := 6) (ret := (some .boolean)) (by decide) rfl ?_
  intro p e s m args below meth c s₁ B hml hv
  obtain ⟨rfl, hsz, hP, hK⟩ := hv
  have hx := B.exec
  have hb := B.bytes
  have hr := B.returns
  have hts := atoms_spec (ws := wm y_T_holds c_T_holds 6 (some .boolean)) B.pre
  have hown : s.vm.findClass "ShopDesks$Tellings" = some m.cls := findClass_of_methodNamed B.named
  have hlocks := B.notSynchronized
  subst hsz
  have hS : va_S (xA o s.heap.size) s.heap s.heap [] := va_S.rf
  have hW : ∀ i, i < 217 → xA o s.heap.size (o + i) := fun i hi => wA_in hi
  have hl := lv_entry ([.ref (o + 1), .int (nI t), .int th, .int kd, .long tm]) (n := 6) (Nat.le_of_ble_eq_true rfl)
  rw [lg_entry_eq]
  generalize (lg_sl ([.ref (o + 1), .int (nI t), .int th, .int kd, .long tm]) ++ List.replicate (6 - (lg_sl ([.ref (o + 1), .int (nI t), .int th, .int kd, .long tm])).length) Slot.unset).toArray = ls at hl ⊢
  have hl : lv_has ls 6 [(0, .ref (o + 1)), (1, .int (nI t)), (2, .int th), (3, .int kd), (4, .long tm)] := hl
  refine lv_aload_n hx hb d_T_holds_0 rfl (lv_at hl 0 rfl) ?_
  refine w_get (C := R_T) (T := F_T) (N := 7) (ci := 3) (v := .ref (o + 4)) hx hb hts inw_T hown hK hP 1 (by decide) SX_1 rfl 2 (by decide) (hts _ (al aF_T_19)) rfl d_T_holds_1 ?_
  refine lv_iload_n hx hb d_T_holds_4 rfl (lv_at hl 1 rfl) ?_
  refine w_iald hx hb hK hP 4 0 (by decide) SX_4 rfl (k := t) (by omega) (by decide) d_T_holds_5 ?_
  refine lv_iload_n hx hb d_T_holds_6 rfl (lv_at hl 2 rfl) ?_
  refine lv_icmp_ne (tgt := 36) hx hb d_T_holds_7 (by decide) (fun c_1 => ?_) (fun c_1 => ?_)
  · have hq := c_1
    refine lv_iconst (v := 0) hx hb d_T_holds_36 (by decide) ?_
    exact W.zret (v := 0) hx hb hr rfl (fun tz hz9 hW9 => ⟨⟨0, M, rfl, ⟨rfl, (b2i_f (fun h => hq h.1)).symm⟩, by rw [hz9]; exact hP, va_K.moved hW9.alike hK⟩, hS.F hz9⟩) hS.2.2 d_T_holds_37
  · have q1 := c_1
    refine lv_aload_n hx hb d_T_holds_10 rfl (lv_at hl 0 rfl) ?_
    refine w_get (C := R_T) (T := F_T) (N := 7) (ci := 3) (v := .ref (o + 5)) hx hb hts inw_T hown hK hP 1 (by decide) SX_1 rfl 3 (by decide) (hts _ (al aF_T_22)) rfl d_T_holds_11 ?_
    refine lv_iload_n hx hb d_T_holds_14 rfl (lv_at hl 1 rfl) ?_
    refine w_iald hx hb hK hP 5 0 (by decide) SX_5 rfl (k := t) (by omega) (by decide) d_T_holds_15 ?_
    refine lv_iload_n hx hb d_T_holds_16 rfl (lv_at hl 3 rfl) ?_
    refine lv_icmp_ne (tgt := 36) hx hb d_T_holds_17 (by decide) (fun c_2 => ?_) (fun c_2 => ?_)
    · have hq := c_2
      refine lv_iconst (v := 0) hx hb d_T_holds_36 (by decide) ?_
      exact W.zret (v := 0) hx hb hr rfl (fun tz hz9 hW9 => ⟨⟨0, M, rfl, ⟨rfl, (b2i_f (fun h => hq h.2.1)).symm⟩, by rw [hz9]; exact hP, va_K.moved hW9.alike hK⟩, hS.F hz9⟩) hS.2.2 d_T_holds_37
    · have q2 := c_2
      refine lv_aload_n hx hb d_T_holds_20 rfl (lv_at hl 0 rfl) ?_
      refine w_get (C := R_T) (T := F_T) (N := 7) (ci := 3) (v := .ref (o + 7)) hx hb hts inw_T hown hK hP 1 (by decide) SX_1 rfl 5 (by decide) (hts _ (al aF_T_28)) rfl d_T_holds_21 ?_
      refine lv_iload_n hx hb d_T_holds_24 rfl (lv_at hl 1 rfl) ?_
      refine w_lald hx hb hK hP 7 1 (by decide) SX_7 rfl (k := t) (by omega) (by decide) d_T_holds_25 ?_
      refine lv_lload hx hb d_T_holds_26 (lv_at hl 4 rfl) ?_
      refine W.lcmp hx hb d_T_holds_28 ?_
      refine lv_if_gt (tgt := 36) hx hb d_T_holds_29 (by decide) (fun c_3 => ?_) (fun c_3 => ?_)
      · rw [lg_cmp_gt] at c_3
        have hq := c_3
        refine lv_iconst (v := 0) hx hb d_T_holds_36 (by decide) ?_
        exact W.zret (v := 0) hx hb hr rfl (fun tz hz9 hW9 => ⟨⟨0, M, rfl, ⟨rfl, (b2i_f (fun h => absurd h.2.2 (Int64.not_le.mpr hq))).symm⟩, by rw [hz9]; exact hP, va_K.moved hW9.alike hK⟩, hS.F hz9⟩) hS.2.2 d_T_holds_37
      · rw [lg_cmp_gt] at c_3
        have q3 := c_3
        refine lv_iconst (v := 1) hx hb d_T_holds_32 (by decide) ?_
        refine lv_goto (tgt := 37) hx hb d_T_holds_33 (by decide) ?_
        exact W.zret (v := 1) hx hb hr rfl (fun tz hz9 hW9 => ⟨⟨1, M, rfl, ⟨rfl, (b2i_t ⟨q1, q2, Int64.not_lt.mp q3⟩).symm⟩, by rw [hz9]; exact hP, va_K.moved hW9.alike hK⟩, hS.F hz9⟩) hS.2.2 d_T_holds_37
set_option maxHeartbeats 4000000 in
set_option maxRecDepth 100000 in
/-- whether telling a is later than telling b -/
theorem k_T_isLater (l : Launch) (D : va_G) (cA : Nat → ClassId) (o sz : Nat) (M : wM) (a b : Nat) (ha : a < 300) (hb9 : b < 300) : Met l y_T_isLater (wm y_T_isLater c_T_isLater 3 (some .boolean)) { frames := 0, cells := 0, slots := 0, locals := 0 } (va_Pc [.ref (o + 1), .int (nI a), .int (nI b)] (xB D cA o M sz)) (va_Qi (fun r M1 => M1 = M ∧ r = b2i (x_later M a b)) (xQ D cA o) (xA o sz)) 0 0 (xA o sz) := by
  refine Met.ofW (cc := c_T_isLater) (maxL := 3) (ret := (some .boolean)) (by decide) rfl ?_
  intro p e s m args below meth c s₁ B hml hv
  obtain ⟨rfl, hsz, hP, hK⟩ := hv
  have hx := B.exec
  have hb := B.bytes
  have hr := B.returns
  have hts := atoms_spec (ws := wm y_T_isLater c_T_isLater 3 (some .boolean)) B.pre
  have hown : s.vm.findClass "ShopDesks$Tellings" = some m.cls := findClass_of_methodNamed B.named
  have hlocks := B.notSynchronized
  subst hsz
  have hS : va_S (xA o s.heap.size) s.heap s.heap [] := va_S.rf
  have hW : ∀ i, i < 217 → xA o s.heap.size (o + i) := fun i hi => wA_in hi
  have hl := lv_entry ([.ref (o + 1), .int (nI a), .int (nI b)]) (n := 3) (Nat.le_of_ble_eq_true rfl)
  rw [lg_entry_eq]
  generalize (lg_sl ([.ref (o + 1), .int (nI a), .int (nI b)]) ++ List.replicate (3 - (lg_sl ([.ref (o + 1), .int (nI a), .int (nI b)])).length) Slot.unset).toArray = ls at hl ⊢
  have hl : lv_has ls 3 [(0, .ref (o + 1)), (1, .int (nI a)), (2, .int (nI b))] := hl
  refine lv_aload_n hx hb d_T_isLater_0 rfl (lv_at hl 0 rfl) ?_
  refine w_get (C := R_T) (T := F_T) (N := 7) (ci := 3) (v := .ref (o + 7)) hx hb hts inw_T hown hK hP 1 (by decide) SX_1 rfl 5 (by decide) (hts _ (al aF_T_28)) rfl d_T_isLater_1 ?_
  refine lv_iload_n hx hb d_T_isLater_4 rfl (lv_at hl 1 rfl) ?_
  refine w_lald hx hb hK hP 7 1 (by decide) SX_7 rfl (k := a) (by omega) (by decide) d_T_isLater_5 ?_
  refine lv_aload_n hx hb d_T_isLater_6 rfl (lv_at hl 0 rfl) ?_
  refine w_get (C := R_T) (T := F_T) (N := 7) (ci := 3) (v := .ref (o + 7)) hx hb hts inw_T hown hK hP 1 (by decide) SX_1 rfl 5 (by decide) (hts _ (al aF_T_28)) rfl d_T_isLater_7 ?_
  refine lv_iload_n hx hb d_T_isLater_10 rfl (lv_at hl 2 rfl) ?_
  refine w_lald hx hb hK hP 7 1 (by decide) SX_7 rfl (k := b) (by omega) (by decide) d_T_isLater_11 ?_
  refine W.lcmp hx hb d_T_isLater_12 ?_
  refine lv_if_eq (tgt := 38) hx hb d_T_isLater_13 (by decide) (fun c_1 => ?_) (fun c_1 => ?_)
  · rw [lg_cmp_eq] at c_1
    refine lv_aload_n hx hb d_T_isLater_38 rfl (lv_at hl 0 rfl) ?_
    refine w_get (C := R_T) (T := F_T) (N := 7) (ci := 3) (v := .ref (o + 2)) hx hb hts inw_T hown hK hP 1 (by decide) SX_1 rfl 0 (by decide) (hts _ (al aF_T_9)) rfl d_T_isLater_39 ?_
    refine lv_iload_n hx hb d_T_isLater_42 rfl (lv_at hl 1 rfl) ?_
    refine w_iald hx hb hK hP 2 0 (by decide) SX_2 rfl (k := a) (by omega) (by decide) d_T_isLater_43 ?_
    refine lv_aload_n hx hb d_T_isLater_44 rfl (lv_at hl 0 rfl) ?_
    refine w_get (C := R_T) (T := F_T) (N := 7) (ci := 3) (v := .ref (o + 2)) hx hb hts inw_T hown hK hP 1 (by decide) SX_1 rfl 0 (by decide) (hts _ (al aF_T_9)) rfl d_T_isLater_45 ?_
    refine lv_iload_n hx hb d_T_isLater_48 rfl (lv_at hl 2 rfl) ?_
    refine w_iald hx hb hK hP 2 0 (by decide) SX_2 rfl (k := b) (by omega) (by decide) d_T_isLater_49 ?_
    refine lv_icmp_eq (tgt := 74) hx hb d_T_isLater_50 (by decide) (fun c_2 => ?_) (fun c_2 => ?_)
    · refine lv_aload_n hx hb d_T_isLater_74 rfl (lv_at hl 0 rfl) ?_
      refine w_get (C := R_T) (T := F_T) (N := 7) (ci := 3) (v := .ref (o + 3)) hx hb hts inw_T hown hK hP 1 (by decide) SX_1 rfl 1 (by decide) (hts _ (al aF_T_15)) rfl d_T_isLater_75 ?_
      refine lv_iload_n hx hb d_T_isLater_78 rfl (lv_at hl 1 rfl) ?_
      refine w_lald hx hb hK hP 3 1 (by decide) SX_3 rfl (k := a) (by omega) (by decide) d_T_isLater_79 ?_
      refine lv_aload_n hx hb d_T_isLater_80 rfl (lv_at hl 0 rfl) ?_
      refine w_get (C := R_T) (T := F_T) (N := 7) (ci := 3) (v := .ref (o + 3)) hx hb hts inw_T hown hK hP 1 (by decide) SX_1 rfl 1 (by decide) (hts _ (al aF_T_15)) rfl d_T_isLater_81 ?_
      refine lv_iload_n hx hb d_T_isLater_84 rfl (lv_at hl 2 rfl) ?_
      refine w_lald hx hb hK hP 3 1 (by decide) SX_3 rfl (k := b) (by omega) (by decide) d_T_isLater_85 ?_
      refine W.lcmp hx hb d_T_isLater_86 ?_
      refine lv_if_le (tgt := 94) hx hb d_T_isLater_87 (by decide) (fun c_3 => ?_) (fun c_3 => ?_)
      · rw [lg_cmp_le] at c_3
        refine lv_iconst (v := 0) hx hb d_T_isLater_94 (by decide) ?_
        exact W.zret (v := 0) hx hb hr rfl (fun tz hz9 hW9 => ⟨⟨0, M, rfl, ⟨rfl, by simp only [b2i, x_later]; simp_all⟩, by rw [hz9]; exact hP, va_K.moved hW9.alike hK⟩, hS.F hz9⟩) hS.2.2 d_T_isLater_95
      · rw [lg_cmp_le] at c_3
        refine lv_iconst (v := 1) hx hb d_T_isLater_90 (by decide) ?_
        refine lv_goto (tgt := 95) hx hb d_T_isLater_91 (by decide) ?_
        exact W.zret (v := 1) hx hb hr rfl (fun tz hz9 hW9 => ⟨⟨1, M, rfl, ⟨rfl, by simp only [b2i, x_later]; simp_all⟩, by rw [hz9]; exact hP, va_K.moved hW9.alike hK⟩, hS.F hz9⟩) hS.2.2 d_T_isLater_95
    · refine lv_aload_n hx hb d_T_isLater_53 rfl (lv_at hl 0 rfl) ?_
      refine w_get (C := R_T) (T := F_T) (N := 7) (ci := 3) (v := .ref (o + 2)) hx hb hts inw_T hown hK hP 1 (by decide) SX_1 rfl 0 (by decide) (hts _ (al aF_T_9)) rfl d_T_isLater_54 ?_
      refine lv_iload_n hx hb d_T_isLater_57 rfl (lv_at hl 1 rfl) ?_
      refine w_iald hx hb hK hP 2 0 (by decide) SX_2 rfl (k := a) (by omega) (by decide) d_T_isLater_58 ?_
      refine lv_aload_n hx hb d_T_isLater_59 rfl (lv_at hl 0 rfl) ?_
      refine w_get (C := R_T) (T := F_T) (N := 7) (ci := 3) (v := .ref (o + 2)) hx hb hts inw_T hown hK hP 1 (by decide) SX_1 rfl 0 (by decide) (hts _ (al aF_T_9)) rfl d_T_isLater_60 ?_
      refine lv_iload_n hx hb d_T_isLater_63 rfl (lv_at hl 2 rfl) ?_
      refine w_iald hx hb hK hP 2 0 (by decide) SX_2 rfl (k := b) (by omega) (by decide) d_T_isLater_64 ?_
      refine lv_icmp_le (tgt := 72) hx hb d_T_isLater_65 (by decide) (fun c_4 => ?_) (fun c_4 => ?_)
      · refine lv_iconst (v := 0) hx hb d_T_isLater_72 (by decide) ?_
        exact W.zret (v := 0) hx hb hr rfl (fun tz hz9 hW9 => ⟨⟨0, M, rfl, ⟨rfl, by simp only [b2i, x_later]; simp_all⟩, by rw [hz9]; exact hP, va_K.moved hW9.alike hK⟩, hS.F hz9⟩) hS.2.2 d_T_isLater_73
      · refine lv_iconst (v := 1) hx hb d_T_isLater_68 (by decide) ?_
        refine lv_goto (tgt := 73) hx hb d_T_isLater_69 (by decide) ?_
        exact W.zret (v := 1) hx hb hr rfl (fun tz hz9 hW9 => ⟨⟨1, M, rfl, ⟨rfl, by simp only [b2i, x_later]; simp_all⟩, by rw [hz9]; exact hP, va_K.moved hW9.alike hK⟩, hS.F hz9⟩) hS.2.2 d_T_isLater_73
  · rw [lg_cmp_eq] at c_1
    refine lv_aload_n hx hb d_T_isLater_16 rfl (lv_at hl 0 rfl) ?_
    refine w_get (C := R_T) (T := F_T) (N := 7) (ci := 3) (v := .ref (o + 7)) hx hb hts inw_T hown hK hP 1 (by decide) SX_1 rfl 5 (by decide) (hts _ (al aF_T_28)) rfl d_T_isLater_17 ?_
    refine lv_iload_n hx hb d_T_isLater_20 rfl (lv_at hl 1 rfl) ?_
    refine w_lald hx hb hK hP 7 1 (by decide) SX_7 rfl (k := a) (by omega) (by decide) d_T_isLater_21 ?_
    refine lv_aload_n hx hb d_T_isLater_22 rfl (lv_at hl 0 rfl) ?_
    refine w_get (C := R_T) (T := F_T) (N := 7) (ci := 3) (v := .ref (o + 7)) hx hb hts inw_T hown hK hP 1 (by decide) SX_1 rfl 5 (by decide) (hts _ (al aF_T_28)) rfl d_T_isLater_23 ?_
    refine lv_iload_n hx hb d_T_isLater_26 rfl (lv_at hl 2 rfl) ?_
    refine w_lald hx hb hK hP 7 1 (by decide) SX_7 rfl (k := b) (by omega) (by decide) d_T_isLater_27 ?_
    refine W.lcmp hx hb d_T_isLater_28 ?_
    refine lv_if_le (tgt := 36) hx hb d_T_isLater_29 (by decide) (fun c_5 => ?_) (fun c_5 => ?_)
    · rw [lg_cmp_le] at c_5
      refine lv_iconst (v := 0) hx hb d_T_isLater_36 (by decide) ?_
      exact W.zret (v := 0) hx hb hr rfl (fun tz hz9 hW9 => ⟨⟨0, M, rfl, ⟨rfl, by simp only [b2i, x_later]; simp_all⟩, by rw [hz9]; exact hP, va_K.moved hW9.alike hK⟩, hS.F hz9⟩) hS.2.2 d_T_isLater_37
    · rw [lg_cmp_le] at c_5
      refine lv_iconst (v := 1) hx hb d_T_isLater_32 (by decide) ?_
      refine lv_goto (tgt := 37) hx hb d_T_isLater_33 (by decide) ?_
      exact W.zret (v := 1) hx hb hr rfl (fun tz hz9 hW9 => ⟨⟨1, M, rfl, ⟨rfl, by simp only [b2i, x_later]; simp_all⟩, by rw [hz9]; exact hP, va_K.moved hW9.alike hK⟩, hS.F hz9⟩) hS.2.2 d_T_isLater_37
end
section
/-! the need-methods: each throws, or gives nothing and changes nothing -/
set_option maxHeartbeats 4000000 in
set_option maxRecDepth 100000 in
/-- needTeller -/
theorem k_X_needTeller (l : Launch) (hl9 : l.stackTraces = false) (D : va_G) (cA : Nat → ClassId) (o sz : Nat) (M : wM) (x : Int32) : vx_Met l y_X_needTeller (wm y_X_needTeller c_X_needTeller 1 (none)) { frames := 6, cells := 1, slots := 6, locals := 82 } (va_Pc [.int x] (xBx D cA o M sz)) (va_Qv (fun M1 => M1 = M ∧ ¬ x < 0 ∧ x < 6) (xQ D cA o) (xA o sz)) (xE D cA o M sz (fun E => E = "java/lang/IndexOutOfBoundsException" ∧ (x < 0 ∨ ¬ x < 6))) 1 6 (xA o sz) := by
  refine vx_ofW (cc := c_X_needTeller) (maxL := 1) (ret := (none)) (by decide) rfl ?_
  intro p e s m args below meth c s₁ B hml hex hv
  obtain ⟨rfl, ⟨hsz, hP, hK⟩, hG⟩ := hv
  have hx := B.exec
  have hb := B.bytes
  have hr := B.returns
  have hts := atoms_spec (ws := wm y_X_needTeller c_X_needTeller 1 (none)) B.pre
  have hown : s.vm.findClass "ShopDesks" = some m.cls := findClass_of_methodNamed B.named
  have hlocks := B.notSynchronized
  subst hsz
  have hout : ∀ pc, ∀ x ∈ c.exceptionTable.toList, covers x pc = false := fun pc x hx => (hex x hx).elim
  have hS : va_S (xA o s.heap.size) s.heap s.heap [] := va_S.rf
  have hW : ∀ i, i < 217 → xA o s.heap.size (o + i) := fun i hi => wA_in hi
  have hl := lv_entry ([.int x]) (n := 1) (Nat.le_of_ble_eq_true rfl)
  rw [lg_entry_eq]
  generalize (lg_sl ([.int x]) ++ List.replicate (1 - (lg_sl ([.int x])).length) Slot.unset).toArray = ls at hl ⊢
  have hl : lv_has ls 1 [(0, .int x)] := hl
  refine lv_iload_n hx hb d_X_needTeller_0 rfl (lv_at hl 0 rfl) ?_
  refine lv_if_lt (tgt := 10) hx hb d_X_needTeller_1 (by decide) (fun c_1 => ?_) (fun c_1 => ?_)
  · have q : x < 0 ∨ ¬ x < 6 := Or.inl c_1
    obtain ⟨sa, hsa⟩ := hG.2.2.1 (225, "there is no such teller") (by decide)
    exact x_throwS (cls := "java/lang/IndexOutOfBoundsException") hx hb hl9 hown (hts _ (al aC_X_100)) (hts _ (al aN_IndexOutOfBoundsException)) hsa (hat_X_104 hts hG) hot_X_104 (by decide) hG hK hP hS (hl.1.trans hml.symm) d_X_needTeller_10 d_X_needTeller_13 d_X_needTeller_14 d_X_needTeller_16 d_X_needTeller_19 (hout _) (Nat.le_of_ble_eq_true rfl) (Nat.le_of_ble_eq_true rfl) (Nat.le_of_ble_eq_true rfl) (Nat.le_of_ble_eq_true rfl) hlocks (⟨rfl, q⟩) (Nat.le_of_ble_eq_true rfl) (Nat.le_of_ble_eq_true rfl)
  · have q1 := c_1
    refine lv_iload_n hx hb d_X_needTeller_4 rfl (lv_at hl 0 rfl) ?_
    refine lv_bipush (v := 6) hx hb d_X_needTeller_5 (by decide) ?_
    refine lv_icmp_lt (tgt := 20) hx hb d_X_needTeller_7 (by decide) (fun c_2 => ?_) (fun c_2 => ?_)
    · have q2 := c_2
      refine vx_ret ?_
      refine W.widen (k := 1) (n := 6) (Nat.le_of_ble_eq_true rfl) (Nat.le_of_ble_eq_true rfl) ?_
      exact W.vret hx hb hr (fun tz hz9 hW9 => ⟨⟨M, rfl, ⟨rfl, q1, q2⟩, by rw [hz9]; exact hP, va_K.moved hW9.alike hK⟩, hS.F hz9⟩) hS.2.2 d_X_needTeller_20
    · have q : x < 0 ∨ ¬ x < 6 := Or.inr c_2
      obtain ⟨sa, hsa⟩ := hG.2.2.1 (225, "there is no such teller") (by decide)
      exact x_throwS (cls := "java/lang/IndexOutOfBoundsException") hx hb hl9 hown (hts _ (al aC_X_100)) (hts _ (al aN_IndexOutOfBoundsException)) hsa (hat_X_104 hts hG) hot_X_104 (by decide) hG hK hP hS (hl.1.trans hml.symm) d_X_needTeller_10 d_X_needTeller_13 d_X_needTeller_14 d_X_needTeller_16 d_X_needTeller_19 (hout _) (Nat.le_of_ble_eq_true rfl) (Nat.le_of_ble_eq_true rfl) (Nat.le_of_ble_eq_true rfl) (Nat.le_of_ble_eq_true rfl) hlocks (⟨rfl, q⟩) (Nat.le_of_ble_eq_true rfl) (Nat.le_of_ble_eq_true rfl)
set_option maxHeartbeats 4000000 in
set_option maxRecDepth 100000 in
/-- needThing -/
theorem k_X_needThing (l : Launch) (hl9 : l.stackTraces = false) (D : va_G) (cA : Nat → ClassId) (o sz : Nat) (M : wM) (x : Int32) : vx_Met l y_X_needThing (wm y_X_needThing c_X_needThing 1 (none)) { frames := 6, cells := 1, slots := 6, locals := 82 } (va_Pc [.int x] (xBx D cA o M sz)) (va_Qv (fun M1 => M1 = M ∧ ¬ x < 0 ∧ x < 10) (xQ D cA o) (xA o sz)) (xE D cA o M sz (fun E => E = "java/lang/IndexOutOfBoundsException" ∧ (x < 0 ∨ ¬ x < 10))) 1 6 (xA o sz) := by
  refine vx_ofW (cc := c_X_needThing) (maxL := 1) (ret := (none)) (by decide) rfl ?_
  intro p e s m args below meth c s₁ B hml hex hv
  obtain ⟨rfl, ⟨hsz, hP, hK⟩, hG⟩ := hv
  have hx := B.exec
  have hb := B.bytes
  have hr := B.returns
  have hts := atoms_spec (ws := wm y_X_needThing c_X_needThing 1 (none)) B.pre
  have hown : s.vm.findClass "ShopDesks" = some m.cls := findClass_of_methodNamed B.named
  have hlocks := B.notSynchronized
  subst hsz
  have hout : ∀ pc, ∀ x ∈ c.exceptionTable.toList, covers x pc = false := fun pc x hx => (hex x hx).elim
  have hS : va_S (xA o s.heap.size) s.heap s.heap [] := va_S.rf
  have hW : ∀ i, i < 217 → xA o s.heap.size (o + i) := fun i hi => wA_in hi
  have hl := lv_entry ([.int x]) (n := 1) (Nat.le_of_ble_eq_true rfl)
  rw [lg_entry_eq]
  generalize (lg_sl ([.int x]) ++ List.replicate (1 - (lg_sl ([.int x])).length) Slot.unset).toArray = ls at hl ⊢
  have hl : lv_has ls 1 [(0, .int x)] := hl
  refine lv_iload_n hx hb d_X_needThing_0 rfl (lv_at hl 0 rfl) ?_
  refine lv_if_lt (tgt := 10) hx hb d_X_needThing_1 (by decide) (fun c_1 => ?_) (fun c_1 => ?_)
  · have q : x < 0 ∨ ¬ x < 10 := Or.inl c_1
    obtain ⟨sa, hsa⟩ := hG.2.2.1 (227, "there is no such thing") (by decide)
    exact x_throwS (cls := "java/lang/IndexOutOfBoundsException") hx hb hl9 hown (hts _ (al aC_X_100)) (hts _ (al aN_IndexOutOfBoundsException)) hsa (hat_X_104 hts hG) hot_X_104 (by decide) hG hK hP hS (hl.1.trans hml.symm) d_X_needThing_10 d_X_needThing_13 d_X_needThing_14 d_X_needThing_16 d_X_needThing_19 (hout _) (Nat.le_of_ble_eq_true rfl) (Nat.le_of_ble_eq_true rfl) (Nat.le_of_ble_eq_true rfl) (Nat.le_of_ble_eq_true rfl) hlocks (⟨rfl, q⟩) (Nat.le_of_ble_eq_true rfl) (Nat.le_of_ble_eq_true rfl)
  · have q1 := c_1
    refine lv_iload_n hx hb d_X_needThing_4 rfl (lv_at hl 0 rfl) ?_
    refine lv_bipush (v := 10) hx hb d_X_needThing_5 (by decide) ?_
    refine lv_icmp_lt (tgt := 20) hx hb d_X_needThing_7 (by decide) (fun c_2 => ?_) (fun c_2 => ?_)
    · have q2 := c_2
      refine vx_ret ?_
      refine W.widen (k := 1) (n := 6) (Nat.le_of_ble_eq_true rfl) (Nat.le_of_ble_eq_true rfl) ?_
      exact W.vret hx hb hr (fun tz hz9 hW9 => ⟨⟨M, rfl, ⟨rfl, q1, q2⟩, by rw [hz9]; exact hP, va_K.moved hW9.alike hK⟩, hS.F hz9⟩) hS.2.2 d_X_needThing_20
    · have q : x < 0 ∨ ¬ x < 10 := Or.inr c_2
      obtain ⟨sa, hsa⟩ := hG.2.2.1 (227, "there is no such thing") (by decide)
      exact x_throwS (cls := "java/lang/IndexOutOfBoundsException") hx hb hl9 hown (hts _ (al aC_X_100)) (hts _ (al aN_IndexOutOfBoundsException)) hsa (hat_X_104 hts hG) hot_X_104 (by decide) hG hK hP hS (hl.1.trans hml.symm) d_X_needThing_10 d_X_needThing_13 d_X_needThing_14 d_X_needThing_16 d_X_needThing_19 (hout _) (Nat.le_of_ble_eq_true rfl) (Nat.le_of_ble_eq_true rfl) (Nat.le_of_ble_eq_true rfl) (Nat.le_of_ble_eq_true rfl) hlocks (⟨rfl, q⟩) (Nat.le_of_ble_eq_true rfl) (Nat.le_of_ble_eq_true rfl)
set_option maxHeartbeats 4000000 in
set_option maxRecDepth 100000 in
/-- needKind -/
theorem k_X_needKind (l : Launch) (hl9 : l.stackTraces = false) (D : va_G) (cA : Nat → ClassId) (o sz : Nat) (M : wM) (x : Int32) : vx_Met l y_X_needKind (wm y_X_needKind c_X_needKind 1 (none)) { frames := 6, cells := 1, slots := 6, locals := 82 } (va_Pc [.int x] (xBx D cA o M sz)) (va_Qv (fun M1 => M1 = M ∧ ¬ x < 0 ∧ x < 4) (xQ D cA o) (xA o sz)) (xE D cA o M sz (fun E => E = "java/lang/IllegalArgumentException" ∧ (x < 0 ∨ ¬ x < 4))) 1 6 (xA o sz) := by
  refine vx_ofW (cc := c_X_needKind) (maxL := 1) (ret := (none)) (by decide) rfl ?_
  intro p e s m args below meth c s₁ B hml hex hv
  obtain ⟨rfl, ⟨hsz, hP, hK⟩, hG⟩ := hv
  have hx := B.exec
  have hb := B.bytes
  have hr := B.returns
  have hts := atoms_spec (ws := wm y_X_needKind c_X_needKind 1 (none)) B.pre
  have hown : s.vm.findClass "ShopDesks" = some m.cls := findClass_of_methodNamed B.named
  have hlocks := B.notSynchronized
  subst hsz
  have hout : ∀ pc, ∀ x ∈ c.exceptionTable.toList, covers x pc = false := fun pc x hx => (hex x hx).elim
  have hS : va_S (xA o s.heap.size) s.heap s.heap [] := va_S.rf
  have hW : ∀ i, i < 217 → xA o s.heap.size (o + i) := fun i hi => wA_in hi
  have hl := lv_entry ([.int x]) (n := 1) (Nat.le_of_ble_eq_true rfl)
  rw [lg_entry_eq]
  generalize (lg_sl ([.int x]) ++ List.replicate (1 - (lg_sl ([.int x])).length) Slot.unset).toArray = ls at hl ⊢
  have hl : lv_has ls 1 [(0, .int x)] := hl
  refine lv_iload_n hx hb d_X_needKind_0 rfl (lv_at hl 0 rfl) ?_
  refine lv_if_lt (tgt := 9) hx hb d_X_needKind_1 (by decide) (fun c_1 => ?_) (fun c_1 => ?_)
  · have q : x < 0 ∨ ¬ x < 4 := Or.inl c_1
    obtain ⟨sa, hsa⟩ := hG.2.2.1 (229, "there is no such kind") (by decide)
    exact x_throwS (cls := "java/lang/IllegalArgumentException") hx hb hl9 hown (hts _ (al aC_X_91)) (hts _ (al aN_IllegalArgumentException)) hsa (hat_X_95 hts hG) hot_X_95 (by decide) hG hK hP hS (hl.1.trans hml.symm) d_X_needKind_9 d_X_needKind_12 d_X_needKind_13 d_X_needKind_15 d_X_needKind_18 (hout _) (Nat.le_of_ble_eq_true rfl) (Nat.le_of_ble_eq_true rfl) (Nat.le_of_ble_eq_true rfl) (Nat.le_of_ble_eq_true rfl) hlocks (⟨rfl, q⟩) (Nat.le_of_ble_eq_true rfl) (Nat.le_of_ble_eq_true rfl)
  · have q1 := c_1
    refine lv_iload_n hx hb d_X_needKind_4 rfl (lv_at hl 0 rfl) ?_
    refine lv_iconst (v := 4) hx hb d_X_needKind_5 (by decide) ?_
    refine lv_icmp_lt (tgt := 19) hx hb d_X_needKind_6 (by decide) (fun c_2 => ?_) (fun c_2 => ?_)
    · have q2 := c_2
      refine vx_ret ?_
      refine W.widen (k := 1) (n := 6) (Nat.le_of_ble_eq_true rfl) (Nat.le_of_ble_eq_true rfl) ?_
      exact W.vret hx hb hr (fun tz hz9 hW9 => ⟨⟨M, rfl, ⟨rfl, q1, q2⟩, by rw [hz9]; exact hP, va_K.moved hW9.alike hK⟩, hS.F hz9⟩) hS.2.2 d_X_needKind_19
    · have q : x < 0 ∨ ¬ x < 4 := Or.inr c_2
      obtain ⟨sa, hsa⟩ := hG.2.2.1 (229, "there is no such kind") (by decide)
      exact x_throwS (cls := "java/lang/IllegalArgumentException") hx hb hl9 hown (hts _ (al aC_X_91)) (hts _ (al aN_IllegalArgumentException)) hsa (hat_X_95 hts hG) hot_X_95 (by decide) hG hK hP hS (hl.1.trans hml.symm) d_X_needKind_9 d_X_needKind_12 d_X_needKind_13 d_X_needKind_15 d_X_needKind_18 (hout _) (Nat.le_of_ble_eq_true rfl) (Nat.le_of_ble_eq_true rfl) (Nat.le_of_ble_eq_true rfl) (Nat.le_of_ble_eq_true rfl) hlocks (⟨rfl, q⟩) (Nat.le_of_ble_eq_true rfl) (Nat.le_of_ble_eq_true rfl)
set_option maxHeartbeats 4000000 in
set_option maxRecDepth 100000 in
/-- needPerson -/
theorem k_X_needPerson (l : Launch) (hl9 : l.stackTraces = false) (D : va_G) (cA : Nat → ClassId) (o sz : Nat) (M : wM) (x : Int32) : vx_Met l y_X_needPerson (wm y_X_needPerson c_X_needPerson 1 (none)) { frames := 6, cells := 1, slots := 6, locals := 82 } (va_Pc [.int x] (xBx D cA o M sz)) (va_Qv (fun M1 => M1 = M ∧ ¬ x < 0 ∧ x < 4) (xQ D cA o) (xA o sz)) (xE D cA o M sz (fun E => E = "java/lang/IndexOutOfBoundsException" ∧ (x < 0 ∨ ¬ x < 4))) 1 6 (xA o sz) := by
  refine vx_ofW (cc := c_X_needPerson) (maxL := 1) (ret := (none)) (by decide) rfl ?_
  intro p e s m args below meth c s₁ B hml hex hv
  obtain ⟨rfl, ⟨hsz, hP, hK⟩, hG⟩ := hv
  have hx := B.exec
  have hb := B.bytes
  have hr := B.returns
  have hts := atoms_spec (ws := wm y_X_needPerson c_X_needPerson 1 (none)) B.pre
  have hown : s.vm.findClass "ShopDesks" = some m.cls := findClass_of_methodNamed B.named
  have hlocks := B.notSynchronized
  subst hsz
  have hout : ∀ pc, ∀ x ∈ c.exceptionTable.toList, covers x pc = false := fun pc x hx => (hex x hx).elim
  have hS : va_S (xA o s.heap.size) s.heap s.heap [] := va_S.rf
  have hW : ∀ i, i < 217 → xA o s.heap.size (o + i) := fun i hi => wA_in hi
  have hl := lv_entry ([.int x]) (n := 1) (Nat.le_of_ble_eq_true rfl)
  rw [lg_entry_eq]
  generalize (lg_sl ([.int x]) ++ List.replicate (1 - (lg_sl ([.int x])).length) Slot.unset).toArray = ls at hl ⊢
  have hl : lv_has ls 1 [(0, .int x)] := hl
  refine lv_iload_n hx hb d_X_needPerson_0 rfl (lv_at hl 0 rfl) ?_
  refine lv_if_lt (tgt := 9) hx hb d_X_needPerson_1 (by decide) (fun c_1 => ?_) (fun c_1 => ?_)
  · have q : x < 0 ∨ ¬ x < 4 := Or.inl c_1
    obtain ⟨sa, hsa⟩ := hG.2.2.1 (231, "there is no such person") (by decide)
    exact x_throwS (cls := "java/lang/IndexOutOfBoundsException") hx hb hl9 hown (hts _ (al aC_X_100)) (hts _ (al aN_IndexOutOfBoundsException)) hsa (hat_X_104 hts hG) hot_X_104 (by decide) hG hK hP hS (hl.1.trans hml.symm) d_X_needPerson_9 d_X_needPerson_12 d_X_needPerson_13 d_X_needPerson_15 d_X_needPerson_18 (hout _) (Nat.le_of_ble_eq_true rfl) (Nat.le_of_ble_eq_true rfl) (Nat.le_of_ble_eq_true rfl) (Nat.le_of_ble_eq_true rfl) hlocks (⟨rfl, q⟩) (Nat.le_of_ble_eq_true rfl) (Nat.le_of_ble_eq_true rfl)
  · have q1 := c_1
    refine lv_iload_n hx hb d_X_needPerson_4 rfl (lv_at hl 0 rfl) ?_
    refine lv_iconst (v := 4) hx hb d_X_needPerson_5 (by decide) ?_
    refine lv_icmp_lt (tgt := 19) hx hb d_X_needPerson_6 (by decide) (fun c_2 => ?_) (fun c_2 => ?_)
    · have q2 := c_2
      refine vx_ret ?_
      refine W.widen (k := 1) (n := 6) (Nat.le_of_ble_eq_true rfl) (Nat.le_of_ble_eq_true rfl) ?_
      exact W.vret hx hb hr (fun tz hz9 hW9 => ⟨⟨M, rfl, ⟨rfl, q1, q2⟩, by rw [hz9]; exact hP, va_K.moved hW9.alike hK⟩, hS.F hz9⟩) hS.2.2 d_X_needPerson_19
    · have q : x < 0 ∨ ¬ x < 4 := Or.inr c_2
      obtain ⟨sa, hsa⟩ := hG.2.2.1 (231, "there is no such person") (by decide)
      exact x_throwS (cls := "java/lang/IndexOutOfBoundsException") hx hb hl9 hown (hts _ (al aC_X_100)) (hts _ (al aN_IndexOutOfBoundsException)) hsa (hat_X_104 hts hG) hot_X_104 (by decide) hG hK hP hS (hl.1.trans hml.symm) d_X_needPerson_9 d_X_needPerson_12 d_X_needPerson_13 d_X_needPerson_15 d_X_needPerson_18 (hout _) (Nat.le_of_ble_eq_true rfl) (Nat.le_of_ble_eq_true rfl) (Nat.le_of_ble_eq_true rfl) (Nat.le_of_ble_eq_true rfl) hlocks (⟨rfl, q⟩) (Nat.le_of_ble_eq_true rfl) (Nat.le_of_ble_eq_true rfl)
set_option maxHeartbeats 4000000 in
set_option maxRecDepth 100000 in
/-- needAccount -/
theorem k_X_needAccount (l : Launch) (hl9 : l.stackTraces = false) (D : va_G) (cA : Nat → ClassId) (o sz : Nat) (M : wM) (x : Int32) : vx_Met l y_X_needAccount (wm y_X_needAccount c_X_needAccount 1 (none)) { frames := 6, cells := 1, slots := 6, locals := 82 } (va_Pc [.int x] (xBx D cA o M sz)) (va_Qv (fun M1 => M1 = M ∧ ¬ x < 0 ∧ x < 10) (xQ D cA o) (xA o sz)) (xE D cA o M sz (fun E => E = "java/lang/IndexOutOfBoundsException" ∧ (x < 0 ∨ ¬ x < 10))) 1 6 (xA o sz) := by
  refine vx_ofW (cc := c_X_needAccount) (maxL := 1) (ret := (none)) (by decide) rfl ?_
  intro p e s m args below meth c s₁ B hml hex hv
  obtain ⟨rfl, ⟨hsz, hP, hK⟩, hG⟩ := hv
  have hx := B.exec
  have hb := B.bytes
  have hr := B.returns
  have hts := atoms_spec (ws := wm y_X_needAccount c_X_needAccount 1 (none)) B.pre
  have hown : s.vm.findClass "ShopDesks" = some m.cls := findClass_of_methodNamed B.named
  have hlocks := B.notSynchronized
  subst hsz
  have hout : ∀ pc, ∀ x ∈ c.exceptionTable.toList, covers x pc = false := fun pc x hx => (hex x hx).elim
  have hS : va_S (xA o s.heap.size) s.heap s.heap [] := va_S.rf
  have hW : ∀ i, i < 217 → xA o s.heap.size (o + i) := fun i hi => wA_in hi
  have hl := lv_entry ([.int x]) (n := 1) (Nat.le_of_ble_eq_true rfl)
  rw [lg_entry_eq]
  generalize (lg_sl ([.int x]) ++ List.replicate (1 - (lg_sl ([.int x])).length) Slot.unset).toArray = ls at hl ⊢
  have hl : lv_has ls 1 [(0, .int x)] := hl
  refine lv_iload_n hx hb d_X_needAccount_0 rfl (lv_at hl 0 rfl) ?_
  refine lv_if_lt (tgt := 10) hx hb d_X_needAccount_1 (by decide) (fun c_1 => ?_) (fun c_1 => ?_)
  · have q : x < 0 ∨ ¬ x < 10 := Or.inl c_1
    obtain ⟨sa, hsa⟩ := hG.2.2.1 (233, "there is no such account") (by decide)
    exact x_throwS (cls := "java/lang/IndexOutOfBoundsException") hx hb hl9 hown (hts _ (al aC_X_100)) (hts _ (al aN_IndexOutOfBoundsException)) hsa (hat_X_104 hts hG) hot_X_104 (by decide) hG hK hP hS (hl.1.trans hml.symm) d_X_needAccount_10 d_X_needAccount_13 d_X_needAccount_14 d_X_needAccount_16 d_X_needAccount_19 (hout _) (Nat.le_of_ble_eq_true rfl) (Nat.le_of_ble_eq_true rfl) (Nat.le_of_ble_eq_true rfl) (Nat.le_of_ble_eq_true rfl) hlocks (⟨rfl, q⟩) (Nat.le_of_ble_eq_true rfl) (Nat.le_of_ble_eq_true rfl)
  · have q1 := c_1
    refine lv_iload_n hx hb d_X_needAccount_4 rfl (lv_at hl 0 rfl) ?_
    refine lv_bipush (v := 10) hx hb d_X_needAccount_5 (by decide) ?_
    refine lv_icmp_lt (tgt := 20) hx hb d_X_needAccount_7 (by decide) (fun c_2 => ?_) (fun c_2 => ?_)
    · have q2 := c_2
      refine vx_ret ?_
      refine W.widen (k := 1) (n := 6) (Nat.le_of_ble_eq_true rfl) (Nat.le_of_ble_eq_true rfl) ?_
      exact W.vret hx hb hr (fun tz hz9 hW9 => ⟨⟨M, rfl, ⟨rfl, q1, q2⟩, by rw [hz9]; exact hP, va_K.moved hW9.alike hK⟩, hS.F hz9⟩) hS.2.2 d_X_needAccount_20
    · have q : x < 0 ∨ ¬ x < 10 := Or.inr c_2
      obtain ⟨sa, hsa⟩ := hG.2.2.1 (233, "there is no such account") (by decide)
      exact x_throwS (cls := "java/lang/IndexOutOfBoundsException") hx hb hl9 hown (hts _ (al aC_X_100)) (hts _ (al aN_IndexOutOfBoundsException)) hsa (hat_X_104 hts hG) hot_X_104 (by decide) hG hK hP hS (hl.1.trans hml.symm) d_X_needAccount_10 d_X_needAccount_13 d_X_needAccount_14 d_X_needAccount_16 d_X_needAccount_19 (hout _) (Nat.le_of_ble_eq_true rfl) (Nat.le_of_ble_eq_true rfl) (Nat.le_of_ble_eq_true rfl) (Nat.le_of_ble_eq_true rfl) hlocks (⟨rfl, q⟩) (Nat.le_of_ble_eq_true rfl) (Nat.le_of_ble_eq_true rfl)
set_option maxHeartbeats 4000000 in
set_option maxRecDepth 100000 in
/-- needDay -/
theorem k_X_needDay (l : Launch) (hl9 : l.stackTraces = false) (D : va_G) (cA : Nat → ClassId) (o sz : Nat) (M : wM) (x : Int32) : vx_Met l y_X_needDay (wm y_X_needDay c_X_needDay 1 (none)) { frames := 6, cells := 1, slots := 6, locals := 82 } (va_Pc [.int x] (xBx D cA o M sz)) (va_Qv (fun M1 => M1 = M ∧ ¬ x < 0 ∧ x < 3600) (xQ D cA o) (xA o sz)) (xE D cA o M sz (fun E => E = "java/lang/IllegalArgumentException" ∧ (x < 0 ∨ ¬ x < 3600))) 1 6 (xA o sz) := by
  refine vx_ofW (cc := c_X_needDay) (maxL := 1) (ret := (none)) (by decide) rfl ?_
  intro p e s m args below meth c s₁ B hml hex hv
  obtain ⟨rfl, ⟨hsz, hP, hK⟩, hG⟩ := hv
  have hx := B.exec
  have hb := B.bytes
  have hr := B.returns
  have hts := atoms_spec (ws := wm y_X_needDay c_X_needDay 1 (none)) B.pre
  have hown : s.vm.findClass "ShopDesks" = some m.cls := findClass_of_methodNamed B.named
  have hlocks := B.notSynchronized
  subst hsz
  have hout : ∀ pc, ∀ x ∈ c.exceptionTable.toList, covers x pc = false := fun pc x hx => (hex x hx).elim
  have hS : va_S (xA o s.heap.size) s.heap s.heap [] := va_S.rf
  have hW : ∀ i, i < 217 → xA o s.heap.size (o + i) := fun i hi => wA_in hi
  have hl := lv_entry ([.int x]) (n := 1) (Nat.le_of_ble_eq_true rfl)
  rw [lg_entry_eq]
  generalize (lg_sl ([.int x]) ++ List.replicate (1 - (lg_sl ([.int x])).length) Slot.unset).toArray = ls at hl ⊢
  have hl : lv_has ls 1 [(0, .int x)] := hl
  refine lv_iload_n hx hb d_X_needDay_0 rfl (lv_at hl 0 rfl) ?_
  refine lv_if_lt (tgt := 11) hx hb d_X_needDay_1 (by decide) (fun c_1 => ?_) (fun c_1 => ?_)
  · have q : x < 0 ∨ ¬ x < 3600 := Or.inl c_1
    obtain ⟨sa, hsa⟩ := hG.2.2.1 (235, "day is not 0 .. 3599") (by decide)
    exact x_throwS (cls := "java/lang/IllegalArgumentException") hx hb hl9 hown (hts _ (al aC_X_91)) (hts _ (al aN_IllegalArgumentException)) hsa (hat_X_95 hts hG) hot_X_95 (by decide) hG hK hP hS (hl.1.trans hml.symm) d_X_needDay_11 d_X_needDay_14 d_X_needDay_15 d_X_needDay_17 d_X_needDay_20 (hout _) (Nat.le_of_ble_eq_true rfl) (Nat.le_of_ble_eq_true rfl) (Nat.le_of_ble_eq_true rfl) (Nat.le_of_ble_eq_true rfl) hlocks (⟨rfl, q⟩) (Nat.le_of_ble_eq_true rfl) (Nat.le_of_ble_eq_true rfl)
  · have q1 := c_1
    refine lv_iload_n hx hb d_X_needDay_4 rfl (lv_at hl 0 rfl) ?_
    refine lv_sipush (v := 3600) hx hb d_X_needDay_5 (by decide) ?_
    refine lv_icmp_lt (tgt := 21) hx hb d_X_needDay_8 (by decide) (fun c_2 => ?_) (fun c_2 => ?_)
    · have q2 := c_2
      refine vx_ret ?_
      refine W.widen (k := 1) (n := 6) (Nat.le_of_ble_eq_true rfl) (Nat.le_of_ble_eq_true rfl) ?_
      exact W.vret hx hb hr (fun tz hz9 hW9 => ⟨⟨M, rfl, ⟨rfl, q1, q2⟩, by rw [hz9]; exact hP, va_K.moved hW9.alike hK⟩, hS.F hz9⟩) hS.2.2 d_X_needDay_21
    · have q : x < 0 ∨ ¬ x < 3600 := Or.inr c_2
      obtain ⟨sa, hsa⟩ := hG.2.2.1 (235, "day is not 0 .. 3599") (by decide)
      exact x_throwS (cls := "java/lang/IllegalArgumentException") hx hb hl9 hown (hts _ (al aC_X_91)) (hts _ (al aN_IllegalArgumentException)) hsa (hat_X_95 hts hG) hot_X_95 (by decide) hG hK hP hS (hl.1.trans hml.symm) d_X_needDay_11 d_X_needDay_14 d_X_needDay_15 d_X_needDay_17 d_X_needDay_20 (hout _) (Nat.le_of_ble_eq_true rfl) (Nat.le_of_ble_eq_true rfl) (Nat.le_of_ble_eq_true rfl) (Nat.le_of_ble_eq_true rfl) hlocks (⟨rfl, q⟩) (Nat.le_of_ble_eq_true rfl) (Nat.le_of_ble_eq_true rfl)
set_option maxHeartbeats 4000000 in
set_option maxRecDepth 100000 in
/-- needSet -/
theorem k_X_needSet (l : Launch) (hl9 : l.stackTraces = false) (D : va_G) (cA : Nat → ClassId) (o sz : Nat) (M : wM) (x : Int32) : vx_Met l y_X_needSet (wm y_X_needSet c_X_needSet 2 (none)) { frames := 6, cells := 1, slots := 6, locals := 82 } (va_Pc [.ref (o + 0), .int x] (xBx D cA o M sz)) (va_Qv (fun M1 => M1 = M ∧ ¬ x < 0 ∧ x < M.2.2 0 2) (xQ D cA o) (xA o sz)) (xE D cA o M sz (fun E => E = "java/lang/IndexOutOfBoundsException" ∧ (x < 0 ∨ ¬ x < M.2.2 0 2))) 1 6 (xA o sz) := by
  refine vx_ofW (cc := c_X_needSet) (maxL := 2) (ret := (none)) (by decide) rfl ?_
  intro p e s m args below meth c s₁ B hml hex hv
  obtain ⟨rfl, ⟨hsz, hP, hK⟩, hG⟩ := hv
  have hx := B.exec
  have hb := B.bytes
  have hr := B.returns
  have hts := atoms_spec (ws := wm y_X_needSet c_X_needSet 2 (none)) B.pre
  have hown : s.vm.findClass "ShopDesks" = some m.cls := findClass_of_methodNamed B.named
  have hlocks := B.notSynchronized
  subst hsz
  have hout : ∀ pc, ∀ x ∈ c.exceptionTable.toList, covers x pc = false := fun pc x hx => (hex x hx).elim
  have hS : va_S (xA o s.heap.size) s.heap s.heap [] := va_S.rf
  have hW : ∀ i, i < 217 → xA o s.heap.size (o + i) := fun i hi => wA_in hi
  have hl := lv_entry ([.ref (o + 0), .int x]) (n := 2) (Nat.le_of_ble_eq_true rfl)
  rw [lg_entry_eq]
  generalize (lg_sl ([.ref (o + 0), .int x]) ++ List.replicate (2 - (lg_sl ([.ref (o + 0), .int x])).length) Slot.unset).toArray = ls at hl ⊢
  have hl : lv_has ls 2 [(0, .ref (o + 0)), (1, .int x)] := hl
  refine lv_iload_n hx hb d_X_needSet_0 rfl (lv_at hl 1 rfl) ?_
  refine lv_if_lt (tgt := 12) hx hb d_X_needSet_1 (by decide) (fun c_1 => ?_) (fun c_1 => ?_)
  · have q : x < 0 ∨ ¬ x < M.2.2 0 2 := Or.inl c_1
    obtain ⟨sa, hsa⟩ := hG.2.2.1 (237, "there is no such set") (by decide)
    exact x_throwS (cls := "java/lang/IndexOutOfBoundsException") hx hb hl9 hown (hts _ (al aC_X_100)) (hts _ (al aN_IndexOutOfBoundsException)) hsa (hat_X_104 hts hG) hot_X_104 (by decide) hG hK hP hS (hl.1.trans hml.symm) d_X_needSet_12 d_X_needSet_15 d_X_needSet_16 d_X_needSet_18 d_X_needSet_21 (hout _) (Nat.le_of_ble_eq_true rfl) (Nat.le_of_ble_eq_true rfl) (Nat.le_of_ble_eq_true rfl) (Nat.le_of_ble_eq_true rfl) hlocks (⟨rfl, q⟩) (Nat.le_of_ble_eq_true rfl) (Nat.le_of_ble_eq_true rfl)
  · have q1 := c_1
    refine lv_iload_n hx hb d_X_needSet_4 rfl (lv_at hl 1 rfl) ?_
    refine lv_aload_n hx hb d_X_needSet_5 rfl (lv_at hl 0 rfl) ?_
    refine w_get (C := R_X) (T := F_X) (N := 5) (ci := 4) (v := .int (M.2.2 0 2)) hx hb hts inw_X hown hK hP 0 (by decide) SX_0 rfl 2 (by decide) (hts _ (al aF_X_25)) rfl d_X_needSet_6 ?_
    refine lv_icmp_lt (tgt := 22) hx hb d_X_needSet_9 (by decide) (fun c_2 => ?_) (fun c_2 => ?_)
    · have q2 := c_2
      refine vx_ret ?_
      refine W.widen (k := 1) (n := 6) (Nat.le_of_ble_eq_true rfl) (Nat.le_of_ble_eq_true rfl) ?_
      exact W.vret hx hb hr (fun tz hz9 hW9 => ⟨⟨M, rfl, ⟨rfl, q1, q2⟩, by rw [hz9]; exact hP, va_K.moved hW9.alike hK⟩, hS.F hz9⟩) hS.2.2 d_X_needSet_22
    · have q : x < 0 ∨ ¬ x < M.2.2 0 2 := Or.inr c_2
      obtain ⟨sa, hsa⟩ := hG.2.2.1 (237, "there is no such set") (by decide)
      exact x_throwS (cls := "java/lang/IndexOutOfBoundsException") hx hb hl9 hown (hts _ (al aC_X_100)) (hts _ (al aN_IndexOutOfBoundsException)) hsa (hat_X_104 hts hG) hot_X_104 (by decide) hG hK hP hS (hl.1.trans hml.symm) d_X_needSet_12 d_X_needSet_15 d_X_needSet_16 d_X_needSet_18 d_X_needSet_21 (hout _) (Nat.le_of_ble_eq_true rfl) (Nat.le_of_ble_eq_true rfl) (Nat.le_of_ble_eq_true rfl) (Nat.le_of_ble_eq_true rfl) hlocks (⟨rfl, q⟩) (Nat.le_of_ble_eq_true rfl) (Nat.le_of_ble_eq_true rfl)
set_option maxHeartbeats 4000000 in
set_option maxRecDepth 100000 in
/-- needEntry -/
theorem k_X_needEntry (l : Launch) (hl9 : l.stackTraces = false) (D : va_G) (cA : Nat → ClassId) (o sz : Nat) (M : wM) (x : Int32) : vx_Met l y_X_needEntry (wm y_X_needEntry c_X_needEntry 2 (none)) { frames := 6, cells := 1, slots := 6, locals := 82 } (va_Pc [.ref (o + 0), .int x] (xBx D cA o M sz)) (va_Qv (fun M1 => M1 = M ∧ ¬ x < 0 ∧ x < M.2.2 34 2) (xQ D cA o) (xA o sz)) (xE D cA o M sz (fun E => E = "java/lang/IndexOutOfBoundsException" ∧ (x < 0 ∨ ¬ x < M.2.2 34 2))) 1 6 (xA o sz) := by
  refine vx_ofW (cc := c_X_needEntry) (maxL := 2) (ret := (none)) (by decide) rfl ?_
  intro p e s m args below meth c s₁ B hml hex hv
  obtain ⟨rfl, ⟨hsz, hP, hK⟩, hG⟩ := hv
  have hx := B.exec
  have hb := B.bytes
  have hr := B.returns
  have hts := atoms_spec (ws := wm y_X_needEntry c_X_needEntry 2 (none)) B.pre
  have hown : s.vm.findClass "ShopDesks" = some m.cls := findClass_of_methodNamed B.named
  have hlocks := B.notSynchronized
  subst hsz
  have hout : ∀ pc, ∀ x ∈ c.exceptionTable.toList, covers x pc = false := fun pc x hx => (hex x hx).elim
  have hS : va_S (xA o s.heap.size) s.heap s.heap [] := va_S.rf
  have hW : ∀ i, i < 217 → xA o s.heap.size (o + i) := fun i hi => wA_in hi
  have hl := lv_entry ([.ref (o + 0), .int x]) (n := 2) (Nat.le_of_ble_eq_true rfl)
  rw [lg_entry_eq]
  generalize (lg_sl ([.ref (o + 0), .int x]) ++ List.replicate (2 - (lg_sl ([.ref (o + 0), .int x])).length) Slot.unset).toArray = ls at hl ⊢
  have hl : lv_has ls 2 [(0, .ref (o + 0)), (1, .int x)] := hl
  refine lv_iload_n hx hb d_X_needEntry_0 rfl (lv_at hl 1 rfl) ?_
  refine lv_if_lt (tgt := 15) hx hb d_X_needEntry_1 (by decide) (fun c_1 => ?_) (fun c_1 => ?_)
  · have q : x < 0 ∨ ¬ x < M.2.2 34 2 := Or.inl c_1
    obtain ⟨sa, hsa⟩ := hG.2.2.1 (242, "there is no such entry") (by decide)
    exact x_throwS (cls := "java/lang/IndexOutOfBoundsException") hx hb hl9 hown (hts _ (al aC_X_100)) (hts _ (al aN_IndexOutOfBoundsException)) hsa (hat_X_104 hts hG) hot_X_104 (by decide) hG hK hP hS (hl.1.trans hml.symm) d_X_needEntry_15 d_X_needEntry_18 d_X_needEntry_19 d_X_needEntry_21 d_X_needEntry_24 (hout _) (Nat.le_of_ble_eq_true rfl) (Nat.le_of_ble_eq_true rfl) (Nat.le_of_ble_eq_true rfl) (Nat.le_of_ble_eq_true rfl) hlocks (⟨rfl, q⟩) (Nat.le_of_ble_eq_true rfl) (Nat.le_of_ble_eq_true rfl)
  · have q1 := c_1
    refine lv_iload_n hx hb d_X_needEntry_4 rfl (lv_at hl 1 rfl) ?_
    refine lv_aload_n hx hb d_X_needEntry_5 rfl (lv_at hl 0 rfl) ?_
    refine w_get (C := R_X) (T := F_X) (N := 5) (ci := 4) (v := .ref (o + 34)) hx hb hts inw_X hown hK hP 0 (by decide) SX_0 rfl 4 (by decide) (hts _ (al aF_X_36)) rfl d_X_needEntry_6 ?_
    refine w_get (C := R_L) (T := F_L) (N := 5) (ci := 1) (v := .int (M.2.2 34 2)) hx hb hts inw_L hown hK hP 34 (by decide) SX_34 rfl 2 (by decide) (hts _ (al aF_X_239)) rfl d_X_needEntry_9 ?_
    refine lv_icmp_lt (tgt := 25) hx hb d_X_needEntry_12 (by decide) (fun c_2 => ?_) (fun c_2 => ?_)
    · have q2 := c_2
      refine vx_ret ?_
      refine W.widen (k := 1) (n := 6) (Nat.le_of_ble_eq_true rfl) (Nat.le_of_ble_eq_true rfl) ?_
      exact W.vret hx hb hr (fun tz hz9 hW9 => ⟨⟨M, rfl, ⟨rfl, q1, q2⟩, by rw [hz9]; exact hP, va_K.moved hW9.alike hK⟩, hS.F hz9⟩) hS.2.2 d_X_needEntry_25
    · have q : x < 0 ∨ ¬ x < M.2.2 34 2 := Or.inr c_2
      obtain ⟨sa, hsa⟩ := hG.2.2.1 (242, "there is no such entry") (by decide)
      exact x_throwS (cls := "java/lang/IndexOutOfBoundsException") hx hb hl9 hown (hts _ (al aC_X_100)) (hts _ (al aN_IndexOutOfBoundsException)) hsa (hat_X_104 hts hG) hot_X_104 (by decide) hG hK hP hS (hl.1.trans hml.symm) d_X_needEntry_15 d_X_needEntry_18 d_X_needEntry_19 d_X_needEntry_21 d_X_needEntry_24 (hout _) (Nat.le_of_ble_eq_true rfl) (Nat.le_of_ble_eq_true rfl) (Nat.le_of_ble_eq_true rfl) (Nat.le_of_ble_eq_true rfl) hlocks (⟨rfl, q⟩) (Nat.le_of_ble_eq_true rfl) (Nat.le_of_ble_eq_true rfl)
set_option maxHeartbeats 4000000 in
set_option maxRecDepth 100000 in
/-- needRoomForEntry -/
theorem k_X_needRoomForEntry (l : Launch) (hl9 : l.stackTraces = false) (D : va_G) (cA : Nat → ClassId) (o sz : Nat) (M : wM)  : vx_Met l y_X_needRoomForEntry (wm y_X_needRoomForEntry c_X_needRoomForEntry 1 (none)) { frames := 6, cells := 1, slots := 6, locals := 82 } (va_Pc [.ref (o + 0)] (xBx D cA o M sz)) (va_Qv (fun M1 => M1 = M ∧ M.2.2 34 2 < 60) (xQ D cA o) (xA o sz)) (xE D cA o M sz (fun E => E = "java/lang/IllegalStateException" ∧ ¬ M.2.2 34 2 < 60)) 1 6 (xA o sz) := by
  refine vx_ofW (cc := c_X_needRoomForEntry) (maxL := 1) (ret := (none)) (by decide) rfl ?_
  intro p e s m args below meth c s₁ B hml hex hv
  obtain ⟨rfl, ⟨hsz, hP, hK⟩, hG⟩ := hv
  have hx := B.exec
  have hb := B.bytes
  have hr := B.returns
  have hts := atoms_spec (ws := wm y_X_needRoomForEntry c_X_needRoomForEntry 1 (none)) B.pre
  have hown : s.vm.findClass "ShopDesks" = some m.cls := findClass_of_methodNamed B.named
  have hlocks := B.notSynchronized
  subst hsz
  have hout : ∀ pc, ∀ x ∈ c.exceptionTable.toList, covers x pc = false := fun pc x hx => (hex x hx).elim
  have hS : va_S (xA o s.heap.size) s.heap s.heap [] := va_S.rf
  have hW : ∀ i, i < 217 → xA o s.heap.size (o + i) := fun i hi => wA_in hi
  have hl := lv_entry ([.ref (o + 0)]) (n := 1) (Nat.le_of_ble_eq_true rfl)
  rw [lg_entry_eq]
  generalize (lg_sl ([.ref (o + 0)]) ++ List.replicate (1 - (lg_sl ([.ref (o + 0)])).length) Slot.unset).toArray = ls at hl ⊢
  have hl : lv_has ls 1 [(0, .ref (o + 0))] := hl
  refine lv_aload_n hx hb d_X_needRoomForEntry_0 rfl (lv_at hl 0 rfl) ?_
  refine w_get (C := R_X) (T := F_X) (N := 5) (ci := 4) (v := .ref (o + 34)) hx hb hts inw_X hown hK hP 0 (by decide) SX_0 rfl 4 (by decide) (hts _ (al aF_X_36)) rfl d_X_needRoomForEntry_1 ?_
  refine w_get (C := R_L) (T := F_L) (N := 5) (ci := 1) (v := .int (M.2.2 34 2)) hx hb hts inw_L hown hK hP 34 (by decide) SX_34 rfl 2 (by decide) (hts _ (al aF_X_239)) rfl d_X_needRoomForEntry_4 ?_
  refine lv_bipush (v := 60) hx hb d_X_needRoomForEntry_7 (by decide) ?_
  refine lv_icmp_lt (tgt := 22) hx hb d_X_needRoomForEntry_9 (by decide) (fun c_1 => ?_) (fun c_1 => ?_)
  · have q2 := c_1
    refine vx_ret ?_
    refine W.widen (k := 1) (n := 6) (Nat.le_of_ble_eq_true rfl) (Nat.le_of_ble_eq_true rfl) ?_
    exact W.vret hx hb hr (fun tz hz9 hW9 => ⟨⟨M, rfl, ⟨rfl, q2⟩, by rw [hz9]; exact hP, va_K.moved hW9.alike hK⟩, hS.F hz9⟩) hS.2.2 d_X_needRoomForEntry_22
  · have q := c_1
    obtain ⟨sa, hsa⟩ := hG.2.2.1 (244, "there are 60 entries") (by decide)
    exact x_throwS (cls := "java/lang/IllegalStateException") hx hb hl9 hown (hts _ (al aC_X_57)) (hts _ (al aN_IllegalStateException)) hsa (hat_X_61 hts hG) hot_X_61 (by decide) hG hK hP hS (hl.1.trans hml.symm) d_X_needRoomForEntry_12 d_X_needRoomForEntry_15 d_X_needRoomForEntry_16 d_X_needRoomForEntry_18 d_X_needRoomForEntry_21 (hout _) (Nat.le_of_ble_eq_true rfl) (Nat.le_of_ble_eq_true rfl) (Nat.le_of_ble_eq_true rfl) (Nat.le_of_ble_eq_true rfl) hlocks (⟨rfl, q⟩) (Nat.le_of_ble_eq_true rfl) (Nat.le_of_ble_eq_true rfl)
end
section
/-! what a set says, in the words of its memory: od j is the telling at place j -/
def x_opt (q : Option Nat) : Int32 := match q with
  | none => -1
  | some u => nI u
theorem nI_nm1 {u : Nat} (h : u < 2147483648) : ¬ nI u = -1 := by
  intro e
  have h1 := nI_toInt h
  rw [e] at h1
  have h2 : (-1 : Int32).toInt = -1 := by decide
  rw [h2] at h1
  omega
theorem x_opt_some {q : Option Nat} (h : ¬ x_opt q = -1) : ∃ u, q = some u := by
  cases q with
  | none => exact absurd rfl h
  | some u => exact ⟨u, rfl⟩
theorem x_opt_none {q : Option Nat} (hq : ∀ u, q = some u → u < 300) (h : x_opt q = -1) : q = none := by
  cases q with
  | none => rfl
  | some u => exact absurd h (nI_nm1 (by have := hq u rfl; omega))
def x_val (M : wM) (q : Option Nat) : Int64 := match q with
  | none => 0
  | some u => M.2.1 6 u
def x_lat (M : wM) (od : Nat → Nat) (th kd : Int32) (tm : Int64) : Nat → Option Nat
  | 0 => none
  | k + 1 => match x_lat M od th kd tm k with
    | none => if x_hold M (od k) th kd tm = true then some (od k) else none
    | some u => if x_hold M (od k) th kd tm = true then (if x_later M (od k) u = true then some (od k) else some u) else some u
theorem x_lat_lt {M : wM} {od : Nat → Nat} {th kd : Int32} {tm : Int64} {f : Nat} (h : ∀ j, j < f → od j < 300) : ∀ k, k ≤ f → ∀ u, x_lat M od th kd tm k = some u → u < 300 := by
  intro k
  induction k with
  | zero => intro _ u hu; simp [x_lat] at hu
  | succ k ih =>
    intro hk u hu
    have h0 := h k (by omega)
    have ih := ih (by omega)
    unfold x_lat at hu
    cases hq : x_lat M od th kd tm k with
    | none =>
      rw [hq] at hu
      dsimp only at hu
      split at hu
      · cases hu; exact h0
      · cases hu
    | some v =>
      rw [hq] at hu
      dsimp only at hu
      split at hu
      · split at hu
        · cases hu; exact h0
        · cases hu; exact ih _ hq
      · cases hu; exact ih _ hq
theorem x_lat_f {M : wM} {od : Nat → Nat} {th kd : Int32} {tm : Int64} {k : Nat} (h : x_hold M (od k) th kd tm = false) : x_lat M od th kd tm (k + 1) = x_lat M od th kd tm k := by
  conv => lhs; unfold x_lat
  cases x_lat M od th kd tm k <;> simp [h]
theorem x_lat_n {M : wM} {od : Nat → Nat} {th kd : Int32} {tm : Int64} {k : Nat} (h : x_hold M (od k) th kd tm = true) (hn : x_lat M od th kd tm k = none) : x_lat M od th kd tm (k + 1) = some (od k) := by
  conv => lhs; unfold x_lat
  simp [h, hn]
theorem x_lat_l {M : wM} {od : Nat → Nat} {th kd : Int32} {tm : Int64} {k u : Nat} (h : x_hold M (od k) th kd tm = true) (hn : x_lat M od th kd tm k = some u) (hl : x_later M (od k) u = true) : x_lat M od th kd tm (k + 1) = some (od k) := by
  conv => lhs; unfold x_lat
  simp [h, hn, hl]
theorem x_lat_e {M : wM} {od : Nat → Nat} {th kd : Int32} {tm : Int64} {k u : Nat} (hn : x_lat M od th kd tm k = some u) (hl : x_later M (od k) u = false) : x_lat M od th kd tm (k + 1) = some u := by
  conv => lhs; unfold x_lat
  cases hh : x_hold M (od k) th kd tm <;> simp [hn, hl, hh]
def x_settle (M : wM) (od : Nat → Nat) (th : Int32) (tm : Int64) (f : Nat) : Option Nat := match x_lat M od th 3 tm f with
  | none => none
  | some a => match x_lat M od th 2 tm f with
    | none => some a
    | some b => if M.2.1 7 a < M.2.1 7 b then none else some a
def x_anyU (M : wM) (od : Nat → Nat) (th : Int32) (tm : Int64) (u : Nat) : Nat → Bool
  | 0 => false
  | k + 1 => x_anyU M od th tm u k || (x_hold M (od k) th 2 tm && decide (¬ M.2.1 6 (od k) = M.2.1 6 u))
theorem x_anyU_mono {M : wM} {od : Nat → Nat} {th : Int32} {tm : Int64} {u k : Nat} (h : x_anyU M od th tm u k = true) : ∀ f, k ≤ f → x_anyU M od th tm u f = true := by
  intro f
  induction f with
  | zero => intro hk; rw [show k = 0 by omega] at h; exact h
  | succ f ih =>
    intro hk
    by_cases e : k = f + 1
    · rw [← e]; exact h
    · unfold x_anyU; rw [ih (by omega)]; rfl
def x_unlike (M : wM) (od : Nat → Nat) (th : Int32) (tm : Int64) (f : Nat) : Bool := match x_lat M od th 2 tm f with
  | none => false
  | some u => x_anyU M od th tm u f
def x_sum (M : wM) (od : Nat → Nat) (th : Int32) (tm : Int64) : Nat → Int64
  | 0 => 0
  | k + 1 => if x_hold M (od k) th 0 tm = true then x_sum M od th tm k + M.2.1 6 (od k) else x_sum M od th tm k
theorem x_sum_f {M : wM} {od : Nat → Nat} {th : Int32} {tm : Int64} {k : Nat} (h : x_hold M (od k) th 0 tm = false) : x_sum M od th tm (k + 1) = x_sum M od th tm k := by
  simp [x_sum, h]
theorem x_sum_t {M : wM} {od : Nat → Nat} {th : Int32} {tm : Int64} {k : Nat} (h : x_hold M (od k) th 0 tm = true) : x_sum M od th tm (k + 1) = x_sum M od th tm k + M.2.1 6 (od k) := by
  simp [x_sum, h]
def x_kmark (M : wM) (od : Nat → Nat) (th : Int32) (tm : Int64) (f : Nat) : Int64 := match x_settle M od th tm f with
  | some a => M.2.1 6 a
  | none => if x_unlike M od th tm f = true then 0 else x_val M (x_lat M od th 2 tm f)
def x_known (M : wM) (od : Nat → Nat) (th kd : Int32) (tm : Int64) (f : Nat) : Int64 := if kd = 0 then x_sum M od th tm f else if kd = 2 then x_kmark M od th tm f else x_val M (x_lat M od th kd tm f)
def x_conf (M : wM) (od : Nat → Nat) (th : Int32) (z : Nat) : Bool := (x_settle M od th 9223372036854775807 z).isNone && x_unlike M od th 9223372036854775807 z
theorem x_settle_lt {M : wM} {od : Nat → Nat} {th : Int32} {tm : Int64} {f : Nat} (h : ∀ j, j < f → od j < 300) : ∀ u, x_settle M od th tm f = some u → u < 300 := by
  intro u hu
  unfold x_settle at hu
  cases h3 : x_lat M od th 3 tm f with
  | none => rw [h3] at hu; cases hu
  | some a =>
    rw [h3] at hu
    have ha := x_lat_lt h f (Nat.le_refl f) a h3
    dsimp only at hu
    cases h2 : x_lat M od th 2 tm f with
    | none => rw [h2] at hu; cases hu; exact ha
    | some b =>
      rw [h2] at hu
      dsimp only at hu
      split at hu
      · cases hu
      · cases hu; exact ha
set_option maxHeartbeats 4000000 in
set_option maxRecDepth 100000 in
/-- S_beginBatch -/
theorem k_S_beginBatch (l : Launch) (D : va_G) (cA : Nat → ClassId) (o sz : Nat) (M : wM) (si : Nat) (hs : si < 8) : Met l y_S_beginBatch (wm y_S_beginBatch c_S_beginBatch 1 (some .boolean)) { frames := 0, cells := 0, slots := 0, locals := 0 } (va_Pc [.ref (o + (9 + 3 * si))] (xB D cA o M sz)) (va_Qi (fun r M1 => (r = 0 ∧ M1 = M ∧ ¬ M.2.2 (9 + 3 * si) 4 = -1) ∨ (r = 1 ∧ M1 = wF M (9 + 3 * si) 4 (M.2.2 (9 + 3 * si) 3) ∧ M.2.2 (9 + 3 * si) 4 = -1)) (xQ D cA o) (xA o sz)) 0 0 (xA o sz) := by
  refine Met.ofW (cc := c_S_beginBatch) (maxL := 1) (ret := (some .boolean)) (by decide) rfl ?_
  intro p e s m args below meth c s₁ B hml hv
  obtain ⟨rfl, hsz, hP, hK⟩ := hv
  have hx := B.exec
  have hb := B.bytes
  have hr := B.returns
  have hts := atoms_spec (ws := wm y_S_beginBatch c_S_beginBatch 1 (some .boolean)) B.pre
  have hown : s.vm.findClass "ShopDesks$TellingSet" = some m.cls := findClass_of_methodNamed B.named
  have hlocks := B.notSynchronized
  subst hsz
  have hS : va_S (xA o s.heap.size) s.heap s.heap [] := va_S.rf
  have hW : ∀ i, i < 217 → xA o s.heap.size (o + i) := fun i hi => wA_in hi
  have hl := lv_entry ([.ref (o + (9 + 3 * si))]) (n := 1) (Nat.le_of_ble_eq_true rfl)
  rw [lg_entry_eq]
  generalize (lg_sl ([.ref (o + (9 + 3 * si))]) ++ List.replicate (1 - (lg_sl ([.ref (o + (9 + 3 * si))])).length) Slot.unset).toArray = ls at hl ⊢
  have hl : lv_has ls 1 [(0, .ref (o + (9 + 3 * si)))] := hl
  refine lv_aload_n hx hb d_S_beginBatch_0 rfl (lv_at hl 0 rfl) ?_
  refine w_get (C := R_S) (T := F_S) (N := 5) (ci := 2) (v := .int (M.2.2 (9 + 3 * si) 4)) hx hb hts inw_S hown hK hP (9 + 3 * si) (by omega) (SX_s hs) rfl 4 (by decide) (hts _ (al aF_S_23)) rfl d_S_beginBatch_1 ?_
  refine lv_iconst (v := -1) hx hb d_S_beginBatch_4 (by decide) ?_
  refine lv_icmp_eq (tgt := 10) hx hb d_S_beginBatch_5 (by decide) (fun c_1 => ?_) (fun c_1 => ?_)
  · have q := c_1
    refine lv_aload_n hx hb d_S_beginBatch_10 rfl (lv_at hl 0 rfl) ?_
    refine lv_aload_n hx hb d_S_beginBatch_11 rfl (lv_at hl 0 rfl) ?_
    refine w_get (C := R_S) (T := F_S) (N := 5) (ci := 2) (v := .int (M.2.2 (9 + 3 * si) 3)) hx hb hts inw_S hown hK hP (9 + 3 * si) (by omega) (SX_s hs) rfl 3 (by decide) (hts _ (al aF_S_19)) rfl d_S_beginBatch_12 ?_
    refine w_put (C := R_S) (T := F_S) (N := 5) (ci := 2) (x := M.2.2 (9 + 3 * si) 3) hx hb hts inw_S ft_S ft_S_ok fn_S hown hK hP hW hS (9 + 3 * si) (by omega) (SX_s hs) rfl 4 (by decide) (hts _ (al aF_S_23)) rfl rfl rfl (Nat.le_of_ble_eq_true rfl) (by rw [wF_r]; exact (SX_s hs).trans rfl) d_S_beginBatch_15 (fun H locs hP hS => ?_)
    refine lv_iconst (v := 1) hx hb d_S_beginBatch_18 (by decide) ?_
    exact W.zret (v := 1) hx hb hr rfl (fun tz hz9 hW9 => ⟨⟨1, (wF M (9 + 3 * si) 4 (M.2.2 (9 + 3 * si) 3)), rfl, Or.inr ⟨rfl, rfl, q⟩, by rw [hz9]; exact hP, va_K.moved hW9.alike hK⟩, hS.F hz9⟩) hS.2.2 d_S_beginBatch_19
  · have q := c_1
    refine lv_iconst (v := 0) hx hb d_S_beginBatch_8 (by decide) ?_
    exact W.zret (v := 0) hx hb hr rfl (fun tz hz9 hW9 => ⟨⟨0, M, rfl, Or.inl ⟨rfl, rfl, q⟩, by rw [hz9]; exact hP, va_K.moved hW9.alike hK⟩, hS.F hz9⟩) hS.2.2 d_S_beginBatch_9
set_option maxHeartbeats 4000000 in
set_option maxRecDepth 100000 in
/-- S_endBatch -/
theorem k_S_endBatch (l : Launch) (D : va_G) (cA : Nat → ClassId) (o sz : Nat) (M : wM) (si : Nat) (hs : si < 8) : Met l y_S_endBatch (wm y_S_endBatch c_S_endBatch 1 (some .boolean)) { frames := 0, cells := 0, slots := 0, locals := 0 } (va_Pc [.ref (o + (9 + 3 * si))] (xB D cA o M sz)) (va_Qi (fun r M1 => (r = 0 ∧ M1 = M ∧ M.2.2 (9 + 3 * si) 4 = -1) ∨ (r = 1 ∧ M1 = wF M (9 + 3 * si) 4 (-1) ∧ ¬ M.2.2 (9 + 3 * si) 4 = -1)) (xQ D cA o) (xA o sz)) 0 0 (xA o sz) := by
  refine Met.ofW (cc := c_S_endBatch) (maxL := 1) (ret := (some .boolean)) (by decide) rfl ?_
  intro p e s m args below meth c s₁ B hml hv
  obtain ⟨rfl, hsz, hP, hK⟩ := hv
  have hx := B.exec
  have hb := B.bytes
  have hr := B.returns
  have hts := atoms_spec (ws := wm y_S_endBatch c_S_endBatch 1 (some .boolean)) B.pre
  have hown : s.vm.findClass "ShopDesks$TellingSet" = some m.cls := findClass_of_methodNamed B.named
  have hlocks := B.notSynchronized
  subst hsz
  have hS : va_S (xA o s.heap.size) s.heap s.heap [] := va_S.rf
  have hW : ∀ i, i < 217 → xA o s.heap.size (o + i) := fun i hi => wA_in hi
  have hl := lv_entry ([.ref (o + (9 + 3 * si))]) (n := 1) (Nat.le_of_ble_eq_true rfl)
  rw [lg_entry_eq]
  generalize (lg_sl ([.ref (o + (9 + 3 * si))]) ++ List.replicate (1 - (lg_sl ([.ref (o + (9 + 3 * si))])).length) Slot.unset).toArray = ls at hl ⊢
  have hl : lv_has ls 1 [(0, .ref (o + (9 + 3 * si)))] := hl
  refine lv_aload_n hx hb d_S_endBatch_0 rfl (lv_at hl 0 rfl) ?_
  refine w_get (C := R_S) (T := F_S) (N := 5) (ci := 2) (v := .int (M.2.2 (9 + 3 * si) 4)) hx hb hts inw_S hown hK hP (9 + 3 * si) (by omega) (SX_s hs) rfl 4 (by decide) (hts _ (al aF_S_23)) rfl d_S_endBatch_1 ?_
  refine lv_iconst (v := -1) hx hb d_S_endBatch_4 (by decide) ?_
  refine lv_icmp_ne (tgt := 10) hx hb d_S_endBatch_5 (by decide) (fun c_1 => ?_) (fun c_1 => ?_)
  · have q := c_1
    refine lv_aload_n hx hb d_S_endBatch_10 rfl (lv_at hl 0 rfl) ?_
    refine lv_iconst (v := -1) hx hb d_S_endBatch_11 (by decide) ?_
    refine w_put (C := R_S) (T := F_S) (N := 5) (ci := 2) (x := (-1)) hx hb hts inw_S ft_S ft_S_ok fn_S hown hK hP hW hS (9 + 3 * si) (by omega) (SX_s hs) rfl 4 (by decide) (hts _ (al aF_S_23)) rfl rfl rfl (Nat.le_of_ble_eq_true rfl) (by rw [wF_r]; exact (SX_s hs).trans rfl) d_S_endBatch_12 (fun H locs hP hS => ?_)
    refine lv_iconst (v := 1) hx hb d_S_endBatch_15 (by decide) ?_
    exact W.zret (v := 1) hx hb hr rfl (fun tz hz9 hW9 => ⟨⟨1, (wF M (9 + 3 * si) 4 (-1)), rfl, Or.inr ⟨rfl, rfl, q⟩, by rw [hz9]; exact hP, va_K.moved hW9.alike hK⟩, hS.F hz9⟩) hS.2.2 d_S_endBatch_16
  · have q := c_1
    refine lv_iconst (v := 0) hx hb d_S_endBatch_8 (by decide) ?_
    exact W.zret (v := 0) hx hb hr rfl (fun tz hz9 hW9 => ⟨⟨0, M, rfl, Or.inl ⟨rfl, rfl, q⟩, by rw [hz9]; exact hP, va_K.moved hW9.alike hK⟩, hS.F hz9⟩) hS.2.2 d_S_endBatch_9
set_option maxHeartbeats 4000000 in
set_option maxRecDepth 100000 in
/-- S_sizeToSee -/
theorem k_S_sizeToSee (l : Launch) (D : va_G) (cA : Nat → ClassId) (o sz : Nat) (M : wM) (si : Nat) (hs : si < 8) : Met l y_S_sizeToSee (wm y_S_sizeToSee c_S_sizeToSee 1 (some .int)) { frames := 0, cells := 0, slots := 0, locals := 0 } (va_Pc [.ref (o + (9 + 3 * si))] (xB D cA o M sz)) (va_Qi (fun r M1 => M1 = M ∧ r = if M.2.2 (9 + 3 * si) 4 = -1 then M.2.2 (9 + 3 * si) 3 else M.2.2 (9 + 3 * si) 4) (xQ D cA o) (xA o sz)) 0 0 (xA o sz) := by
  refine Met.ofW (cc := c_S_sizeToSee) (maxL := 1) (ret := (some .int)) (by decide) rfl ?_
  intro p e s m args below meth c s₁ B hml hv
  obtain ⟨rfl, hsz, hP, hK⟩ := hv
  have hx := B.exec
  have hb := B.bytes
  have hr := B.returns
  have hts := atoms_spec (ws := wm y_S_sizeToSee c_S_sizeToSee 1 (some .int)) B.pre
  have hown : s.vm.findClass "ShopDesks$TellingSet" = some m.cls := findClass_of_methodNamed B.named
  have hlocks := B.notSynchronized
  subst hsz
  have hS : va_S (xA o s.heap.size) s.heap s.heap [] := va_S.rf
  have hW : ∀ i, i < 217 → xA o s.heap.size (o + i) := fun i hi => wA_in hi
  have hl := lv_entry ([.ref (o + (9 + 3 * si))]) (n := 1) (Nat.le_of_ble_eq_true rfl)
  rw [lg_entry_eq]
  generalize (lg_sl ([.ref (o + (9 + 3 * si))]) ++ List.replicate (1 - (lg_sl ([.ref (o + (9 + 3 * si))])).length) Slot.unset).toArray = ls at hl ⊢
  have hl : lv_has ls 1 [(0, .ref (o + (9 + 3 * si)))] := hl
  refine lv_aload_n hx hb d_S_sizeToSee_0 rfl (lv_at hl 0 rfl) ?_
  refine w_get (C := R_S) (T := F_S) (N := 5) (ci := 2) (v := .int (M.2.2 (9 + 3 * si) 4)) hx hb hts inw_S hown hK hP (9 + 3 * si) (by omega) (SX_s hs) rfl 4 (by decide) (hts _ (al aF_S_23)) rfl d_S_sizeToSee_1 ?_
  refine lv_iconst (v := -1) hx hb d_S_sizeToSee_4 (by decide) ?_
  refine lv_icmp_ne (tgt := 15) hx hb d_S_sizeToSee_5 (by decide) (fun c_1 => ?_) (fun c_1 => ?_)
  · have q := c_1
    refine lv_aload_n hx hb d_S_sizeToSee_15 rfl (lv_at hl 0 rfl) ?_
    refine w_get (C := R_S) (T := F_S) (N := 5) (ci := 2) (v := .int (M.2.2 (9 + 3 * si) 4)) hx hb hts inw_S hown hK hP (9 + 3 * si) (by omega) (SX_s hs) rfl 4 (by decide) (hts _ (al aF_S_23)) rfl d_S_sizeToSee_16 ?_
    exact W.iret (v := M.2.2 (9 + 3 * si) 4) hx hb hr (fun tz hz9 hW9 => ⟨⟨M.2.2 (9 + 3 * si) 4, M, rfl, ⟨rfl, (if_neg q).symm⟩, by rw [hz9]; exact hP, va_K.moved hW9.alike hK⟩, hS.F hz9⟩) hS.2.2 d_S_sizeToSee_19
  · have q := c_1
    refine lv_aload_n hx hb d_S_sizeToSee_8 rfl (lv_at hl 0 rfl) ?_
    refine w_get (C := R_S) (T := F_S) (N := 5) (ci := 2) (v := .int (M.2.2 (9 + 3 * si) 3)) hx hb hts inw_S hown hK hP (9 + 3 * si) (by omega) (SX_s hs) rfl 3 (by decide) (hts _ (al aF_S_19)) rfl d_S_sizeToSee_9 ?_
    refine lv_goto (tgt := 19) hx hb d_S_sizeToSee_12 (by decide) ?_
    exact W.iret (v := M.2.2 (9 + 3 * si) 3) hx hb hr (fun tz hz9 hW9 => ⟨⟨M.2.2 (9 + 3 * si) 3, M, rfl, ⟨rfl, (if_pos q).symm⟩, by rw [hz9]; exact hP, va_K.moved hW9.alike hK⟩, hS.F hz9⟩) hS.2.2 d_S_sizeToSee_19
set_option maxHeartbeats 4000000 in
set_option maxRecDepth 100000 in
/-- S_valueOrZero -/
theorem k_S_valueOrZero (l : Launch) (D : va_G) (cA : Nat → ClassId) (o sz : Nat) (M : wM) (si : Nat) (hs : si < 8) (q : Option Nat) (hq : ∀ u, q = some u → u < 300) : Met l y_S_valueOrZero (wm y_S_valueOrZero c_S_valueOrZero 2 (some .long)) { frames := 0, cells := 0, slots := 0, locals := 0 } (va_Pc [.ref (o + (9 + 3 * si)), .int (x_opt q)] (xB D cA o M sz)) (va_Ql (fun r M1 => M1 = M ∧ r = x_val M q) (xQ D cA o) (xA o sz)) 0 0 (xA o sz) := by
  refine Met.ofW (cc := c_S_valueOrZero) (maxL := 2) (ret := (some .long)) (by decide) rfl ?_
  intro p e s m args below meth c s₁ B hml hv
  obtain ⟨rfl, hsz, hP, hK⟩ := hv
  have hx := B.exec
  have hb := B.bytes
  have hr := B.returns
  have hts := atoms_spec (ws := wm y_S_valueOrZero c_S_valueOrZero 2 (some .long)) B.pre
  have hown : s.vm.findClass "ShopDesks$TellingSet" = some m.cls := findClass_of_methodNamed B.named
  have hlocks := B.notSynchronized
  subst hsz
  have hS : va_S (xA o s.heap.size) s.heap s.heap [] := va_S.rf
  have hW : ∀ i, i < 217 → xA o s.heap.size (o + i) := fun i hi => wA_in hi
  have hl := lv_entry ([.ref (o + (9 + 3 * si)), .int (x_opt q)]) (n := 2) (Nat.le_of_ble_eq_true rfl)
  rw [lg_entry_eq]
  generalize (lg_sl ([.ref (o + (9 + 3 * si)), .int (x_opt q)]) ++ List.replicate (2 - (lg_sl ([.ref (o + (9 + 3 * si)), .int (x_opt q)])).length) Slot.unset).toArray = ls at hl ⊢
  have hl : lv_has ls 2 [(0, .ref (o + (9 + 3 * si))), (1, .int (x_opt q))] := hl
  refine lv_iload_n hx hb d_S_valueOrZero_0 rfl (lv_at hl 1 rfl) ?_
  refine lv_iconst (v := -1) hx hb d_S_valueOrZero_1 (by decide) ?_
  refine lv_icmp_ne (tgt := 9) hx hb d_S_valueOrZero_2 (by decide) (fun c_1 => ?_) (fun c_1 => ?_)
  · obtain ⟨u, hu⟩ := x_opt_some c_1
    have hu3 := hq u hu
    refine lv_aload_n hx hb d_S_valueOrZero_9 rfl (lv_at hl 0 rfl) ?_
    refine w_get (C := R_S) (T := F_S) (N := 5) (ci := 2) (v := .ref (o + 1)) hx hb hts inw_S hown hK hP (9 + 3 * si) (by omega) (SX_s hs) rfl 0 (by decide) (hts _ (al aF_S_26)) rfl d_S_valueOrZero_10 ?_
    refine w_get (C := R_T) (T := F_T) (N := 7) (ci := 3) (v := .ref (o + 6)) hx hb hts inw_T hown hK hP 1 (by decide) SX_1 rfl 4 (by decide) (hts _ (al aF_S_75)) rfl d_S_valueOrZero_13 ?_
    refine lv_iload_n hx hb d_S_valueOrZero_16 rfl (lv_at hl 1 rfl) ?_
    refine w_topi (show x_opt q = nI u by rw [hu]; rfl) ?_
    refine w_lald hx hb hK hP 6 1 (by decide) SX_6 rfl (k := u) (by omega) (by decide) d_S_valueOrZero_17 ?_
    exact W.lret (v := M.2.1 6 u) hx hb hr (fun tz hz9 hW9 => ⟨⟨M.2.1 6 u, M, rfl, ⟨rfl, by rw [hu]; rfl⟩, by rw [hz9]; exact hP, va_K.moved hW9.alike hK⟩, hS.F hz9⟩) hS.2.2 d_S_valueOrZero_18
  · have hn := x_opt_none hq c_1
    refine lv_lconst (v := 0) hx hb d_S_valueOrZero_5 (by decide) ?_
    refine lv_goto (tgt := 18) hx hb d_S_valueOrZero_6 (by decide) ?_
    exact W.lret (v := 0) hx hb hr (fun tz hz9 hW9 => ⟨⟨0, M, rfl, ⟨rfl, by rw [hn]; rfl⟩, by rw [hz9]; exact hP, va_K.moved hW9.alike hK⟩, hS.F hz9⟩) hS.2.2 d_S_valueOrZero_18
set_option maxHeartbeats 4000000 in
set_option maxRecDepth 100000 in
/-- S_latest -/
theorem k_S_latest (l : Launch) (D : va_G) (cA : Nat → ClassId) (o sz : Nat) (M : wM) (si : Nat) (hs : si < 8) (od : Nat → Nat) (f : Nat) (hf : f ≤ 300) (hod : ∀ j, j < f → M.1 (9 + 3 * si + 1) j = nI (od j) ∧ od j < 300) (th kd : Int32) (tm : Int64) : Met l y_S_latest (wm y_S_latest c_S_latest 9 (some .int)) { frames := 1, cells := 0, slots := 0, locals := 25 } (va_Pc [.ref (o + (9 + 3 * si)), .int th, .int kd, .long tm, .int (nI f)] (xB D cA o M sz)) (va_Qi (fun r M1 => M1 = M ∧ r = x_opt (x_lat M od th kd tm f)) (xQ D cA o) (xA o sz)) 0 0 (xA o sz) := by
  refine Met.ofW (cc := c_S_latest) (maxL := 9) (ret := (some .int)) (by decide) rfl ?_
  intro p e s m args below meth c s₁ B hml hv
  obtain ⟨rfl, hsz, hP, hK⟩ := hv
  have hx := B.exec
  have hb := B.bytes
  have hr := B.returns
  have hts := atoms_spec (ws := wm y_S_latest c_S_latest 9 (some .int)) B.pre
  have hown : s.vm.findClass "ShopDesks$TellingSet" = some m.cls := findClass_of_methodNamed B.named
  have hlocks := B.notSynchronized
  subst hsz
  have hS : va_S (xA o s.heap.size) s.heap s.heap [] := va_S.rf
  have hW : ∀ i, i < 217 → xA o s.heap.size (o + i) := fun i hi => wA_in hi
  have hl := lv_entry ([.ref (o + (9 + 3 * si)), .int th, .int kd, .long tm, .int (nI f)]) (n := 9) (Nat.le_of_ble_eq_true rfl)
  rw [lg_entry_eq]
  generalize (lg_sl ([.ref (o + (9 + 3 * si)), .int th, .int kd, .long tm, .int (nI f)]) ++ List.replicate (9 - (lg_sl ([.ref (o + (9 + 3 * si)), .int th, .int kd, .long tm, .int (nI f)])).length) Slot.unset).toArray = ls at hl ⊢
  have hl : lv_has ls 9 [(0, .ref (o + (9 + 3 * si))), (1, .int th), (2, .int kd), (3, .long tm), (5, .int (nI f))] := hl
  refine lv_iconst (v := -1) hx hb d_S_latest_0 (by decide) ?_
  refine lv_istore (lv' := [(6, .int (-1)), (0, .ref (o + (9 + 3 * si))), (1, .int th), (2, .int kd), (3, .long tm), (5, .int (nI f))]) hx hb d_S_latest_1 hl (by decide) rfl (fun ls hl => ?_)
  refine lv_iconst (v := 0) hx hb d_S_latest_3 (by decide) ?_
  refine lv_istore (lv' := [(7, .int 0), (6, .int (-1)), (0, .ref (o + (9 + 3 * si))), (1, .int th), (2, .int kd), (3, .long tm), (5, .int (nI f))]) hx hb d_S_latest_4 hl (by decide) rfl (fun ls hl => ?_)
  have lp6 : ∀ (fuel : Nat) (k : Nat) (la : Int32), f - k < fuel → (k ≤ f) → (la = x_opt (x_lat M od th kd tm k)) → ∀ (H : Heap) (locs : List Loc), wP D cls_ (SX o cA) o 217 M H → va_S (xA o s.heap.size) s.heap H locs → ∀ (ls : Array Slot), lv_has ls 9 [(0, .ref (o + (9 + 3 * si))), (1, .int th), (2, .int kd), (3, .long tm), (5, .int (nI f)), (6, .int la), (7, .int (nI k))] → W p l e (headSpec (wm y_S_latest c_S_latest 9 (some .int)) { frames := 1, cells := 0, slots := 0, locals := 25 }).room s m ([.ref (o + (9 + 3 * si)), .int th, .int kd, .long tm, .int (nI f)] : List Value).toArray below meth c H locs 0 0 (MQ below (va_Qi (fun r M1 => M1 = M ∧ r = x_opt (x_lat M od th kd tm f)) (xQ D cA o) (xA o s.heap.size)) ([.ref (o + (9 + 3 * si)), .int th, .int kd, .long tm, .int (nI f)] : List Value).toArray s 0 0 (xA o s.heap.size)) (F0 m 6 ls []) := by
    intro fuel
    induction fuel with
    | zero => intro k la hfu; exact absurd hfu (Nat.not_lt_zero _)
    | succ fuel ih =>
      intro k la hfu hk hla H locs hP hS ls hl
      refine lv_iload hx hb d_S_latest_6 (lv_at hl 6 rfl) ?_
      refine lv_iload hx hb d_S_latest_8 (lv_at hl 4 rfl) ?_
      refine lv_icmp_ge (tgt := 67) hx hb d_S_latest_10 (by decide) (fun c_1 => ?_) (fun c_1 => ?_)
      · have hkf : f ≤ k := i_le (by omega) (by omega) c_1
        refine lv_iload hx hb d_S_latest_67 (lv_at hl 5 rfl) ?_
        exact W.iret (v := la) hx hb hr (fun tz hz9 hW9 => ⟨⟨la, M, rfl, ⟨rfl, by rw [hla, show k = f by omega]⟩, by rw [hz9]; exact hP, va_K.moved hW9.alike hK⟩, hS.F hz9⟩) hS.2.2 d_S_latest_69
      · have hkf : k < f := i_nle (by omega) (by omega) c_1
        have hod3 := (hod k hkf).2
        refine lv_aload_n hx hb d_S_latest_13 rfl (lv_at hl 0 rfl) ?_
        refine w_get (C := R_S) (T := F_S) (N := 5) (ci := 2) (v := .ref (o + (9 + 3 * si + 1))) hx hb hts inw_S hown hK hP (9 + 3 * si) (by omega) (SX_s hs) rfl 1 (by decide) (hts _ (al aF_S_9)) rfl d_S_latest_14 ?_
        refine lv_iload hx hb d_S_latest_17 (lv_at hl 6 rfl) ?_
        refine w_iald hx hb hK hP (9 + 3 * si + 1) 0 (by omega) (SX_so hs) rfl (k := k) (by omega) (by decide) d_S_latest_19 ?_
        refine w_topi ((hod k hkf).1) ?_
        refine lv_istore (lv' := [(8, .int (nI (od k))), (0, .ref (o + (9 + 3 * si))), (1, .int th), (2, .int kd), (3, .long tm), (5, .int (nI f)), (6, .int la), (7, .int (nI k))]) hx hb d_S_latest_20 hl (by decide) rfl (fun ls hl => ?_)
        refine lv_aload_n hx hb d_S_latest_22 rfl (lv_at hl 1 rfl) ?_
        refine w_get (C := R_S) (T := F_S) (N := 5) (ci := 2) (v := .ref (o + 1)) hx hb hts inw_S hown hK hP (9 + 3 * si) (by omega) (SX_s hs) rfl 0 (by decide) (hts _ (al aF_S_26)) rfl d_S_latest_23 ?_
        refine lv_iload hx hb d_S_latest_26 (lv_at hl 0 rfl) ?_
        refine lv_iload_n hx hb d_S_latest_28 rfl (lv_at hl 2 rfl) ?_
        refine lv_iload_n hx hb d_S_latest_29 rfl (lv_at hl 3 rfl) ?_
        refine lv_lload_n hx hb d_S_latest_30 rfl (lv_at hl 4 rfl) ?_
        refine w_Vi ⟨hx, hb, hml, hown, hts⟩ (k_T_holds l D cA o _ M (od k) hod3 th kd tm) (kV hts 4 aK_T_holds aM_S_71 aI_T_holds aV_T_holds aN_T nm_T_holds rfl rfl ⟨(Nat.le_of_ble_eq_true rfl), (Nat.le_of_ble_eq_true rfl)⟩) hK hP (by decide) SX_1 rfl rfl hl.1 rfl (Nat.le_of_ble_eq_true rfl) d_S_latest_31 ⟨(Nat.le_of_ble_eq_true rfl), (Nat.le_of_ble_eq_true rfl)⟩ hS (fun q h => wA_le hS.1 h) (fun r_2 M_2 H locs hw_2 hP hzc hkc hS => ?_)
        rw [hw_2.1] at hP
        refine w_topi hw_2.2 ?_
        refine lv_if_eq (tgt := 61) hx hb d_S_latest_34 (by decide) (fun c_3 => ?_) (fun c_3 => ?_)
        · have hh := b2i_0 c_3
          refine lv_iinc (v := nI (k + 1)) (lv' := [(7, .int (nI (k + 1))), (8, .int (nI (od k))), (0, .ref (o + (9 + 3 * si))), (1, .int th), (2, .int kd), (3, .long tm), (5, .int (nI f)), (6, .int la)]) hx hb d_S_latest_61 hl (k := 7) rfl (w_inc k) (by decide) rfl (fun ls hl => ?_)
          refine lv_goto (tgt := 6) hx hb d_S_latest_64 (by decide) ?_
          exact ih (k + 1) la (by omega) hkf (by rw [x_lat_f hh]; exact hla) _ _ hP hS ls (lv_sub hl [2, 3, 4, 5, 6, 7, 0] rfl)
        · have hh := b2i_1 c_3
          refine lv_iload hx hb d_S_latest_37 (lv_at hl 6 rfl) ?_
          refine lv_iconst (v := -1) hx hb d_S_latest_39 (by decide) ?_
          refine lv_icmp_eq (tgt := 57) hx hb d_S_latest_40 (by decide) (fun c_4 => ?_) (fun c_4 => ?_)
          · have hn1 := c_4
            refine lv_iload hx hb d_S_latest_57 (lv_at hl 0 rfl) ?_
            refine lv_istore (lv' := [(6, .int (nI (od k))), (8, .int (nI (od k))), (0, .ref (o + (9 + 3 * si))), (1, .int th), (2, .int kd), (3, .long tm), (5, .int (nI f)), (7, .int (nI k))]) hx hb d_S_latest_59 hl (by decide) rfl (fun ls hl => ?_)
            refine lv_iinc (v := nI (k + 1)) (lv' := [(7, .int (nI (k + 1))), (6, .int (nI (od k))), (8, .int (nI (od k))), (0, .ref (o + (9 + 3 * si))), (1, .int th), (2, .int kd), (3, .long tm), (5, .int (nI f))]) hx hb d_S_latest_61 hl (k := 7) rfl (w_inc k) (by decide) rfl (fun ls hl => ?_)
            refine lv_goto (tgt := 6) hx hb d_S_latest_64 (by decide) ?_
            exact ih (k + 1) (nI (od k)) (by omega) hkf (by rw [x_lat_n hh (x_opt_none (x_lat_lt (fun j h => (hod j h).2) k hk) (by rw [← hla]; exact hn1))]; rfl) _ _ hP hS ls (lv_sub hl [3, 4, 5, 6, 7, 1, 0] rfl)
          · obtain ⟨u, hu⟩ := x_opt_some (by rw [← hla]; exact c_4)
            have hu3 := x_lat_lt (fun j h => (hod j h).2) k hk u hu
            have hlu : la = nI u := by rw [hla, hu]; rfl
            refine lv_aload_n hx hb d_S_latest_43 rfl (lv_at hl 1 rfl) ?_
            refine w_get (C := R_S) (T := F_S) (N := 5) (ci := 2) (v := .ref (o + 1)) hx hb hts inw_S hown hK hP (9 + 3 * si) (by omega) (SX_s hs) rfl 0 (by decide) (hts _ (al aF_S_26)) rfl d_S_latest_44 ?_
            refine lv_iload hx hb d_S_latest_47 (lv_at hl 0 rfl) ?_
            refine lv_iload hx hb d_S_latest_49 (lv_at hl 6 rfl) ?_
            refine w_topi hlu ?_
            refine w_Vi ⟨hx, hb, hml, hown, hts⟩ (k_T_isLater l D cA o _ M (od k) u hod3 hu3) (kV hts 2 aK_T_isLater aM_S_78 aI_T_isLater aV_T_isLater aN_T nm_T_isLater rfl rfl ⟨(Nat.le_of_ble_eq_true rfl), (Nat.le_of_ble_eq_true rfl)⟩) hK hP (by decide) SX_1 rfl rfl hl.1 rfl (Nat.le_of_ble_eq_true rfl) d_S_latest_51 ⟨(Nat.le_of_ble_eq_true rfl), (Nat.le_of_ble_eq_true rfl)⟩ hS (fun q h => wA_le hS.1 h) (fun r_5 M_5 H locs hw_5 hP hzc hkc hS => ?_)
            rw [hw_5.1] at hP
            refine w_topi hw_5.2 ?_
            refine lv_if_eq (tgt := 61) hx hb d_S_latest_54 (by decide) (fun c_6 => ?_) (fun c_6 => ?_)
            · have hlt := c_6
              refine lv_iinc (v := nI (k + 1)) (lv' := [(7, .int (nI (k + 1))), (8, .int (nI (od k))), (0, .ref (o + (9 + 3 * si))), (1, .int th), (2, .int kd), (3, .long tm), (5, .int (nI f)), (6, .int la)]) hx hb d_S_latest_61 hl (k := 7) rfl (w_inc k) (by decide) rfl (fun ls hl => ?_)
              refine lv_goto (tgt := 6) hx hb d_S_latest_64 (by decide) ?_
              exact ih (k + 1) la (by omega) hkf (by rw [x_lat_e hu (b2i_0 hlt)]; rw [hla, hu]) _ _ hP hS ls (lv_sub hl [2, 3, 4, 5, 6, 7, 0] rfl)
            · have hlt := c_6
              refine lv_iload hx hb d_S_latest_57 (lv_at hl 0 rfl) ?_
              refine lv_istore (lv' := [(6, .int (nI (od k))), (8, .int (nI (od k))), (0, .ref (o + (9 + 3 * si))), (1, .int th), (2, .int kd), (3, .long tm), (5, .int (nI f)), (7, .int (nI k))]) hx hb d_S_latest_59 hl (by decide) rfl (fun ls hl => ?_)
              refine lv_iinc (v := nI (k + 1)) (lv' := [(7, .int (nI (k + 1))), (6, .int (nI (od k))), (8, .int (nI (od k))), (0, .ref (o + (9 + 3 * si))), (1, .int th), (2, .int kd), (3, .long tm), (5, .int (nI f))]) hx hb d_S_latest_61 hl (k := 7) rfl (w_inc k) (by decide) rfl (fun ls hl => ?_)
              refine lv_goto (tgt := 6) hx hb d_S_latest_64 (by decide) ?_
              exact ih (k + 1) (nI (od k)) (by omega) hkf (by rw [x_lat_l hh hu (b2i_1 hlt)]; rfl) _ _ hP hS ls (lv_sub hl [3, 4, 5, 6, 7, 1, 0] rfl)
  exact lp6 ((f - 0) + 1) 0 (-1) (Nat.lt_succ_self _) (Nat.zero_le _) rfl _ _ hP hS ls (lv_sub hl [2, 3, 4, 5, 6, 1, 0] rfl)
set_option maxHeartbeats 4000000 in
set_option maxRecDepth 100000 in
/-- S_settling -/
theorem k_S_settling (l : Launch) (D : va_G) (cA : Nat → ClassId) (o sz : Nat) (M : wM) (si : Nat) (hs : si < 8) (od : Nat → Nat) (f : Nat) (hf : f ≤ 300) (hod : ∀ j, j < f → M.1 (9 + 3 * si + 1) j = nI (od j) ∧ od j < 300) (th : Int32) (tm : Int64) : Met l y_S_settling (wm y_S_settling c_S_settling 7 (some .int)) { frames := 2, cells := 0, slots := 0, locals := 53 } (va_Pc [.ref (o + (9 + 3 * si)), .int th, .long tm, .int (nI f)] (xB D cA o M sz)) (va_Qi (fun r M1 => M1 = M ∧ r = x_opt (x_settle M od th tm f)) (xQ D cA o) (xA o sz)) 0 0 (xA o sz) := by
  refine Met.ofW (cc := c_S_settling) (maxL := 7) (ret := (some .int)) (by decide) rfl ?_
  intro p e s m args below meth c s₁ B hml hv
  obtain ⟨rfl, hsz, hP, hK⟩ := hv
  have hx := B.exec
  have hb := B.bytes
  have hr := B.returns
  have hts := atoms_spec (ws := wm y_S_settling c_S_settling 7 (some .int)) B.pre
  have hown : s.vm.findClass "ShopDesks$TellingSet" = some m.cls := findClass_of_methodNamed B.named
  have hlocks := B.notSynchronized
  subst hsz
  have hS : va_S (xA o s.heap.size) s.heap s.heap [] := va_S.rf
  have hW : ∀ i, i < 217 → xA o s.heap.size (o + i) := fun i hi => wA_in hi
  have hl := lv_entry ([.ref (o + (9 + 3 * si)), .int th, .long tm, .int (nI f)]) (n := 7) (Nat.le_of_ble_eq_true rfl)
  rw [lg_entry_eq]
  generalize (lg_sl ([.ref (o + (9 + 3 * si)), .int th, .long tm, .int (nI f)]) ++ List.replicate (7 - (lg_sl ([.ref (o + (9 + 3 * si)), .int th, .long tm, .int (nI f)])).length) Slot.unset).toArray = ls at hl ⊢
  have hl : lv_has ls 7 [(0, .ref (o + (9 + 3 * si))), (1, .int th), (2, .long tm), (4, .int (nI f))] := hl
  refine lv_aload_n hx hb d_S_settling_0 rfl (lv_at hl 0 rfl) ?_
  refine lv_iload_n hx hb d_S_settling_1 rfl (lv_at hl 1 rfl) ?_
  refine lv_iconst (v := 3) hx hb d_S_settling_2 (by decide) ?_
  refine lv_lload_n hx hb d_S_settling_3 rfl (lv_at hl 2 rfl) ?_
  refine lv_iload hx hb d_S_settling_4 (lv_at hl 3 rfl) ?_
  refine w_Vi ⟨hx, hb, hml, hown, hts⟩ (k_S_latest l D cA o _ M si hs od f hf hod th 3 tm) (kV hts 4 aK_S_latest aM_S_53 aI_S_latest aV_S_latest aN_S nm_S_latest rfl rfl ⟨(Nat.le_of_ble_eq_true rfl), (Nat.le_of_ble_eq_true rfl)⟩) hK hP (by omega) (SX_s hs) rfl rfl hl.1 rfl (Nat.le_of_ble_eq_true rfl) d_S_settling_6 ⟨(Nat.le_of_ble_eq_true rfl), (Nat.le_of_ble_eq_true rfl)⟩ hS (fun q h => wA_le hS.1 h) (fun r_1 M_1 H locs hw_1 hP hzc hkc hS => ?_)
  rw [hw_1.1] at hP
  refine w_topi hw_1.2 ?_
  refine lv_istore (lv' := [(5, .int (x_opt (x_lat M od th 3 tm f))), (0, .ref (o + (9 + 3 * si))), (1, .int th), (2, .long tm), (4, .int (nI f))]) hx hb d_S_settling_9 hl (by decide) rfl (fun ls hl => ?_)
  refine lv_aload_n hx hb d_S_settling_11 rfl (lv_at hl 1 rfl) ?_
  refine lv_iload_n hx hb d_S_settling_12 rfl (lv_at hl 2 rfl) ?_
  refine lv_iconst (v := 2) hx hb d_S_settling_13 (by decide) ?_
  refine lv_lload_n hx hb d_S_settling_14 rfl (lv_at hl 3 rfl) ?_
  refine lv_iload hx hb d_S_settling_15 (lv_at hl 4 rfl) ?_
  refine w_Vi ⟨hx, hb, hml, hown, hts⟩ (k_S_latest l D cA o _ M si hs od f hf hod th 2 tm) (kV hts 4 aK_S_latest aM_S_53 aI_S_latest aV_S_latest aN_S nm_S_latest rfl rfl ⟨(Nat.le_of_ble_eq_true rfl), (Nat.le_of_ble_eq_true rfl)⟩) hK hP (by omega) (SX_s hs) rfl rfl hl.1 rfl (Nat.le_of_ble_eq_true rfl) d_S_settling_17 ⟨(Nat.le_of_ble_eq_true rfl), (Nat.le_of_ble_eq_true rfl)⟩ hS (fun q h => wA_le hS.1 h) (fun r_2 M_2 H locs hw_2 hP hzc hkc hS => ?_)
  rw [hw_2.1] at hP
  refine w_topi hw_2.2 ?_
  refine lv_istore (lv' := [(6, .int (x_opt (x_lat M od th 2 tm f))), (5, .int (x_opt (x_lat M od th 3 tm f))), (0, .ref (o + (9 + 3 * si))), (1, .int th), (2, .long tm), (4, .int (nI f))]) hx hb d_S_settling_20 hl (by decide) rfl (fun ls hl => ?_)
  refine lv_iload hx hb d_S_settling_22 (lv_at hl 1 rfl) ?_
  refine lv_iconst (v := -1) hx hb d_S_settling_24 (by decide) ?_
  refine lv_icmp_eq (tgt := 34) hx hb d_S_settling_25 (by decide) (fun c_3 => ?_) (fun c_3 => ?_)
  · have hn3 := x_opt_none (x_lat_lt (fun j h => (hod j h).2) f (Nat.le_refl f)) c_3
    refine lv_iload hx hb d_S_settling_34 (lv_at hl 1 rfl) ?_
    exact W.iret (v := x_opt (x_lat M od th 3 tm f)) hx hb hr (fun tz hz9 hW9 => ⟨⟨x_opt (x_lat M od th 3 tm f), M, rfl, ⟨rfl, by unfold x_settle; rw [hn3]⟩, by rw [hz9]; exact hP, va_K.moved hW9.alike hK⟩, hS.F hz9⟩) hS.2.2 d_S_settling_36
  · obtain ⟨a, ha⟩ := x_opt_some c_3
    have ha3 := (x_lat_lt (fun j h => (hod j h).2) f (Nat.le_refl f)) a ha
    refine lv_iload hx hb d_S_settling_28 (lv_at hl 0 rfl) ?_
    refine lv_iconst (v := -1) hx hb d_S_settling_30 (by decide) ?_
    refine lv_icmp_ne (tgt := 37) hx hb d_S_settling_31 (by decide) (fun c_4 => ?_) (fun c_4 => ?_)
    · obtain ⟨b, hb2⟩ := x_opt_some c_4
      have hb3 := (x_lat_lt (fun j h => (hod j h).2) f (Nat.le_refl f)) b hb2
      refine lv_aload_n hx hb d_S_settling_37 rfl (lv_at hl 2 rfl) ?_
      refine w_get (C := R_S) (T := F_S) (N := 5) (ci := 2) (v := .ref (o + 1)) hx hb hts inw_S hown hK hP (9 + 3 * si) (by omega) (SX_s hs) rfl 0 (by decide) (hts _ (al aF_S_26)) rfl d_S_settling_38 ?_
      refine w_get (C := R_T) (T := F_T) (N := 7) (ci := 3) (v := .ref (o + 7)) hx hb hts inw_T hown hK hP 1 (by decide) SX_1 rfl 5 (by decide) (hts _ (al aF_S_82)) rfl d_S_settling_41 ?_
      refine lv_iload hx hb d_S_settling_44 (lv_at hl 1 rfl) ?_
      refine w_topi (show x_opt (x_lat M od th 3 tm f) = nI a by rw [ha]; rfl) ?_
      refine w_lald hx hb hK hP 7 1 (by decide) SX_7 rfl (k := a) (by omega) (by decide) d_S_settling_46 ?_
      refine lv_aload_n hx hb d_S_settling_47 rfl (lv_at hl 2 rfl) ?_
      refine w_get (C := R_S) (T := F_S) (N := 5) (ci := 2) (v := .ref (o + 1)) hx hb hts inw_S hown hK hP (9 + 3 * si) (by omega) (SX_s hs) rfl 0 (by decide) (hts _ (al aF_S_26)) rfl d_S_settling_48 ?_
      refine w_get (C := R_T) (T := F_T) (N := 7) (ci := 3) (v := .ref (o + 7)) hx hb hts inw_T hown hK hP 1 (by decide) SX_1 rfl 5 (by decide) (hts _ (al aF_S_82)) rfl d_S_settling_51 ?_
      refine lv_iload hx hb d_S_settling_54 (lv_at hl 0 rfl) ?_
      refine w_topi (show x_opt (x_lat M od th 2 tm f) = nI b by rw [hb2]; rfl) ?_
      refine w_lald hx hb hK hP 7 1 (by decide) SX_7 rfl (k := b) (by omega) (by decide) d_S_settling_56 ?_
      refine W.lcmp hx hb d_S_settling_57 ?_
      refine lv_if_lt (tgt := 66) hx hb d_S_settling_58 (by decide) (fun c_5 => ?_) (fun c_5 => ?_)
      · rw [lg_cmp_lt] at c_5
        have q := c_5
        refine lv_iconst (v := -1) hx hb d_S_settling_66 (by decide) ?_
        exact W.iret (v := (-1)) hx hb hr (fun tz hz9 hW9 => ⟨⟨(-1), M, rfl, ⟨rfl, by unfold x_settle; rw [ha, hb2]; dsimp only; rw [if_pos q]; rfl⟩, by rw [hz9]; exact hP, va_K.moved hW9.alike hK⟩, hS.F hz9⟩) hS.2.2 d_S_settling_67
      · rw [lg_cmp_lt] at c_5
        have q := c_5
        refine lv_iload hx hb d_S_settling_61 (lv_at hl 1 rfl) ?_
        refine lv_goto (tgt := 67) hx hb d_S_settling_63 (by decide) ?_
        exact W.iret (v := x_opt (x_lat M od th 3 tm f)) hx hb hr (fun tz hz9 hW9 => ⟨⟨x_opt (x_lat M od th 3 tm f), M, rfl, ⟨rfl, by unfold x_settle; rw [ha, hb2]; dsimp only; rw [if_neg q]⟩, by rw [hz9]; exact hP, va_K.moved hW9.alike hK⟩, hS.F hz9⟩) hS.2.2 d_S_settling_67
    · have hn2 := x_opt_none (x_lat_lt (fun j h => (hod j h).2) f (Nat.le_refl f)) c_4
      refine lv_iload hx hb d_S_settling_34 (lv_at hl 1 rfl) ?_
      exact W.iret (v := x_opt (x_lat M od th 3 tm f)) hx hb hr (fun tz hz9 hW9 => ⟨⟨x_opt (x_lat M od th 3 tm f), M, rfl, ⟨rfl, by unfold x_settle; rw [ha, hn2]⟩, by rw [hz9]; exact hP, va_K.moved hW9.alike hK⟩, hS.F hz9⟩) hS.2.2 d_S_settling_36
set_option maxHeartbeats 4000000 in
set_option maxRecDepth 100000 in
/-- S_hasUnlikeMarks -/
theorem k_S_hasUnlikeMarks (l : Launch) (D : va_G) (cA : Nat → ClassId) (o sz : Nat) (M : wM) (si : Nat) (hs : si < 8) (od : Nat → Nat) (f : Nat) (hf : f ≤ 300) (hod : ∀ j, j < f → M.1 (9 + 3 * si + 1) j = nI (od j) ∧ od j < 300) (th : Int32) (tm : Int64) : Met l y_S_hasUnlikeMarks (wm y_S_hasUnlikeMarks c_S_hasUnlikeMarks 7 (some .boolean)) { frames := 2, cells := 0, slots := 0, locals := 53 } (va_Pc [.ref (o + (9 + 3 * si)), .int th, .long tm, .int (nI f)] (xB D cA o M sz)) (va_Qi (fun r M1 => M1 = M ∧ r = b2i (x_unlike M od th tm f)) (xQ D cA o) (xA o sz)) 0 0 (xA o sz) := by
  refine Met.ofW (cc := c_S_hasUnlikeMarks) (maxL := 7) (ret := (some .boolean)) (by decide) rfl ?_
  intro p e s m args below meth c s₁ B hml hv
  obtain ⟨rfl, hsz, hP, hK⟩ := hv
  have hx := B.exec
  have hb := B.bytes
  have hr := B.returns
  have hts := atoms_spec (ws := wm y_S_hasUnlikeMarks c_S_hasUnlikeMarks 7 (some .boolean)) B.pre
  have hown : s.vm.findClass "ShopDesks$TellingSet" = some m.cls := findClass_of_methodNamed B.named
  have hlocks := B.notSynchronized
  subst hsz
  have hS : va_S (xA o s.heap.size) s.heap s.heap [] := va_S.rf
  have hW : ∀ i, i < 217 → xA o s.heap.size (o + i) := fun i hi => wA_in hi
  have hl := lv_entry ([.ref (o + (9 + 3 * si)), .int th, .long tm, .int (nI f)]) (n := 7) (Nat.le_of_ble_eq_true rfl)
  rw [lg_entry_eq]
  generalize (lg_sl ([.ref (o + (9 + 3 * si)), .int th, .long tm, .int (nI f)]) ++ List.replicate (7 - (lg_sl ([.ref (o + (9 + 3 * si)), .int th, .long tm, .int (nI f)])).length) Slot.unset).toArray = ls at hl ⊢
  have hl : lv_has ls 7 [(0, .ref (o + (9 + 3 * si))), (1, .int th), (2, .long tm), (4, .int (nI f))] := hl
  refine lv_aload_n hx hb d_S_hasUnlikeMarks_0 rfl (lv_at hl 0 rfl) ?_
  refine lv_iload_n hx hb d_S_hasUnlikeMarks_1 rfl (lv_at hl 1 rfl) ?_
  refine lv_iconst (v := 2) hx hb d_S_hasUnlikeMarks_2 (by decide) ?_
  refine lv_lload_n hx hb d_S_hasUnlikeMarks_3 rfl (lv_at hl 2 rfl) ?_
  refine lv_iload hx hb d_S_hasUnlikeMarks_4 (lv_at hl 3 rfl) ?_
  refine w_Vi ⟨hx, hb, hml, hown, hts⟩ (k_S_latest l D cA o _ M si hs od f hf hod th 2 tm) (kV hts 4 aK_S_latest aM_S_53 aI_S_latest aV_S_latest aN_S nm_S_latest rfl rfl ⟨(Nat.le_of_ble_eq_true rfl), (Nat.le_of_ble_eq_true rfl)⟩) hK hP (by omega) (SX_s hs) rfl rfl hl.1 rfl (Nat.le_of_ble_eq_true rfl) d_S_hasUnlikeMarks_6 ⟨(Nat.le_of_ble_eq_true rfl), (Nat.le_of_ble_eq_true rfl)⟩ hS (fun q h => wA_le hS.1 h) (fun r_1 M_1 H locs hw_1 hP hzc hkc hS => ?_)
  rw [hw_1.1] at hP
  refine w_topi hw_1.2 ?_
  refine lv_istore (lv' := [(5, .int (x_opt (x_lat M od th 2 tm f))), (0, .ref (o + (9 + 3 * si))), (1, .int th), (2, .long tm), (4, .int (nI f))]) hx hb d_S_hasUnlikeMarks_9 hl (by decide) rfl (fun ls hl => ?_)
  refine lv_iload hx hb d_S_hasUnlikeMarks_11 (lv_at hl 0 rfl) ?_
  refine lv_iconst (v := -1) hx hb d_S_hasUnlikeMarks_13 (by decide) ?_
  refine lv_icmp_ne (tgt := 19) hx hb d_S_hasUnlikeMarks_14 (by decide) (fun c_2 => ?_) (fun c_2 => ?_)
  · obtain ⟨u, hu⟩ := x_opt_some c_2
    have hu3 := (x_lat_lt (fun j h => (hod j h).2) f (Nat.le_refl f)) u hu
    refine lv_iconst (v := 0) hx hb d_S_hasUnlikeMarks_19 (by decide) ?_
    refine lv_istore (lv' := [(6, .int 0), (5, .int (x_opt (x_lat M od th 2 tm f))), (0, .ref (o + (9 + 3 * si))), (1, .int th), (2, .long tm), (4, .int (nI f))]) hx hb d_S_hasUnlikeMarks_20 hl (by decide) rfl (fun ls hl => ?_)
    have lp22 : ∀ (fuel : Nat) (k : Nat), f - k < fuel → (k ≤ f) → (x_anyU M od th tm u k = false) → ∀ (H : Heap) (locs : List Loc), wP D cls_ (SX o cA) o 217 M H → va_S (xA o s.heap.size) s.heap H locs → ∀ (ls : Array Slot), lv_has ls 7 [(0, .ref (o + (9 + 3 * si))), (1, .int th), (2, .long tm), (4, .int (nI f)), (5, .int (x_opt (x_lat M od th 2 tm f))), (6, .int (nI k))] → W p l e (headSpec (wm y_S_hasUnlikeMarks c_S_hasUnlikeMarks 7 (some .boolean)) { frames := 2, cells := 0, slots := 0, locals := 53 }).room s m ([.ref (o + (9 + 3 * si)), .int th, .long tm, .int (nI f)] : List Value).toArray below meth c H locs 0 0 (MQ below (va_Qi (fun r M1 => M1 = M ∧ r = b2i (x_unlike M od th tm f)) (xQ D cA o) (xA o s.heap.size)) ([.ref (o + (9 + 3 * si)), .int th, .long tm, .int (nI f)] : List Value).toArray s 0 0 (xA o s.heap.size)) (F0 m 22 ls []) := by
      intro fuel
      induction fuel with
      | zero => intro k hfu; exact absurd hfu (Nat.not_lt_zero _)
      | succ fuel ih =>
        intro k hfu hk hno H locs hP hS ls hl
        refine lv_iload hx hb d_S_hasUnlikeMarks_22 (lv_at hl 5 rfl) ?_
        refine lv_iload hx hb d_S_hasUnlikeMarks_24 (lv_at hl 3 rfl) ?_
        refine lv_icmp_ge (tgt := 86) hx hb d_S_hasUnlikeMarks_26 (by decide) (fun c_3 => ?_) (fun c_3 => ?_)
        · have hkf : f ≤ k := i_le (by omega) (by omega) c_3
          refine lv_iconst (v := 0) hx hb d_S_hasUnlikeMarks_86 (by decide) ?_
          exact W.zret (v := 0) hx hb hr rfl (fun tz hz9 hW9 => ⟨⟨0, M, rfl, ⟨rfl, by unfold x_unlike; rw [hu]; dsimp only; rw [show f = k by omega, hno]; rfl⟩, by rw [hz9]; exact hP, va_K.moved hW9.alike hK⟩, hS.F hz9⟩) hS.2.2 d_S_hasUnlikeMarks_87
        · have hkf : k < f := i_nle (by omega) (by omega) c_3
          have hod3 := (hod k hkf).2
          refine lv_aload_n hx hb d_S_hasUnlikeMarks_29 rfl (lv_at hl 0 rfl) ?_
          refine w_get (C := R_S) (T := F_S) (N := 5) (ci := 2) (v := .ref (o + 1)) hx hb hts inw_S hown hK hP (9 + 3 * si) (by omega) (SX_s hs) rfl 0 (by decide) (hts _ (al aF_S_26)) rfl d_S_hasUnlikeMarks_30 ?_
          refine lv_aload_n hx hb d_S_hasUnlikeMarks_33 rfl (lv_at hl 0 rfl) ?_
          refine w_get (C := R_S) (T := F_S) (N := 5) (ci := 2) (v := .ref (o + (9 + 3 * si + 1))) hx hb hts inw_S hown hK hP (9 + 3 * si) (by omega) (SX_s hs) rfl 1 (by decide) (hts _ (al aF_S_9)) rfl d_S_hasUnlikeMarks_34 ?_
          refine lv_iload hx hb d_S_hasUnlikeMarks_37 (lv_at hl 5 rfl) ?_
          refine w_iald hx hb hK hP (9 + 3 * si + 1) 0 (by omega) (SX_so hs) rfl (k := k) (by omega) (by decide) d_S_hasUnlikeMarks_39 ?_
          refine w_topi ((hod k hkf).1) ?_
          refine lv_iload_n hx hb d_S_hasUnlikeMarks_40 rfl (lv_at hl 1 rfl) ?_
          refine lv_iconst (v := 2) hx hb d_S_hasUnlikeMarks_41 (by decide) ?_
          refine lv_lload_n hx hb d_S_hasUnlikeMarks_42 rfl (lv_at hl 2 rfl) ?_
          refine w_Vi ⟨hx, hb, hml, hown, hts⟩ (k_T_holds l D cA o _ M (od k) hod3 th 2 tm) (kV hts 4 aK_T_holds aM_S_71 aI_T_holds aV_T_holds aN_T nm_T_holds rfl rfl ⟨(Nat.le_of_ble_eq_true rfl), (Nat.le_of_ble_eq_true rfl)⟩) hK hP (by decide) SX_1 rfl rfl hl.1 rfl (Nat.le_of_ble_eq_true rfl) d_S_hasUnlikeMarks_43 ⟨(Nat.le_of_ble_eq_true rfl), (Nat.le_of_ble_eq_true rfl)⟩ hS (fun q h => wA_le hS.1 h) (fun r_4 M_4 H locs hw_4 hP hzc hkc hS => ?_)
          rw [hw_4.1] at hP
          refine w_topi hw_4.2 ?_
          refine lv_if_eq (tgt := 80) hx hb d_S_hasUnlikeMarks_46 (by decide) (fun c_5 => ?_) (fun c_5 => ?_)
          · have hh := b2i_0 c_5
            refine lv_iinc (v := nI (k + 1)) (lv' := [(6, .int (nI (k + 1))), (0, .ref (o + (9 + 3 * si))), (1, .int th), (2, .long tm), (4, .int (nI f)), (5, .int (x_opt (x_lat M od th 2 tm f)))]) hx hb d_S_hasUnlikeMarks_80 hl (k := 5) rfl (w_inc k) (by decide) rfl (fun ls hl => ?_)
            refine lv_goto (tgt := 22) hx hb d_S_hasUnlikeMarks_83 (by decide) ?_
            exact ih (k + 1) (by omega) hkf (by unfold x_anyU; simp [hno, hh]) _ _ hP hS ls (lv_sub hl [1, 2, 3, 4, 5, 0] rfl)
          · have hh := b2i_1 c_5
            refine lv_aload_n hx hb d_S_hasUnlikeMarks_49 rfl (lv_at hl 0 rfl) ?_
            refine w_get (C := R_S) (T := F_S) (N := 5) (ci := 2) (v := .ref (o + 1)) hx hb hts inw_S hown hK hP (9 + 3 * si) (by omega) (SX_s hs) rfl 0 (by decide) (hts _ (al aF_S_26)) rfl d_S_hasUnlikeMarks_50 ?_
            refine w_get (C := R_T) (T := F_T) (N := 7) (ci := 3) (v := .ref (o + 6)) hx hb hts inw_T hown hK hP 1 (by decide) SX_1 rfl 4 (by decide) (hts _ (al aF_S_75)) rfl d_S_hasUnlikeMarks_53 ?_
            refine lv_aload_n hx hb d_S_hasUnlikeMarks_56 rfl (lv_at hl 0 rfl) ?_
            refine w_get (C := R_S) (T := F_S) (N := 5) (ci := 2) (v := .ref (o + (9 + 3 * si + 1))) hx hb hts inw_S hown hK hP (9 + 3 * si) (by omega) (SX_s hs) rfl 1 (by decide) (hts _ (al aF_S_9)) rfl d_S_hasUnlikeMarks_57 ?_
            refine lv_iload hx hb d_S_hasUnlikeMarks_60 (lv_at hl 5 rfl) ?_
            refine w_iald hx hb hK hP (9 + 3 * si + 1) 0 (by omega) (SX_so hs) rfl (k := k) (by omega) (by decide) d_S_hasUnlikeMarks_62 ?_
            refine w_topi ((hod k hkf).1) ?_
            refine w_lald hx hb hK hP 6 1 (by decide) SX_6 rfl (k := (od k)) (by omega) (by decide) d_S_hasUnlikeMarks_63 ?_
            refine lv_aload_n hx hb d_S_hasUnlikeMarks_64 rfl (lv_at hl 0 rfl) ?_
            refine w_get (C := R_S) (T := F_S) (N := 5) (ci := 2) (v := .ref (o + 1)) hx hb hts inw_S hown hK hP (9 + 3 * si) (by omega) (SX_s hs) rfl 0 (by decide) (hts _ (al aF_S_26)) rfl d_S_hasUnlikeMarks_65 ?_
            refine w_get (C := R_T) (T := F_T) (N := 7) (ci := 3) (v := .ref (o + 6)) hx hb hts inw_T hown hK hP 1 (by decide) SX_1 rfl 4 (by decide) (hts _ (al aF_S_75)) rfl d_S_hasUnlikeMarks_68 ?_
            refine lv_iload hx hb d_S_hasUnlikeMarks_71 (lv_at hl 4 rfl) ?_
            refine w_topi (show x_opt (x_lat M od th 2 tm f) = nI u by rw [hu]; rfl) ?_
            refine w_lald hx hb hK hP 6 1 (by decide) SX_6 rfl (k := u) (by omega) (by decide) d_S_hasUnlikeMarks_73 ?_
            refine W.lcmp hx hb d_S_hasUnlikeMarks_74 ?_
            refine lv_if_eq (tgt := 80) hx hb d_S_hasUnlikeMarks_75 (by decide) (fun c_6 => ?_) (fun c_6 => ?_)
            · rw [lg_cmp_eq] at c_6
              have hv := c_6
              refine lv_iinc (v := nI (k + 1)) (lv' := [(6, .int (nI (k + 1))), (0, .ref (o + (9 + 3 * si))), (1, .int th), (2, .long tm), (4, .int (nI f)), (5, .int (x_opt (x_lat M od th 2 tm f)))]) hx hb d_S_hasUnlikeMarks_80 hl (k := 5) rfl (w_inc k) (by decide) rfl (fun ls hl => ?_)
              refine lv_goto (tgt := 22) hx hb d_S_hasUnlikeMarks_83 (by decide) ?_
              exact ih (k + 1) (by omega) hkf (by unfold x_anyU; simp [hno, hv]) _ _ hP hS ls (lv_sub hl [1, 2, 3, 4, 5, 0] rfl)
            · rw [lg_cmp_eq] at c_6
              have hv := c_6
              refine lv_iconst (v := 1) hx hb d_S_hasUnlikeMarks_78 (by decide) ?_
              exact W.zret (v := 1) hx hb hr rfl (fun tz hz9 hW9 => ⟨⟨1, M, rfl, ⟨rfl, by unfold x_unlike; rw [hu]; dsimp only; rw [x_anyU_mono (k := k + 1) (by unfold x_anyU; simp [hh, hv]) f hkf]; rfl⟩, by rw [hz9]; exact hP, va_K.moved hW9.alike hK⟩, hS.F hz9⟩) hS.2.2 d_S_hasUnlikeMarks_79
    exact lp22 ((f - 0) + 1) 0 (Nat.lt_succ_self _) (Nat.zero_le _) rfl _ _ hP hS ls (lv_sub hl [2, 3, 4, 5, 1, 0] rfl)
  · have hn := x_opt_none (x_lat_lt (fun j h => (hod j h).2) f (Nat.le_refl f)) c_2
    refine lv_iconst (v := 0) hx hb d_S_hasUnlikeMarks_17 (by decide) ?_
    exact W.zret (v := 0) hx hb hr rfl (fun tz hz9 hW9 => ⟨⟨0, M, rfl, ⟨rfl, by unfold x_unlike; rw [hn]; rfl⟩, by rw [hz9]; exact hP, va_K.moved hW9.alike hK⟩, hS.F hz9⟩) hS.2.2 d_S_hasUnlikeMarks_18
set_option maxHeartbeats 4000000 in
set_option maxRecDepth 100000 in
/-- S_sumOfCounts -/
theorem k_S_sumOfCounts (l : Launch) (D : va_G) (cA : Nat → ClassId) (o sz : Nat) (M : wM) (si : Nat) (hs : si < 8) (od : Nat → Nat) (f : Nat) (hf : f ≤ 300) (hod : ∀ j, j < f → M.1 (9 + 3 * si + 1) j = nI (od j) ∧ od j < 300) (th : Int32) (tm : Int64) : Met l y_S_sumOfCounts (wm y_S_sumOfCounts c_S_sumOfCounts 8 (some .long)) { frames := 1, cells := 0, slots := 0, locals := 25 } (va_Pc [.ref (o + (9 + 3 * si)), .int th, .long tm, .int (nI f)] (xB D cA o M sz)) (va_Ql (fun r M1 => M1 = M ∧ r = x_sum M od th tm f) (xQ D cA o) (xA o sz)) 0 0 (xA o sz) := by
  refine Met.ofW (cc := c_S_sumOfCounts) (maxL := 8) (ret := (some .long)) (by decide) rfl ?_
  intro p e s m args below meth c s₁ B hml hv
  obtain ⟨rfl, hsz, hP, hK⟩ := hv
  have hx := B.exec
  have hb := B.bytes
  have hr := B.returns
  have hts := atoms_spec (ws := wm y_S_sumOfCounts c_S_sumOfCounts 8 (some .long)) B.pre
  have hown : s.vm.findClass "ShopDesks$TellingSet" = some m.cls := findClass_of_methodNamed B.named
  have hlocks := B.notSynchronized
  subst hsz
  have hS : va_S (xA o s.heap.size) s.heap s.heap [] := va_S.rf
  have hW : ∀ i, i < 217 → xA o s.heap.size (o + i) := fun i hi => wA_in hi
  have hl := lv_entry ([.ref (o + (9 + 3 * si)), .int th, .long tm, .int (nI f)]) (n := 8) (Nat.le_of_ble_eq_true rfl)
  rw [lg_entry_eq]
  generalize (lg_sl ([.ref (o + (9 + 3 * si)), .int th, .long tm, .int (nI f)]) ++ List.replicate (8 - (lg_sl ([.ref (o + (9 + 3 * si)), .int th, .long tm, .int (nI f)])).length) Slot.unset).toArray = ls at hl ⊢
  have hl : lv_has ls 8 [(0, .ref (o + (9 + 3 * si))), (1, .int th), (2, .long tm), (4, .int (nI f))] := hl
  refine lv_lconst (v := 0) hx hb d_S_sumOfCounts_0 (by decide) ?_
  refine lv_lstore (lv' := [(5, .long 0), (0, .ref (o + (9 + 3 * si))), (1, .int th), (2, .long tm), (4, .int (nI f))]) hx hb d_S_sumOfCounts_1 hl (by decide) rfl (fun ls hl => ?_)
  refine lv_iconst (v := 0) hx hb d_S_sumOfCounts_3 (by decide) ?_
  refine lv_istore (lv' := [(7, .int 0), (5, .long 0), (0, .ref (o + (9 + 3 * si))), (1, .int th), (2, .long tm), (4, .int (nI f))]) hx hb d_S_sumOfCounts_4 hl (by decide) rfl (fun ls hl => ?_)
  have lp6 : ∀ (fuel : Nat) (k : Nat) (sm : Int64), f - k < fuel → (k ≤ f) → (sm = x_sum M od th tm k) → ∀ (H : Heap) (locs : List Loc), wP D cls_ (SX o cA) o 217 M H → va_S (xA o s.heap.size) s.heap H locs → ∀ (ls : Array Slot), lv_has ls 8 [(0, .ref (o + (9 + 3 * si))), (1, .int th), (2, .long tm), (4, .int (nI f)), (5, .long sm), (7, .int (nI k))] → W p l e (headSpec (wm y_S_sumOfCounts c_S_sumOfCounts 8 (some .long)) { frames := 1, cells := 0, slots := 0, locals := 25 }).room s m ([.ref (o + (9 + 3 * si)), .int th, .long tm, .int (nI f)] : List Value).toArray below meth c H locs 0 0 (MQ below (va_Ql (fun r M1 => M1 = M ∧ r = x_sum M od th tm f) (xQ D cA o) (xA o s.heap.size)) ([.ref (o + (9 + 3 * si)), .int th, .long tm, .int (nI f)] : List Value).toArray s 0 0 (xA o s.heap.size)) (F0 m 6 ls []) := by
    intro fuel
    induction fuel with
    | zero => intro k sm hfu; exact absurd hfu (Nat.not_lt_zero _)
    | succ fuel ih =>
      intro k sm hfu hk hsm H locs hP hS ls hl
      refine lv_iload hx hb d_S_sumOfCounts_6 (lv_at hl 5 rfl) ?_
      refine lv_iload hx hb d_S_sumOfCounts_8 (lv_at hl 3 rfl) ?_
      refine lv_icmp_ge (tgt := 59) hx hb d_S_sumOfCounts_10 (by decide) (fun c_1 => ?_) (fun c_1 => ?_)
      · have hkf : f ≤ k := i_le (by omega) (by omega) c_1
        refine lv_lload hx hb d_S_sumOfCounts_59 (lv_at hl 4 rfl) ?_
        exact W.lret (v := sm) hx hb hr (fun tz hz9 hW9 => ⟨⟨sm, M, rfl, ⟨rfl, by rw [hsm, show k = f by omega]⟩, by rw [hz9]; exact hP, va_K.moved hW9.alike hK⟩, hS.F hz9⟩) hS.2.2 d_S_sumOfCounts_61
      · have hkf : k < f := i_nle (by omega) (by omega) c_1
        have hod3 := (hod k hkf).2
        refine lv_aload_n hx hb d_S_sumOfCounts_13 rfl (lv_at hl 0 rfl) ?_
        refine w_get (C := R_S) (T := F_S) (N := 5) (ci := 2) (v := .ref (o + 1)) hx hb hts inw_S hown hK hP (9 + 3 * si) (by omega) (SX_s hs) rfl 0 (by decide) (hts _ (al aF_S_26)) rfl d_S_sumOfCounts_14 ?_
        refine lv_aload_n hx hb d_S_sumOfCounts_17 rfl (lv_at hl 0 rfl) ?_
        refine w_get (C := R_S) (T := F_S) (N := 5) (ci := 2) (v := .ref (o + (9 + 3 * si + 1))) hx hb hts inw_S hown hK hP (9 + 3 * si) (by omega) (SX_s hs) rfl 1 (by decide) (hts _ (al aF_S_9)) rfl d_S_sumOfCounts_18 ?_
        refine lv_iload hx hb d_S_sumOfCounts_21 (lv_at hl 5 rfl) ?_
        refine w_iald hx hb hK hP (9 + 3 * si + 1) 0 (by omega) (SX_so hs) rfl (k := k) (by omega) (by decide) d_S_sumOfCounts_23 ?_
        refine w_topi ((hod k hkf).1) ?_
        refine lv_iload_n hx hb d_S_sumOfCounts_24 rfl (lv_at hl 1 rfl) ?_
        refine lv_iconst (v := 0) hx hb d_S_sumOfCounts_25 (by decide) ?_
        refine lv_lload_n hx hb d_S_sumOfCounts_26 rfl (lv_at hl 2 rfl) ?_
        refine w_Vi ⟨hx, hb, hml, hown, hts⟩ (k_T_holds l D cA o _ M (od k) hod3 th 0 tm) (kV hts 4 aK_T_holds aM_S_71 aI_T_holds aV_T_holds aN_T nm_T_holds rfl rfl ⟨(Nat.le_of_ble_eq_true rfl), (Nat.le_of_ble_eq_true rfl)⟩) hK hP (by decide) SX_1 rfl rfl hl.1 rfl (Nat.le_of_ble_eq_true rfl) d_S_sumOfCounts_27 ⟨(Nat.le_of_ble_eq_true rfl), (Nat.le_of_ble_eq_true rfl)⟩ hS (fun q h => wA_le hS.1 h) (fun r_2 M_2 H locs hw_2 hP hzc hkc hS => ?_)
        rw [hw_2.1] at hP
        refine w_topi hw_2.2 ?_
        refine lv_if_eq (tgt := 53) hx hb d_S_sumOfCounts_30 (by decide) (fun c_3 => ?_) (fun c_3 => ?_)
        · have hh := b2i_0 c_3
          refine lv_iinc (v := nI (k + 1)) (lv' := [(7, .int (nI (k + 1))), (0, .ref (o + (9 + 3 * si))), (1, .int th), (2, .long tm), (4, .int (nI f)), (5, .long sm)]) hx hb d_S_sumOfCounts_53 hl (k := 5) rfl (w_inc k) (by decide) rfl (fun ls hl => ?_)
          refine lv_goto (tgt := 6) hx hb d_S_sumOfCounts_56 (by decide) ?_
          exact ih (k + 1) sm (by omega) hkf (by rw [x_sum_f hh]; exact hsm) _ _ hP hS ls (lv_sub hl [1, 2, 3, 4, 5, 0] rfl)
        · have hh := b2i_1 c_3
          refine lv_lload hx hb d_S_sumOfCounts_33 (lv_at hl 4 rfl) ?_
          refine lv_aload_n hx hb d_S_sumOfCounts_35 rfl (lv_at hl 0 rfl) ?_
          refine w_get (C := R_S) (T := F_S) (N := 5) (ci := 2) (v := .ref (o + 1)) hx hb hts inw_S hown hK hP (9 + 3 * si) (by omega) (SX_s hs) rfl 0 (by decide) (hts _ (al aF_S_26)) rfl d_S_sumOfCounts_36 ?_
          refine w_get (C := R_T) (T := F_T) (N := 7) (ci := 3) (v := .ref (o + 6)) hx hb hts inw_T hown hK hP 1 (by decide) SX_1 rfl 4 (by decide) (hts _ (al aF_S_75)) rfl d_S_sumOfCounts_39 ?_
          refine lv_aload_n hx hb d_S_sumOfCounts_42 rfl (lv_at hl 0 rfl) ?_
          refine w_get (C := R_S) (T := F_S) (N := 5) (ci := 2) (v := .ref (o + (9 + 3 * si + 1))) hx hb hts inw_S hown hK hP (9 + 3 * si) (by omega) (SX_s hs) rfl 1 (by decide) (hts _ (al aF_S_9)) rfl d_S_sumOfCounts_43 ?_
          refine lv_iload hx hb d_S_sumOfCounts_46 (lv_at hl 5 rfl) ?_
          refine w_iald hx hb hK hP (9 + 3 * si + 1) 0 (by omega) (SX_so hs) rfl (k := k) (by omega) (by decide) d_S_sumOfCounts_48 ?_
          refine w_topi ((hod k hkf).1) ?_
          refine w_lald hx hb hK hP 6 1 (by decide) SX_6 rfl (k := (od k)) (by omega) (by decide) d_S_sumOfCounts_49 ?_
          refine lv_ladd hx hb d_S_sumOfCounts_50 ?_
          refine lv_lstore (lv' := [(5, .long (sm + (M.2.1 6 (od k)))), (0, .ref (o + (9 + 3 * si))), (1, .int th), (2, .long tm), (4, .int (nI f)), (7, .int (nI k))]) hx hb d_S_sumOfCounts_51 hl (by decide) rfl (fun ls hl => ?_)
          refine lv_iinc (v := nI (k + 1)) (lv' := [(7, .int (nI (k + 1))), (5, .long (sm + (M.2.1 6 (od k)))), (0, .ref (o + (9 + 3 * si))), (1, .int th), (2, .long tm), (4, .int (nI f))]) hx hb d_S_sumOfCounts_53 hl (k := 5) rfl (w_inc k) (by decide) rfl (fun ls hl => ?_)
          refine lv_goto (tgt := 6) hx hb d_S_sumOfCounts_56 (by decide) ?_
          exact ih (k + 1) (sm + (M.2.1 6 (od k))) (by omega) hkf (by rw [x_sum_t hh, hsm]) _ _ hP hS ls (lv_sub hl [2, 3, 4, 5, 1, 0] rfl)
  exact lp6 ((f - 0) + 1) 0 0 (Nat.lt_succ_self _) (Nat.zero_le _) rfl _ _ hP hS ls (lv_sub hl [2, 3, 4, 5, 1, 0] rfl)
set_option maxHeartbeats 4000000 in
set_option maxRecDepth 100000 in
/-- S_knownMark -/
theorem k_S_knownMark (l : Launch) (D : va_G) (cA : Nat → ClassId) (o sz : Nat) (M : wM) (si : Nat) (hs : si < 8) (od : Nat → Nat) (f : Nat) (hf : f ≤ 300) (hod : ∀ j, j < f → M.1 (9 + 3 * si + 1) j = nI (od j) ∧ od j < 300) (th : Int32) (tm : Int64) : Met l y_S_knownMark (wm y_S_knownMark c_S_knownMark 6 (some .long)) { frames := 3, cells := 0, slots := 0, locals := 79 } (va_Pc [.ref (o + (9 + 3 * si)), .int th, .long tm, .int (nI f)] (xB D cA o M sz)) (va_Ql (fun r M1 => M1 = M ∧ r = x_kmark M od th tm f) (xQ D cA o) (xA o sz)) 0 0 (xA o sz) := by
  refine Met.ofW (cc := c_S_knownMark) (maxL := 6) (ret := (some .long)) (by decide) rfl ?_
  intro p e s m args below meth c s₁ B hml hv
  obtain ⟨rfl, hsz, hP, hK⟩ := hv
  have hx := B.exec
  have hb := B.bytes
  have hr := B.returns
  have hts := atoms_spec (ws := wm y_S_knownMark c_S_knownMark 6 (some .long)) B.pre
  have hown : s.vm.findClass "ShopDesks$TellingSet" = some m.cls := findClass_of_methodNamed B.named
  have hlocks := B.notSynchronized
  subst hsz
  have hS : va_S (xA o s.heap.size) s.heap s.heap [] := va_S.rf
  have hW : ∀ i, i < 217 → xA o s.heap.size (o + i) := fun i hi => wA_in hi
  have hl := lv_entry ([.ref (o + (9 + 3 * si)), .int th, .long tm, .int (nI f)]) (n := 6) (Nat.le_of_ble_eq_true rfl)
  rw [lg_entry_eq]
  generalize (lg_sl ([.ref (o + (9 + 3 * si)), .int th, .long tm, .int (nI f)]) ++ List.replicate (6 - (lg_sl ([.ref (o + (9 + 3 * si)), .int th, .long tm, .int (nI f)])).length) Slot.unset).toArray = ls at hl ⊢
  have hl : lv_has ls 6 [(0, .ref (o + (9 + 3 * si))), (1, .int th), (2, .long tm), (4, .int (nI f))] := hl
  refine lv_aload_n hx hb d_S_knownMark_0 rfl (lv_at hl 0 rfl) ?_
  refine lv_iload_n hx hb d_S_knownMark_1 rfl (lv_at hl 1 rfl) ?_
  refine lv_lload_n hx hb d_S_knownMark_2 rfl (lv_at hl 2 rfl) ?_
  refine lv_iload hx hb d_S_knownMark_3 (lv_at hl 3 rfl) ?_
  refine w_Vi ⟨hx, hb, hml, hown, hts⟩ (k_S_settling l D cA o _ M si hs od f hf hod th tm) (kV hts 3 aK_S_settling aM_S_63 aI_S_settling aV_S_settling aN_S nm_S_settling rfl rfl ⟨(Nat.le_of_ble_eq_true rfl), (Nat.le_of_ble_eq_true rfl)⟩) hK hP (by omega) (SX_s hs) rfl rfl hl.1 rfl (Nat.le_of_ble_eq_true rfl) d_S_knownMark_5 ⟨(Nat.le_of_ble_eq_true rfl), (Nat.le_of_ble_eq_true rfl)⟩ hS (fun q h => wA_le hS.1 h) (fun r_1 M_1 H locs hw_1 hP hzc hkc hS => ?_)
  rw [hw_1.1] at hP
  refine w_topi hw_1.2 ?_
  refine lv_istore (lv' := [(5, .int (x_opt (x_settle M od th tm f))), (0, .ref (o + (9 + 3 * si))), (1, .int th), (2, .long tm), (4, .int (nI f))]) hx hb d_S_knownMark_8 hl (by decide) rfl (fun ls hl => ?_)
  refine lv_iload hx hb d_S_knownMark_10 (lv_at hl 0 rfl) ?_
  refine lv_iconst (v := -1) hx hb d_S_knownMark_12 (by decide) ?_
  refine lv_icmp_eq (tgt := 27) hx hb d_S_knownMark_13 (by decide) (fun c_2 => ?_) (fun c_2 => ?_)
  · have hn := x_opt_none (x_settle_lt (fun j h => (hod j h).2)) c_2
    refine lv_aload_n hx hb d_S_knownMark_27 rfl (lv_at hl 1 rfl) ?_
    refine lv_iload_n hx hb d_S_knownMark_28 rfl (lv_at hl 2 rfl) ?_
    refine lv_lload_n hx hb d_S_knownMark_29 rfl (lv_at hl 3 rfl) ?_
    refine lv_iload hx hb d_S_knownMark_30 (lv_at hl 4 rfl) ?_
    refine w_Vi ⟨hx, hb, hml, hown, hts⟩ (k_S_hasUnlikeMarks l D cA o _ M si hs od f hf hod th tm) (kV hts 3 aK_S_hasUnlikeMarks aM_S_67 aI_S_hasUnlikeMarks aV_S_hasUnlikeMarks aN_S nm_S_hasUnlikeMarks rfl rfl ⟨(Nat.le_of_ble_eq_true rfl), (Nat.le_of_ble_eq_true rfl)⟩) hK hP (by omega) (SX_s hs) rfl rfl hl.1 rfl (Nat.le_of_ble_eq_true rfl) d_S_knownMark_32 ⟨(Nat.le_of_ble_eq_true rfl), (Nat.le_of_ble_eq_true rfl)⟩ hS (fun q h => wA_le hS.1 h) (fun r_3 M_3 H locs hw_3 hP hzc hkc hS => ?_)
    rw [hw_3.1] at hP
    refine w_topi hw_3.2 ?_
    refine lv_if_eq (tgt := 40) hx hb d_S_knownMark_35 (by decide) (fun c_4 => ?_) (fun c_4 => ?_)
    · have hh := b2i_0 c_4
      refine lv_aload_n hx hb d_S_knownMark_40 rfl (lv_at hl 1 rfl) ?_
      refine lv_aload_n hx hb d_S_knownMark_41 rfl (lv_at hl 1 rfl) ?_
      refine lv_iload_n hx hb d_S_knownMark_42 rfl (lv_at hl 2 rfl) ?_
      refine lv_iconst (v := 2) hx hb d_S_knownMark_43 (by decide) ?_
      refine lv_lload_n hx hb d_S_knownMark_44 rfl (lv_at hl 3 rfl) ?_
      refine lv_iload hx hb d_S_knownMark_45 (lv_at hl 4 rfl) ?_
      refine w_Vi ⟨hx, hb, hml, hown, hts⟩ (k_S_latest l D cA o _ M si hs od f hf hod th 2 tm) (kV hts 4 aK_S_latest aM_S_53 aI_S_latest aV_S_latest aN_S nm_S_latest rfl rfl ⟨(Nat.le_of_ble_eq_true rfl), (Nat.le_of_ble_eq_true rfl)⟩) hK hP (by omega) (SX_s hs) rfl rfl hl.1 rfl (Nat.le_of_ble_eq_true rfl) d_S_knownMark_47 ⟨(Nat.le_of_ble_eq_true rfl), (Nat.le_of_ble_eq_true rfl)⟩ hS (fun q h => wA_le hS.1 h) (fun r_5 M_5 H locs hw_5 hP hzc hkc hS => ?_)
      rw [hw_5.1] at hP
      refine w_topi hw_5.2 ?_
      refine w_Vl ⟨hx, hb, hml, hown, hts⟩ (k_S_valueOrZero l D cA o _ M si hs (x_lat M od th 2 tm f) (x_lat_lt (fun j h => (hod j h).2) f (Nat.le_refl f))) (kV hts 1 aK_S_valueOrZero aM_S_57 aI_S_valueOrZero aV_S_valueOrZero aN_S nm_S_valueOrZero rfl rfl ⟨(Nat.le_of_ble_eq_true rfl), (Nat.le_of_ble_eq_true rfl)⟩) hK hP (by omega) (SX_s hs) rfl rfl hl.1 rfl (Nat.le_of_ble_eq_true rfl) d_S_knownMark_50 ⟨(Nat.le_of_ble_eq_true rfl), (Nat.le_of_ble_eq_true rfl)⟩ hS (fun q h => wA_le hS.1 h) (fun r_6 M_6 H locs hw_6 hP hzc hkc hS => ?_)
      rw [hw_6.1] at hP
      refine w_topl hw_6.2 ?_
      exact W.lret (v := x_val M (x_lat M od th 2 tm f)) hx hb hr (fun tz hz9 hW9 => ⟨⟨x_val M (x_lat M od th 2 tm f), M, rfl, ⟨rfl, by unfold x_kmark; rw [hn, hh]; rfl⟩, by rw [hz9]; exact hP, va_K.moved hW9.alike hK⟩, hS.F hz9⟩) hS.2.2 d_S_knownMark_53
    · have hh := b2i_1 c_4
      refine lv_lconst (v := 0) hx hb d_S_knownMark_38 (by decide) ?_
      exact W.lret (v := 0) hx hb hr (fun tz hz9 hW9 => ⟨⟨0, M, rfl, ⟨rfl, by unfold x_kmark; rw [hn, hh]; rfl⟩, by rw [hz9]; exact hP, va_K.moved hW9.alike hK⟩, hS.F hz9⟩) hS.2.2 d_S_knownMark_39
  · obtain ⟨a, ha⟩ := x_opt_some c_2
    have ha3 := x_settle_lt (fun j h => (hod j h).2) a ha
    refine lv_aload_n hx hb d_S_knownMark_16 rfl (lv_at hl 1 rfl) ?_
    refine w_get (C := R_S) (T := F_S) (N := 5) (ci := 2) (v := .ref (o + 1)) hx hb hts inw_S hown hK hP (9 + 3 * si) (by omega) (SX_s hs) rfl 0 (by decide) (hts _ (al aF_S_26)) rfl d_S_knownMark_17 ?_
    refine w_get (C := R_T) (T := F_T) (N := 7) (ci := 3) (v := .ref (o + 6)) hx hb hts inw_T hown hK hP 1 (by decide) SX_1 rfl 4 (by decide) (hts _ (al aF_S_75)) rfl d_S_knownMark_20 ?_
    refine lv_iload hx hb d_S_knownMark_23 (lv_at hl 0 rfl) ?_
    refine w_topi (show x_opt (x_settle M od th tm f) = nI a by rw [ha]; rfl) ?_
    refine w_lald hx hb hK hP 6 1 (by decide) SX_6 rfl (k := a) (by omega) (by decide) d_S_knownMark_25 ?_
    exact W.lret (v := M.2.1 6 a) hx hb hr (fun tz hz9 hW9 => ⟨⟨M.2.1 6 a, M, rfl, ⟨rfl, by unfold x_kmark; rw [ha]⟩, by rw [hz9]; exact hP, va_K.moved hW9.alike hK⟩, hS.F hz9⟩) hS.2.2 d_S_knownMark_26
set_option maxHeartbeats 4000000 in
set_option maxRecDepth 100000 in
/-- S_known -/
theorem k_S_known (l : Launch) (D : va_G) (cA : Nat → ClassId) (o sz : Nat) (M : wM) (si : Nat) (hs : si < 8) (od : Nat → Nat) (f : Nat) (hf : f ≤ 300) (hod : ∀ j, j < f → M.1 (9 + 3 * si + 1) j = nI (od j) ∧ od j < 300) (th kd : Int32) (tm : Int64) : Met l y_S_known (wm y_S_known c_S_known 6 (some .long)) { frames := 4, cells := 0, slots := 0, locals := 104 } (va_Pc [.ref (o + (9 + 3 * si)), .int th, .int kd, .long tm, .int (nI f)] (xB D cA o M sz)) (va_Ql (fun r M1 => M1 = M ∧ r = x_known M od th kd tm f) (xQ D cA o) (xA o sz)) 0 0 (xA o sz) := by
  refine Met.ofW (cc := c_S_known) (maxL := 6) (ret := (some .long)) (by decide) rfl ?_
  intro p e s m args below meth c s₁ B hml hv
  obtain ⟨rfl, hsz, hP, hK⟩ := hv
  have hx := B.exec
  have hb := B.bytes
  have hr := B.returns
  have hts := atoms_spec (ws := wm y_S_known c_S_known 6 (some .long)) B.pre
  have hown : s.vm.findClass "ShopDesks$TellingSet" = some m.cls := findClass_of_methodNamed B.named
  have hlocks := B.notSynchronized
  subst hsz
  have hS : va_S (xA o s.heap.size) s.heap s.heap [] := va_S.rf
  have hW : ∀ i, i < 217 → xA o s.heap.size (o + i) := fun i hi => wA_in hi
  have hl := lv_entry ([.ref (o + (9 + 3 * si)), .int th, .int kd, .long tm, .int (nI f)]) (n := 6) (Nat.le_of_ble_eq_true rfl)
  rw [lg_entry_eq]
  generalize (lg_sl ([.ref (o + (9 + 3 * si)), .int th, .int kd, .long tm, .int (nI f)]) ++ List.replicate (6 - (lg_sl ([.ref (o + (9 + 3 * si)), .int th, .int kd, .long tm, .int (nI f)])).length) Slot.unset).toArray = ls at hl ⊢
  have hl : lv_has ls 6 [(0, .ref (o + (9 + 3 * si))), (1, .int th), (2, .int kd), (3, .long tm), (5, .int (nI f))] := hl
  refine lv_iload_n hx hb d_S_known_0 rfl (lv_at hl 2 rfl) ?_
  refine lv_if_ne (tgt := 13) hx hb d_S_known_1 (by decide) (fun c_1 => ?_) (fun c_1 => ?_)
  · have q0 := c_1
    refine lv_iload_n hx hb d_S_known_13 rfl (lv_at hl 2 rfl) ?_
    refine lv_iconst (v := 2) hx hb d_S_known_14 (by decide) ?_
    refine lv_icmp_ne (tgt := 27) hx hb d_S_known_15 (by decide) (fun c_2 => ?_) (fun c_2 => ?_)
    · have q2 := c_2
      refine lv_aload_n hx hb d_S_known_27 rfl (lv_at hl 0 rfl) ?_
      refine lv_aload_n hx hb d_S_known_28 rfl (lv_at hl 0 rfl) ?_
      refine lv_iload_n hx hb d_S_known_29 rfl (lv_at hl 1 rfl) ?_
      refine lv_iload_n hx hb d_S_known_30 rfl (lv_at hl 2 rfl) ?_
      refine lv_lload_n hx hb d_S_known_31 rfl (lv_at hl 3 rfl) ?_
      refine lv_iload hx hb d_S_known_32 (lv_at hl 4 rfl) ?_
      refine w_Vi ⟨hx, hb, hml, hown, hts⟩ (k_S_latest l D cA o _ M si hs od f hf hod th kd tm) (kV hts 4 aK_S_latest aM_S_53 aI_S_latest aV_S_latest aN_S nm_S_latest rfl rfl ⟨(Nat.le_of_ble_eq_true rfl), (Nat.le_of_ble_eq_true rfl)⟩) hK hP (by omega) (SX_s hs) rfl rfl hl.1 rfl (Nat.le_of_ble_eq_true rfl) d_S_known_34 ⟨(Nat.le_of_ble_eq_true rfl), (Nat.le_of_ble_eq_true rfl)⟩ hS (fun q h => wA_le hS.1 h) (fun r_3 M_3 H locs hw_3 hP hzc hkc hS => ?_)
      rw [hw_3.1] at hP
      refine w_topi hw_3.2 ?_
      refine w_Vl ⟨hx, hb, hml, hown, hts⟩ (k_S_valueOrZero l D cA o _ M si hs (x_lat M od th kd tm f) (x_lat_lt (fun j h => (hod j h).2) f (Nat.le_refl f))) (kV hts 1 aK_S_valueOrZero aM_S_57 aI_S_valueOrZero aV_S_valueOrZero aN_S nm_S_valueOrZero rfl rfl ⟨(Nat.le_of_ble_eq_true rfl), (Nat.le_of_ble_eq_true rfl)⟩) hK hP (by omega) (SX_s hs) rfl rfl hl.1 rfl (Nat.le_of_ble_eq_true rfl) d_S_known_37 ⟨(Nat.le_of_ble_eq_true rfl), (Nat.le_of_ble_eq_true rfl)⟩ hS (fun q h => wA_le hS.1 h) (fun r_4 M_4 H locs hw_4 hP hzc hkc hS => ?_)
      rw [hw_4.1] at hP
      refine w_topl hw_4.2 ?_
      exact W.lret (v := x_val M (x_lat M od th kd tm f)) hx hb hr (fun tz hz9 hW9 => ⟨⟨x_val M (x_lat M od th kd tm f), M, rfl, ⟨rfl, by unfold x_known; rw [if_neg q0, if_neg q2]⟩, by rw [hz9]; exact hP, va_K.moved hW9.alike hK⟩, hS.F hz9⟩) hS.2.2 d_S_known_40
    · have q2 := c_2
      refine lv_aload_n hx hb d_S_known_18 rfl (lv_at hl 0 rfl) ?_
      refine lv_iload_n hx hb d_S_known_19 rfl (lv_at hl 1 rfl) ?_
      refine lv_lload_n hx hb d_S_known_20 rfl (lv_at hl 3 rfl) ?_
      refine lv_iload hx hb d_S_known_21 (lv_at hl 4 rfl) ?_
      refine w_Vl ⟨hx, hb, hml, hown, hts⟩ (k_S_knownMark l D cA o _ M si hs od f hf hod th tm) (kV hts 3 aK_S_knownMark aM_S_50 aI_S_knownMark aV_S_knownMark aN_S nm_S_knownMark rfl rfl ⟨(Nat.le_of_ble_eq_true rfl), (Nat.le_of_ble_eq_true rfl)⟩) hK hP (by omega) (SX_s hs) rfl rfl hl.1 rfl (Nat.le_of_ble_eq_true rfl) d_S_known_23 ⟨(Nat.le_of_ble_eq_true rfl), (Nat.le_of_ble_eq_true rfl)⟩ hS (fun q h => wA_le hS.1 h) (fun r_5 M_5 H locs hw_5 hP hzc hkc hS => ?_)
      rw [hw_5.1] at hP
      refine w_topl hw_5.2 ?_
      exact W.lret (v := x_kmark M od th tm f) hx hb hr (fun tz hz9 hW9 => ⟨⟨x_kmark M od th tm f, M, rfl, ⟨rfl, by unfold x_known; rw [if_neg q0, if_pos q2]⟩, by rw [hz9]; exact hP, va_K.moved hW9.alike hK⟩, hS.F hz9⟩) hS.2.2 d_S_known_26
  · have q0 := c_1
    refine lv_aload_n hx hb d_S_known_4 rfl (lv_at hl 0 rfl) ?_
    refine lv_iload_n hx hb d_S_known_5 rfl (lv_at hl 1 rfl) ?_
    refine lv_lload_n hx hb d_S_known_6 rfl (lv_at hl 3 rfl) ?_
    refine lv_iload hx hb d_S_known_7 (lv_at hl 4 rfl) ?_
    refine w_Vl ⟨hx, hb, hml, hown, hts⟩ (k_S_sumOfCounts l D cA o _ M si hs od f hf hod th tm) (kV hts 3 aK_S_sumOfCounts aM_S_46 aI_S_sumOfCounts aV_S_sumOfCounts aN_S nm_S_sumOfCounts rfl rfl ⟨(Nat.le_of_ble_eq_true rfl), (Nat.le_of_ble_eq_true rfl)⟩) hK hP (by omega) (SX_s hs) rfl rfl hl.1 rfl (Nat.le_of_ble_eq_true rfl) d_S_known_9 ⟨(Nat.le_of_ble_eq_true rfl), (Nat.le_of_ble_eq_true rfl)⟩ hS (fun q h => wA_le hS.1 h) (fun r_6 M_6 H locs hw_6 hP hzc hkc hS => ?_)
    rw [hw_6.1] at hP
    refine w_topl hw_6.2 ?_
    exact W.lret (v := x_sum M od th tm f) hx hb hr (fun tz hz9 hW9 => ⟨⟨x_sum M od th tm f, M, rfl, ⟨rfl, by unfold x_known; rw [if_pos q0]⟩, by rw [hz9]; exact hP, va_K.moved hW9.alike hK⟩, hS.F hz9⟩) hS.2.2 d_S_known_12
set_option maxHeartbeats 4000000 in
set_option maxRecDepth 100000 in
/-- S_isInConflict -/
theorem k_S_isInConflict (l : Launch) (D : va_G) (cA : Nat → ClassId) (o sz : Nat) (M : wM) (si : Nat) (hs : si < 8) (od : Nat → Nat) (z : Nat) (hf : z ≤ 300) (ez : M.2.2 (9 + 3 * si) 3 = nI z) (hod : ∀ j, j < z → M.1 (9 + 3 * si + 1) j = nI (od j) ∧ od j < 300) (th : Int32) : Met l y_S_isInConflict (wm y_S_isInConflict c_S_isInConflict 2 (some .boolean)) { frames := 3, cells := 0, slots := 0, locals := 79 } (va_Pc [.ref (o + (9 + 3 * si)), .int th] (xB D cA o M sz)) (va_Qi (fun r M1 => M1 = M ∧ r = b2i (x_conf M od th z)) (xQ D cA o) (xA o sz)) 0 0 (xA o sz) := by
  refine Met.ofW (cc := c_S_isInConflict) (maxL := 2) (ret := (some .boolean)) (by decide) rfl ?_
  intro p e s m args below meth c s₁ B hml hv
  obtain ⟨rfl, hsz, hP, hK⟩ := hv
  have hx := B.exec
  have hb := B.bytes
  have hr := B.returns
  have hts := atoms_spec (ws := wm y_S_isInConflict c_S_isInConflict 2 (some .boolean)) B.pre
  have hown : s.vm.findClass "ShopDesks$TellingSet" = some m.cls := findClass_of_methodNamed B.named
  have hlocks := B.notSynchronized
  subst hsz
  have hS : va_S (xA o s.heap.size) s.heap s.heap [] := va_S.rf
  have hW : ∀ i, i < 217 → xA o s.heap.size (o + i) := fun i hi => wA_in hi
  have hl := lv_entry ([.ref (o + (9 + 3 * si)), .int th]) (n := 2) (Nat.le_of_ble_eq_true rfl)
  rw [lg_entry_eq]
  generalize (lg_sl ([.ref (o + (9 + 3 * si)), .int th]) ++ List.replicate (2 - (lg_sl ([.ref (o + (9 + 3 * si)), .int th])).length) Slot.unset).toArray = ls at hl ⊢
  have hl : lv_has ls 2 [(0, .ref (o + (9 + 3 * si))), (1, .int th)] := hl
  refine lv_aload_n hx hb d_S_isInConflict_0 rfl (lv_at hl 0 rfl) ?_
  refine lv_iload_n hx hb d_S_isInConflict_1 rfl (lv_at hl 1 rfl) ?_
  refine lv_ldc2 (v := 9223372036854775807) hx hb hown (hts _ (al aL_S_61)) d_S_isInConflict_2 ?_
  refine lv_aload_n hx hb d_S_isInConflict_5 rfl (lv_at hl 0 rfl) ?_
  refine w_get (C := R_S) (T := F_S) (N := 5) (ci := 2) (v := .int (M.2.2 (9 + 3 * si) 3)) hx hb hts inw_S hown hK hP (9 + 3 * si) (by omega) (SX_s hs) rfl 3 (by decide) (hts _ (al aF_S_19)) rfl d_S_isInConflict_6 ?_
  refine w_topi ez ?_
  refine w_Vi ⟨hx, hb, hml, hown, hts⟩ (k_S_settling l D cA o _ M si hs od z hf hod th 9223372036854775807) (kV hts 3 aK_S_settling aM_S_63 aI_S_settling aV_S_settling aN_S nm_S_settling rfl rfl ⟨(Nat.le_of_ble_eq_true rfl), (Nat.le_of_ble_eq_true rfl)⟩) hK hP (by omega) (SX_s hs) rfl rfl hl.1 rfl (Nat.le_of_ble_eq_true rfl) d_S_isInConflict_9 ⟨(Nat.le_of_ble_eq_true rfl), (Nat.le_of_ble_eq_true rfl)⟩ hS (fun q h => wA_le hS.1 h) (fun r_1 M_1 H locs hw_1 hP hzc hkc hS => ?_)
  rw [hw_1.1] at hP
  refine w_topi hw_1.2 ?_
  refine lv_iconst (v := -1) hx hb d_S_isInConflict_12 (by decide) ?_
  refine lv_icmp_ne (tgt := 35) hx hb d_S_isInConflict_13 (by decide) (fun c_2 => ?_) (fun c_2 => ?_)
  · obtain ⟨a, ha⟩ := x_opt_some c_2
    refine lv_iconst (v := 0) hx hb d_S_isInConflict_35 (by decide) ?_
    exact W.zret (v := 0) hx hb hr rfl (fun tz hz9 hW9 => ⟨⟨0, M, rfl, ⟨rfl, by unfold x_conf; rw [ha]; rfl⟩, by rw [hz9]; exact hP, va_K.moved hW9.alike hK⟩, hS.F hz9⟩) hS.2.2 d_S_isInConflict_36
  · have hn := x_opt_none (x_settle_lt (fun j h => (hod j h).2)) c_2
    refine lv_aload_n hx hb d_S_isInConflict_16 rfl (lv_at hl 0 rfl) ?_
    refine lv_iload_n hx hb d_S_isInConflict_17 rfl (lv_at hl 1 rfl) ?_
    refine lv_ldc2 (v := 9223372036854775807) hx hb hown (hts _ (al aL_S_61)) d_S_isInConflict_18 ?_
    refine lv_aload_n hx hb d_S_isInConflict_21 rfl (lv_at hl 0 rfl) ?_
    refine w_get (C := R_S) (T := F_S) (N := 5) (ci := 2) (v := .int (M.2.2 (9 + 3 * si) 3)) hx hb hts inw_S hown hK hP (9 + 3 * si) (by omega) (SX_s hs) rfl 3 (by decide) (hts _ (al aF_S_19)) rfl d_S_isInConflict_22 ?_
    refine w_topi ez ?_
    refine w_Vi ⟨hx, hb, hml, hown, hts⟩ (k_S_hasUnlikeMarks l D cA o _ M si hs od z hf hod th 9223372036854775807) (kV hts 3 aK_S_hasUnlikeMarks aM_S_67 aI_S_hasUnlikeMarks aV_S_hasUnlikeMarks aN_S nm_S_hasUnlikeMarks rfl rfl ⟨(Nat.le_of_ble_eq_true rfl), (Nat.le_of_ble_eq_true rfl)⟩) hK hP (by omega) (SX_s hs) rfl rfl hl.1 rfl (Nat.le_of_ble_eq_true rfl) d_S_isInConflict_25 ⟨(Nat.le_of_ble_eq_true rfl), (Nat.le_of_ble_eq_true rfl)⟩ hS (fun q h => wA_le hS.1 h) (fun r_3 M_3 H locs hw_3 hP hzc hkc hS => ?_)
    rw [hw_3.1] at hP
    refine w_topi hw_3.2 ?_
    refine lv_if_eq (tgt := 35) hx hb d_S_isInConflict_28 (by decide) (fun c_4 => ?_) (fun c_4 => ?_)
    · have hh := b2i_0 c_4
      refine lv_iconst (v := 0) hx hb d_S_isInConflict_35 (by decide) ?_
      exact W.zret (v := 0) hx hb hr rfl (fun tz hz9 hW9 => ⟨⟨0, M, rfl, ⟨rfl, by unfold x_conf; rw [hn, hh]; rfl⟩, by rw [hz9]; exact hP, va_K.moved hW9.alike hK⟩, hS.F hz9⟩) hS.2.2 d_S_isInConflict_36
    · have hh := b2i_1 c_4
      refine lv_iconst (v := 1) hx hb d_S_isInConflict_31 (by decide) ?_
      refine lv_goto (tgt := 36) hx hb d_S_isInConflict_32 (by decide) ?_
      exact W.zret (v := 1) hx hb hr rfl (fun tz hz9 hW9 => ⟨⟨1, M, rfl, ⟨rfl, by unfold x_conf; rw [hn, hh]; rfl⟩, by rw [hz9]; exact hP, va_K.moved hW9.alike hK⟩, hS.F hz9⟩) hS.2.2 d_S_isInConflict_36
end
section
/-! reads of a changed memory; numbers -/
theorem wI_s {M : wM} {i k : Nat} {x : Int32} : (wI M i k x).1 i k = x := up2_s _ _ _ _
theorem wI_k {M : wM} {i k a b : Nat} {x : Int32} (h : b ≠ k) : (wI M i k x).1 a b = M.1 a b := up2_k _ _ _ _ h
theorem wI_ne {M : wM} {i k a b : Nat} {x : Int32} (h : a ≠ i) : (wI M i k x).1 a b = M.1 a b := congrFun (up2_o _ _ _ _ h) b
theorem wL_s {M : wM} {i k : Nat} {x : Int64} : (wL M i k x).2.1 i k = x := up2_s _ _ _ _
theorem wL_k {M : wM} {i k a b : Nat} {x : Int64} (h : b ≠ k) : (wL M i k x).2.1 a b = M.2.1 a b := up2_k _ _ _ _ h
theorem wL_ne {M : wM} {i k a b : Nat} {x : Int64} (h : a ≠ i) : (wL M i k x).2.1 a b = M.2.1 a b := congrFun (up2_o _ _ _ _ h) b
theorem wF_s {M : wM} {i k : Nat} {x : Int32} : (wF M i k x).2.2 i k = x := up2_s _ _ _ _
theorem wF_k {M : wM} {i k a b : Nat} {x : Int32} (h : b ≠ k) : (wF M i k x).2.2 a b = M.2.2 a b := up2_k _ _ _ _ h
theorem wF_ne {M : wM} {i k a b : Nat} {x : Int32} (h : a ≠ i) : (wF M i k x).2.2 a b = M.2.2 a b := congrFun (up2_o _ _ _ _ h) b
theorem i_le0 {a : Nat} (ha : a < 2147483648) (h : nI a ≤ 0) : a = 0 := Nat.eq_zero_of_not_pos (fun q => nI_nle q ha h)
theorem i_nle0 {a : Nat} (h : ¬ nI a ≤ 0) : 0 < a := Nat.pos_of_ne_zero (fun q => h (by rw [q]; decide))
theorem i_sub1 (n : Nat) : nI (n + 1) - 1 = nI n := nI_pred n
end
section
/-! entries and the ledger -/
def x_row (M : wM) (ej rc : Nat) (ac : Int32) (ce : Int64) : wM := wF (wL (wI M (37 + 3 * ej + 1) rc ac) (37 + 3 * ej + 2) rc ce) (37 + 3 * ej) 2 (nI (rc + 1))
def x_turn (M : wM) (ej ek : Nat) : Nat → wM
  | 0 => M
  | k + 1 => x_row (x_turn M ej ek k) ej k (M.1 (37 + 3 * ek + 1) k) (-(M.2.1 (37 + 3 * ek + 2) k))
theorem x_turn_o {M : wM} {ej ek : Nat} (hne : ej ≠ ek) (k : Nat) : (x_turn M ej ek k).2.2 (37 + 3 * ek) = M.2.2 (37 + 3 * ek) ∧ (x_turn M ej ek k).1 (37 + 3 * ek + 1) = M.1 (37 + 3 * ek + 1) ∧ (x_turn M ej ek k).2.1 (37 + 3 * ek + 2) = M.2.1 (37 + 3 * ek + 2) := by
  induction k with
  | zero => exact ⟨rfl, rfl, rfl⟩
  | succ k ih =>
    refine ⟨?_, ?_, ?_⟩
    · exact (up2_o _ _ _ _ (by omega)).trans ih.1
    · exact (up2_o _ _ _ _ (by omega)).trans ih.2.1
    · exact (up2_o _ _ _ _ (by omega)).trans ih.2.2
theorem x_turn_c {M : wM} {ej ek : Nat} (h : M.2.2 (37 + 3 * ej) 2 = nI 0) (k : Nat) : (x_turn M ej ek k).2.2 (37 + 3 * ej) 2 = nI k := by
  cases k with
  | zero => exact h
  | succ k => exact wF_s
def x_tot (M : wM) (ej : Nat) : Nat → Int64
  | 0 => 0
  | k + 1 => x_tot M ej k + M.2.1 (37 + 3 * ej + 2) k
def x_esum (M : wM) (ej : Nat) (ac : Int32) : Nat → Int64
  | 0 => 0
  | k + 1 => if M.1 (37 + 3 * ej + 1) k = ac then x_esum M ej ac k + M.2.1 (37 + 3 * ej + 2) k else x_esum M ej ac k
theorem x_esum_t {M : wM} {ej k : Nat} {ac : Int32} (h : M.1 (37 + 3 * ej + 1) k = ac) : x_esum M ej ac (k + 1) = x_esum M ej ac k + M.2.1 (37 + 3 * ej + 2) k := by simp [x_esum, h]
theorem x_esum_f {M : wM} {ej k : Nat} {ac : Int32} (h : ¬ M.1 (37 + 3 * ej + 1) k = ac) : x_esum M ej ac (k + 1) = x_esum M ej ac k := by simp [x_esum, h]
def x_bal (M : wM) (rc : Nat → Nat) (ac day : Int32) : Nat → Int64
  | 0 => 0
  | k + 1 => if ¬ M.2.2 (37 + 3 * k) 4 = 0 ∧ M.2.2 (37 + 3 * k) 3 ≤ day then x_bal M rc ac day k + x_esum M k ac (rc k) else x_bal M rc ac day k
theorem x_bal_t {M : wM} {rc : Nat → Nat} {ac day : Int32} {k : Nat} (h : ¬ M.2.2 (37 + 3 * k) 4 = 0) (h2 : M.2.2 (37 + 3 * k) 3 ≤ day) : x_bal M rc ac day (k + 1) = x_bal M rc ac day k + x_esum M k ac (rc k) := by simp [x_bal, h, h2]
theorem x_bal_f {M : wM} {rc : Nat → Nat} {ac day : Int32} {k : Nat} (h : ¬ (¬ M.2.2 (37 + 3 * k) 4 = 0 ∧ M.2.2 (37 + 3 * k) 3 ≤ day)) : x_bal M rc ac day (k + 1) = x_bal M rc ac day k := by simp only [x_bal]; rw [if_neg h]
set_option maxHeartbeats 4000000 in
set_option maxRecDepth 100000 in
/-- E_isClosed -/
theorem k_E_isClosed (l : Launch) (D : va_G) (cA : Nat → ClassId) (o sz : Nat) (M : wM) (ej : Nat) (hj : ej < 60) : Met l y_E_isClosed (wm y_E_isClosed c_E_isClosed 1 (some .boolean)) { frames := 0, cells := 0, slots := 0, locals := 0 } (va_Pc [.ref (o + (37 + 3 * ej))] (xB D cA o M sz)) (va_Qi (fun r M1 => M1 = M ∧ r = b2i (decide (¬ M.2.2 (37 + 3 * ej) 4 = 0))) (xQ D cA o) (xA o sz)) 0 0 (xA o sz) := by
  refine Met.ofW (cc := c_E_isClosed) (maxL := 1) (ret := (some .boolean)) (by decide) rfl ?_
  intro p e s m args below meth c s₁ B hml hv
  obtain ⟨rfl, hsz, hP, hK⟩ := hv
  have hx := B.exec
  have hb := B.bytes
  have hr := B.returns
  have hts := atoms_spec (ws := wm y_E_isClosed c_E_isClosed 1 (some .boolean)) B.pre
  have hown : s.vm.findClass "ShopDesks$Entry" = some m.cls := findClass_of_methodNamed B.named
  have hlocks := B.notSynchronized
  subst hsz
  have hS : va_S (xA o s.heap.size) s.heap s.heap [] := va_S.rf
  have hW : ∀ i, i < 217 → xA o s.heap.size (o + i) := fun i hi => wA_in hi
  have hl := lv_entry ([.ref (o + (37 + 3 * ej))]) (n := 1) (Nat.le_of_ble_eq_true rfl)
  rw [lg_entry_eq]
  generalize (lg_sl ([.ref (o + (37 + 3 * ej))]) ++ List.replicate (1 - (lg_sl ([.ref (o + (37 + 3 * ej))])).length) Slot.unset).toArray = ls at hl ⊢
  have hl : lv_has ls 1 [(0, .ref (o + (37 + 3 * ej)))] := hl
  refine lv_aload_n hx hb d_E_isClosed_0 rfl (lv_at hl 0 rfl) ?_
  refine w_get (C := R_E) (T := F_E) (N := 7) (ci := 0) (v := .int (M.2.2 (37 + 3 * ej) 4)) hx hb hts inw_E hown hK hP (37 + 3 * ej) (by omega) (SX_e hj) rfl 4 (by decide) (hts _ (al aF_E_26)) rfl d_E_isClosed_1 ?_
  refine lv_if_eq (tgt := 11) hx hb d_E_isClosed_4 (by decide) (fun c_1 => ?_) (fun c_1 => ?_)
  · have q := c_1
    refine lv_iconst (v := 0) hx hb d_E_isClosed_11 (by decide) ?_
    exact W.zret (v := 0) hx hb hr rfl (fun tz hz9 hW9 => ⟨⟨0, M, rfl, ⟨rfl, (b2i_f (fun h => h q)).symm⟩, by rw [hz9]; exact hP, va_K.moved hW9.alike hK⟩, hS.F hz9⟩) hS.2.2 d_E_isClosed_12
  · have q := c_1
    refine lv_iconst (v := 1) hx hb d_E_isClosed_7 (by decide) ?_
    refine lv_goto (tgt := 12) hx hb d_E_isClosed_8 (by decide) ?_
    exact W.zret (v := 1) hx hb hr rfl (fun tz hz9 hW9 => ⟨⟨1, M, rfl, ⟨rfl, (b2i_t q).symm⟩, by rw [hz9]; exact hP, va_K.moved hW9.alike hK⟩, hS.F hz9⟩) hS.2.2 d_E_isClosed_12
set_option maxHeartbeats 4000000 in
set_option maxRecDepth 100000 in
/-- E_addRow -/
theorem k_E_addRow (l : Launch) (D : va_G) (cA : Nat → ClassId) (o sz : Nat) (M : wM) (ej : Nat) (hj : ej < 60) (rc : Nat) (hrc : rc ≤ 6) (erc : M.2.2 (37 + 3 * ej) 2 = nI rc) (hr6 : rc < 6) (ac : Int32) (ce : Int64) : Met l y_E_addRow (wm y_E_addRow c_E_addRow 4 (none)) { frames := 0, cells := 0, slots := 0, locals := 0 } (va_Pc [.ref (o + (37 + 3 * ej)), .int ac, .long ce] (xB D cA o M sz)) (va_Qv (fun M1 => M1 = x_row M ej rc ac ce) (xQ D cA o) (xA o sz)) 0 0 (xA o sz) := by
  refine Met.ofW (cc := c_E_addRow) (maxL := 4) (ret := (none)) (by decide) rfl ?_
  intro p e s m args below meth c s₁ B hml hv
  obtain ⟨rfl, hsz, hP, hK⟩ := hv
  have hx := B.exec
  have hb := B.bytes
  have hr := B.returns
  have hts := atoms_spec (ws := wm y_E_addRow c_E_addRow 4 (none)) B.pre
  have hown : s.vm.findClass "ShopDesks$Entry" = some m.cls := findClass_of_methodNamed B.named
  have hlocks := B.notSynchronized
  subst hsz
  have hS : va_S (xA o s.heap.size) s.heap s.heap [] := va_S.rf
  have hW : ∀ i, i < 217 → xA o s.heap.size (o + i) := fun i hi => wA_in hi
  have hl := lv_entry ([.ref (o + (37 + 3 * ej)), .int ac, .long ce]) (n := 4) (Nat.le_of_ble_eq_true rfl)
  rw [lg_entry_eq]
  generalize (lg_sl ([.ref (o + (37 + 3 * ej)), .int ac, .long ce]) ++ List.replicate (4 - (lg_sl ([.ref (o + (37 + 3 * ej)), .int ac, .long ce])).length) Slot.unset).toArray = ls at hl ⊢
  have hl : lv_has ls 4 [(0, .ref (o + (37 + 3 * ej))), (1, .int ac), (2, .long ce)] := hl
  refine lv_aload_n hx hb d_E_addRow_0 rfl (lv_at hl 0 rfl) ?_
  refine w_get (C := R_E) (T := F_E) (N := 7) (ci := 0) (v := .ref (o + (37 + 3 * ej + 1))) hx hb hts inw_E hown hK hP (37 + 3 * ej) (by omega) (SX_e hj) rfl 0 (by decide) (hts _ (al aF_E_9)) rfl d_E_addRow_1 ?_
  refine lv_aload_n hx hb d_E_addRow_4 rfl (lv_at hl 0 rfl) ?_
  refine w_get (C := R_E) (T := F_E) (N := 7) (ci := 0) (v := .int (M.2.2 (37 + 3 * ej) 2)) hx hb hts inw_E hown hK hP (37 + 3 * ej) (by omega) (SX_e hj) rfl 2 (by decide) (hts _ (al aF_E_19)) rfl d_E_addRow_5 ?_
  refine w_topi erc ?_
  refine lv_iload_n hx hb d_E_addRow_8 rfl (lv_at hl 1 rfl) ?_
  refine w_iast hx hb hK hP hW hS (37 + 3 * ej + 1) 0 (by omega) (fun _ => (SX_ea hj)) rfl (k := rc) (by omega) (by decide) d_E_addRow_9 (fun H locs hP hS => ?_)
  refine lv_aload_n hx hb d_E_addRow_10 rfl (lv_at hl 0 rfl) ?_
  refine w_get (C := R_E) (T := F_E) (N := 7) (ci := 0) (v := .ref (o + (37 + 3 * ej + 2))) hx hb hts inw_E hown hK hP (37 + 3 * ej) (by omega) (SX_e hj) rfl 1 (by decide) (hts _ (al aF_E_15)) rfl d_E_addRow_11 ?_
  refine lv_aload_n hx hb d_E_addRow_14 rfl (lv_at hl 0 rfl) ?_
  refine w_get (C := R_E) (T := F_E) (N := 7) (ci := 0) (v := .int (M.2.2 (37 + 3 * ej) 2)) hx hb hts inw_E hown hK hP (37 + 3 * ej) (by omega) (SX_e hj) rfl 2 (by decide) (hts _ (al aF_E_19)) rfl d_E_addRow_15 ?_
  refine w_topi erc ?_
  refine lv_lload_n hx hb d_E_addRow_18 rfl (lv_at hl 2 rfl) ?_
  refine w_last hx hb hK hP hW hS (37 + 3 * ej + 2) 1 (by omega) (fun _ => (SX_ec hj)) rfl (k := rc) (by omega) (by decide) d_E_addRow_19 (fun H locs hP hS => ?_)
  refine lv_aload_n hx hb d_E_addRow_20 rfl (lv_at hl 0 rfl) ?_
  refine lv_dup hx hb d_E_addRow_21 rfl ?_
  refine w_get (C := R_E) (T := F_E) (N := 7) (ci := 0) (v := .int (M.2.2 (37 + 3 * ej) 2)) hx hb hts inw_E hown hK hP (37 + 3 * ej) (by omega) (SX_e hj) rfl 2 (by decide) (hts _ (al aF_E_19)) rfl d_E_addRow_22 ?_
  refine w_topi erc ?_
  refine lv_iconst (v := 1) hx hb d_E_addRow_25 (by decide) ?_
  refine lv_iadd hx hb d_E_addRow_26 ?_
  refine w_topi ((nI_succ rc).symm) ?_
  refine w_put (C := R_E) (T := F_E) (N := 7) (ci := 0) (x := nI (rc + 1)) hx hb hts inw_E ft_E ft_E_ok fn_E hown hK hP hW hS (37 + 3 * ej) (by omega) (SX_e hj) rfl 2 (by decide) (hts _ (al aF_E_19)) rfl rfl rfl (Nat.le_of_ble_eq_true rfl) (by rw [wF_r]; exact (SX_e hj).trans rfl) d_E_addRow_27 (fun H locs hP hS => ?_)
  exact W.vret hx hb hr (fun tz hz9 hW9 => ⟨⟨(wF (wL (wI M (37 + 3 * ej + 1) rc ac) (37 + 3 * ej + 2) rc ce) (37 + 3 * ej) 2 (nI (rc + 1))), rfl, rfl, by rw [hz9]; exact hP, va_K.moved hW9.alike hK⟩, hS.F hz9⟩) hS.2.2 d_E_addRow_30
set_option maxHeartbeats 4000000 in
set_option maxRecDepth 100000 in
/-- E_takeTurnedRound -/
theorem k_E_takeTurnedRound (l : Launch) (D : va_G) (cA : Nat → ClassId) (o sz : Nat) (M : wM) (ej : Nat) (hj : ej < 60) (ek : Nat) (hk : ek < 60) (hne : ej ≠ ek) (rc : Nat) (hrc : rc ≤ 6) (erc : M.2.2 (37 + 3 * ek) 2 = nI rc) (e0 : M.2.2 (37 + 3 * ej) 2 = nI 0) : Met l y_E_takeTurnedRound (wm y_E_takeTurnedRound c_E_takeTurnedRound 3 (none)) { frames := 1, cells := 0, slots := 0, locals := 23 } (va_Pc [.ref (o + (37 + 3 * ej)), .ref (o + (37 + 3 * ek))] (xB D cA o M sz)) (va_Qv (fun M1 => M1 = x_turn M ej ek rc) (xQ D cA o) (xA o sz)) 0 0 (xA o sz) := by
  refine Met.ofW (cc := c_E_takeTurnedRound) (maxL := 3) (ret := (none)) (by decide) rfl ?_
  intro p e s m args below meth c s₁ B hml hv
  obtain ⟨rfl, hsz, hP, hK⟩ := hv
  have hx := B.exec
  have hb := B.bytes
  have hr := B.returns
  have hts := atoms_spec (ws := wm y_E_takeTurnedRound c_E_takeTurnedRound 3 (none)) B.pre
  have hown : s.vm.findClass "ShopDesks$Entry" = some m.cls := findClass_of_methodNamed B.named
  have hlocks := B.notSynchronized
  subst hsz
  have hS : va_S (xA o s.heap.size) s.heap s.heap [] := va_S.rf
  have hW : ∀ i, i < 217 → xA o s.heap.size (o + i) := fun i hi => wA_in hi
  have hl := lv_entry ([.ref (o + (37 + 3 * ej)), .ref (o + (37 + 3 * ek))]) (n := 3) (Nat.le_of_ble_eq_true rfl)
  rw [lg_entry_eq]
  generalize (lg_sl ([.ref (o + (37 + 3 * ej)), .ref (o + (37 + 3 * ek))]) ++ List.replicate (3 - (lg_sl ([.ref (o + (37 + 3 * ej)), .ref (o + (37 + 3 * ek))])).length) Slot.unset).toArray = ls at hl ⊢
  have hl : lv_has ls 3 [(0, .ref (o + (37 + 3 * ej))), (1, .ref (o + (37 + 3 * ek)))] := hl
  refine lv_iconst (v := 0) hx hb d_E_takeTurnedRound_0 (by decide) ?_
  refine lv_istore_n (lv' := [(2, .int 0), (0, .ref (o + (37 + 3 * ej))), (1, .ref (o + (37 + 3 * ek)))]) hx hb d_E_takeTurnedRound_1 rfl hl (by decide) rfl (fun ls hl => ?_)
  have lp2 : ∀ (fuel : Nat) (k : Nat), rc - k < fuel → (k ≤ rc) → ∀ (H : Heap) (locs : List Loc), wP D cls_ (SX o cA) o 217 (x_turn M ej ek k) H → va_S (xA o s.heap.size) s.heap H locs → ∀ (ls : Array Slot), lv_has ls 3 [(0, .ref (o + (37 + 3 * ej))), (1, .ref (o + (37 + 3 * ek))), (2, .int (nI k))] → W p l e (headSpec (wm y_E_takeTurnedRound c_E_takeTurnedRound 3 (none)) { frames := 1, cells := 0, slots := 0, locals := 23 }).room s m ([.ref (o + (37 + 3 * ej)), .ref (o + (37 + 3 * ek))] : List Value).toArray below meth c H locs 0 0 (MQ below (va_Qv (fun M1 => M1 = x_turn M ej ek rc) (xQ D cA o) (xA o s.heap.size)) ([.ref (o + (37 + 3 * ej)), .ref (o + (37 + 3 * ek))] : List Value).toArray s 0 0 (xA o s.heap.size)) (F0 m 2 ls []) := by
    intro fuel
    induction fuel with
    | zero => intro k hfu; exact absurd hfu (Nat.not_lt_zero _)
    | succ fuel ih =>
      intro k hfu hkn H locs hP hS ls hl
      refine lv_iload_n hx hb d_E_takeTurnedRound_2 rfl (lv_at hl 2 rfl) ?_
      refine lv_aload_n hx hb d_E_takeTurnedRound_3 rfl (lv_at hl 1 rfl) ?_
      refine w_get (C := R_E) (T := F_E) (N := 7) (ci := 0) (v := .int ((x_turn M ej ek k).2.2 (37 + 3 * ek) 2)) hx hb hts inw_E hown hK hP (37 + 3 * ek) (by omega) (SX_e hk) rfl 2 (by decide) (hts _ (al aF_E_19)) rfl d_E_takeTurnedRound_4 ?_
      refine w_topi ((congrFun (x_turn_o hne k).1 2).trans erc) ?_
      refine lv_icmp_ge (tgt := 33) hx hb d_E_takeTurnedRound_7 (by decide) (fun c_1 => ?_) (fun c_1 => ?_)
      · have hkr : rc ≤ k := i_le (by omega) (by omega) c_1
        exact W.vret hx hb hr (fun tz hz9 hW9 => ⟨⟨(x_turn M ej ek k), rfl, by rw [show k = rc by omega], by rw [hz9]; exact hP, va_K.moved hW9.alike hK⟩, hS.F hz9⟩) hS.2.2 d_E_takeTurnedRound_33
      · have hkr : k < rc := i_nle (by omega) (by omega) c_1
        refine lv_aload_n hx hb d_E_takeTurnedRound_10 rfl (lv_at hl 0 rfl) ?_
        refine lv_aload_n hx hb d_E_takeTurnedRound_11 rfl (lv_at hl 1 rfl) ?_
        refine w_get (C := R_E) (T := F_E) (N := 7) (ci := 0) (v := .ref (o + (37 + 3 * ek + 1))) hx hb hts inw_E hown hK hP (37 + 3 * ek) (by omega) (SX_e hk) rfl 0 (by decide) (hts _ (al aF_E_9)) rfl d_E_takeTurnedRound_12 ?_
        refine lv_iload_n hx hb d_E_takeTurnedRound_15 rfl (lv_at hl 2 rfl) ?_
        refine w_iald hx hb hK hP (37 + 3 * ek + 1) 0 (by omega) (SX_ea hk) rfl (k := k) (by omega) (by decide) d_E_takeTurnedRound_16 ?_
        refine w_topi (congrFun (x_turn_o hne k).2.1 k) ?_
        refine lv_aload_n hx hb d_E_takeTurnedRound_17 rfl (lv_at hl 1 rfl) ?_
        refine w_get (C := R_E) (T := F_E) (N := 7) (ci := 0) (v := .ref (o + (37 + 3 * ek + 2))) hx hb hts inw_E hown hK hP (37 + 3 * ek) (by omega) (SX_e hk) rfl 1 (by decide) (hts _ (al aF_E_15)) rfl d_E_takeTurnedRound_18 ?_
        refine lv_iload_n hx hb d_E_takeTurnedRound_21 rfl (lv_at hl 2 rfl) ?_
        refine w_lald hx hb hK hP (37 + 3 * ek + 2) 1 (by omega) (SX_ec hk) rfl (k := k) (by omega) (by decide) d_E_takeTurnedRound_22 ?_
        refine w_topl (congrFun (x_turn_o hne k).2.2 k) ?_
        refine lv_lneg hx hb d_E_takeTurnedRound_23 ?_
        refine w_Vv ⟨hx, hb, hml, hown, hts⟩ (k_E_addRow l D cA o _ (x_turn M ej ek k) ej hj k (by omega) (x_turn_c e0 k) (by omega) (M.1 (37 + 3 * ek + 1) k) (-(M.2.1 (37 + 3 * ek + 2) k))) (kV hts 2 aK_E_addRow aM_E_36 aI_E_addRow aV_E_addRow aN_E nm_E_addRow rfl rfl ⟨(Nat.le_of_ble_eq_true rfl), (Nat.le_of_ble_eq_true rfl)⟩) hK hP (by omega) (SX_e hj) rfl rfl hl.1 rfl (Nat.le_of_ble_eq_true rfl) d_E_takeTurnedRound_24 ⟨(Nat.le_of_ble_eq_true rfl), (Nat.le_of_ble_eq_true rfl)⟩ hS (fun q h => wA_le hS.1 h) (fun M_2 H locs hw_2 hP hzc hkc hS => ?_)
        rw [hw_2] at hP
        refine lv_iinc (v := nI (k + 1)) (lv' := [(2, .int (nI (k + 1))), (0, .ref (o + (37 + 3 * ej))), (1, .ref (o + (37 + 3 * ek)))]) hx hb d_E_takeTurnedRound_27 hl (k := 2) rfl (w_inc k) (by decide) rfl (fun ls hl => ?_)
        refine lv_goto (tgt := 2) hx hb d_E_takeTurnedRound_30 (by decide) ?_
        exact ih (k + 1) (by omega) hkr _ _ hP hS ls (lv_sub hl [1, 2, 0] rfl)
  exact lp2 ((rc - 0) + 1) 0 (Nat.lt_succ_self _) (Nat.zero_le _) _ _ hP hS ls (lv_sub hl [1, 2, 0] rfl)
set_option maxHeartbeats 4000000 in
set_option maxRecDepth 100000 in
/-- E_isBalanced -/
theorem k_E_isBalanced (l : Launch) (D : va_G) (cA : Nat → ClassId) (o sz : Nat) (M : wM) (ej : Nat) (hj : ej < 60) (rc : Nat) (hrc : rc ≤ 6) (erc : M.2.2 (37 + 3 * ej) 2 = nI rc) : Met l y_E_isBalanced (wm y_E_isBalanced c_E_isBalanced 4 (some .boolean)) { frames := 0, cells := 0, slots := 0, locals := 0 } (va_Pc [.ref (o + (37 + 3 * ej))] (xB D cA o M sz)) (va_Qi (fun r M1 => M1 = M ∧ r = b2i (decide (0 < rc ∧ x_tot M ej rc = 0))) (xQ D cA o) (xA o sz)) 0 0 (xA o sz) := by
  refine Met.ofW (cc := c_E_isBalanced) (maxL := 4) (ret := (some .boolean)) (by decide) rfl ?_
  intro p e s m args below meth c s₁ B hml hv
  obtain ⟨rfl, hsz, hP, hK⟩ := hv
  have hx := B.exec
  have hb := B.bytes
  have hr := B.returns
  have hts := atoms_spec (ws := wm y_E_isBalanced c_E_isBalanced 4 (some .boolean)) B.pre
  have hown : s.vm.findClass "ShopDesks$Entry" = some m.cls := findClass_of_methodNamed B.named
  have hlocks := B.notSynchronized
  subst hsz
  have hS : va_S (xA o s.heap.size) s.heap s.heap [] := va_S.rf
  have hW : ∀ i, i < 217 → xA o s.heap.size (o + i) := fun i hi => wA_in hi
  have hl := lv_entry ([.ref (o + (37 + 3 * ej))]) (n := 4) (Nat.le_of_ble_eq_true rfl)
  rw [lg_entry_eq]
  generalize (lg_sl ([.ref (o + (37 + 3 * ej))]) ++ List.replicate (4 - (lg_sl ([.ref (o + (37 + 3 * ej))])).length) Slot.unset).toArray = ls at hl ⊢
  have hl : lv_has ls 4 [(0, .ref (o + (37 + 3 * ej)))] := hl
  refine lv_lconst (v := 0) hx hb d_E_isBalanced_0 (by decide) ?_
  refine lv_lstore_n (lv' := [(1, .long 0), (0, .ref (o + (37 + 3 * ej)))]) hx hb d_E_isBalanced_1 rfl hl (by decide) rfl (fun ls hl => ?_)
  refine lv_iconst (v := 0) hx hb d_E_isBalanced_2 (by decide) ?_
  refine lv_istore_n (lv' := [(3, .int 0), (1, .long 0), (0, .ref (o + (37 + 3 * ej)))]) hx hb d_E_isBalanced_3 rfl hl (by decide) rfl (fun ls hl => ?_)
  have lp4 : ∀ (fuel : Nat) (k : Nat) (sm : Int64), rc - k < fuel → (k ≤ rc) → (sm = x_tot M ej k) → ∀ (ls : Array Slot), lv_has ls 4 [(0, .ref (o + (37 + 3 * ej))), (1, .long sm), (3, .int (nI k))] → W p l e (headSpec (wm y_E_isBalanced c_E_isBalanced 4 (some .boolean)) { frames := 0, cells := 0, slots := 0, locals := 0 }).room s m ([.ref (o + (37 + 3 * ej))] : List Value).toArray below meth c s.heap [] 0 0 (MQ below (va_Qi (fun r M1 => M1 = M ∧ r = b2i (decide (0 < rc ∧ x_tot M ej rc = 0))) (xQ D cA o) (xA o s.heap.size)) ([.ref (o + (37 + 3 * ej))] : List Value).toArray s 0 0 (xA o s.heap.size)) (F0 m 4 ls []) := by
    intro fuel
    induction fuel with
    | zero => intro k sm hfu; exact absurd hfu (Nat.not_lt_zero _)
    | succ fuel ih =>
      intro k sm hfu hkn hsm ls hl
      refine lv_iload_n hx hb d_E_isBalanced_4 rfl (lv_at hl 2 rfl) ?_
      refine lv_aload_n hx hb d_E_isBalanced_5 rfl (lv_at hl 0 rfl) ?_
      refine w_get (C := R_E) (T := F_E) (N := 7) (ci := 0) (v := .int (M.2.2 (37 + 3 * ej) 2)) hx hb hts inw_E hown hK hP (37 + 3 * ej) (by omega) (SX_e hj) rfl 2 (by decide) (hts _ (al aF_E_19)) rfl d_E_isBalanced_6 ?_
      refine w_topi erc ?_
      refine lv_icmp_ge (tgt := 27) hx hb d_E_isBalanced_9 (by decide) (fun c_1 => ?_) (fun c_1 => ?_)
      · have hkr : rc ≤ k := i_le (by omega) (by omega) c_1
        have hs9 : sm = x_tot M ej rc := by rw [hsm, show k = rc by omega]
        refine lv_aload_n hx hb d_E_isBalanced_27 rfl (lv_at hl 0 rfl) ?_
        refine w_get (C := R_E) (T := F_E) (N := 7) (ci := 0) (v := .int (M.2.2 (37 + 3 * ej) 2)) hx hb hts inw_E hown hK hP (37 + 3 * ej) (by omega) (SX_e hj) rfl 2 (by decide) (hts _ (al aF_E_19)) rfl d_E_isBalanced_28 ?_
        refine w_topi erc ?_
        refine lv_if_le (tgt := 44) hx hb d_E_isBalanced_31 (by decide) (fun c_2 => ?_) (fun c_2 => ?_)
        · have q := i_le0 (by omega) c_2
          refine lv_iconst (v := 0) hx hb d_E_isBalanced_44 (by decide) ?_
          exact W.zret (v := 0) hx hb hr rfl (fun tz hz9 hW9 => ⟨⟨0, M, rfl, ⟨rfl, (b2i_f (fun h => by omega)).symm⟩, by rw [hz9]; exact hP, va_K.moved hW9.alike hK⟩, hS.F hz9⟩) hS.2.2 d_E_isBalanced_45
        · have q1 := i_nle0 c_2
          refine lv_lload_n hx hb d_E_isBalanced_34 rfl (lv_at hl 1 rfl) ?_
          refine lv_lconst (v := 0) hx hb d_E_isBalanced_35 (by decide) ?_
          refine W.lcmp hx hb d_E_isBalanced_36 ?_
          refine lv_if_ne (tgt := 44) hx hb d_E_isBalanced_37 (by decide) (fun c_3 => ?_) (fun c_3 => ?_)
          · rw [lg_cmp_eq] at c_3
            have q := c_3
            refine lv_iconst (v := 0) hx hb d_E_isBalanced_44 (by decide) ?_
            exact W.zret (v := 0) hx hb hr rfl (fun tz hz9 hW9 => ⟨⟨0, M, rfl, ⟨rfl, (b2i_f (fun h => q (by rw [hs9]; exact h.2))).symm⟩, by rw [hz9]; exact hP, va_K.moved hW9.alike hK⟩, hS.F hz9⟩) hS.2.2 d_E_isBalanced_45
          · rw [lg_cmp_eq] at c_3
            have q := c_3
            refine lv_iconst (v := 1) hx hb d_E_isBalanced_40 (by decide) ?_
            refine lv_goto (tgt := 45) hx hb d_E_isBalanced_41 (by decide) ?_
            exact W.zret (v := 1) hx hb hr rfl (fun tz hz9 hW9 => ⟨⟨1, M, rfl, ⟨rfl, (b2i_t ⟨q1, by rw [← hs9]; exact q⟩).symm⟩, by rw [hz9]; exact hP, va_K.moved hW9.alike hK⟩, hS.F hz9⟩) hS.2.2 d_E_isBalanced_45
      · have hkr : k < rc := i_nle (by omega) (by omega) c_1
        refine lv_lload_n hx hb d_E_isBalanced_12 rfl (lv_at hl 1 rfl) ?_
        refine lv_aload_n hx hb d_E_isBalanced_13 rfl (lv_at hl 0 rfl) ?_
        refine w_get (C := R_E) (T := F_E) (N := 7) (ci := 0) (v := .ref (o + (37 + 3 * ej + 2))) hx hb hts inw_E hown hK hP (37 + 3 * ej) (by omega) (SX_e hj) rfl 1 (by decide) (hts _ (al aF_E_15)) rfl d_E_isBalanced_14 ?_
        refine lv_iload_n hx hb d_E_isBalanced_17 rfl (lv_at hl 2 rfl) ?_
        refine w_lald hx hb hK hP (37 + 3 * ej + 2) 1 (by omega) (SX_ec hj) rfl (k := k) (by omega) (by decide) d_E_isBalanced_18 ?_
        refine lv_ladd hx hb d_E_isBalanced_19 ?_
        refine lv_lstore_n (lv' := [(1, .long (sm + (M.2.1 (37 + 3 * ej + 2) k))), (0, .ref (o + (37 + 3 * ej))), (3, .int (nI k))]) hx hb d_E_isBalanced_20 rfl hl (by decide) rfl (fun ls hl => ?_)
        refine lv_iinc (v := nI (k + 1)) (lv' := [(3, .int (nI (k + 1))), (1, .long (sm + (M.2.1 (37 + 3 * ej + 2) k))), (0, .ref (o + (37 + 3 * ej)))]) hx hb d_E_isBalanced_21 hl (k := 2) rfl (w_inc k) (by decide) rfl (fun ls hl => ?_)
        refine lv_goto (tgt := 4) hx hb d_E_isBalanced_24 (by decide) ?_
        exact ih (k + 1) (sm + (M.2.1 (37 + 3 * ej + 2) k)) (by omega) hkr (by rw [hsm]; rfl) ls (lv_sub hl [2, 1, 0] rfl)
  exact lp4 ((rc - 0) + 1) 0 0 (Nat.lt_succ_self _) (Nat.zero_le _) rfl ls (lv_sub hl [2, 1, 0] rfl)
set_option maxHeartbeats 4000000 in
set_option maxRecDepth 100000 in
/-- E_sumOf -/
theorem k_E_sumOf (l : Launch) (D : va_G) (cA : Nat → ClassId) (o sz : Nat) (M : wM) (ej : Nat) (hj : ej < 60) (rc : Nat) (hrc : rc ≤ 6) (erc : M.2.2 (37 + 3 * ej) 2 = nI rc) (ac : Int32) : Met l y_E_sumOf (wm y_E_sumOf c_E_sumOf 5 (some .long)) { frames := 0, cells := 0, slots := 0, locals := 0 } (va_Pc [.ref (o + (37 + 3 * ej)), .int ac] (xB D cA o M sz)) (va_Ql (fun r M1 => M1 = M ∧ r = x_esum M ej ac rc) (xQ D cA o) (xA o sz)) 0 0 (xA o sz) := by
  refine Met.ofW (cc := c_E_sumOf) (maxL := 5) (ret := (some .long)) (by decide) rfl ?_
  intro p e s m args below meth c s₁ B hml hv
  obtain ⟨rfl, hsz, hP, hK⟩ := hv
  have hx := B.exec
  have hb := B.bytes
  have hr := B.returns
  have hts := atoms_spec (ws := wm y_E_sumOf c_E_sumOf 5 (some .long)) B.pre
  have hown : s.vm.findClass "ShopDesks$Entry" = some m.cls := findClass_of_methodNamed B.named
  have hlocks := B.notSynchronized
  subst hsz
  have hS : va_S (xA o s.heap.size) s.heap s.heap [] := va_S.rf
  have hW : ∀ i, i < 217 → xA o s.heap.size (o + i) := fun i hi => wA_in hi
  have hl := lv_entry ([.ref (o + (37 + 3 * ej)), .int ac]) (n := 5) (Nat.le_of_ble_eq_true rfl)
  rw [lg_entry_eq]
  generalize (lg_sl ([.ref (o + (37 + 3 * ej)), .int ac]) ++ List.replicate (5 - (lg_sl ([.ref (o + (37 + 3 * ej)), .int ac])).length) Slot.unset).toArray = ls at hl ⊢
  have hl : lv_has ls 5 [(0, .ref (o + (37 + 3 * ej))), (1, .int ac)] := hl
  refine lv_lconst (v := 0) hx hb d_E_sumOf_0 (by decide) ?_
  refine lv_lstore_n (lv' := [(2, .long 0), (0, .ref (o + (37 + 3 * ej))), (1, .int ac)]) hx hb d_E_sumOf_1 rfl hl (by decide) rfl (fun ls hl => ?_)
  refine lv_iconst (v := 0) hx hb d_E_sumOf_2 (by decide) ?_
  refine lv_istore (lv' := [(4, .int 0), (2, .long 0), (0, .ref (o + (37 + 3 * ej))), (1, .int ac)]) hx hb d_E_sumOf_3 hl (by decide) rfl (fun ls hl => ?_)
  have lp5 : ∀ (fuel : Nat) (k : Nat) (sm : Int64), rc - k < fuel → (k ≤ rc) → (sm = x_esum M ej ac k) → ∀ (ls : Array Slot), lv_has ls 5 [(0, .ref (o + (37 + 3 * ej))), (1, .int ac), (2, .long sm), (4, .int (nI k))] → W p l e (headSpec (wm y_E_sumOf c_E_sumOf 5 (some .long)) { frames := 0, cells := 0, slots := 0, locals := 0 }).room s m ([.ref (o + (37 + 3 * ej)), .int ac] : List Value).toArray below meth c s.heap [] 0 0 (MQ below (va_Ql (fun r M1 => M1 = M ∧ r = x_esum M ej ac rc) (xQ D cA o) (xA o s.heap.size)) ([.ref (o + (37 + 3 * ej)), .int ac] : List Value).toArray s 0 0 (xA o s.heap.size)) (F0 m 5 ls []) := by
    intro fuel
    induction fuel with
    | zero => intro k sm hfu; exact absurd hfu (Nat.not_lt_zero _)
    | succ fuel ih =>
      intro k sm hfu hkn hsm ls hl
      refine lv_iload hx hb d_E_sumOf_5 (lv_at hl 3 rfl) ?_
      refine lv_aload_n hx hb d_E_sumOf_7 rfl (lv_at hl 0 rfl) ?_
      refine w_get (C := R_E) (T := F_E) (N := 7) (ci := 0) (v := .int (M.2.2 (37 + 3 * ej) 2)) hx hb hts inw_E hown hK hP (37 + 3 * ej) (by omega) (SX_e hj) rfl 2 (by decide) (hts _ (al aF_E_19)) rfl d_E_sumOf_8 ?_
      refine w_topi erc ?_
      refine lv_icmp_ge (tgt := 41) hx hb d_E_sumOf_11 (by decide) (fun c_1 => ?_) (fun c_1 => ?_)
      · have hkr : rc ≤ k := i_le (by omega) (by omega) c_1
        refine lv_lload_n hx hb d_E_sumOf_41 rfl (lv_at hl 2 rfl) ?_
        exact W.lret (v := sm) hx hb hr (fun tz hz9 hW9 => ⟨⟨sm, M, rfl, ⟨rfl, by rw [hsm, show k = rc by omega]⟩, by rw [hz9]; exact hP, va_K.moved hW9.alike hK⟩, hS.F hz9⟩) hS.2.2 d_E_sumOf_42
      · have hkr : k < rc := i_nle (by omega) (by omega) c_1
        refine lv_aload_n hx hb d_E_sumOf_14 rfl (lv_at hl 0 rfl) ?_
        refine w_get (C := R_E) (T := F_E) (N := 7) (ci := 0) (v := .ref (o + (37 + 3 * ej + 1))) hx hb hts inw_E hown hK hP (37 + 3 * ej) (by omega) (SX_e hj) rfl 0 (by decide) (hts _ (al aF_E_9)) rfl d_E_sumOf_15 ?_
        refine lv_iload hx hb d_E_sumOf_18 (lv_at hl 3 rfl) ?_
        refine w_iald hx hb hK hP (37 + 3 * ej + 1) 0 (by omega) (SX_ea hj) rfl (k := k) (by omega) (by decide) d_E_sumOf_20 ?_
        refine lv_iload_n hx hb d_E_sumOf_21 rfl (lv_at hl 1 rfl) ?_
        refine lv_icmp_ne (tgt := 35) hx hb d_E_sumOf_22 (by decide) (fun c_2 => ?_) (fun c_2 => ?_)
        · have q := c_2
          refine lv_iinc (v := nI (k + 1)) (lv' := [(4, .int (nI (k + 1))), (0, .ref (o + (37 + 3 * ej))), (1, .int ac), (2, .long sm)]) hx hb d_E_sumOf_35 hl (k := 3) rfl (w_inc k) (by decide) rfl (fun ls hl => ?_)
          refine lv_goto (tgt := 5) hx hb d_E_sumOf_38 (by decide) ?_
          exact ih (k + 1) sm (by omega) hkr (by rw [x_esum_f q]; exact hsm) ls (lv_sub hl [1, 2, 3, 0] rfl)
        · have q := c_2
          refine lv_lload_n hx hb d_E_sumOf_25 rfl (lv_at hl 2 rfl) ?_
          refine lv_aload_n hx hb d_E_sumOf_26 rfl (lv_at hl 0 rfl) ?_
          refine w_get (C := R_E) (T := F_E) (N := 7) (ci := 0) (v := .ref (o + (37 + 3 * ej + 2))) hx hb hts inw_E hown hK hP (37 + 3 * ej) (by omega) (SX_e hj) rfl 1 (by decide) (hts _ (al aF_E_15)) rfl d_E_sumOf_27 ?_
          refine lv_iload hx hb d_E_sumOf_30 (lv_at hl 3 rfl) ?_
          refine w_lald hx hb hK hP (37 + 3 * ej + 2) 1 (by omega) (SX_ec hj) rfl (k := k) (by omega) (by decide) d_E_sumOf_32 ?_
          refine lv_ladd hx hb d_E_sumOf_33 ?_
          refine lv_lstore_n (lv' := [(2, .long (sm + (M.2.1 (37 + 3 * ej + 2) k))), (0, .ref (o + (37 + 3 * ej))), (1, .int ac), (4, .int (nI k))]) hx hb d_E_sumOf_34 rfl hl (by decide) rfl (fun ls hl => ?_)
          refine lv_iinc (v := nI (k + 1)) (lv' := [(4, .int (nI (k + 1))), (2, .long (sm + (M.2.1 (37 + 3 * ej + 2) k))), (0, .ref (o + (37 + 3 * ej))), (1, .int ac)]) hx hb d_E_sumOf_35 hl (k := 3) rfl (w_inc k) (by decide) rfl (fun ls hl => ?_)
          refine lv_goto (tgt := 5) hx hb d_E_sumOf_38 (by decide) ?_
          exact ih (k + 1) (sm + (M.2.1 (37 + 3 * ej + 2) k)) (by omega) hkr (by rw [x_esum_t q, hsm]) ls (lv_sub hl [2, 3, 1, 0] rfl)
  exact lp5 ((rc - 0) + 1) 0 0 (Nat.lt_succ_self _) (Nat.zero_le _) rfl ls (lv_sub hl [2, 3, 1, 0] rfl)
set_option maxHeartbeats 4000000 in
set_option maxRecDepth 100000 in
/-- L_openEntry -/
theorem k_L_openEntry (l : Launch) (D : va_G) (cA : Nat → ClassId) (o sz : Nat) (M : wM) (ec : Nat) (hec : ec < 60) (eec : M.2.2 34 2 = nI ec) (day : Int32) : Met l y_L_openEntry (wm y_L_openEntry c_L_openEntry 2 (some .int)) { frames := 0, cells := 0, slots := 0, locals := 0 } (va_Pc [.ref (o + 34), .int day] (xB D cA o M sz)) (va_Qi (fun r M1 => M1 = wF (wF M (37 + 3 * ec) 3 day) 34 2 (nI (ec + 1)) ∧ r = nI ec) (xQ D cA o) (xA o sz)) 0 0 (xA o sz) := by
  refine Met.ofW (cc := c_L_openEntry) (maxL := 2) (ret := (some .int)) (by decide) rfl ?_
  intro p e s m args below meth c s₁ B hml hv
  obtain ⟨rfl, hsz, hP, hK⟩ := hv
  have hx := B.exec
  have hb := B.bytes
  have hr := B.returns
  have hts := atoms_spec (ws := wm y_L_openEntry c_L_openEntry 2 (some .int)) B.pre
  have hown : s.vm.findClass "ShopDesks$Ledger" = some m.cls := findClass_of_methodNamed B.named
  have hlocks := B.notSynchronized
  subst hsz
  have hS : va_S (xA o s.heap.size) s.heap s.heap [] := va_S.rf
  have hW : ∀ i, i < 217 → xA o s.heap.size (o + i) := fun i hi => wA_in hi
  have hl := lv_entry ([.ref (o + 34), .int day]) (n := 2) (Nat.le_of_ble_eq_true rfl)
  rw [lg_entry_eq]
  generalize (lg_sl ([.ref (o + 34), .int day]) ++ List.replicate (2 - (lg_sl ([.ref (o + 34), .int day])).length) Slot.unset).toArray = ls at hl ⊢
  have hl : lv_has ls 2 [(0, .ref (o + 34)), (1, .int day)] := hl
  refine lv_aload_n hx hb d_L_openEntry_0 rfl (lv_at hl 0 rfl) ?_
  refine w_get (C := R_L) (T := F_L) (N := 5) (ci := 1) (v := .ref (o + 35)) hx hb hts inw_L hown hK hP 34 (by decide) SX_34 rfl 0 (by decide) (hts _ (al aF_L_11)) rfl d_L_openEntry_1 ?_
  refine lv_aload_n hx hb d_L_openEntry_4 rfl (lv_at hl 0 rfl) ?_
  refine w_get (C := R_L) (T := F_L) (N := 5) (ci := 1) (v := .int (M.2.2 34 2)) hx hb hts inw_L hown hK hP 34 (by decide) SX_34 rfl 2 (by decide) (hts _ (al aF_L_21)) rfl d_L_openEntry_5 ?_
  refine w_topi eec ?_
  refine w_aald hx hb hK hP 35 4 (by decide) SX_35 rfl (k := ec) (by omega) (by decide) (if_pos (by omega)) d_L_openEntry_8 ?_
  refine lv_iload_n hx hb d_L_openEntry_9 rfl (lv_at hl 1 rfl) ?_
  refine w_put (C := R_E) (T := F_E) (N := 7) (ci := 0) (x := day) hx hb hts inw_E ft_E ft_E_ok fn_E hown hK hP hW hS (37 + 3 * ec) (by omega) (SX_e hec) rfl 3 (by decide) (hts _ (al aF_L_32)) rfl rfl rfl (Nat.le_of_ble_eq_true rfl) (by rw [wF_r]; exact (SX_e hec).trans rfl) d_L_openEntry_10 (fun H locs hP hS => ?_)
  refine lv_aload_n hx hb d_L_openEntry_13 rfl (lv_at hl 0 rfl) ?_
  refine lv_dup hx hb d_L_openEntry_14 rfl ?_
  refine w_get (C := R_L) (T := F_L) (N := 5) (ci := 1) (v := .int (M.2.2 34 2)) hx hb hts inw_L hown hK hP 34 (by decide) SX_34 rfl 2 (by decide) (hts _ (al aF_L_21)) (w_hv (wF_ne (by omega))) d_L_openEntry_15 ?_
  refine w_topi eec ?_
  refine lv_iconst (v := 1) hx hb d_L_openEntry_18 (by decide) ?_
  refine lv_iadd hx hb d_L_openEntry_19 ?_
  refine w_topi ((nI_succ ec).symm) ?_
  refine w_put (C := R_L) (T := F_L) (N := 5) (ci := 1) (x := nI (ec + 1)) hx hb hts inw_L ft_L ft_L_ok fn_L hown hK hP hW hS 34 (by decide) SX_34 rfl 2 (by decide) (hts _ (al aF_L_21)) rfl rfl rfl (Nat.le_of_ble_eq_true rfl) (by rw [wF_r]; exact SX_34.trans rfl) d_L_openEntry_20 (fun H locs hP hS => ?_)
  refine lv_aload_n hx hb d_L_openEntry_23 rfl (lv_at hl 0 rfl) ?_
  refine w_get (C := R_L) (T := F_L) (N := 5) (ci := 1) (v := .int (nI (ec + 1))) hx hb hts inw_L hown hK hP 34 (by decide) SX_34 rfl 2 (by decide) (hts _ (al aF_L_21)) rfl d_L_openEntry_24 ?_
  refine lv_iconst (v := 1) hx hb d_L_openEntry_27 (by decide) ?_
  refine lv_isub hx hb d_L_openEntry_28 ?_
  refine w_topi (i_sub1 ec) ?_
  exact W.iret (v := nI ec) hx hb hr (fun tz hz9 hW9 => ⟨⟨nI ec, (wF (wF M (37 + 3 * ec) 3 day) 34 2 (nI (ec + 1))), rfl, ⟨rfl, rfl⟩, by rw [hz9]; exact hP, va_K.moved hW9.alike hK⟩, hS.F hz9⟩) hS.2.2 d_L_openEntry_29
set_option maxHeartbeats 4000000 in
set_option maxRecDepth 100000 in
/-- L_giveNumber -/
theorem k_L_giveNumber (l : Launch) (D : va_G) (cA : Nat → ClassId) (o sz : Nat) (M : wM) (ln ej : Nat) (hln : ln < 60) (hj : ej < 60) (eln : M.2.2 34 3 = nI ln) : Met l y_L_giveNumber (wm y_L_giveNumber c_L_giveNumber 2 (some .int)) { frames := 0, cells := 0, slots := 0, locals := 0 } (va_Pc [.ref (o + 34), .int (nI ej)] (xB D cA o M sz)) (va_Qi (fun r M1 => M1 = wI (wF (wF M 34 3 (nI (ln + 1))) (37 + 3 * ej) 4 (nI (ln + 1))) 36 (ln + 1) (nI ej) ∧ r = nI (ln + 1)) (xQ D cA o) (xA o sz)) 0 0 (xA o sz) := by
  refine Met.ofW (cc := c_L_giveNumber) (maxL := 2) (ret := (some .int)) (by decide) rfl ?_
  intro p e s m args below meth c s₁ B hml hv
  obtain ⟨rfl, hsz, hP, hK⟩ := hv
  have hx := B.exec
  have hb := B.bytes
  have hr := B.returns
  have hts := atoms_spec (ws := wm y_L_giveNumber c_L_giveNumber 2 (some .int)) B.pre
  have hown : s.vm.findClass "ShopDesks$Ledger" = some m.cls := findClass_of_methodNamed B.named
  have hlocks := B.notSynchronized
  subst hsz
  have hS : va_S (xA o s.heap.size) s.heap s.heap [] := va_S.rf
  have hW : ∀ i, i < 217 → xA o s.heap.size (o + i) := fun i hi => wA_in hi
  have hl := lv_entry ([.ref (o + 34), .int (nI ej)]) (n := 2) (Nat.le_of_ble_eq_true rfl)
  rw [lg_entry_eq]
  generalize (lg_sl ([.ref (o + 34), .int (nI ej)]) ++ List.replicate (2 - (lg_sl ([.ref (o + 34), .int (nI ej)])).length) Slot.unset).toArray = ls at hl ⊢
  have hl : lv_has ls 2 [(0, .ref (o + 34)), (1, .int (nI ej))] := hl
  refine lv_aload_n hx hb d_L_giveNumber_0 rfl (lv_at hl 0 rfl) ?_
  refine lv_dup hx hb d_L_giveNumber_1 rfl ?_
  refine w_get (C := R_L) (T := F_L) (N := 5) (ci := 1) (v := .int (M.2.2 34 3)) hx hb hts inw_L hown hK hP 34 (by decide) SX_34 rfl 3 (by decide) (hts _ (al aF_L_25)) rfl d_L_giveNumber_2 ?_
  refine w_topi eln ?_
  refine lv_iconst (v := 1) hx hb d_L_giveNumber_5 (by decide) ?_
  refine lv_iadd hx hb d_L_giveNumber_6 ?_
  refine w_topi ((nI_succ ln).symm) ?_
  refine w_put (C := R_L) (T := F_L) (N := 5) (ci := 1) (x := nI (ln + 1)) hx hb hts inw_L ft_L ft_L_ok fn_L hown hK hP hW hS 34 (by decide) SX_34 rfl 3 (by decide) (hts _ (al aF_L_25)) rfl rfl rfl (Nat.le_of_ble_eq_true rfl) (by rw [wF_r]; exact SX_34.trans rfl) d_L_giveNumber_7 (fun H locs hP hS => ?_)
  refine lv_aload_n hx hb d_L_giveNumber_10 rfl (lv_at hl 0 rfl) ?_
  refine w_get (C := R_L) (T := F_L) (N := 5) (ci := 1) (v := .ref (o + 35)) hx hb hts inw_L hown hK hP 34 (by decide) SX_34 rfl 0 (by decide) (hts _ (al aF_L_11)) rfl d_L_giveNumber_11 ?_
  refine lv_iload_n hx hb d_L_giveNumber_14 rfl (lv_at hl 1 rfl) ?_
  refine w_aald hx hb hK hP 35 4 (by decide) SX_35 rfl (k := ej) (by omega) (by decide) (if_pos (by omega)) d_L_giveNumber_15 ?_
  refine lv_aload_n hx hb d_L_giveNumber_16 rfl (lv_at hl 0 rfl) ?_
  refine w_get (C := R_L) (T := F_L) (N := 5) (ci := 1) (v := .int (nI (ln + 1))) hx hb hts inw_L hown hK hP 34 (by decide) SX_34 rfl 3 (by decide) (hts _ (al aF_L_25)) rfl d_L_giveNumber_17 ?_
  refine w_put (C := R_E) (T := F_E) (N := 7) (ci := 0) (x := nI (ln + 1)) hx hb hts inw_E ft_E ft_E_ok fn_E hown hK hP hW hS (37 + 3 * ej) (by omega) (SX_e hj) rfl 4 (by decide) (hts _ (al aF_L_35)) rfl rfl rfl (Nat.le_of_ble_eq_true rfl) (by rw [wF_r]; exact (SX_e hj).trans rfl) d_L_giveNumber_20 (fun H locs hP hS => ?_)
  refine lv_aload_n hx hb d_L_giveNumber_23 rfl (lv_at hl 0 rfl) ?_
  refine w_get (C := R_L) (T := F_L) (N := 5) (ci := 1) (v := .ref (o + 36)) hx hb hts inw_L hown hK hP 34 (by decide) SX_34 rfl 1 (by decide) (hts _ (al aF_L_17)) rfl d_L_giveNumber_24 ?_
  refine lv_aload_n hx hb d_L_giveNumber_27 rfl (lv_at hl 0 rfl) ?_
  refine w_get (C := R_L) (T := F_L) (N := 5) (ci := 1) (v := .int (nI (ln + 1))) hx hb hts inw_L hown hK hP 34 (by decide) SX_34 rfl 3 (by decide) (hts _ (al aF_L_25)) (w_hv (((wF_ne (by omega)).trans (wF_s)))) d_L_giveNumber_28 ?_
  refine lv_iload_n hx hb d_L_giveNumber_31 rfl (lv_at hl 1 rfl) ?_
  refine w_iast hx hb hK hP hW hS 36 0 (by decide) (fun _ => SX_36) rfl (k := (ln + 1)) (by omega) (by decide) d_L_giveNumber_32 (fun H locs hP hS => ?_)
  refine lv_aload_n hx hb d_L_giveNumber_33 rfl (lv_at hl 0 rfl) ?_
  refine w_get (C := R_L) (T := F_L) (N := 5) (ci := 1) (v := .int (nI (ln + 1))) hx hb hts inw_L hown hK hP 34 (by decide) SX_34 rfl 3 (by decide) (hts _ (al aF_L_25)) (w_hv (((wF_ne (by omega)).trans (wF_s)))) d_L_giveNumber_34 ?_
  exact W.iret (v := nI (ln + 1)) hx hb hr (fun tz hz9 hW9 => ⟨⟨nI (ln + 1), (wI (wF (wF M 34 3 (nI (ln + 1))) (37 + 3 * ej) 4 (nI (ln + 1))) 36 (ln + 1) (nI ej)), rfl, ⟨rfl, rfl⟩, by rw [hz9]; exact hP, va_K.moved hW9.alike hK⟩, hS.F hz9⟩) hS.2.2 d_L_giveNumber_37
set_option maxHeartbeats 4000000 in
set_option maxRecDepth 100000 in
/-- L_isInClosedMonth -/
theorem k_L_isInClosedMonth (l : Launch) (D : va_G) (cA : Nat → ClassId) (o sz : Nat) (M : wM) (day : Int32) : Met l y_L_isInClosedMonth (wm y_L_isInClosedMonth c_L_isInClosedMonth 2 (some .boolean)) { frames := 0, cells := 0, slots := 0, locals := 0 } (va_Pc [.ref (o + 34), .int day] (xB D cA o M sz)) (va_Qi (fun r M1 => M1 = M ∧ r = b2i (decide (day / 30 ≤ M.2.2 34 4))) (xQ D cA o) (xA o sz)) 0 0 (xA o sz) := by
  refine Met.ofW (cc := c_L_isInClosedMonth) (maxL := 2) (ret := (some .boolean)) (by decide) rfl ?_
  intro p e s m args below meth c s₁ B hml hv
  obtain ⟨rfl, hsz, hP, hK⟩ := hv
  have hx := B.exec
  have hb := B.bytes
  have hr := B.returns
  have hts := atoms_spec (ws := wm y_L_isInClosedMonth c_L_isInClosedMonth 2 (some .boolean)) B.pre
  have hown : s.vm.findClass "ShopDesks$Ledger" = some m.cls := findClass_of_methodNamed B.named
  have hlocks := B.notSynchronized
  subst hsz
  have hS : va_S (xA o s.heap.size) s.heap s.heap [] := va_S.rf
  have hW : ∀ i, i < 217 → xA o s.heap.size (o + i) := fun i hi => wA_in hi
  have hl := lv_entry ([.ref (o + 34), .int day]) (n := 2) (Nat.le_of_ble_eq_true rfl)
  rw [lg_entry_eq]
  generalize (lg_sl ([.ref (o + 34), .int day]) ++ List.replicate (2 - (lg_sl ([.ref (o + 34), .int day])).length) Slot.unset).toArray = ls at hl ⊢
  have hl : lv_has ls 2 [(0, .ref (o + 34)), (1, .int day)] := hl
  refine lv_iload_n hx hb d_L_isInClosedMonth_0 rfl (lv_at hl 1 rfl) ?_
  refine lv_bipush (v := 30) hx hb d_L_isInClosedMonth_1 (by decide) ?_
  refine lv_idiv hx hb d_L_isInClosedMonth_3 (by decide) ?_
  refine lv_aload_n hx hb d_L_isInClosedMonth_4 rfl (lv_at hl 0 rfl) ?_
  refine w_get (C := R_L) (T := F_L) (N := 5) (ci := 1) (v := .int (M.2.2 34 4)) hx hb hts inw_L hown hK hP 34 (by decide) SX_34 rfl 4 (by decide) (hts _ (al aF_L_28)) rfl d_L_isInClosedMonth_5 ?_
  refine lv_icmp_gt (tgt := 15) hx hb d_L_isInClosedMonth_8 (by decide) (fun c_1 => ?_) (fun c_1 => ?_)
  · have q := c_1
    refine lv_iconst (v := 0) hx hb d_L_isInClosedMonth_15 (by decide) ?_
    exact W.zret (v := 0) hx hb hr rfl (fun tz hz9 hW9 => ⟨⟨0, M, rfl, ⟨rfl, (b2i_f (fun h => absurd h (Int32.not_le.mpr q))).symm⟩, by rw [hz9]; exact hP, va_K.moved hW9.alike hK⟩, hS.F hz9⟩) hS.2.2 d_L_isInClosedMonth_16
  · have q := c_1
    refine lv_iconst (v := 1) hx hb d_L_isInClosedMonth_11 (by decide) ?_
    refine lv_goto (tgt := 16) hx hb d_L_isInClosedMonth_12 (by decide) ?_
    exact W.zret (v := 1) hx hb hr rfl (fun tz hz9 hW9 => ⟨⟨1, M, rfl, ⟨rfl, (b2i_t (Int32.not_lt.mp q)).symm⟩, by rw [hz9]; exact hP, va_K.moved hW9.alike hK⟩, hS.F hz9⟩) hS.2.2 d_L_isInClosedMonth_16
set_option maxHeartbeats 4000000 in
set_option maxRecDepth 100000 in
/-- L_sumUpTo -/
theorem k_L_sumUpTo (l : Launch) (D : va_G) (cA : Nat → ClassId) (o sz : Nat) (M : wM) (ec : Nat) (hec : ec ≤ 60) (eec : M.2.2 34 2 = nI ec) (rc : Nat → Nat) (hrc : ∀ j, j < ec → rc j ≤ 6 ∧ M.2.2 (37 + 3 * j) 2 = nI (rc j)) (ac day : Int32) : Met l y_L_sumUpTo (wm y_L_sumUpTo c_L_sumUpTo 6 (some .long)) { frames := 1, cells := 0, slots := 0, locals := 24 } (va_Pc [.ref (o + 34), .int ac, .int day] (xB D cA o M sz)) (va_Ql (fun r M1 => M1 = M ∧ r = x_bal M rc ac day ec) (xQ D cA o) (xA o sz)) 0 0 (xA o sz) := by
  refine Met.ofW (cc := c_L_sumUpTo) (maxL := 6) (ret := (some .long)) (by decide) rfl ?_
  intro p e s m args below meth c s₁ B hml hv
  obtain ⟨rfl, hsz, hP, hK⟩ := hv
  have hx := B.exec
  have hb := B.bytes
  have hr := B.returns
  have hts := atoms_spec (ws := wm y_L_sumUpTo c_L_sumUpTo 6 (some .long)) B.pre
  have hown : s.vm.findClass "ShopDesks$Ledger" = some m.cls := findClass_of_methodNamed B.named
  have hlocks := B.notSynchronized
  subst hsz
  have hS : va_S (xA o s.heap.size) s.heap s.heap [] := va_S.rf
  have hW : ∀ i, i < 217 → xA o s.heap.size (o + i) := fun i hi => wA_in hi
  have hl := lv_entry ([.ref (o + 34), .int ac, .int day]) (n := 6) (Nat.le_of_ble_eq_true rfl)
  rw [lg_entry_eq]
  generalize (lg_sl ([.ref (o + 34), .int ac, .int day]) ++ List.replicate (6 - (lg_sl ([.ref (o + 34), .int ac, .int day])).length) Slot.unset).toArray = ls at hl ⊢
  have hl : lv_has ls 6 [(0, .ref (o + 34)), (1, .int ac), (2, .int day)] := hl
  refine lv_lconst (v := 0) hx hb d_L_sumUpTo_0 (by decide) ?_
  refine lv_lstore_n (lv' := [(3, .long 0), (0, .ref (o + 34)), (1, .int ac), (2, .int day)]) hx hb d_L_sumUpTo_1 rfl hl (by decide) rfl (fun ls hl => ?_)
  refine lv_iconst (v := 0) hx hb d_L_sumUpTo_2 (by decide) ?_
  refine lv_istore (lv' := [(5, .int 0), (3, .long 0), (0, .ref (o + 34)), (1, .int ac), (2, .int day)]) hx hb d_L_sumUpTo_3 hl (by decide) rfl (fun ls hl => ?_)
  have lp5 : ∀ (fuel : Nat) (k : Nat) (sm : Int64), ec - k < fuel → (k ≤ ec) → (sm = x_bal M rc ac day k) → ∀ (H : Heap) (locs : List Loc), wP D cls_ (SX o cA) o 217 M H → va_S (xA o s.heap.size) s.heap H locs → ∀ (ls : Array Slot), lv_has ls 6 [(0, .ref (o + 34)), (1, .int ac), (2, .int day), (3, .long sm), (5, .int (nI k))] → W p l e (headSpec (wm y_L_sumUpTo c_L_sumUpTo 6 (some .long)) { frames := 1, cells := 0, slots := 0, locals := 24 }).room s m ([.ref (o + 34), .int ac, .int day] : List Value).toArray below meth c H locs 0 0 (MQ below (va_Ql (fun r M1 => M1 = M ∧ r = x_bal M rc ac day ec) (xQ D cA o) (xA o s.heap.size)) ([.ref (o + 34), .int ac, .int day] : List Value).toArray s 0 0 (xA o s.heap.size)) (F0 m 5 ls []) := by
    intro fuel
    induction fuel with
    | zero => intro k sm hfu; exact absurd hfu (Nat.not_lt_zero _)
    | succ fuel ih =>
      intro k sm hfu hkn hsm H locs hP hS ls hl
      refine lv_iload hx hb d_L_sumUpTo_5 (lv_at hl 4 rfl) ?_
      refine lv_aload_n hx hb d_L_sumUpTo_7 rfl (lv_at hl 0 rfl) ?_
      refine w_get (C := R_L) (T := F_L) (N := 5) (ci := 1) (v := .int (M.2.2 34 2)) hx hb hts inw_L hown hK hP 34 (by decide) SX_34 rfl 2 (by decide) (hts _ (al aF_L_21)) rfl d_L_sumUpTo_8 ?_
      refine w_topi eec ?_
      refine lv_icmp_ge (tgt := 61) hx hb d_L_sumUpTo_11 (by decide) (fun c_1 => ?_) (fun c_1 => ?_)
      · have hkr : ec ≤ k := i_le (by omega) (by omega) c_1
        refine lv_lload_n hx hb d_L_sumUpTo_61 rfl (lv_at hl 3 rfl) ?_
        exact W.lret (v := sm) hx hb hr (fun tz hz9 hW9 => ⟨⟨sm, M, rfl, ⟨rfl, by rw [hsm, show k = ec by omega]⟩, by rw [hz9]; exact hP, va_K.moved hW9.alike hK⟩, hS.F hz9⟩) hS.2.2 d_L_sumUpTo_62
      · have hkr : k < ec := i_nle (by omega) (by omega) c_1
        have hk60 : k < 60 := by omega
        refine lv_aload_n hx hb d_L_sumUpTo_14 rfl (lv_at hl 0 rfl) ?_
        refine w_get (C := R_L) (T := F_L) (N := 5) (ci := 1) (v := .ref (o + 35)) hx hb hts inw_L hown hK hP 34 (by decide) SX_34 rfl 0 (by decide) (hts _ (al aF_L_11)) rfl d_L_sumUpTo_15 ?_
        refine lv_iload hx hb d_L_sumUpTo_18 (lv_at hl 4 rfl) ?_
        refine w_aald hx hb hK hP 35 4 (by decide) SX_35 rfl (k := k) (by omega) (by decide) (if_pos (by omega)) d_L_sumUpTo_20 ?_
        refine w_Vi ⟨hx, hb, hml, hown, hts⟩ (k_E_isClosed l D cA o _ M k hk60) (kV hts 0 aK_E_isClosed aM_L_56 aI_E_isClosed aV_E_isClosed aN_E nm_E_isClosed rfl rfl ⟨(Nat.le_of_ble_eq_true rfl), (Nat.le_of_ble_eq_true rfl)⟩) hK hP (by omega) (SX_e hk60) rfl rfl hl.1 rfl (Nat.le_of_ble_eq_true rfl) d_L_sumUpTo_21 ⟨(Nat.le_of_ble_eq_true rfl), (Nat.le_of_ble_eq_true rfl)⟩ hS (fun q h => wA_le hS.1 h) (fun r_2 M_2 H locs hw_2 hP hzc hkc hS => ?_)
        rw [hw_2.1] at hP
        refine w_topi hw_2.2 ?_
        refine lv_if_eq (tgt := 55) hx hb d_L_sumUpTo_24 (by decide) (fun c_3 => ?_) (fun c_3 => ?_)
        · have q1 := b2i_0 c_3
          refine lv_iinc (v := nI (k + 1)) (lv' := [(5, .int (nI (k + 1))), (0, .ref (o + 34)), (1, .int ac), (2, .int day), (3, .long sm)]) hx hb d_L_sumUpTo_55 hl (k := 4) rfl (w_inc k) (by decide) rfl (fun ls hl => ?_)
          refine lv_goto (tgt := 5) hx hb d_L_sumUpTo_58 (by decide) ?_
          exact ih (k + 1) sm (by omega) hkr (by rw [x_bal_f (fun h => h.1 (of_decide_eq_false q1 |> Decidable.not_not.mp))]; exact hsm) _ _ hP hS ls (lv_sub hl [1, 2, 3, 4, 0] rfl)
        · have q1 := b2i_1 c_3
          refine lv_aload_n hx hb d_L_sumUpTo_27 rfl (lv_at hl 0 rfl) ?_
          refine w_get (C := R_L) (T := F_L) (N := 5) (ci := 1) (v := .ref (o + 35)) hx hb hts inw_L hown hK hP 34 (by decide) SX_34 rfl 0 (by decide) (hts _ (al aF_L_11)) rfl d_L_sumUpTo_28 ?_
          refine lv_iload hx hb d_L_sumUpTo_31 (lv_at hl 4 rfl) ?_
          refine w_aald hx hb hK hP 35 4 (by decide) SX_35 rfl (k := k) (by omega) (by decide) (if_pos (by omega)) d_L_sumUpTo_33 ?_
          refine w_get (C := R_E) (T := F_E) (N := 7) (ci := 0) (v := .int (M.2.2 (37 + 3 * k) 3)) hx hb hts inw_E hown hK hP (37 + 3 * k) (by omega) (SX_e hk60) rfl 3 (by decide) (hts _ (al aF_L_32)) rfl d_L_sumUpTo_34 ?_
          refine lv_iload_n hx hb d_L_sumUpTo_37 rfl (lv_at hl 2 rfl) ?_
          refine lv_icmp_gt (tgt := 55) hx hb d_L_sumUpTo_38 (by decide) (fun c_4 => ?_) (fun c_4 => ?_)
          · have q2 := c_4
            refine lv_iinc (v := nI (k + 1)) (lv' := [(5, .int (nI (k + 1))), (0, .ref (o + 34)), (1, .int ac), (2, .int day), (3, .long sm)]) hx hb d_L_sumUpTo_55 hl (k := 4) rfl (w_inc k) (by decide) rfl (fun ls hl => ?_)
            refine lv_goto (tgt := 5) hx hb d_L_sumUpTo_58 (by decide) ?_
            exact ih (k + 1) sm (by omega) hkr (by rw [x_bal_f (fun h => absurd h.2 (Int32.not_le.mpr q2))]; exact hsm) _ _ hP hS ls (lv_sub hl [1, 2, 3, 4, 0] rfl)
          · have q2 := c_4
            refine lv_lload_n hx hb d_L_sumUpTo_41 rfl (lv_at hl 3 rfl) ?_
            refine lv_aload_n hx hb d_L_sumUpTo_42 rfl (lv_at hl 0 rfl) ?_
            refine w_get (C := R_L) (T := F_L) (N := 5) (ci := 1) (v := .ref (o + 35)) hx hb hts inw_L hown hK hP 34 (by decide) SX_34 rfl 0 (by decide) (hts _ (al aF_L_11)) rfl d_L_sumUpTo_43 ?_
            refine lv_iload hx hb d_L_sumUpTo_46 (lv_at hl 4 rfl) ?_
            refine w_aald hx hb hK hP 35 4 (by decide) SX_35 rfl (k := k) (by omega) (by decide) (if_pos (by omega)) d_L_sumUpTo_48 ?_
            refine lv_iload_n hx hb d_L_sumUpTo_49 rfl (lv_at hl 1 rfl) ?_
            refine w_Vl ⟨hx, hb, hml, hown, hts⟩ (k_E_sumOf l D cA o _ M k hk60 (rc k) (hrc k hkr).1 (hrc k hkr).2 ac) (kV hts 1 aK_E_sumOf aM_L_60 aI_E_sumOf aV_E_sumOf aN_E nm_E_sumOf rfl rfl ⟨(Nat.le_of_ble_eq_true rfl), (Nat.le_of_ble_eq_true rfl)⟩) hK hP (by omega) (SX_e hk60) rfl rfl hl.1 rfl (Nat.le_of_ble_eq_true rfl) d_L_sumUpTo_50 ⟨(Nat.le_of_ble_eq_true rfl), (Nat.le_of_ble_eq_true rfl)⟩ hS (fun q h => wA_le hS.1 h) (fun r_5 M_5 H locs hw_5 hP hzc hkc hS => ?_)
            rw [hw_5.1] at hP
            refine w_topl hw_5.2 ?_
            refine lv_ladd hx hb d_L_sumUpTo_53 ?_
            refine lv_lstore_n (lv' := [(3, .long (sm + (x_esum M k ac (rc k)))), (0, .ref (o + 34)), (1, .int ac), (2, .int day), (5, .int (nI k))]) hx hb d_L_sumUpTo_54 rfl hl (by decide) rfl (fun ls hl => ?_)
            refine lv_iinc (v := nI (k + 1)) (lv' := [(5, .int (nI (k + 1))), (3, .long (sm + (x_esum M k ac (rc k)))), (0, .ref (o + 34)), (1, .int ac), (2, .int day)]) hx hb d_L_sumUpTo_55 hl (k := 4) rfl (w_inc k) (by decide) rfl (fun ls hl => ?_)
            refine lv_goto (tgt := 5) hx hb d_L_sumUpTo_58 (by decide) ?_
            exact ih (k + 1) (sm + (x_esum M k ac (rc k))) (by omega) hkr (by rw [x_bal_t (of_decide_eq_true q1) (Int32.not_lt.mp q2), hsm]) _ _ hP hS ls (lv_sub hl [2, 3, 4, 1, 0] rfl)
  exact lp5 ((ec - 0) + 1) 0 0 (Nat.lt_succ_self _) (Nat.zero_le _) rfl _ _ hP hS ls (lv_sub hl [2, 3, 4, 1, 0] rfl)
end
section
/-! sets: the same, and joined; a reversal -/
def x_add (M : wM) (si z t : Nat) : wM := wF (wI (wI M (9 + 3 * si + 1) z (nI t)) (9 + 3 * si + 2) t 1) (9 + 3 * si) 3 (nI (z + 1))
def x_join (M : wM) (si : Nat) (od : Nat → Nat) (z : Nat) : Nat → wM × Nat
  | 0 => (M, z)
  | k + 1 => if (x_join M si od z k).1.1 (9 + 3 * si + 2) (od k) = 0 then (x_add (x_join M si od z k).1 si (x_join M si od z k).2 (od k), (x_join M si od z k).2 + 1) else x_join M si od z k
def x_jM (M : wM) (si : Nat) (od : Nat → Nat) (z k : Nat) : wM := (x_join M si od z k).1
def x_jZ (M : wM) (si : Nat) (od : Nat → Nat) (z k : Nat) : Nat := (x_join M si od z k).2
theorem x_jM_t {M : wM} {si : Nat} {od : Nat → Nat} {z k : Nat} (h : (x_jM M si od z k).1 (9 + 3 * si + 2) (od k) = 0) : x_jM M si od z (k + 1) = x_add (x_jM M si od z k) si (x_jZ M si od z k) (od k) := by
  have h' : (x_join M si od z k).1.1 (9 + 3 * si + 2) (od k) = 0 := h
  simp only [x_jM, x_jZ]
  rw [x_join, if_pos h']
theorem x_jZ_t {M : wM} {si : Nat} {od : Nat → Nat} {z k : Nat} (h : (x_jM M si od z k).1 (9 + 3 * si + 2) (od k) = 0) : x_jZ M si od z (k + 1) = x_jZ M si od z k + 1 := by
  have h' : (x_join M si od z k).1.1 (9 + 3 * si + 2) (od k) = 0 := h
  simp only [x_jM, x_jZ]
  rw [x_join, if_pos h']
theorem x_jM_f {M : wM} {si : Nat} {od : Nat → Nat} {z k : Nat} (h : ¬ (x_jM M si od z k).1 (9 + 3 * si + 2) (od k) = 0) : x_jM M si od z (k + 1) = x_jM M si od z k := by
  have h' : ¬ (x_join M si od z k).1.1 (9 + 3 * si + 2) (od k) = 0 := h
  simp only [x_jM, x_jZ]
  rw [x_join, if_neg h']
theorem x_jZ_f {M : wM} {si : Nat} {od : Nat → Nat} {z k : Nat} (h : ¬ (x_jM M si od z k).1 (9 + 3 * si + 2) (od k) = 0) : x_jZ M si od z (k + 1) = x_jZ M si od z k := by
  have h' : ¬ (x_join M si od z k).1.1 (9 + 3 * si + 2) (od k) = 0 := h
  simp only [x_jM, x_jZ]
  rw [x_join, if_neg h']
theorem x_turn_34 {M : wM} {ej ek : Nat} (k : Nat) : (x_turn M ej ek k).2.2 34 = M.2.2 34 := by
  induction k with
  | zero => rfl
  | succ k ih => exact (up2_o _ _ _ _ (by omega)).trans ih
def x_opened (M : wM) (ec : Nat) (day : Int32) : wM := wF (wF M (37 + 3 * ec) 3 day) 34 2 (nI (ec + 1))
def x_numbered (M : wM) (ln ej : Nat) : wM := wI (wF (wF M 34 3 (nI (ln + 1))) (37 + 3 * ej) 4 (nI (ln + 1))) 36 (ln + 1) (nI ej)
def x_reversed (M : wM) (ec ek rc ln : Nat) (day : Int32) : wM := x_numbered (wF (wF (x_turn (x_opened M ec day) ec ek rc) (37 + 3 * ec) 6 1) (37 + 3 * ek) 5 1) ln ec
set_option maxHeartbeats 4000000 in
set_option maxRecDepth 100000 in
/-- S_hasSameAs -/
theorem k_S_hasSameAs (l : Launch) (D : va_G) (cA : Nat → ClassId) (o sz : Nat) (M : wM) (si ti : Nat) (hs : si < 8) (ht9 : ti < 8) (od : Nat → Nat) (z z2 : Nat) (hz : z ≤ 300) (hz2 : z2 ≤ 300) (ez : M.2.2 (9 + 3 * si) 3 = nI z) (ez2 : M.2.2 (9 + 3 * ti) 3 = nI z2) (hod : ∀ j, j < z → M.1 (9 + 3 * si + 1) j = nI (od j) ∧ od j < 300) : Met l y_S_hasSameAs (wm y_S_hasSameAs c_S_hasSameAs 3 (some .boolean)) { frames := 0, cells := 0, slots := 0, locals := 0 } (va_Pc [.ref (o + (9 + 3 * si)), .ref (o + (9 + 3 * ti))] (xB D cA o M sz)) (va_Qi (fun r M1 => M1 = M ∧ r = b2i (decide (z = z2 ∧ ∀ j, j < z → ¬ M.1 (9 + 3 * ti + 2) (od j) = 0))) (xQ D cA o) (xA o sz)) 0 0 (xA o sz) := by
  refine Met.ofW (cc := c_S_hasSameAs) (maxL := 3) (ret := (some .boolean)) (by decide) rfl ?_
  intro p e s m args below meth c s₁ B hml hv
  obtain ⟨rfl, hsz, hP, hK⟩ := hv
  have hx := B.exec
  have hb := B.bytes
  have hr := B.returns
  have hts := atoms_spec (ws := wm y_S_hasSameAs c_S_hasSameAs 3 (some .boolean)) B.pre
  have hown : s.vm.findClass "ShopDesks$TellingSet" = some m.cls := findClass_of_methodNamed B.named
  have hlocks := B.notSynchronized
  subst hsz
  have hS : va_S (xA o s.heap.size) s.heap s.heap [] := va_S.rf
  have hW : ∀ i, i < 217 → xA o s.heap.size (o + i) := fun i hi => wA_in hi
  have hl := lv_entry ([.ref (o + (9 + 3 * si)), .ref (o + (9 + 3 * ti))]) (n := 3) (Nat.le_of_ble_eq_true rfl)
  rw [lg_entry_eq]
  generalize (lg_sl ([.ref (o + (9 + 3 * si)), .ref (o + (9 + 3 * ti))]) ++ List.replicate (3 - (lg_sl ([.ref (o + (9 + 3 * si)), .ref (o + (9 + 3 * ti))])).length) Slot.unset).toArray = ls at hl ⊢
  have hl : lv_has ls 3 [(0, .ref (o + (9 + 3 * si))), (1, .ref (o + (9 + 3 * ti)))] := hl
  refine lv_aload_n hx hb d_S_hasSameAs_0 rfl (lv_at hl 0 rfl) ?_
  refine w_get (C := R_S) (T := F_S) (N := 5) (ci := 2) (v := .int (M.2.2 (9 + 3 * si) 3)) hx hb hts inw_S hown hK hP (9 + 3 * si) (by omega) (SX_s hs) rfl 3 (by decide) (hts _ (al aF_S_19)) rfl d_S_hasSameAs_1 ?_
  refine w_topi ez ?_
  refine lv_aload_n hx hb d_S_hasSameAs_4 rfl (lv_at hl 1 rfl) ?_
  refine w_get (C := R_S) (T := F_S) (N := 5) (ci := 2) (v := .int (M.2.2 (9 + 3 * ti) 3)) hx hb hts inw_S hown hK hP (9 + 3 * ti) (by omega) (SX_s ht9) rfl 3 (by decide) (hts _ (al aF_S_19)) rfl d_S_hasSameAs_5 ?_
  refine w_topi ez2 ?_
  refine lv_icmp_eq (tgt := 13) hx hb d_S_hasSameAs_8 (by decide) (fun c_1 => ?_) (fun c_1 => ?_)
  · have hzz : z = z2 := (nI_eq (by omega) (by omega)).mp c_1
    refine lv_iconst (v := 0) hx hb d_S_hasSameAs_13 (by decide) ?_
    refine lv_istore_n (lv' := [(2, .int 0), (0, .ref (o + (9 + 3 * si))), (1, .ref (o + (9 + 3 * ti)))]) hx hb d_S_hasSameAs_14 rfl hl (by decide) rfl (fun ls hl => ?_)
    have lp15 : ∀ (fuel : Nat) (k : Nat), z - k < fuel → (k ≤ z) → (∀ j, j < k → ¬ M.1 (9 + 3 * ti + 2) (od j) = 0) → ∀ (ls : Array Slot), lv_has ls 3 [(0, .ref (o + (9 + 3 * si))), (1, .ref (o + (9 + 3 * ti))), (2, .int (nI k))] → W p l e (headSpec (wm y_S_hasSameAs c_S_hasSameAs 3 (some .boolean)) { frames := 0, cells := 0, slots := 0, locals := 0 }).room s m ([.ref (o + (9 + 3 * si)), .ref (o + (9 + 3 * ti))] : List Value).toArray below meth c s.heap [] 0 0 (MQ below (va_Qi (fun r M1 => M1 = M ∧ r = b2i (decide (z = z2 ∧ ∀ j, j < z → ¬ M.1 (9 + 3 * ti + 2) (od j) = 0))) (xQ D cA o) (xA o s.heap.size)) ([.ref (o + (9 + 3 * si)), .ref (o + (9 + 3 * ti))] : List Value).toArray s 0 0 (xA o s.heap.size)) (F0 m 15 ls []) := by
      intro fuel
      induction fuel with
      | zero => intro k hfu; exact absurd hfu (Nat.not_lt_zero _)
      | succ fuel ih =>
        intro k hfu hkn hno ls hl
        refine lv_iload_n hx hb d_S_hasSameAs_15 rfl (lv_at hl 2 rfl) ?_
        refine lv_aload_n hx hb d_S_hasSameAs_16 rfl (lv_at hl 0 rfl) ?_
        refine w_get (C := R_S) (T := F_S) (N := 5) (ci := 2) (v := .int (M.2.2 (9 + 3 * si) 3)) hx hb hts inw_S hown hK hP (9 + 3 * si) (by omega) (SX_s hs) rfl 3 (by decide) (hts _ (al aF_S_19)) rfl d_S_hasSameAs_17 ?_
        refine w_topi ez ?_
        refine lv_icmp_ge (tgt := 45) hx hb d_S_hasSameAs_20 (by decide) (fun c_2 => ?_) (fun c_2 => ?_)
        · have hkz : z ≤ k := i_le (by omega) (by omega) c_2
          refine lv_iconst (v := 1) hx hb d_S_hasSameAs_45 (by decide) ?_
          exact W.zret (v := 1) hx hb hr rfl (fun tz hz9 hW9 => ⟨⟨1, M, rfl, ⟨rfl, (b2i_t ⟨hzz, fun j hj => hno j (by omega)⟩).symm⟩, by rw [hz9]; exact hP, va_K.moved hW9.alike hK⟩, hS.F hz9⟩) hS.2.2 d_S_hasSameAs_46
        · have hkz : k < z := i_nle (by omega) (by omega) c_2
          refine lv_aload_n hx hb d_S_hasSameAs_23 rfl (lv_at hl 1 rfl) ?_
          refine w_get (C := R_S) (T := F_S) (N := 5) (ci := 2) (v := .ref (o + (9 + 3 * ti + 2))) hx hb hts inw_S hown hK hP (9 + 3 * ti) (by omega) (SX_s ht9) rfl 2 (by decide) (hts _ (al aF_S_15)) rfl d_S_hasSameAs_24 ?_
          refine lv_aload_n hx hb d_S_hasSameAs_27 rfl (lv_at hl 0 rfl) ?_
          refine w_get (C := R_S) (T := F_S) (N := 5) (ci := 2) (v := .ref (o + (9 + 3 * si + 1))) hx hb hts inw_S hown hK hP (9 + 3 * si) (by omega) (SX_s hs) rfl 1 (by decide) (hts _ (al aF_S_9)) rfl d_S_hasSameAs_28 ?_
          refine lv_iload_n hx hb d_S_hasSameAs_31 rfl (lv_at hl 2 rfl) ?_
          refine w_iald hx hb hK hP (9 + 3 * si + 1) 0 (by omega) (SX_so hs) rfl (k := k) (by omega) (by decide) d_S_hasSameAs_32 ?_
          refine w_topi ((hod k hkz).1) ?_
          refine w_zald hx hb hK hP (9 + 3 * ti + 2) 2 (by omega) (SX_si ht9) rfl (k := (od k)) ((hod k hkz).2) (by decide) d_S_hasSameAs_33 ?_
          refine lv_if_ne (tgt := 39) hx hb d_S_hasSameAs_34 (by decide) (fun c_3 => ?_) (fun c_3 => ?_)
          · have q := c_3
            refine lv_iinc (v := nI (k + 1)) (lv' := [(2, .int (nI (k + 1))), (0, .ref (o + (9 + 3 * si))), (1, .ref (o + (9 + 3 * ti)))]) hx hb d_S_hasSameAs_39 hl (k := 2) rfl (w_inc k) (by decide) rfl (fun ls hl => ?_)
            refine lv_goto (tgt := 15) hx hb d_S_hasSameAs_42 (by decide) ?_
            exact ih (k + 1) (by omega) hkz (lt_s hno q) ls (lv_sub hl [1, 2, 0] rfl)
          · have q := c_3
            refine lv_iconst (v := 0) hx hb d_S_hasSameAs_37 (by decide) ?_
            exact W.zret (v := 0) hx hb hr rfl (fun tz hz9 hW9 => ⟨⟨0, M, rfl, ⟨rfl, (b2i_f (fun h => h.2 k hkz q)).symm⟩, by rw [hz9]; exact hP, va_K.moved hW9.alike hK⟩, hS.F hz9⟩) hS.2.2 d_S_hasSameAs_38
    exact lp15 ((z - 0) + 1) 0 (Nat.lt_succ_self _) (Nat.zero_le _) (fun j h => absurd h (Nat.not_lt_zero _)) ls (lv_sub hl [1, 2, 0] rfl)
  · have hzz : ¬ z = z2 := fun h => c_1 (by rw [h])
    refine lv_iconst (v := 0) hx hb d_S_hasSameAs_11 (by decide) ?_
    exact W.zret (v := 0) hx hb hr rfl (fun tz hz9 hW9 => ⟨⟨0, M, rfl, ⟨rfl, (b2i_f (fun h => hzz h.1)).symm⟩, by rw [hz9]; exact hP, va_K.moved hW9.alike hK⟩, hS.F hz9⟩) hS.2.2 d_S_hasSameAs_12
set_option maxHeartbeats 4000000 in
set_option maxRecDepth 100000 in
/-- S_takeMissing -/
theorem k_S_takeMissing (l : Launch) (D : va_G) (cA : Nat → ClassId) (o sz : Nat) (M : wM) (si ti : Nat) (hs : si < 8) (ht9 : ti < 8) (od : Nat → Nat) (z z2 : Nat) (hz : z ≤ 300) (hz2 : z2 ≤ 300) (ez : M.2.2 (9 + 3 * si) 3 = nI z) (hod3 : ∀ j, j < z2 → od j < 300)
    (hj1 : ∀ k, k ≤ z2 → (x_jM M si od z k).2.2 (9 + 3 * ti) 3 = nI z2 ∧ (∀ j, j < z2 → (x_jM M si od z k).1 (9 + 3 * ti + 1) j = nI (od j)) ∧ (x_jM M si od z k).2.2 (9 + 3 * si) 3 = nI (x_jZ M si od z k))
    (hj4 : ∀ k, k < z2 → (x_jM M si od z k).1 (9 + 3 * si + 2) (od k) = 0 → x_jZ M si od z k < 300) : Met l y_S_takeMissing (wm y_S_takeMissing c_S_takeMissing 5 (some .int)) { frames := 0, cells := 0, slots := 0, locals := 0 } (va_Pc [.ref (o + (9 + 3 * si)), .ref (o + (9 + 3 * ti))] (xB D cA o M sz)) (va_Qi (fun r M1 => M1 = x_jM M si od z z2 ∧ r = nI (x_jZ M si od z z2) - nI z) (xQ D cA o) (xA o sz)) 0 0 (xA o sz) := by
  refine Met.ofW (cc := c_S_takeMissing) (maxL := 5) (ret := (some .int)) (by decide) rfl ?_
  intro p e s m args below meth c s₁ B hml hv
  obtain ⟨rfl, hsz, hP, hK⟩ := hv
  have hx := B.exec
  have hb := B.bytes
  have hr := B.returns
  have hts := atoms_spec (ws := wm y_S_takeMissing c_S_takeMissing 5 (some .int)) B.pre
  have hown : s.vm.findClass "ShopDesks$TellingSet" = some m.cls := findClass_of_methodNamed B.named
  have hlocks := B.notSynchronized
  subst hsz
  have hS : va_S (xA o s.heap.size) s.heap s.heap [] := va_S.rf
  have hW : ∀ i, i < 217 → xA o s.heap.size (o + i) := fun i hi => wA_in hi
  have hl := lv_entry ([.ref (o + (9 + 3 * si)), .ref (o + (9 + 3 * ti))]) (n := 5) (Nat.le_of_ble_eq_true rfl)
  rw [lg_entry_eq]
  generalize (lg_sl ([.ref (o + (9 + 3 * si)), .ref (o + (9 + 3 * ti))]) ++ List.replicate (5 - (lg_sl ([.ref (o + (9 + 3 * si)), .ref (o + (9 + 3 * ti))])).length) Slot.unset).toArray = ls at hl ⊢
  have hl : lv_has ls 5 [(0, .ref (o + (9 + 3 * si))), (1, .ref (o + (9 + 3 * ti)))] := hl
  refine lv_aload_n hx hb d_S_takeMissing_0 rfl (lv_at hl 0 rfl) ?_
  refine w_get (C := R_S) (T := F_S) (N := 5) (ci := 2) (v := .int (M.2.2 (9 + 3 * si) 3)) hx hb hts inw_S hown hK hP (9 + 3 * si) (by omega) (SX_s hs) rfl 3 (by decide) (hts _ (al aF_S_19)) rfl d_S_takeMissing_1 ?_
  refine w_topi ez ?_
  refine lv_istore_n (lv' := [(2, .int (nI z)), (0, .ref (o + (9 + 3 * si))), (1, .ref (o + (9 + 3 * ti)))]) hx hb d_S_takeMissing_4 rfl hl (by decide) rfl (fun ls hl => ?_)
  refine lv_iconst (v := 0) hx hb d_S_takeMissing_5 (by decide) ?_
  refine lv_istore_n (lv' := [(3, .int 0), (2, .int (nI z)), (0, .ref (o + (9 + 3 * si))), (1, .ref (o + (9 + 3 * ti)))]) hx hb d_S_takeMissing_6 rfl hl (by decide) rfl (fun ls hl => ?_)
  have lp7 : ∀ (fuel : Nat) (k : Nat), z2 - k < fuel → (k ≤ z2) → ∀ (H : Heap) (locs : List Loc), wP D cls_ (SX o cA) o 217 (x_jM M si od z k) H → va_S (xA o s.heap.size) s.heap H locs → ∀ (ls : Array Slot), lv_has ls 5 [(0, .ref (o + (9 + 3 * si))), (1, .ref (o + (9 + 3 * ti))), (2, .int (nI z)), (3, .int (nI k))] → W p l e (headSpec (wm y_S_takeMissing c_S_takeMissing 5 (some .int)) { frames := 0, cells := 0, slots := 0, locals := 0 }).room s m ([.ref (o + (9 + 3 * si)), .ref (o + (9 + 3 * ti))] : List Value).toArray below meth c H locs 0 0 (MQ below (va_Qi (fun r M1 => M1 = x_jM M si od z z2 ∧ r = nI (x_jZ M si od z z2) - nI z) (xQ D cA o) (xA o s.heap.size)) ([.ref (o + (9 + 3 * si)), .ref (o + (9 + 3 * ti))] : List Value).toArray s 0 0 (xA o s.heap.size)) (F0 m 7 ls []) := by
    intro fuel
    induction fuel with
    | zero => intro k hfu; exact absurd hfu (Nat.not_lt_zero _)
    | succ fuel ih =>
      intro k hfu hkn H locs hP hS ls hl
      refine lv_iload_n hx hb d_S_takeMissing_7 rfl (lv_at hl 3 rfl) ?_
      refine lv_aload_n hx hb d_S_takeMissing_8 rfl (lv_at hl 1 rfl) ?_
      refine w_get (C := R_S) (T := F_S) (N := 5) (ci := 2) (v := .int ((x_jM M si od z k).2.2 (9 + 3 * ti) 3)) hx hb hts inw_S hown hK hP (9 + 3 * ti) (by omega) (SX_s ht9) rfl 3 (by decide) (hts _ (al aF_S_19)) rfl d_S_takeMissing_9 ?_
      refine w_topi ((hj1 k hkn).1) ?_
      refine lv_icmp_ge (tgt := 68) hx hb d_S_takeMissing_12 (by decide) (fun c_1 => ?_) (fun c_1 => ?_)
      · have hkz : z2 ≤ k := i_le (by omega) (by omega) c_1
        refine lv_aload_n hx hb d_S_takeMissing_68 rfl (lv_at hl 0 rfl) ?_
        refine w_get (C := R_S) (T := F_S) (N := 5) (ci := 2) (v := .int ((x_jM M si od z k).2.2 (9 + 3 * si) 3)) hx hb hts inw_S hown hK hP (9 + 3 * si) (by omega) (SX_s hs) rfl 3 (by decide) (hts _ (al aF_S_19)) rfl d_S_takeMissing_69 ?_
        refine w_topi ((hj1 k hkn).2.2) ?_
        refine lv_iload_n hx hb d_S_takeMissing_72 rfl (lv_at hl 2 rfl) ?_
        refine lv_isub hx hb d_S_takeMissing_73 ?_
        exact W.iret (v := (nI (x_jZ M si od z k)) - (nI z)) hx hb hr (fun tz hz9 hW9 => ⟨⟨(nI (x_jZ M si od z k)) - (nI z), (x_jM M si od z k), rfl, ⟨by rw [show k = z2 by omega], by rw [show k = z2 by omega]⟩, by rw [hz9]; exact hP, va_K.moved hW9.alike hK⟩, hS.F hz9⟩) hS.2.2 d_S_takeMissing_74
      · have hkz : k < z2 := i_nle (by omega) (by omega) c_1
        refine lv_aload_n hx hb d_S_takeMissing_15 rfl (lv_at hl 1 rfl) ?_
        refine w_get (C := R_S) (T := F_S) (N := 5) (ci := 2) (v := .ref (o + (9 + 3 * ti + 1))) hx hb hts inw_S hown hK hP (9 + 3 * ti) (by omega) (SX_s ht9) rfl 1 (by decide) (hts _ (al aF_S_9)) rfl d_S_takeMissing_16 ?_
        refine lv_iload_n hx hb d_S_takeMissing_19 rfl (lv_at hl 3 rfl) ?_
        refine w_iald hx hb hK hP (9 + 3 * ti + 1) 0 (by omega) (SX_so ht9) rfl (k := k) (by omega) (by decide) d_S_takeMissing_20 ?_
        refine w_topi ((hj1 k hkn).2.1 k hkz) ?_
        refine lv_istore (lv' := [(4, .int (nI (od k))), (0, .ref (o + (9 + 3 * si))), (1, .ref (o + (9 + 3 * ti))), (2, .int (nI z)), (3, .int (nI k))]) hx hb d_S_takeMissing_21 hl (by decide) rfl (fun ls hl => ?_)
        refine lv_aload_n hx hb d_S_takeMissing_23 rfl (lv_at hl 1 rfl) ?_
        refine w_get (C := R_S) (T := F_S) (N := 5) (ci := 2) (v := .ref (o + (9 + 3 * si + 2))) hx hb hts inw_S hown hK hP (9 + 3 * si) (by omega) (SX_s hs) rfl 2 (by decide) (hts _ (al aF_S_15)) rfl d_S_takeMissing_24 ?_
        refine lv_iload hx hb d_S_takeMissing_27 (lv_at hl 0 rfl) ?_
        refine w_zald hx hb hK hP (9 + 3 * si + 2) 2 (by omega) (SX_si hs) rfl (k := (od k)) (hod3 k hkz) (by decide) d_S_takeMissing_29 ?_
        refine lv_if_ne (tgt := 62) hx hb d_S_takeMissing_30 (by decide) (fun c_2 => ?_) (fun c_2 => ?_)
        · have q := c_2
          refine lv_iinc (v := nI (k + 1)) (lv' := [(3, .int (nI (k + 1))), (4, .int (nI (od k))), (0, .ref (o + (9 + 3 * si))), (1, .ref (o + (9 + 3 * ti))), (2, .int (nI z))]) hx hb d_S_takeMissing_62 hl (k := 4) rfl (w_inc k) (by decide) rfl (fun ls hl => ?_)
          refine lv_goto (tgt := 7) hx hb d_S_takeMissing_65 (by decide) ?_
          rw [← x_jM_f q] at hP
          exact ih (k + 1) (by omega) hkz _ _ hP hS ls (lv_sub hl [2, 3, 4, 0] rfl)
        · have q := c_2
          refine lv_aload_n hx hb d_S_takeMissing_33 rfl (lv_at hl 1 rfl) ?_
          refine w_get (C := R_S) (T := F_S) (N := 5) (ci := 2) (v := .ref (o + (9 + 3 * si + 1))) hx hb hts inw_S hown hK hP (9 + 3 * si) (by omega) (SX_s hs) rfl 1 (by decide) (hts _ (al aF_S_9)) rfl d_S_takeMissing_34 ?_
          refine lv_aload_n hx hb d_S_takeMissing_37 rfl (lv_at hl 1 rfl) ?_
          refine w_get (C := R_S) (T := F_S) (N := 5) (ci := 2) (v := .int ((x_jM M si od z k).2.2 (9 + 3 * si) 3)) hx hb hts inw_S hown hK hP (9 + 3 * si) (by omega) (SX_s hs) rfl 3 (by decide) (hts _ (al aF_S_19)) rfl d_S_takeMissing_38 ?_
          refine w_topi ((hj1 k hkn).2.2) ?_
          refine lv_iload hx hb d_S_takeMissing_41 (lv_at hl 0 rfl) ?_
          refine w_iast hx hb hK hP hW hS (9 + 3 * si + 1) 0 (by omega) (fun _ => (SX_so hs)) rfl (k := (x_jZ M si od z k)) (hj4 k hkz q) (by decide) d_S_takeMissing_43 (fun H locs hP hS => ?_)
          refine lv_aload_n hx hb d_S_takeMissing_44 rfl (lv_at hl 1 rfl) ?_
          refine w_get (C := R_S) (T := F_S) (N := 5) (ci := 2) (v := .ref (o + (9 + 3 * si + 2))) hx hb hts inw_S hown hK hP (9 + 3 * si) (by omega) (SX_s hs) rfl 2 (by decide) (hts _ (al aF_S_15)) rfl d_S_takeMissing_45 ?_
          refine lv_iload hx hb d_S_takeMissing_48 (lv_at hl 0 rfl) ?_
          refine lv_iconst (v := 1) hx hb d_S_takeMissing_50 (by decide) ?_
          refine w_zast hx hb hK hP hW hS (9 + 3 * si + 2) 2 (by omega) (fun _ => (SX_si hs)) rfl (by decide) (k := (od k)) (hod3 k hkz) (by decide) d_S_takeMissing_51 (fun H locs hP hS => ?_)
          refine lv_aload_n hx hb d_S_takeMissing_52 rfl (lv_at hl 1 rfl) ?_
          refine lv_dup hx hb d_S_takeMissing_53 rfl ?_
          refine w_get (C := R_S) (T := F_S) (N := 5) (ci := 2) (v := .int ((x_jM M si od z k).2.2 (9 + 3 * si) 3)) hx hb hts inw_S hown hK hP (9 + 3 * si) (by omega) (SX_s hs) rfl 3 (by decide) (hts _ (al aF_S_19)) rfl d_S_takeMissing_54 ?_
          refine w_topi ((hj1 k hkn).2.2) ?_
          refine lv_iconst (v := 1) hx hb d_S_takeMissing_57 (by decide) ?_
          refine lv_iadd hx hb d_S_takeMissing_58 ?_
          refine w_topi ((nI_succ _).symm) ?_
          refine w_put (C := R_S) (T := F_S) (N := 5) (ci := 2) (x := nI (x_jZ M si od z k + 1)) hx hb hts inw_S ft_S ft_S_ok fn_S hown hK hP hW hS (9 + 3 * si) (by omega) (SX_s hs) rfl 3 (by decide) (hts _ (al aF_S_19)) rfl rfl rfl (Nat.le_of_ble_eq_true rfl) (by rw [wF_r]; exact (SX_s hs).trans rfl) d_S_takeMissing_59 (fun H locs hP hS => ?_)
          refine lv_iinc (v := nI (k + 1)) (lv' := [(3, .int (nI (k + 1))), (4, .int (nI (od k))), (0, .ref (o + (9 + 3 * si))), (1, .ref (o + (9 + 3 * ti))), (2, .int (nI z))]) hx hb d_S_takeMissing_62 hl (k := 4) rfl (w_inc k) (by decide) rfl (fun ls hl => ?_)
          refine lv_goto (tgt := 7) hx hb d_S_takeMissing_65 (by decide) ?_
          have hP : wP D cls_ (SX o cA) o 217 (x_jM M si od z (k + 1)) H := by rw [x_jM_t q]; exact hP
          exact ih (k + 1) (by omega) hkz _ _ hP hS ls (lv_sub hl [2, 3, 4, 0] rfl)
  exact lp7 ((z2 - 0) + 1) 0 (Nat.lt_succ_self _) (Nat.zero_le _) _ _ hP hS ls (lv_sub hl [2, 3, 1, 0] rfl)
set_option maxHeartbeats 4000000 in
set_option maxRecDepth 100000 in
/-- L_addReversal -/
theorem k_L_addReversal (l : Launch) (D : va_G) (cA : Nat → ClassId) (o sz : Nat) (M : wM) (ec ek rc ln : Nat) (hec : ec < 60) (hk9 : ek < 60) (hne : ec ≠ ek) (hrc : rc ≤ 6) (hln : ln < 60) (eec : M.2.2 34 2 = nI ec) (eln : M.2.2 34 3 = nI ln) (erc : M.2.2 (37 + 3 * ek) 2 = nI rc) (e0 : M.2.2 (37 + 3 * ec) 2 = nI 0) (day : Int32) : Met l y_L_addReversal (wm y_L_addReversal c_L_addReversal 4 (some .int)) { frames := 2, cells := 0, slots := 0, locals := 45 } (va_Pc [.ref (o + 34), .ref (o + (37 + 3 * ek)), .int day] (xB D cA o M sz)) (va_Qi (fun r M1 => M1 = x_reversed M ec ek rc ln day ∧ r = nI (ln + 1)) (xQ D cA o) (xA o sz)) 0 0 (xA o sz) := by
  refine Met.ofW (cc := c_L_addReversal) (maxL := 4) (ret := (some .int)) (by decide) rfl ?_
  intro p e s m args below meth c s₁ B hml hv
  obtain ⟨rfl, hsz, hP, hK⟩ := hv
  have hx := B.exec
  have hb := B.bytes
  have hr := B.returns
  have hts := atoms_spec (ws := wm y_L_addReversal c_L_addReversal 4 (some .int)) B.pre
  have hown : s.vm.findClass "ShopDesks$Ledger" = some m.cls := findClass_of_methodNamed B.named
  have hlocks := B.notSynchronized
  subst hsz
  have hS : va_S (xA o s.heap.size) s.heap s.heap [] := va_S.rf
  have hW : ∀ i, i < 217 → xA o s.heap.size (o + i) := fun i hi => wA_in hi
  have hl := lv_entry ([.ref (o + 34), .ref (o + (37 + 3 * ek)), .int day]) (n := 4) (Nat.le_of_ble_eq_true rfl)
  rw [lg_entry_eq]
  generalize (lg_sl ([.ref (o + 34), .ref (o + (37 + 3 * ek)), .int day]) ++ List.replicate (4 - (lg_sl ([.ref (o + 34), .ref (o + (37 + 3 * ek)), .int day])).length) Slot.unset).toArray = ls at hl ⊢
  have hl : lv_has ls 4 [(0, .ref (o + 34)), (1, .ref (o + (37 + 3 * ek))), (2, .int day)] := hl
  refine lv_aload_n hx hb d_L_addReversal_0 rfl (lv_at hl 0 rfl) ?_
  refine lv_iload_n hx hb d_L_addReversal_1 rfl (lv_at hl 2 rfl) ?_
  refine w_Vi ⟨hx, hb, hml, hown, hts⟩ (k_L_openEntry l D cA o _ M ec hec eec day) (kV hts 1 aK_L_openEntry aM_L_38 aI_L_openEntry aV_L_openEntry aN_L nm_L_openEntry rfl rfl ⟨(Nat.le_of_ble_eq_true rfl), (Nat.le_of_ble_eq_true rfl)⟩) hK hP (by decide) SX_34 rfl rfl hl.1 rfl (Nat.le_of_ble_eq_true rfl) d_L_addReversal_2 ⟨(Nat.le_of_ble_eq_true rfl), (Nat.le_of_ble_eq_true rfl)⟩ hS (fun q h => wA_le hS.1 h) (fun r_1 M_1 H locs hw_1 hP hzc hkc hS => ?_)
  rw [hw_1.1] at hP
  refine w_topi hw_1.2 ?_
  refine lv_istore_n (lv' := [(3, .int (nI ec)), (0, .ref (o + 34)), (1, .ref (o + (37 + 3 * ek))), (2, .int day)]) hx hb d_L_addReversal_5 rfl hl (by decide) rfl (fun ls hl => ?_)
  refine lv_aload_n hx hb d_L_addReversal_6 rfl (lv_at hl 1 rfl) ?_
  refine w_get (C := R_L) (T := F_L) (N := 5) (ci := 1) (v := .ref (o + 35)) hx hb hts inw_L hown hK hP 34 (by decide) SX_34 rfl 0 (by decide) (hts _ (al aF_L_11)) rfl d_L_addReversal_7 ?_
  refine lv_iload_n hx hb d_L_addReversal_10 rfl (lv_at hl 0 rfl) ?_
  refine w_aald hx hb hK hP 35 4 (by decide) SX_35 rfl (k := ec) (by omega) (by decide) (if_pos (by omega)) d_L_addReversal_11 ?_
  refine lv_aload_n hx hb d_L_addReversal_12 rfl (lv_at hl 2 rfl) ?_
  refine w_Vv ⟨hx, hb, hml, hown, hts⟩ (k_E_takeTurnedRound l D cA o _ (x_opened M ec day) ec hec ek hk9 hne rc hrc ((wF_ne (by omega)).trans ((wF_ne (by omega)).trans erc)) ((wF_ne (by omega)).trans ((wF_k (by decide)).trans e0))) (kV hts 1 aK_E_takeTurnedRound aM_L_42 aI_E_takeTurnedRound aV_E_takeTurnedRound aN_E nm_E_takeTurnedRound rfl rfl ⟨(Nat.le_of_ble_eq_true rfl), (Nat.le_of_ble_eq_true rfl)⟩) hK hP (by omega) (SX_e hec) rfl rfl hl.1 rfl (Nat.le_of_ble_eq_true rfl) d_L_addReversal_13 ⟨(Nat.le_of_ble_eq_true rfl), (Nat.le_of_ble_eq_true rfl)⟩ hS (fun q h => wA_le hS.1 h) (fun M_2 H locs hw_2 hP hzc hkc hS => ?_)
  rw [hw_2] at hP
  refine lv_aload_n hx hb d_L_addReversal_16 rfl (lv_at hl 1 rfl) ?_
  refine w_get (C := R_L) (T := F_L) (N := 5) (ci := 1) (v := .ref (o + 35)) hx hb hts inw_L hown hK hP 34 (by decide) SX_34 rfl 0 (by decide) (hts _ (al aF_L_11)) rfl d_L_addReversal_17 ?_
  refine lv_iload_n hx hb d_L_addReversal_20 rfl (lv_at hl 0 rfl) ?_
  refine w_aald hx hb hK hP 35 4 (by decide) SX_35 rfl (k := ec) (by omega) (by decide) (if_pos (by omega)) d_L_addReversal_21 ?_
  refine lv_iconst (v := 1) hx hb d_L_addReversal_22 (by decide) ?_
  refine w_put (C := R_E) (T := F_E) (N := 7) (ci := 0) (x := 1) hx hb hts inw_E ft_E ft_E_ok fn_E hown hK hP hW hS (37 + 3 * ec) (by omega) (SX_e hec) rfl 6 (by decide) (hts _ (al aF_L_46)) rfl rfl rfl (Nat.le_of_ble_eq_true rfl) (by rw [wF_r]; exact (SX_e hec).trans rfl) d_L_addReversal_23 (fun H locs hP hS => ?_)
  refine lv_aload_n hx hb d_L_addReversal_26 rfl (lv_at hl 2 rfl) ?_
  refine lv_iconst (v := 1) hx hb d_L_addReversal_27 (by decide) ?_
  refine w_put (C := R_E) (T := F_E) (N := 7) (ci := 0) (x := 1) hx hb hts inw_E ft_E ft_E_ok fn_E hown hK hP hW hS (37 + 3 * ek) (by omega) (SX_e hk9) rfl 5 (by decide) (hts _ (al aF_L_50)) rfl rfl rfl (Nat.le_of_ble_eq_true rfl) (by rw [wF_r]; exact (SX_e hk9).trans rfl) d_L_addReversal_28 (fun H locs hP hS => ?_)
  refine lv_aload_n hx hb d_L_addReversal_31 rfl (lv_at hl 1 rfl) ?_
  refine lv_iload_n hx hb d_L_addReversal_32 rfl (lv_at hl 0 rfl) ?_
  refine w_Vi ⟨hx, hb, hml, hown, hts⟩ (k_L_giveNumber l D cA o _ (wF (wF (x_turn (x_opened M ec day) ec ek rc) (37 + 3 * ec) 6 1) (37 + 3 * ek) 5 1) ln ec hln hec ((wF_ne (by omega)).trans ((wF_ne (by omega)).trans ((congrFun (x_turn_34 rc) 3).trans ((wF_k (by decide)).trans ((wF_ne (by omega)).trans eln)))))) (kV hts 1 aK_L_giveNumber aM_L_53 aI_L_giveNumber aV_L_giveNumber aN_L nm_L_giveNumber rfl rfl ⟨(Nat.le_of_ble_eq_true rfl), (Nat.le_of_ble_eq_true rfl)⟩) hK hP (by decide) SX_34 rfl rfl hl.1 rfl (Nat.le_of_ble_eq_true rfl) d_L_addReversal_33 ⟨(Nat.le_of_ble_eq_true rfl), (Nat.le_of_ble_eq_true rfl)⟩ hS (fun q h => wA_le hS.1 h) (fun r_3 M_3 H locs hw_3 hP hzc hkc hS => ?_)
  rw [hw_3.1] at hP
  refine w_topi hw_3.2 ?_
  exact W.iret (v := nI (ln + 1)) hx hb hr (fun tz hz9 hW9 => ⟨⟨nI (ln + 1), (x_reversed M ec ek rc ln day), rfl, ⟨rfl, rfl⟩, by rw [hz9]; exact hP, va_K.moved hW9.alike hK⟩, hS.F hz9⟩) hS.2.2 d_L_addReversal_36
end
section
/-! the class's own methods -/
theorem x_idx {x : Int32} {n : Nat} (h0 : ¬ x < 0) (h1 : x < nI n) (hn : n < 2147483648) : ∃ k, k < n ∧ x = nI k := by
  obtain ⟨k, hk, rfl⟩ := nI_of h0
  exact ⟨k, i_lt hk hn h1, rfl⟩
theorem x_mul4 (a b : Nat) : nI a * 4 + nI b = nI (a * 4 + b) := by
  rw [show (4 : Int32) = nI 4 from rfl, pk_mul, nI_add]
abbrev xbad (x h : Int32) : Prop := x < 0 ∨ ¬ x < h
abbrev xin (x h : Int32) : Prop := ¬ x < 0 ∧ x < h
theorem xin_nb {x h : Int32} (a : xin x h) : ¬ xbad x h := fun b => b.elim a.1 (fun c => c a.2)
/-- what the sets are: sizes z, tellings od -/
def xSets (M : wM) (z : Nat → Nat) (od : Nat → Nat → Nat) : Prop := ∀ s, s < 8 → z s ≤ 300 ∧ M.2.2 (9 + 3 * s) 3 = nI (z s) ∧ ∀ j, j < z s → M.1 (9 + 3 * s + 1) j = nI (od s j) ∧ od s j < 300
def xJoinOk (M : wM) (si ti : Nat) (od : Nat → Nat) (z z2 : Nat) : Prop := (∀ k, k ≤ z2 → (x_jM M si od z k).2.2 (9 + 3 * ti) 3 = nI z2 ∧ (∀ j, j < z2 → (x_jM M si od z k).1 (9 + 3 * ti + 1) j = nI (od j)) ∧ (x_jM M si od z k).2.2 (9 + 3 * si) 3 = nI (x_jZ M si od z k)) ∧ ∀ k, k < z2 → (x_jM M si od z k).1 (9 + 3 * si + 2) (od k) = 0 → x_jZ M si od z k < 300
theorem rg4_0 {r : Int32} {n : Nat} {P : Nat → Prop} (h : (r = 1 ∧ ∃ j, j < n ∧ P j) ∨ (r = 0 ∧ ∀ j, j < n → ¬ P j)) (q : r = 0) : ¬ ∃ j, j < n ∧ P j := by
  rcases h with h | h
  · rw [h.1] at q; exact absurd q (by decide)
  · exact fun ⟨j, a, b⟩ => h.2 j a b
theorem rg4_1 {r : Int32} {n : Nat} {P : Nat → Prop} (h : (r = 1 ∧ ∃ j, j < n ∧ P j) ∨ (r = 0 ∧ ∀ j, j < n → ¬ P j)) (q : ¬ r = 0) : ∃ j, j < n ∧ P j := by
  rcases h with h | h
  · exact h.2
  · exact absurd h.1 q
set_option maxHeartbeats 4000000 in
set_option maxRecDepth 100000 in
/-- X_closeMonth -/
theorem k_X_closeMonth (l : Launch) (hl9 : l.stackTraces = false) (D : va_G) (cA : Nat → ClassId) (o sz : Nat) (M : wM) (x : Int32) : vx_Met l y_X_closeMonth (wm y_X_closeMonth c_X_closeMonth 2 (some .boolean)) { frames := 6, cells := 1, slots := 6, locals := 86 } (va_Pc [.ref (o + 0), .int x] (xBx D cA o M sz)) (va_Qi (fun r M1 => xin x 120 ∧ ((r = 0 ∧ M1 = M ∧ x ≤ M.2.2 34 4) ∨ (r = 1 ∧ M1 = wF M 34 4 x ∧ M.2.2 34 4 < x))) (xQ D cA o) (xA o sz)) (xE D cA o M sz (fun E => E = "java/lang/IllegalArgumentException" ∧ xbad x 120)) 1 6 (xA o sz) := by
  refine vx_ofW (cc := c_X_closeMonth) (maxL := 2) (ret := (some .boolean)) (by decide) rfl ?_
  intro p e s m args below meth c s₁ B hml hex hv
  obtain ⟨rfl, ⟨hsz, hP, hK⟩, hG⟩ := hv
  have hx := B.exec
  have hb := B.bytes
  have hr := B.returns
  have hts := atoms_spec (ws := wm y_X_closeMonth c_X_closeMonth 2 (some .boolean)) B.pre
  have hown : s.vm.findClass "ShopDesks" = some m.cls := findClass_of_methodNamed B.named
  have hlocks := B.notSynchronized
  subst hsz
  have hout : ∀ pc, ∀ x ∈ c.exceptionTable.toList, covers x pc = false := fun pc x hx => (hex x hx).elim
  have hS : va_S (xA o s.heap.size) s.heap s.heap [] := va_S.rf
  have hW : ∀ i, i < 217 → xA o s.heap.size (o + i) := fun i hi => wA_in hi
  have hl := lv_entry ([.ref (o + 0), .int x]) (n := 2) (Nat.le_of_ble_eq_true rfl)
  rw [lg_entry_eq]
  generalize (lg_sl ([.ref (o + 0), .int x]) ++ List.replicate (2 - (lg_sl ([.ref (o + 0), .int x])).length) Slot.unset).toArray = ls at hl ⊢
  have hl : lv_has ls 2 [(0, .ref (o + 0)), (1, .int x)] := hl
  refine lv_iload_n hx hb d_X_closeMonth_0 rfl (lv_at hl 1 rfl) ?_
  refine lv_if_lt (tgt := 10) hx hb d_X_closeMonth_1 (by decide) (fun c_1 => ?_) (fun c_1 => ?_)
  · have q : xbad x 120 := Or.inl c_1
    obtain ⟨sa, hsa⟩ := hG.2.2.1 (199, "month is not 0 .. 119") (by decide)
    exact x_throwS (cls := "java/lang/IllegalArgumentException") hx hb hl9 hown (hts _ (al aC_X_91)) (hts _ (al aN_IllegalArgumentException)) hsa (hat_X_95 hts hG) hot_X_95 (by decide) hG hK hP hS (hl.1.trans hml.symm) d_X_closeMonth_10 d_X_closeMonth_13 d_X_closeMonth_14 d_X_closeMonth_16 d_X_closeMonth_19 (hout _) (Nat.le_of_ble_eq_true rfl) (Nat.le_of_ble_eq_true rfl) (Nat.le_of_ble_eq_true rfl) (Nat.le_of_ble_eq_true rfl) hlocks (⟨rfl, q⟩) (Nat.le_of_ble_eq_true rfl) (Nat.le_of_ble_eq_true rfl)
  · have q1 := c_1
    refine lv_iload_n hx hb d_X_closeMonth_4 rfl (lv_at hl 1 rfl) ?_
    refine lv_bipush (v := 120) hx hb d_X_closeMonth_5 (by decide) ?_
    refine lv_icmp_lt (tgt := 20) hx hb d_X_closeMonth_7 (by decide) (fun c_2 => ?_) (fun c_2 => ?_)
    · have q2 := c_2
      refine lv_iload_n hx hb d_X_closeMonth_20 rfl (lv_at hl 1 rfl) ?_
      refine lv_aload_n hx hb d_X_closeMonth_21 rfl (lv_at hl 0 rfl) ?_
      refine w_get (C := R_X) (T := F_X) (N := 5) (ci := 4) (v := .ref (o + 34)) hx hb hts inw_X hown hK hP 0 (by decide) SX_0 rfl 4 (by decide) (hts _ (al aF_X_36)) rfl d_X_closeMonth_22 ?_
      refine w_get (C := R_L) (T := F_L) (N := 5) (ci := 1) (v := .int (M.2.2 34 4)) hx hb hts inw_L hown hK hP 34 (by decide) SX_34 rfl 4 (by decide) (hts _ (al aF_X_201)) rfl d_X_closeMonth_25 ?_
      refine lv_icmp_gt (tgt := 33) hx hb d_X_closeMonth_28 (by decide) (fun c_3 => ?_) (fun c_3 => ?_)
      · have q3 := c_3
        refine lv_aload_n hx hb d_X_closeMonth_33 rfl (lv_at hl 0 rfl) ?_
        refine w_get (C := R_X) (T := F_X) (N := 5) (ci := 4) (v := .ref (o + 34)) hx hb hts inw_X hown hK hP 0 (by decide) SX_0 rfl 4 (by decide) (hts _ (al aF_X_36)) rfl d_X_closeMonth_34 ?_
        refine lv_iload_n hx hb d_X_closeMonth_37 rfl (lv_at hl 1 rfl) ?_
        refine w_put (C := R_L) (T := F_L) (N := 5) (ci := 1) (x := x) hx hb hts inw_L ft_L ft_L_ok fn_L hown hK hP hW hS 34 (by decide) SX_34 rfl 4 (by decide) (hts _ (al aF_X_201)) rfl rfl rfl (Nat.le_of_ble_eq_true rfl) (by rw [wF_r]; exact SX_34.trans rfl) d_X_closeMonth_38 (fun H locs hP hS => ?_)
        refine lv_iconst (v := 1) hx hb d_X_closeMonth_41 (by decide) ?_
        refine vx_ret ?_
        refine W.widen (k := 1) (n := 6) (Nat.le_of_ble_eq_true rfl) (Nat.le_of_ble_eq_true rfl) ?_
        exact W.zret (v := 1) hx hb hr rfl (fun tz hz9 hW9 => ⟨⟨1, (wF M 34 4 x), rfl, ⟨⟨q1, q2⟩, Or.inr ⟨rfl, rfl, q3⟩⟩, by rw [hz9]; exact hP, va_K.moved hW9.alike hK⟩, hS.F hz9⟩) hS.2.2 d_X_closeMonth_42
      · have q3 := c_3
        refine lv_iconst (v := 0) hx hb d_X_closeMonth_31 (by decide) ?_
        refine vx_ret ?_
        refine W.widen (k := 1) (n := 6) (Nat.le_of_ble_eq_true rfl) (Nat.le_of_ble_eq_true rfl) ?_
        exact W.zret (v := 0) hx hb hr rfl (fun tz hz9 hW9 => ⟨⟨0, M, rfl, ⟨⟨q1, q2⟩, Or.inl ⟨rfl, rfl, Int32.not_lt.mp q3⟩⟩, by rw [hz9]; exact hP, va_K.moved hW9.alike hK⟩, hS.F hz9⟩) hS.2.2 d_X_closeMonth_32
    · have q : xbad x 120 := Or.inr c_2
      obtain ⟨sa, hsa⟩ := hG.2.2.1 (199, "month is not 0 .. 119") (by decide)
      exact x_throwS (cls := "java/lang/IllegalArgumentException") hx hb hl9 hown (hts _ (al aC_X_91)) (hts _ (al aN_IllegalArgumentException)) hsa (hat_X_95 hts hG) hot_X_95 (by decide) hG hK hP hS (hl.1.trans hml.symm) d_X_closeMonth_10 d_X_closeMonth_13 d_X_closeMonth_14 d_X_closeMonth_16 d_X_closeMonth_19 (hout _) (Nat.le_of_ble_eq_true rfl) (Nat.le_of_ble_eq_true rfl) (Nat.le_of_ble_eq_true rfl) (Nat.le_of_ble_eq_true rfl) hlocks (⟨rfl, q⟩) (Nat.le_of_ble_eq_true rfl) (Nat.le_of_ble_eq_true rfl)
set_option maxHeartbeats 4000000 in
set_option maxRecDepth 100000 in
/-- X_mark -/
theorem k_X_mark (l : Launch) (hl9 : l.stackTraces = false) (D : va_G) (cA : Nat → ClassId) (o sz : Nat) (M : wM) (sc : Nat) (hsc : sc ≤ 8) (esc : M.2.2 0 2 = nI sc) (x : Int32) : vx_Met l y_X_mark (wm y_X_mark c_X_mark 2 (some .int)) { frames := 7, cells := 1, slots := 6, locals := 103 } (va_Pc [.ref (o + 0), .int x] (xBx D cA o M sz)) (va_Qi (fun r M1 => M1 = M ∧ ∃ k, k < sc ∧ x = nI k ∧ r = M.2.2 (9 + 3 * k) 3) (xQ D cA o) (xA o sz)) (xE D cA o M sz (fun E => E = "java/lang/IndexOutOfBoundsException" ∧ xbad x (nI sc))) 1 6 (xA o sz) := by
  refine vx_ofW (cc := c_X_mark) (maxL := 2) (ret := (some .int)) (by decide) rfl ?_
  intro p e s m args below meth c s₁ B hml hex hv
  obtain ⟨rfl, ⟨hsz, hP, hK⟩, hG⟩ := hv
  have hx := B.exec
  have hb := B.bytes
  have hr := B.returns
  have hts := atoms_spec (ws := wm y_X_mark c_X_mark 2 (some .int)) B.pre
  have hown : s.vm.findClass "ShopDesks" = some m.cls := findClass_of_methodNamed B.named
  have hlocks := B.notSynchronized
  subst hsz
  have hout : ∀ pc, ∀ x ∈ c.exceptionTable.toList, covers x pc = false := fun pc x hx => (hex x hx).elim
  have hS : va_S (xA o s.heap.size) s.heap s.heap [] := va_S.rf
  have hW : ∀ i, i < 217 → xA o s.heap.size (o + i) := fun i hi => wA_in hi
  have hl := lv_entry ([.ref (o + 0), .int x]) (n := 2) (Nat.le_of_ble_eq_true rfl)
  rw [lg_entry_eq]
  generalize (lg_sl ([.ref (o + 0), .int x]) ++ List.replicate (2 - (lg_sl ([.ref (o + 0), .int x])).length) Slot.unset).toArray = ls at hl ⊢
  have hl : lv_has ls 2 [(0, .ref (o + 0)), (1, .int x)] := hl
  refine lv_aload_n hx hb d_X_mark_0 rfl (lv_at hl 0 rfl) ?_
  refine lv_iload_n hx hb d_X_mark_1 rfl (lv_at hl 1 rfl) ?_
  refine x_Vv ⟨hx, hb, hml, hown, hts⟩ (k_X_needSet l hl9 D cA o _ M x) (kV hts 1 aK_X_needSet aM_X_73 aI_X_needSet aV_X_needSet aN_X nm_X_needSet rfl rfl ⟨(Nat.le_of_ble_eq_true rfl), (Nat.le_of_ble_eq_true rfl)⟩) hK hP hG hS (by decide) SX_0 rfl rfl hl.1 rfl (Nat.le_of_ble_eq_true rfl) d_X_mark_2 ⟨(Nat.le_of_ble_eq_true rfl), (Nat.le_of_ble_eq_true rfl)⟩ (hout _) hlocks (fun E h => ⟨h.1, by rw [← esc]; exact h.2⟩) (Nat.le_of_ble_eq_true rfl) (Nat.le_of_ble_eq_true rfl) (fun M_1 H locs g1 hP hS => ?_)
  rw [g1.1] at hP
  obtain ⟨k1, hk1, ek1⟩ := x_idx g1.2.1 (by rw [← esc]; exact g1.2.2) (by omega)
  have hk18 : k1 < 8 := by omega
  refine lv_aload_n hx hb d_X_mark_5 rfl (lv_at hl 0 rfl) ?_
  refine w_get (C := R_X) (T := F_X) (N := 5) (ci := 4) (v := .ref (o + 8)) hx hb hts inw_X hown hK hP 0 (by decide) SX_0 rfl 1 (by decide) (hts _ (al aF_X_18)) rfl d_X_mark_6 ?_
  refine lv_iload_n hx hb d_X_mark_9 rfl (lv_at hl 1 rfl) ?_
  refine w_topi ek1 ?_
  refine w_aald hx hb hK hP 8 3 (by decide) SX_8 rfl (k := k1) (by omega) (by decide) (if_pos (by omega)) d_X_mark_10 ?_
  refine w_get (C := R_S) (T := F_S) (N := 5) (ci := 2) (v := .int (M.2.2 (9 + 3 * k1) 3)) hx hb hts inw_S hown hK hP (9 + 3 * k1) (by omega) (SX_s hk18) rfl 3 (by decide) (hts _ (al aF_X_84)) rfl d_X_mark_11 ?_
  refine vx_ret ?_
  refine W.widen (k := 1) (n := 6) (Nat.le_of_ble_eq_true rfl) (Nat.le_of_ble_eq_true rfl) ?_
  exact W.iret (v := M.2.2 (9 + 3 * k1) 3) hx hb hr (fun tz hz9 hW9 => ⟨⟨M.2.2 (9 + 3 * k1) 3, M, rfl, ⟨rfl, k1, hk1, ek1, rfl⟩, by rw [hz9]; exact hP, va_K.moved hW9.alike hK⟩, hS.F hz9⟩) hS.2.2 d_X_mark_14
set_option maxHeartbeats 4000000 in
set_option maxRecDepth 100000 in
/-- X_equal -/
theorem k_X_equal (l : Launch) (hl9 : l.stackTraces = false) (D : va_G) (cA : Nat → ClassId) (o sz : Nat) (M : wM) (sc : Nat) (hsc : sc ≤ 8) (esc : M.2.2 0 2 = nI sc) (z : Nat → Nat) (od : Nat → Nat → Nat) (hse : xSets M z od) (x y : Int32) : vx_Met l y_X_equal (wm y_X_equal c_X_equal 3 (some .boolean)) { frames := 7, cells := 2, slots := 12, locals := 103 } (va_Pc [.ref (o + 0), .int x, .int y] (xBx D cA o M sz)) (va_Qi (fun r M1 => M1 = M ∧ ∃ k1 k2, k1 < sc ∧ k2 < sc ∧ x = nI k1 ∧ y = nI k2 ∧ r = b2i (decide (z k1 = z k2 ∧ ∀ j, j < z k1 → ¬ M.1 (9 + 3 * k2 + 2) (od k1 j) = 0))) (xQ D cA o) (xA o sz)) (xE D cA o M sz (fun E => E = "java/lang/IndexOutOfBoundsException" ∧ (xbad x (nI sc) ∨ xbad y (nI sc)))) 2 12 (xA o sz) := by
  refine vx_ofW (cc := c_X_equal) (maxL := 3) (ret := (some .boolean)) (by decide) rfl ?_
  intro p e s m args below meth c s₁ B hml hex hv
  obtain ⟨rfl, ⟨hsz, hP, hK⟩, hG⟩ := hv
  have hx := B.exec
  have hb := B.bytes
  have hr := B.returns
  have hts := atoms_spec (ws := wm y_X_equal c_X_equal 3 (some .boolean)) B.pre
  have hown : s.vm.findClass "ShopDesks" = some m.cls := findClass_of_methodNamed B.named
  have hlocks := B.notSynchronized
  subst hsz
  have hout : ∀ pc, ∀ x ∈ c.exceptionTable.toList, covers x pc = false := fun pc x hx => (hex x hx).elim
  have hS : va_S (xA o s.heap.size) s.heap s.heap [] := va_S.rf
  have hW : ∀ i, i < 217 → xA o s.heap.size (o + i) := fun i hi => wA_in hi
  have hl := lv_entry ([.ref (o + 0), .int x, .int y]) (n := 3) (Nat.le_of_ble_eq_true rfl)
  rw [lg_entry_eq]
  generalize (lg_sl ([.ref (o + 0), .int x, .int y]) ++ List.replicate (3 - (lg_sl ([.ref (o + 0), .int x, .int y])).length) Slot.unset).toArray = ls at hl ⊢
  have hl : lv_has ls 3 [(0, .ref (o + 0)), (1, .int x), (2, .int y)] := hl
  refine lv_aload_n hx hb d_X_equal_0 rfl (lv_at hl 0 rfl) ?_
  refine lv_iload_n hx hb d_X_equal_1 rfl (lv_at hl 1 rfl) ?_
  refine x_Vv ⟨hx, hb, hml, hown, hts⟩ (k_X_needSet l hl9 D cA o _ M x) (kV hts 1 aK_X_needSet aM_X_73 aI_X_needSet aV_X_needSet aN_X nm_X_needSet rfl rfl ⟨(Nat.le_of_ble_eq_true rfl), (Nat.le_of_ble_eq_true rfl)⟩) hK hP hG hS (by decide) SX_0 rfl rfl hl.1 rfl (Nat.le_of_ble_eq_true rfl) d_X_equal_2 ⟨(Nat.le_of_ble_eq_true rfl), (Nat.le_of_ble_eq_true rfl)⟩ (hout _) hlocks (fun E h => ⟨h.1, Or.inl (by rw [← esc]; exact h.2)⟩) (Nat.le_of_ble_eq_true rfl) (Nat.le_of_ble_eq_true rfl) (fun M_1 H locs g1 hP hS => ?_)
  rw [g1.1] at hP
  obtain ⟨k1, hk1, ek1⟩ := x_idx g1.2.1 (by rw [← esc]; exact g1.2.2) (by omega)
  have hk18 : k1 < 8 := by omega
  refine lv_aload_n hx hb d_X_equal_5 rfl (lv_at hl 0 rfl) ?_
  refine lv_iload_n hx hb d_X_equal_6 rfl (lv_at hl 2 rfl) ?_
  refine x_Vv ⟨hx, hb, hml, hown, hts⟩ (k_X_needSet l hl9 D cA o _ M y) (kV hts 1 aK_X_needSet aM_X_73 aI_X_needSet aV_X_needSet aN_X nm_X_needSet rfl rfl ⟨(Nat.le_of_ble_eq_true rfl), (Nat.le_of_ble_eq_true rfl)⟩) hK hP hG hS (by decide) SX_0 rfl rfl hl.1 rfl (Nat.le_of_ble_eq_true rfl) d_X_equal_7 ⟨(Nat.le_of_ble_eq_true rfl), (Nat.le_of_ble_eq_true rfl)⟩ (hout _) hlocks (fun E h => ⟨h.1, Or.inr (by rw [← esc]; exact h.2)⟩) (Nat.le_of_ble_eq_true rfl) (Nat.le_of_ble_eq_true rfl) (fun M_2 H locs g2 hP hS => ?_)
  rw [g2.1] at hP
  obtain ⟨k2, hk2, ek2⟩ := x_idx g2.2.1 (by rw [← esc]; exact g2.2.2) (by omega)
  have hk28 : k2 < 8 := by omega
  refine lv_aload_n hx hb d_X_equal_10 rfl (lv_at hl 0 rfl) ?_
  refine w_get (C := R_X) (T := F_X) (N := 5) (ci := 4) (v := .ref (o + 8)) hx hb hts inw_X hown hK hP 0 (by decide) SX_0 rfl 1 (by decide) (hts _ (al aF_X_18)) rfl d_X_equal_11 ?_
  refine lv_iload_n hx hb d_X_equal_14 rfl (lv_at hl 1 rfl) ?_
  refine w_topi ek1 ?_
  refine w_aald hx hb hK hP 8 3 (by decide) SX_8 rfl (k := k1) (by omega) (by decide) (if_pos (by omega)) d_X_equal_15 ?_
  refine lv_aload_n hx hb d_X_equal_16 rfl (lv_at hl 0 rfl) ?_
  refine w_get (C := R_X) (T := F_X) (N := 5) (ci := 4) (v := .ref (o + 8)) hx hb hts inw_X hown hK hP 0 (by decide) SX_0 rfl 1 (by decide) (hts _ (al aF_X_18)) rfl d_X_equal_17 ?_
  refine lv_iload_n hx hb d_X_equal_20 rfl (lv_at hl 2 rfl) ?_
  refine w_topi ek2 ?_
  refine w_aald hx hb hK hP 8 3 (by decide) SX_8 rfl (k := k2) (by omega) (by decide) (if_pos (by omega)) d_X_equal_21 ?_
  refine w_Vi ⟨hx, hb, hml, hown, hts⟩ (k_S_hasSameAs l D cA o _ M k1 k2 hk18 hk28 (od k1) (z k1) (z k2) (hse k1 hk18).1 (hse k2 hk28).1 (hse k1 hk18).2.1 (hse k2 hk28).2.1 (hse k1 hk18).2.2) (kV hts 1 aK_S_hasSameAs aM_X_80 aI_S_hasSameAs aV_S_hasSameAs aN_S nm_S_hasSameAs rfl rfl ⟨(Nat.le_of_ble_eq_true rfl), (Nat.le_of_ble_eq_true rfl)⟩) hK hP (by omega) (SX_s hk18) rfl rfl hl.1 rfl (Nat.le_of_ble_eq_true rfl) d_X_equal_22 ⟨(Nat.le_of_ble_eq_true rfl), (Nat.le_of_ble_eq_true rfl)⟩ hS (fun q h => wA_le hS.1 h) (fun r_3 M_3 H locs hw_3 hP hzc hkc hS => ?_)
  rw [hw_3.1] at hP
  refine w_topi hw_3.2 ?_
  refine vx_ret ?_
  refine W.widen (k := 2) (n := 12) (Nat.le_of_ble_eq_true rfl) (Nat.le_of_ble_eq_true rfl) ?_
  exact W.zret (v := b2i (decide (z k1 = z k2 ∧ ∀ j, j < z k1 → ¬ M.1 (9 + 3 * k2 + 2) (od k1 j) = 0))) hx hb hr (b2i_nar _) (fun tz hz9 hW9 => ⟨⟨b2i (decide (z k1 = z k2 ∧ ∀ j, j < z k1 → ¬ M.1 (9 + 3 * k2 + 2) (od k1 j) = 0)), M, rfl, ⟨rfl, k1, k2, hk1, hk2, ek1, ek2, rfl⟩, by rw [hz9]; exact hP, va_K.moved hW9.alike hK⟩, hS.F hz9⟩) hS.2.2 d_X_equal_25
set_option maxHeartbeats 4000000 in
set_option maxRecDepth 100000 in
/-- X_join -/
theorem k_X_join (l : Launch) (hl9 : l.stackTraces = false) (D : va_G) (cA : Nat → ClassId) (o sz : Nat) (M : wM) (sc : Nat) (hsc : sc ≤ 8) (esc : M.2.2 0 2 = nI sc) (z : Nat → Nat) (od : Nat → Nat → Nat) (hse : xSets M z od) (hjo : ∀ s t, s < 8 → t < 8 → xJoinOk M s t (od t) (z s) (z t)) (x y : Int32) : vx_Met l y_X_join (wm y_X_join c_X_join 3 (some .int)) { frames := 7, cells := 2, slots := 12, locals := 103 } (va_Pc [.ref (o + 0), .int x, .int y] (xBx D cA o M sz)) (va_Qi (fun r M1 => ∃ k1 k2, k1 < sc ∧ k2 < sc ∧ x = nI k1 ∧ y = nI k2 ∧ M1 = x_jM M k1 (od k2) (z k1) (z k2) ∧ r = nI (x_jZ M k1 (od k2) (z k1) (z k2)) - nI (z k1)) (xQ D cA o) (xA o sz)) (xE D cA o M sz (fun E => E = "java/lang/IndexOutOfBoundsException" ∧ (xbad x (nI sc) ∨ xbad y (nI sc)))) 2 12 (xA o sz) := by
  refine vx_ofW (cc := c_X_join) (maxL := 3) (ret := (some .int)) (by decide) rfl ?_
  intro p e s m args below meth c s₁ B hml hex hv
  obtain ⟨rfl, ⟨hsz, hP, hK⟩, hG⟩ := hv
  have hx := B.exec
  have hb := B.bytes
  have hr := B.returns
  have hts := atoms_spec (ws := wm y_X_join c_X_join 3 (some .int)) B.pre
  have hown : s.vm.findClass "ShopDesks" = some m.cls := findClass_of_methodNamed B.named
  have hlocks := B.notSynchronized
  subst hsz
  have hout : ∀ pc, ∀ x ∈ c.exceptionTable.toList, covers x pc = false := fun pc x hx => (hex x hx).elim
  have hS : va_S (xA o s.heap.size) s.heap s.heap [] := va_S.rf
  have hW : ∀ i, i < 217 → xA o s.heap.size (o + i) := fun i hi => wA_in hi
  have hl := lv_entry ([.ref (o + 0), .int x, .int y]) (n := 3) (Nat.le_of_ble_eq_true rfl)
  rw [lg_entry_eq]
  generalize (lg_sl ([.ref (o + 0), .int x, .int y]) ++ List.replicate (3 - (lg_sl ([.ref (o + 0), .int x, .int y])).length) Slot.unset).toArray = ls at hl ⊢
  have hl : lv_has ls 3 [(0, .ref (o + 0)), (1, .int x), (2, .int y)] := hl
  refine lv_aload_n hx hb d_X_join_0 rfl (lv_at hl 0 rfl) ?_
  refine lv_iload_n hx hb d_X_join_1 rfl (lv_at hl 1 rfl) ?_
  refine x_Vv ⟨hx, hb, hml, hown, hts⟩ (k_X_needSet l hl9 D cA o _ M x) (kV hts 1 aK_X_needSet aM_X_73 aI_X_needSet aV_X_needSet aN_X nm_X_needSet rfl rfl ⟨(Nat.le_of_ble_eq_true rfl), (Nat.le_of_ble_eq_true rfl)⟩) hK hP hG hS (by decide) SX_0 rfl rfl hl.1 rfl (Nat.le_of_ble_eq_true rfl) d_X_join_2 ⟨(Nat.le_of_ble_eq_true rfl), (Nat.le_of_ble_eq_true rfl)⟩ (hout _) hlocks (fun E h => ⟨h.1, Or.inl (by rw [← esc]; exact h.2)⟩) (Nat.le_of_ble_eq_true rfl) (Nat.le_of_ble_eq_true rfl) (fun M_1 H locs g1 hP hS => ?_)
  rw [g1.1] at hP
  obtain ⟨k1, hk1, ek1⟩ := x_idx g1.2.1 (by rw [← esc]; exact g1.2.2) (by omega)
  have hk18 : k1 < 8 := by omega
  refine lv_aload_n hx hb d_X_join_5 rfl (lv_at hl 0 rfl) ?_
  refine lv_iload_n hx hb d_X_join_6 rfl (lv_at hl 2 rfl) ?_
  refine x_Vv ⟨hx, hb, hml, hown, hts⟩ (k_X_needSet l hl9 D cA o _ M y) (kV hts 1 aK_X_needSet aM_X_73 aI_X_needSet aV_X_needSet aN_X nm_X_needSet rfl rfl ⟨(Nat.le_of_ble_eq_true rfl), (Nat.le_of_ble_eq_true rfl)⟩) hK hP hG hS (by decide) SX_0 rfl rfl hl.1 rfl (Nat.le_of_ble_eq_true rfl) d_X_join_7 ⟨(Nat.le_of_ble_eq_true rfl), (Nat.le_of_ble_eq_true rfl)⟩ (hout _) hlocks (fun E h => ⟨h.1, Or.inr (by rw [← esc]; exact h.2)⟩) (Nat.le_of_ble_eq_true rfl) (Nat.le_of_ble_eq_true rfl) (fun M_2 H locs g2 hP hS => ?_)
  rw [g2.1] at hP
  obtain ⟨k2, hk2, ek2⟩ := x_idx g2.2.1 (by rw [← esc]; exact g2.2.2) (by omega)
  have hk28 : k2 < 8 := by omega
  refine lv_aload_n hx hb d_X_join_10 rfl (lv_at hl 0 rfl) ?_
  refine w_get (C := R_X) (T := F_X) (N := 5) (ci := 4) (v := .ref (o + 8)) hx hb hts inw_X hown hK hP 0 (by decide) SX_0 rfl 1 (by decide) (hts _ (al aF_X_18)) rfl d_X_join_11 ?_
  refine lv_iload_n hx hb d_X_join_14 rfl (lv_at hl 1 rfl) ?_
  refine w_topi ek1 ?_
  refine w_aald hx hb hK hP 8 3 (by decide) SX_8 rfl (k := k1) (by omega) (by decide) (if_pos (by omega)) d_X_join_15 ?_
  refine lv_aload_n hx hb d_X_join_16 rfl (lv_at hl 0 rfl) ?_
  refine w_get (C := R_X) (T := F_X) (N := 5) (ci := 4) (v := .ref (o + 8)) hx hb hts inw_X hown hK hP 0 (by decide) SX_0 rfl 1 (by decide) (hts _ (al aF_X_18)) rfl d_X_join_17 ?_
  refine lv_iload_n hx hb d_X_join_20 rfl (lv_at hl 2 rfl) ?_
  refine w_topi ek2 ?_
  refine w_aald hx hb hK hP 8 3 (by decide) SX_8 rfl (k := k2) (by omega) (by decide) (if_pos (by omega)) d_X_join_21 ?_
  refine w_Vi ⟨hx, hb, hml, hown, hts⟩ (k_S_takeMissing l D cA o _ M k1 k2 hk18 hk28 (od k2) (z k1) (z k2) (hse k1 hk18).1 (hse k2 hk28).1 (hse k1 hk18).2.1 (fun j h => ((hse k2 hk28).2.2 j h).2) (hjo k1 k2 hk18 hk28).1 (hjo k1 k2 hk18 hk28).2) (kV hts 1 aK_S_takeMissing aM_X_76 aI_S_takeMissing aV_S_takeMissing aN_S nm_S_takeMissing rfl rfl ⟨(Nat.le_of_ble_eq_true rfl), (Nat.le_of_ble_eq_true rfl)⟩) hK hP (by omega) (SX_s hk18) rfl rfl hl.1 rfl (Nat.le_of_ble_eq_true rfl) d_X_join_22 ⟨(Nat.le_of_ble_eq_true rfl), (Nat.le_of_ble_eq_true rfl)⟩ hS (fun q h => wA_le hS.1 h) (fun r_3 M_3 H locs hw_3 hP hzc hkc hS => ?_)
  rw [hw_3.1] at hP
  refine w_topi hw_3.2 ?_
  refine vx_ret ?_
  refine W.widen (k := 2) (n := 12) (Nat.le_of_ble_eq_true rfl) (Nat.le_of_ble_eq_true rfl) ?_
  exact W.iret (v := nI (x_jZ M k1 (od k2) (z k1) (z k2)) - nI (z k1)) hx hb hr (fun tz hz9 hW9 => ⟨⟨nI (x_jZ M k1 (od k2) (z k1) (z k2)) - nI (z k1), (x_jM M k1 (od k2) (z k1) (z k2)), rfl, ⟨k1, k2, hk1, hk2, ek1, ek2, rfl, rfl⟩, by rw [hz9]; exact hP, va_K.moved hW9.alike hK⟩, hS.F hz9⟩) hS.2.2 d_X_join_25
set_option maxHeartbeats 4000000 in
set_option maxRecDepth 100000 in
/-- X_at -/
theorem k_X_at (l : Launch) (hl9 : l.stackTraces = false) (D : va_G) (cA : Nat → ClassId) (o sz : Nat) (M : wM) (sc : Nat) (hsc : sc ≤ 8) (esc : M.2.2 0 2 = nI sc) (z : Nat → Nat) (od : Nat → Nat → Nat) (hse : xSets M z od) (x th kd : Int32) (tm : Int64) : vx_Met l y_X_at (wm y_X_at c_X_at 6 (some .long)) { frames := 7, cells := 3, slots := 18, locals := 129 } (va_Pc [.ref (o + 0), .int x, .int th, .int kd, .long tm] (xBx D cA o M sz)) (va_Ql (fun r M1 => M1 = M ∧ xin th 10 ∧ xin kd 4 ∧ ∃ k, k < sc ∧ x = nI k ∧ r = x_known M (od k) th kd tm (z k)) (xQ D cA o) (xA o sz)) (xE D cA o M sz (fun E => (E = "java/lang/IndexOutOfBoundsException" ∧ (xbad x (nI sc) ∨ xbad th 10)) ∨ (E = "java/lang/IllegalArgumentException" ∧ xin x (nI sc) ∧ xin th 10 ∧ xbad kd 4))) 3 18 (xA o sz) := by
  refine vx_ofW (cc := c_X_at) (maxL := 6) (ret := (some .long)) (by decide) rfl ?_
  intro p e s m args below meth c s₁ B hml hex hv
  obtain ⟨rfl, ⟨hsz, hP, hK⟩, hG⟩ := hv
  have hx := B.exec
  have hb := B.bytes
  have hr := B.returns
  have hts := atoms_spec (ws := wm y_X_at c_X_at 6 (some .long)) B.pre
  have hown : s.vm.findClass "ShopDesks" = some m.cls := findClass_of_methodNamed B.named
  have hlocks := B.notSynchronized
  subst hsz
  have hout : ∀ pc, ∀ x ∈ c.exceptionTable.toList, covers x pc = false := fun pc x hx => (hex x hx).elim
  have hS : va_S (xA o s.heap.size) s.heap s.heap [] := va_S.rf
  have hW : ∀ i, i < 217 → xA o s.heap.size (o + i) := fun i hi => wA_in hi
  have hl := lv_entry ([.ref (o + 0), .int x, .int th, .int kd, .long tm]) (n := 6) (Nat.le_of_ble_eq_true rfl)
  rw [lg_entry_eq]
  generalize (lg_sl ([.ref (o + 0), .int x, .int th, .int kd, .long tm]) ++ List.replicate (6 - (lg_sl ([.ref (o + 0), .int x, .int th, .int kd, .long tm])).length) Slot.unset).toArray = ls at hl ⊢
  have hl : lv_has ls 6 [(0, .ref (o + 0)), (1, .int x), (2, .int th), (3, .int kd), (4, .long tm)] := hl
  refine lv_aload_n hx hb d_X_at_0 rfl (lv_at hl 0 rfl) ?_
  refine lv_iload_n hx hb d_X_at_1 rfl (lv_at hl 1 rfl) ?_
  refine x_Vv ⟨hx, hb, hml, hown, hts⟩ (k_X_needSet l hl9 D cA o _ M x) (kV hts 1 aK_X_needSet aM_X_73 aI_X_needSet aV_X_needSet aN_X nm_X_needSet rfl rfl ⟨(Nat.le_of_ble_eq_true rfl), (Nat.le_of_ble_eq_true rfl)⟩) hK hP hG hS (by decide) SX_0 rfl rfl hl.1 rfl (Nat.le_of_ble_eq_true rfl) d_X_at_2 ⟨(Nat.le_of_ble_eq_true rfl), (Nat.le_of_ble_eq_true rfl)⟩ (hout _) hlocks (fun E h => Or.inl ⟨h.1, Or.inl (by rw [← esc]; exact h.2)⟩) (Nat.le_of_ble_eq_true rfl) (Nat.le_of_ble_eq_true rfl) (fun M_1 H locs g1 hP hS => ?_)
  rw [g1.1] at hP
  obtain ⟨k1, hk1, ek1⟩ := x_idx g1.2.1 (by rw [← esc]; exact g1.2.2) (by omega)
  have hk18 : k1 < 8 := by omega
  refine lv_iload_n hx hb d_X_at_5 rfl (lv_at hl 2 rfl) ?_
  refine x_Sv ⟨hx, hb, hml, hown, hts⟩ (k_X_needThing l hl9 D cA o _ M th) (kS hts 1 aK_X_needThing aM_X_44 aS_X_needThing aN_X nm_X_needThing rfl rfl ⟨(Nat.le_of_ble_eq_true rfl), (Nat.le_of_ble_eq_true rfl)⟩) hK hP hG hS rfl hl.1 rfl (Nat.le_of_ble_eq_true rfl) d_X_at_6 ⟨(Nat.le_of_ble_eq_true rfl), (Nat.le_of_ble_eq_true rfl)⟩ (hout _) hlocks (fun E h => Or.inl ⟨h.1, Or.inr h.2⟩) (Nat.le_of_ble_eq_true rfl) (Nat.le_of_ble_eq_true rfl) (fun M_2 H locs g2 hP hS => ?_)
  rw [g2.1] at hP
  refine lv_iload_n hx hb d_X_at_9 rfl (lv_at hl 3 rfl) ?_
  refine x_Sv ⟨hx, hb, hml, hown, hts⟩ (k_X_needKind l hl9 D cA o _ M kd) (kS hts 1 aK_X_needKind aM_X_47 aS_X_needKind aN_X nm_X_needKind rfl rfl ⟨(Nat.le_of_ble_eq_true rfl), (Nat.le_of_ble_eq_true rfl)⟩) hK hP hG hS rfl hl.1 rfl (Nat.le_of_ble_eq_true rfl) d_X_at_10 ⟨(Nat.le_of_ble_eq_true rfl), (Nat.le_of_ble_eq_true rfl)⟩ (hout _) hlocks (fun E h => Or.inr ⟨h.1, by rw [← esc]; exact g1.2, g2.2, h.2⟩) (Nat.le_of_ble_eq_true rfl) (Nat.le_of_ble_eq_true rfl) (fun M_3 H locs g3 hP hS => ?_)
  rw [g3.1] at hP
  refine lv_aload_n hx hb d_X_at_13 rfl (lv_at hl 0 rfl) ?_
  refine w_get (C := R_X) (T := F_X) (N := 5) (ci := 4) (v := .ref (o + 8)) hx hb hts inw_X hown hK hP 0 (by decide) SX_0 rfl 1 (by decide) (hts _ (al aF_X_18)) rfl d_X_at_14 ?_
  refine lv_iload_n hx hb d_X_at_17 rfl (lv_at hl 1 rfl) ?_
  refine w_topi ek1 ?_
  refine w_aald hx hb hK hP 8 3 (by decide) SX_8 rfl (k := k1) (by omega) (by decide) (if_pos (by omega)) d_X_at_18 ?_
  refine lv_iload_n hx hb d_X_at_19 rfl (lv_at hl 2 rfl) ?_
  refine lv_iload_n hx hb d_X_at_20 rfl (lv_at hl 3 rfl) ?_
  refine lv_lload hx hb d_X_at_21 (lv_at hl 4 rfl) ?_
  refine lv_aload_n hx hb d_X_at_23 rfl (lv_at hl 0 rfl) ?_
  refine w_get (C := R_X) (T := F_X) (N := 5) (ci := 4) (v := .ref (o + 8)) hx hb hts inw_X hown hK hP 0 (by decide) SX_0 rfl 1 (by decide) (hts _ (al aF_X_18)) rfl d_X_at_24 ?_
  refine lv_iload_n hx hb d_X_at_27 rfl (lv_at hl 1 rfl) ?_
  refine w_topi ek1 ?_
  refine w_aald hx hb hK hP 8 3 (by decide) SX_8 rfl (k := k1) (by omega) (by decide) (if_pos (by omega)) d_X_at_28 ?_
  refine w_get (C := R_S) (T := F_S) (N := 5) (ci := 2) (v := .int (M.2.2 (9 + 3 * k1) 3)) hx hb hts inw_S hown hK hP (9 + 3 * k1) (by omega) (SX_s hk18) rfl 3 (by decide) (hts _ (al aF_X_84)) rfl d_X_at_29 ?_
  refine w_topi ((hse k1 hk18).2.1) ?_
  refine w_Vl ⟨hx, hb, hml, hown, hts⟩ (k_S_known l D cA o _ M k1 hk18 (od k1) (z k1) (hse k1 hk18).1 (hse k1 hk18).2.2 th kd tm) (kV hts 4 aK_S_known aM_X_87 aI_S_known aV_S_known aN_S nm_S_known rfl rfl ⟨(Nat.le_of_ble_eq_true rfl), (Nat.le_of_ble_eq_true rfl)⟩) hK hP (by omega) (SX_s hk18) rfl rfl hl.1 rfl (Nat.le_of_ble_eq_true rfl) d_X_at_32 ⟨(Nat.le_of_ble_eq_true rfl), (Nat.le_of_ble_eq_true rfl)⟩ hS (fun q h => wA_le hS.1 h) (fun r_4 M_4 H locs hw_4 hP hzc hkc hS => ?_)
  rw [hw_4.1] at hP
  refine w_topl hw_4.2 ?_
  refine vx_ret ?_
  refine W.widen (k := 3) (n := 18) (Nat.le_of_ble_eq_true rfl) (Nat.le_of_ble_eq_true rfl) ?_
  exact W.lret (v := x_known M (od k1) th kd tm (z k1)) hx hb hr (fun tz hz9 hW9 => ⟨⟨x_known M (od k1) th kd tm (z k1), M, rfl, ⟨rfl, g2.2, g3.2, k1, hk1, ek1, rfl⟩, by rw [hz9]; exact hP, va_K.moved hW9.alike hK⟩, hS.F hz9⟩) hS.2.2 d_X_at_35
set_option maxHeartbeats 4000000 in
set_option maxRecDepth 100000 in
/-- X_batch -/
theorem k_X_batch (l : Launch) (hl9 : l.stackTraces = false) (D : va_G) (cA : Nat → ClassId) (o sz : Nat) (M : wM) (sc : Nat) (hsc : sc ≤ 8) (esc : M.2.2 0 2 = nI sc) (x bo : Int32) : vx_Met l y_X_batch (wm y_X_batch c_X_batch 3 (some .boolean)) { frames := 7, cells := 1, slots := 6, locals := 103 } (va_Pc [.ref (o + 0), .int x, .int bo] (xBx D cA o M sz)) (va_Qi (fun r M1 => ∃ k, k < sc ∧ x = nI k ∧ ((bo = 0 ∧ ((r = 0 ∧ M1 = M ∧ M.2.2 (9 + 3 * k) 4 = -1) ∨ (r = 1 ∧ M1 = wF M (9 + 3 * k) 4 (-1) ∧ ¬ M.2.2 (9 + 3 * k) 4 = -1))) ∨ (¬ bo = 0 ∧ ((r = 0 ∧ M1 = M ∧ ¬ M.2.2 (9 + 3 * k) 4 = -1) ∨ (r = 1 ∧ M1 = wF M (9 + 3 * k) 4 (M.2.2 (9 + 3 * k) 3) ∧ M.2.2 (9 + 3 * k) 4 = -1))))) (xQ D cA o) (xA o sz)) (xE D cA o M sz (fun E => E = "java/lang/IndexOutOfBoundsException" ∧ xbad x (nI sc))) 1 6 (xA o sz) := by
  refine vx_ofW (cc := c_X_batch) (maxL := 3) (ret := (some .boolean)) (by decide) rfl ?_
  intro p e s m args below meth c s₁ B hml hex hv
  obtain ⟨rfl, ⟨hsz, hP, hK⟩, hG⟩ := hv
  have hx := B.exec
  have hb := B.bytes
  have hr := B.returns
  have hts := atoms_spec (ws := wm y_X_batch c_X_batch 3 (some .boolean)) B.pre
  have hown : s.vm.findClass "ShopDesks" = some m.cls := findClass_of_methodNamed B.named
  have hlocks := B.notSynchronized
  subst hsz
  have hout : ∀ pc, ∀ x ∈ c.exceptionTable.toList, covers x pc = false := fun pc x hx => (hex x hx).elim
  have hS : va_S (xA o s.heap.size) s.heap s.heap [] := va_S.rf
  have hW : ∀ i, i < 217 → xA o s.heap.size (o + i) := fun i hi => wA_in hi
  have hl := lv_entry ([.ref (o + 0), .int x, .int bo]) (n := 3) (Nat.le_of_ble_eq_true rfl)
  rw [lg_entry_eq]
  generalize (lg_sl ([.ref (o + 0), .int x, .int bo]) ++ List.replicate (3 - (lg_sl ([.ref (o + 0), .int x, .int bo])).length) Slot.unset).toArray = ls at hl ⊢
  have hl : lv_has ls 3 [(0, .ref (o + 0)), (1, .int x), (2, .int bo)] := hl
  refine lv_aload_n hx hb d_X_batch_0 rfl (lv_at hl 0 rfl) ?_
  refine lv_iload_n hx hb d_X_batch_1 rfl (lv_at hl 1 rfl) ?_
  refine x_Vv ⟨hx, hb, hml, hown, hts⟩ (k_X_needSet l hl9 D cA o _ M x) (kV hts 1 aK_X_needSet aM_X_73 aI_X_needSet aV_X_needSet aN_X nm_X_needSet rfl rfl ⟨(Nat.le_of_ble_eq_true rfl), (Nat.le_of_ble_eq_true rfl)⟩) hK hP hG hS (by decide) SX_0 rfl rfl hl.1 rfl (Nat.le_of_ble_eq_true rfl) d_X_batch_2 ⟨(Nat.le_of_ble_eq_true rfl), (Nat.le_of_ble_eq_true rfl)⟩ (hout _) hlocks (fun E h => ⟨h.1, by rw [← esc]; exact h.2⟩) (Nat.le_of_ble_eq_true rfl) (Nat.le_of_ble_eq_true rfl) (fun M_1 H locs g1 hP hS => ?_)
  rw [g1.1] at hP
  obtain ⟨k1, hk1, ek1⟩ := x_idx g1.2.1 (by rw [← esc]; exact g1.2.2) (by omega)
  have hk18 : k1 < 8 := by omega
  refine lv_iload_n hx hb d_X_batch_5 rfl (lv_at hl 2 rfl) ?_
  refine lv_if_eq (tgt := 21) hx hb d_X_batch_6 (by decide) (fun c_2 => ?_) (fun c_2 => ?_)
  · have q := c_2
    refine lv_aload_n hx hb d_X_batch_21 rfl (lv_at hl 0 rfl) ?_
    refine w_get (C := R_X) (T := F_X) (N := 5) (ci := 4) (v := .ref (o + 8)) hx hb hts inw_X hown hK hP 0 (by decide) SX_0 rfl 1 (by decide) (hts _ (al aF_X_18)) rfl d_X_batch_22 ?_
    refine lv_iload_n hx hb d_X_batch_25 rfl (lv_at hl 1 rfl) ?_
    refine w_topi ek1 ?_
    refine w_aald hx hb hK hP 8 3 (by decide) SX_8 rfl (k := k1) (by omega) (by decide) (if_pos (by omega)) d_X_batch_26 ?_
    refine w_Vi ⟨hx, hb, hml, hown, hts⟩ (k_S_endBatch l D cA o _ M k1 hk18) (kV hts 0 aK_S_endBatch aM_X_127 aI_S_endBatch aV_S_endBatch aN_S nm_S_endBatch rfl rfl ⟨(Nat.le_of_ble_eq_true rfl), (Nat.le_of_ble_eq_true rfl)⟩) hK hP (by omega) (SX_s hk18) rfl rfl hl.1 rfl (Nat.le_of_ble_eq_true rfl) d_X_batch_27 ⟨(Nat.le_of_ble_eq_true rfl), (Nat.le_of_ble_eq_true rfl)⟩ hS (fun q h => wA_le hS.1 h) (fun rg2 Mg2 H locs g2 hP hzc hkc hS => ?_)
    refine vx_ret ?_
    refine W.widen (k := 1) (n := 6) (Nat.le_of_ble_eq_true rfl) (Nat.le_of_ble_eq_true rfl) ?_
    exact W.zret (v := rg2) hx hb hr (by rcases g2 with h | h <;> rw [h.1] <;> rfl) (fun tz hz9 hW9 => ⟨⟨rg2, Mg2, rfl, ⟨k1, hk1, ek1, Or.inl ⟨q, g2⟩⟩, by rw [hz9]; exact hP, va_K.moved hW9.alike hK⟩, hS.F hz9⟩) hS.2.2 d_X_batch_30
  · have q := c_2
    refine lv_aload_n hx hb d_X_batch_9 rfl (lv_at hl 0 rfl) ?_
    refine w_get (C := R_X) (T := F_X) (N := 5) (ci := 4) (v := .ref (o + 8)) hx hb hts inw_X hown hK hP 0 (by decide) SX_0 rfl 1 (by decide) (hts _ (al aF_X_18)) rfl d_X_batch_10 ?_
    refine lv_iload_n hx hb d_X_batch_13 rfl (lv_at hl 1 rfl) ?_
    refine w_topi ek1 ?_
    refine w_aald hx hb hK hP 8 3 (by decide) SX_8 rfl (k := k1) (by omega) (by decide) (if_pos (by omega)) d_X_batch_14 ?_
    refine w_Vi ⟨hx, hb, hml, hown, hts⟩ (k_S_beginBatch l D cA o _ M k1 hk18) (kV hts 0 aK_S_beginBatch aM_X_123 aI_S_beginBatch aV_S_beginBatch aN_S nm_S_beginBatch rfl rfl ⟨(Nat.le_of_ble_eq_true rfl), (Nat.le_of_ble_eq_true rfl)⟩) hK hP (by omega) (SX_s hk18) rfl rfl hl.1 rfl (Nat.le_of_ble_eq_true rfl) d_X_batch_15 ⟨(Nat.le_of_ble_eq_true rfl), (Nat.le_of_ble_eq_true rfl)⟩ hS (fun q h => wA_le hS.1 h) (fun rg2 Mg2 H locs g2 hP hzc hkc hS => ?_)
    refine lv_goto (tgt := 30) hx hb d_X_batch_18 (by decide) ?_
    refine vx_ret ?_
    refine W.widen (k := 1) (n := 6) (Nat.le_of_ble_eq_true rfl) (Nat.le_of_ble_eq_true rfl) ?_
    exact W.zret (v := rg2) hx hb hr (by rcases g2 with h | h <;> rw [h.1] <;> rfl) (fun tz hz9 hW9 => ⟨⟨rg2, Mg2, rfl, ⟨k1, hk1, ek1, Or.inr ⟨q, g2⟩⟩, by rw [hz9]; exact hP, va_K.moved hW9.alike hK⟩, hS.F hz9⟩) hS.2.2 d_X_batch_30
set_option maxHeartbeats 4000000 in
set_option maxRecDepth 100000 in
/-- X_right -/
theorem k_X_right (l : Launch) (hl9 : l.stackTraces = false) (D : va_G) (cA : Nat → ClassId) (o sz : Nat) (M : wM) (x kd bo : Int32) (hbo : vp_nar .boolean bo = bo) : vx_Met l y_X_right (wm y_X_right c_X_right 6 (some .boolean)) { frames := 7, cells := 2, slots := 12, locals := 102 } (va_Pc [.ref (o + 0), .int x, .int kd, .int bo] (xBx D cA o M sz)) (va_Qi (fun r M1 => ∃ a b, a < 4 ∧ b < 4 ∧ x = nI a ∧ kd = nI b ∧ M1 = wI M 33 (a * 4 + b) bo ∧ r = b2i (decide (¬ M.1 33 (a * 4 + b) = bo))) (xQ D cA o) (xA o sz)) (xE D cA o M sz (fun E => (E = "java/lang/IndexOutOfBoundsException" ∧ xbad x 4) ∨ (E = "java/lang/IllegalArgumentException" ∧ xin x 4 ∧ xbad kd 4))) 2 12 (xA o sz) := by
  refine vx_ofW (cc := c_X_right) (maxL := 6) (ret := (some .boolean)) (by decide) rfl ?_
  intro p e s m args below meth c s₁ B hml hex hv
  obtain ⟨rfl, ⟨hsz, hP, hK⟩, hG⟩ := hv
  have hx := B.exec
  have hb := B.bytes
  have hr := B.returns
  have hts := atoms_spec (ws := wm y_X_right c_X_right 6 (some .boolean)) B.pre
  have hown : s.vm.findClass "ShopDesks" = some m.cls := findClass_of_methodNamed B.named
  have hlocks := B.notSynchronized
  subst hsz
  have hout : ∀ pc, ∀ x ∈ c.exceptionTable.toList, covers x pc = false := fun pc x hx => (hex x hx).elim
  have hS : va_S (xA o s.heap.size) s.heap s.heap [] := va_S.rf
  have hW : ∀ i, i < 217 → xA o s.heap.size (o + i) := fun i hi => wA_in hi
  have hl := lv_entry ([.ref (o + 0), .int x, .int kd, .int bo]) (n := 6) (Nat.le_of_ble_eq_true rfl)
  rw [lg_entry_eq]
  generalize (lg_sl ([.ref (o + 0), .int x, .int kd, .int bo]) ++ List.replicate (6 - (lg_sl ([.ref (o + 0), .int x, .int kd, .int bo])).length) Slot.unset).toArray = ls at hl ⊢
  have hl : lv_has ls 6 [(0, .ref (o + 0)), (1, .int x), (2, .int kd), (3, .int bo)] := hl
  refine lv_iload_n hx hb d_X_right_0 rfl (lv_at hl 1 rfl) ?_
  refine x_Sv ⟨hx, hb, hml, hown, hts⟩ (k_X_needPerson l hl9 D cA o _ M x) (kS hts 1 aK_X_needPerson aM_X_130 aS_X_needPerson aN_X nm_X_needPerson rfl rfl ⟨(Nat.le_of_ble_eq_true rfl), (Nat.le_of_ble_eq_true rfl)⟩) hK hP hG hS rfl hl.1 rfl (Nat.le_of_ble_eq_true rfl) d_X_right_1 ⟨(Nat.le_of_ble_eq_true rfl), (Nat.le_of_ble_eq_true rfl)⟩ (hout _) hlocks (fun E h => Or.inl h) (Nat.le_of_ble_eq_true rfl) (Nat.le_of_ble_eq_true rfl) (fun M_1 H locs g1 hP hS => ?_)
  rw [g1.1] at hP
  obtain ⟨a1, ha1, ea1⟩ := x_idx (n := 4) g1.2.1 g1.2.2 (by omega)
  refine lv_iload_n hx hb d_X_right_4 rfl (lv_at hl 2 rfl) ?_
  refine x_Sv ⟨hx, hb, hml, hown, hts⟩ (k_X_needKind l hl9 D cA o _ M kd) (kS hts 1 aK_X_needKind aM_X_47 aS_X_needKind aN_X nm_X_needKind rfl rfl ⟨(Nat.le_of_ble_eq_true rfl), (Nat.le_of_ble_eq_true rfl)⟩) hK hP hG hS rfl hl.1 rfl (Nat.le_of_ble_eq_true rfl) d_X_right_5 ⟨(Nat.le_of_ble_eq_true rfl), (Nat.le_of_ble_eq_true rfl)⟩ (hout _) hlocks (fun E h => Or.inr ⟨h.1, g1.2, h.2⟩) (Nat.le_of_ble_eq_true rfl) (Nat.le_of_ble_eq_true rfl) (fun M_2 H locs gk hP hS => ?_)
  rw [gk.1] at hP
  obtain ⟨b1, hb1, eb1⟩ := x_idx (n := 4) gk.2.1 gk.2.2 (by omega)
  refine lv_iload_n hx hb d_X_right_8 rfl (lv_at hl 1 rfl) ?_
  refine w_topi ea1 ?_
  refine lv_iconst (v := 4) hx hb d_X_right_9 (by decide) ?_
  refine lv_imul hx hb d_X_right_10 ?_
  refine lv_iload_n hx hb d_X_right_11 rfl (lv_at hl 2 rfl) ?_
  refine w_topi eb1 ?_
  refine lv_iadd hx hb d_X_right_12 ?_
  refine w_topi (x_mul4 a1 b1) ?_
  refine lv_istore (lv' := [(4, .int (nI (a1 * 4 + b1))), (0, .ref (o + 0)), (1, .int x), (2, .int kd), (3, .int bo)]) hx hb d_X_right_13 hl (by decide) rfl (fun ls hl => ?_)
  refine lv_aload_n hx hb d_X_right_15 rfl (lv_at hl 1 rfl) ?_
  refine w_get (C := R_X) (T := F_X) (N := 5) (ci := 4) (v := .ref (o + 33)) hx hb hts inw_X hown hK hP 0 (by decide) SX_0 rfl 3 (by decide) (hts _ (al aF_X_29)) rfl d_X_right_16 ?_
  refine lv_iload hx hb d_X_right_19 (lv_at hl 0 rfl) ?_
  refine w_zald hx hb hK hP 33 2 (by decide) SX_33 rfl (k := (a1 * 4 + b1)) (by omega) (by decide) d_X_right_21 ?_
  refine lv_iload_n hx hb d_X_right_22 rfl (lv_at hl 4 rfl) ?_
  refine lv_icmp_eq (tgt := 30) hx hb d_X_right_23 (by decide) (fun c_3 => ?_) (fun c_3 => ?_)
  · have q := c_3
    refine lv_iconst (v := 0) hx hb d_X_right_30 (by decide) ?_
    refine lv_istore (lv' := [(5, .int 0), (4, .int (nI (a1 * 4 + b1))), (0, .ref (o + 0)), (1, .int x), (2, .int kd), (3, .int bo)]) hx hb d_X_right_31 hl (by decide) rfl (fun ls hl => ?_)
    refine lv_aload_n hx hb d_X_right_33 rfl (lv_at hl 2 rfl) ?_
    refine w_get (C := R_X) (T := F_X) (N := 5) (ci := 4) (v := .ref (o + 33)) hx hb hts inw_X hown hK hP 0 (by decide) SX_0 rfl 3 (by decide) (hts _ (al aF_X_29)) rfl d_X_right_34 ?_
    refine lv_iload hx hb d_X_right_37 (lv_at hl 1 rfl) ?_
    refine lv_iload_n hx hb d_X_right_39 rfl (lv_at hl 5 rfl) ?_
    refine w_zast hx hb hK hP hW hS 33 2 (by decide) (fun _ => SX_33) rfl (hbo) (k := (a1 * 4 + b1)) (by omega) (by decide) d_X_right_40 (fun H locs hP hS => ?_)
    refine lv_iload hx hb d_X_right_41 (lv_at hl 0 rfl) ?_
    refine vx_ret ?_
    refine W.widen (k := 2) (n := 12) (Nat.le_of_ble_eq_true rfl) (Nat.le_of_ble_eq_true rfl) ?_
    exact W.zret (v := 0) hx hb hr rfl (fun tz hz9 hW9 => ⟨⟨0, (wI M 33 (a1 * 4 + b1) bo), rfl, ⟨a1, b1, ha1, hb1, ea1, eb1, rfl, (b2i_f (fun h => h q)).symm⟩, by rw [hz9]; exact hP, va_K.moved hW9.alike hK⟩, hS.F hz9⟩) hS.2.2 d_X_right_43
  · have q := c_3
    refine lv_iconst (v := 1) hx hb d_X_right_26 (by decide) ?_
    refine lv_goto (tgt := 31) hx hb d_X_right_27 (by decide) ?_
    refine lv_istore (lv' := [(5, .int 1), (4, .int (nI (a1 * 4 + b1))), (0, .ref (o + 0)), (1, .int x), (2, .int kd), (3, .int bo)]) hx hb d_X_right_31 hl (by decide) rfl (fun ls hl => ?_)
    refine lv_aload_n hx hb d_X_right_33 rfl (lv_at hl 2 rfl) ?_
    refine w_get (C := R_X) (T := F_X) (N := 5) (ci := 4) (v := .ref (o + 33)) hx hb hts inw_X hown hK hP 0 (by decide) SX_0 rfl 3 (by decide) (hts _ (al aF_X_29)) rfl d_X_right_34 ?_
    refine lv_iload hx hb d_X_right_37 (lv_at hl 1 rfl) ?_
    refine lv_iload_n hx hb d_X_right_39 rfl (lv_at hl 5 rfl) ?_
    refine w_zast hx hb hK hP hW hS 33 2 (by decide) (fun _ => SX_33) rfl (hbo) (k := (a1 * 4 + b1)) (by omega) (by decide) d_X_right_40 (fun H locs hP hS => ?_)
    refine lv_iload hx hb d_X_right_41 (lv_at hl 0 rfl) ?_
    refine vx_ret ?_
    refine W.widen (k := 2) (n := 12) (Nat.le_of_ble_eq_true rfl) (Nat.le_of_ble_eq_true rfl) ?_
    exact W.zret (v := 1) hx hb hr rfl (fun tz hz9 hW9 => ⟨⟨1, (wI M 33 (a1 * 4 + b1) bo), rfl, ⟨a1, b1, ha1, hb1, ea1, eb1, rfl, (b2i_t q).symm⟩, by rw [hz9]; exact hP, va_K.moved hW9.alike hK⟩, hS.F hz9⟩) hS.2.2 d_X_right_43
set_option maxHeartbeats 4000000 in
set_option maxRecDepth 100000 in
/-- X_seen -/
theorem k_X_seen (l : Launch) (hl9 : l.stackTraces = false) (D : va_G) (cA : Nat → ClassId) (o sz : Nat) (M : wM) (sc : Nat) (hsc : sc ≤ 8) (esc : M.2.2 0 2 = nI sc) (z : Nat → Nat) (od : Nat → Nat → Nat) (hse : xSets M z od) (bs : Nat → Nat) (hbs : ∀ s, s < 8 → bs s ≤ z s ∧ (if M.2.2 (9 + 3 * s) 4 = -1 then M.2.2 (9 + 3 * s) 3 else M.2.2 (9 + 3 * s) 4) = nI (bs s)) (x y th kd : Int32) : vx_Met l y_X_seen (wm y_X_seen c_X_seen 5 (some .long)) { frames := 7, cells := 5, slots := 30, locals := 129 } (va_Pc [.ref (o + 0), .int x, .int y, .int th, .int kd] (xBx D cA o M sz)) (va_Ql (fun r M1 => M1 = M ∧ xin th 10 ∧ ∃ a b k, a < 4 ∧ b < 4 ∧ x = nI a ∧ kd = nI b ∧ ¬ M.1 33 (a * 4 + b) = 0 ∧ k < sc ∧ y = nI k ∧ r = x_known M (od k) th kd 9223372036854775807 (bs k)) (xQ D cA o) (xA o sz)) (xE D cA o M sz (fun E => (E = "java/lang/IndexOutOfBoundsException" ∧ (xbad x 4 ∨ xbad y (nI sc) ∨ xbad th 10)) ∨ (E = "java/lang/IllegalArgumentException" ∧ xin x 4 ∧ xin y (nI sc) ∧ xin th 10 ∧ xbad kd 4) ∨ (E = "java/lang/IllegalStateException" ∧ xin y (nI sc) ∧ xin th 10 ∧ ∃ a b, a < 4 ∧ b < 4 ∧ x = nI a ∧ kd = nI b ∧ M.1 33 (a * 4 + b) = 0))) 5 30 (xA o sz) := by
  refine vx_ofW (cc := c_X_seen) (maxL := 5) (ret := (some .long)) (by decide) rfl ?_
  intro p e s m args below meth c s₁ B hml hex hv
  obtain ⟨rfl, ⟨hsz, hP, hK⟩, hG⟩ := hv
  have hx := B.exec
  have hb := B.bytes
  have hr := B.returns
  have hts := atoms_spec (ws := wm y_X_seen c_X_seen 5 (some .long)) B.pre
  have hown : s.vm.findClass "ShopDesks" = some m.cls := findClass_of_methodNamed B.named
  have hlocks := B.notSynchronized
  subst hsz
  have hout : ∀ pc, ∀ x ∈ c.exceptionTable.toList, covers x pc = false := fun pc x hx => (hex x hx).elim
  have hS : va_S (xA o s.heap.size) s.heap s.heap [] := va_S.rf
  have hW : ∀ i, i < 217 → xA o s.heap.size (o + i) := fun i hi => wA_in hi
  have hl := lv_entry ([.ref (o + 0), .int x, .int y, .int th, .int kd]) (n := 5) (Nat.le_of_ble_eq_true rfl)
  rw [lg_entry_eq]
  generalize (lg_sl ([.ref (o + 0), .int x, .int y, .int th, .int kd]) ++ List.replicate (5 - (lg_sl ([.ref (o + 0), .int x, .int y, .int th, .int kd])).length) Slot.unset).toArray = ls at hl ⊢
  have hl : lv_has ls 5 [(0, .ref (o + 0)), (1, .int x), (2, .int y), (3, .int th), (4, .int kd)] := hl
  refine lv_iload_n hx hb d_X_seen_0 rfl (lv_at hl 1 rfl) ?_
  refine x_Sv ⟨hx, hb, hml, hown, hts⟩ (k_X_needPerson l hl9 D cA o _ M x) (kS hts 1 aK_X_needPerson aM_X_130 aS_X_needPerson aN_X nm_X_needPerson rfl rfl ⟨(Nat.le_of_ble_eq_true rfl), (Nat.le_of_ble_eq_true rfl)⟩) hK hP hG hS rfl hl.1 rfl (Nat.le_of_ble_eq_true rfl) d_X_seen_1 ⟨(Nat.le_of_ble_eq_true rfl), (Nat.le_of_ble_eq_true rfl)⟩ (hout _) hlocks (fun E h => Or.inl ⟨h.1, Or.inl h.2⟩) (Nat.le_of_ble_eq_true rfl) (Nat.le_of_ble_eq_true rfl) (fun M_1 H locs g1 hP hS => ?_)
  rw [g1.1] at hP
  obtain ⟨a1, ha1, ea1⟩ := x_idx (n := 4) g1.2.1 g1.2.2 (by omega)
  refine lv_aload_n hx hb d_X_seen_4 rfl (lv_at hl 0 rfl) ?_
  refine lv_iload_n hx hb d_X_seen_5 rfl (lv_at hl 2 rfl) ?_
  refine x_Vv ⟨hx, hb, hml, hown, hts⟩ (k_X_needSet l hl9 D cA o _ M y) (kV hts 1 aK_X_needSet aM_X_73 aI_X_needSet aV_X_needSet aN_X nm_X_needSet rfl rfl ⟨(Nat.le_of_ble_eq_true rfl), (Nat.le_of_ble_eq_true rfl)⟩) hK hP hG hS (by decide) SX_0 rfl rfl hl.1 rfl (Nat.le_of_ble_eq_true rfl) d_X_seen_6 ⟨(Nat.le_of_ble_eq_true rfl), (Nat.le_of_ble_eq_true rfl)⟩ (hout _) hlocks (fun E h => Or.inl ⟨h.1, Or.inr (Or.inl (by rw [← esc]; exact h.2))⟩) (Nat.le_of_ble_eq_true rfl) (Nat.le_of_ble_eq_true rfl) (fun M_2 H locs g2 hP hS => ?_)
  rw [g2.1] at hP
  obtain ⟨k1, hk1, ek1⟩ := x_idx g2.2.1 (by rw [← esc]; exact g2.2.2) (by omega)
  have hk18 : k1 < 8 := by omega
  refine lv_iload_n hx hb d_X_seen_9 rfl (lv_at hl 3 rfl) ?_
  refine x_Sv ⟨hx, hb, hml, hown, hts⟩ (k_X_needThing l hl9 D cA o _ M th) (kS hts 1 aK_X_needThing aM_X_44 aS_X_needThing aN_X nm_X_needThing rfl rfl ⟨(Nat.le_of_ble_eq_true rfl), (Nat.le_of_ble_eq_true rfl)⟩) hK hP hG hS rfl hl.1 rfl (Nat.le_of_ble_eq_true rfl) d_X_seen_10 ⟨(Nat.le_of_ble_eq_true rfl), (Nat.le_of_ble_eq_true rfl)⟩ (hout _) hlocks (fun E h => Or.inl ⟨h.1, Or.inr (Or.inr h.2)⟩) (Nat.le_of_ble_eq_true rfl) (Nat.le_of_ble_eq_true rfl) (fun M_3 H locs g3 hP hS => ?_)
  rw [g3.1] at hP
  refine lv_iload hx hb d_X_seen_13 (lv_at hl 4 rfl) ?_
  refine x_Sv ⟨hx, hb, hml, hown, hts⟩ (k_X_needKind l hl9 D cA o _ M kd) (kS hts 1 aK_X_needKind aM_X_47 aS_X_needKind aN_X nm_X_needKind rfl rfl ⟨(Nat.le_of_ble_eq_true rfl), (Nat.le_of_ble_eq_true rfl)⟩) hK hP hG hS rfl hl.1 rfl (Nat.le_of_ble_eq_true rfl) d_X_seen_15 ⟨(Nat.le_of_ble_eq_true rfl), (Nat.le_of_ble_eq_true rfl)⟩ (hout _) hlocks (fun E h => Or.inr (Or.inl ⟨h.1, g1.2, by rw [← esc]; exact g2.2, g3.2, h.2⟩)) (Nat.le_of_ble_eq_true rfl) (Nat.le_of_ble_eq_true rfl) (fun M_4 H locs gk hP hS => ?_)
  rw [gk.1] at hP
  obtain ⟨b1, hb1, eb1⟩ := x_idx (n := 4) gk.2.1 gk.2.2 (by omega)
  refine lv_aload_n hx hb d_X_seen_18 rfl (lv_at hl 0 rfl) ?_
  refine w_get (C := R_X) (T := F_X) (N := 5) (ci := 4) (v := .ref (o + 33)) hx hb hts inw_X hown hK hP 0 (by decide) SX_0 rfl 3 (by decide) (hts _ (al aF_X_29)) rfl d_X_seen_19 ?_
  refine lv_iload_n hx hb d_X_seen_22 rfl (lv_at hl 1 rfl) ?_
  refine w_topi ea1 ?_
  refine lv_iconst (v := 4) hx hb d_X_seen_23 (by decide) ?_
  refine lv_imul hx hb d_X_seen_24 ?_
  refine lv_iload hx hb d_X_seen_25 (lv_at hl 4 rfl) ?_
  refine w_topi eb1 ?_
  refine lv_iadd hx hb d_X_seen_27 ?_
  refine w_topi (x_mul4 a1 b1) ?_
  refine w_zald hx hb hK hP 33 2 (by decide) SX_33 rfl (k := (a1 * 4 + b1)) (by omega) (by decide) d_X_seen_28 ?_
  refine lv_if_ne (tgt := 42) hx hb d_X_seen_29 (by decide) (fun c_5 => ?_) (fun c_5 => ?_)
  · have q := c_5
    refine lv_aload_n hx hb d_X_seen_42 rfl (lv_at hl 0 rfl) ?_
    refine w_get (C := R_X) (T := F_X) (N := 5) (ci := 4) (v := .ref (o + 8)) hx hb hts inw_X hown hK hP 0 (by decide) SX_0 rfl 1 (by decide) (hts _ (al aF_X_18)) rfl d_X_seen_43 ?_
    refine lv_iload_n hx hb d_X_seen_46 rfl (lv_at hl 2 rfl) ?_
    refine w_topi ek1 ?_
    refine w_aald hx hb hK hP 8 3 (by decide) SX_8 rfl (k := k1) (by omega) (by decide) (if_pos (by omega)) d_X_seen_47 ?_
    refine lv_iload_n hx hb d_X_seen_48 rfl (lv_at hl 3 rfl) ?_
    refine lv_iload hx hb d_X_seen_49 (lv_at hl 4 rfl) ?_
    refine w_topi eb1 ?_
    refine lv_ldc2 (v := 9223372036854775807) hx hb hown (hts _ (al aL_X_135)) d_X_seen_51 ?_
    refine lv_aload_n hx hb d_X_seen_54 rfl (lv_at hl 0 rfl) ?_
    refine w_get (C := R_X) (T := F_X) (N := 5) (ci := 4) (v := .ref (o + 8)) hx hb hts inw_X hown hK hP 0 (by decide) SX_0 rfl 1 (by decide) (hts _ (al aF_X_18)) rfl d_X_seen_55 ?_
    refine lv_iload_n hx hb d_X_seen_58 rfl (lv_at hl 2 rfl) ?_
    refine w_topi ek1 ?_
    refine w_aald hx hb hK hP 8 3 (by decide) SX_8 rfl (k := k1) (by omega) (by decide) (if_pos (by omega)) d_X_seen_59 ?_
    refine w_Vi ⟨hx, hb, hml, hown, hts⟩ (k_S_sizeToSee l D cA o _ M k1 hk18) (kV hts 0 aK_S_sizeToSee aM_X_137 aI_S_sizeToSee aV_S_sizeToSee aN_S nm_S_sizeToSee rfl rfl ⟨(Nat.le_of_ble_eq_true rfl), (Nat.le_of_ble_eq_true rfl)⟩) hK hP (by omega) (SX_s hk18) rfl rfl hl.1 rfl (Nat.le_of_ble_eq_true rfl) d_X_seen_60 ⟨(Nat.le_of_ble_eq_true rfl), (Nat.le_of_ble_eq_true rfl)⟩ hS (fun q h => wA_le hS.1 h) (fun r_6 M_6 H locs hw_6 hP hzc hkc hS => ?_)
    rw [hw_6.1] at hP
    refine w_topi hw_6.2 ?_
    refine w_topi ((hbs k1 hk18).2) ?_
    refine w_Vl ⟨hx, hb, hml, hown, hts⟩ (k_S_known l D cA o _ M k1 hk18 (od k1) (bs k1) (Nat.le_trans (hbs k1 hk18).1 (hse k1 hk18).1) (fun j h => (hse k1 hk18).2.2 j (Nat.lt_of_lt_of_le h (hbs k1 hk18).1)) th (nI b1) 9223372036854775807) (kV hts 4 aK_S_known aM_X_87 aI_S_known aV_S_known aN_S nm_S_known rfl rfl ⟨(Nat.le_of_ble_eq_true rfl), (Nat.le_of_ble_eq_true rfl)⟩) hK hP (by omega) (SX_s hk18) rfl rfl hl.1 rfl (Nat.le_of_ble_eq_true rfl) d_X_seen_63 ⟨(Nat.le_of_ble_eq_true rfl), (Nat.le_of_ble_eq_true rfl)⟩ hS (fun q h => wA_le hS.1 h) (fun r_7 M_7 H locs hw_7 hP hzc hkc hS => ?_)
    rw [hw_7.1] at hP
    refine w_topl hw_7.2 ?_
    refine vx_ret ?_
    refine W.widen (k := 5) (n := 30) (Nat.le_of_ble_eq_true rfl) (Nat.le_of_ble_eq_true rfl) ?_
    exact W.lret (v := x_known M (od k1) th (nI b1) 9223372036854775807 (bs k1)) hx hb hr (fun tz hz9 hW9 => ⟨⟨x_known M (od k1) th (nI b1) 9223372036854775807 (bs k1), M, rfl, ⟨rfl, g3.2, a1, b1, k1, ha1, hb1, ea1, eb1, q, hk1, ek1, by rw [eb1]⟩, by rw [hz9]; exact hP, va_K.moved hW9.alike hK⟩, hS.F hz9⟩) hS.2.2 d_X_seen_66
  · have q := c_5
    obtain ⟨sa, hsa⟩ := hG.2.2.1 (133, "the person has no right to that kind") (by decide)
    exact x_throwS (cls := "java/lang/IllegalStateException") hx hb hl9 hown (hts _ (al aC_X_57)) (hts _ (al aN_IllegalStateException)) hsa (hat_X_61 hts hG) hot_X_61 (by decide) hG hK hP hS (hl.1.trans hml.symm) d_X_seen_32 d_X_seen_35 d_X_seen_36 d_X_seen_38 d_X_seen_41 (hout _) (Nat.le_of_ble_eq_true rfl) (Nat.le_of_ble_eq_true rfl) (Nat.le_of_ble_eq_true rfl) (Nat.le_of_ble_eq_true rfl) hlocks (Or.inr (Or.inr ⟨rfl, by rw [← esc]; exact g2.2, g3.2, a1, b1, ha1, hb1, ea1, eb1, q⟩)) (Nat.le_of_ble_eq_true rfl) (Nat.le_of_ble_eq_true rfl)
set_option maxHeartbeats 4000000 in
set_option maxRecDepth 100000 in
/-- X_tell -/
theorem k_X_tell (l : Launch) (hl9 : l.stackTraces = false) (D : va_G) (cA : Nat → ClassId) (o sz : Nat) (M : wM) (n : Nat) (hn : n ≤ 300) (en : M.2.2 1 6 = nI n) (t th kd : Int32) (nu v on : Int64) : vx_Met l y_X_tell (wm y_X_tell c_X_tell 10 (some .int)) { frames := 7, cells := 4, slots := 24, locals := 102 } (va_Pc [.ref (o + 0), .int t, .long nu, .int th, .int kd, .long v, .long on] (xBx D cA o M sz)) (va_Qi (fun r M1 => xin t 6 ∧ xin th 10 ∧ xin kd 4 ∧ ((r = 0 ∧ M1 = M ∧ ∃ j, j < n ∧ M.2.1 3 j = nu ∧ M.1 2 j = t) ∨ (r = 1 ∧ n < 300 ∧ ¬ (∃ j, j < n ∧ M.2.1 3 j = nu ∧ M.1 2 j = t) ∧ M1 = wF (wL (wL (wI (wI (wL (wI M 2 n t) 3 n nu) 4 n th) 5 n kd) 6 n v) 7 n on) 1 6 (nI (n + 1))))) (xQ D cA o) (xA o sz)) (xE D cA o M sz (fun E => (E = "java/lang/IndexOutOfBoundsException" ∧ (xbad t 6 ∨ xbad th 10)) ∨ (E = "java/lang/IllegalArgumentException" ∧ xin t 6 ∧ xin th 10 ∧ xbad kd 4) ∨ (E = "java/lang/IllegalStateException" ∧ xin t 6 ∧ xin th 10 ∧ xin kd 4 ∧ ¬ (∃ j, j < n ∧ M.2.1 3 j = nu ∧ M.1 2 j = t) ∧ n = 300))) 4 24 (xA o sz) := by
  refine vx_ofW (cc := c_X_tell) (maxL := 10) (ret := (some .int)) (by decide) rfl ?_
  intro p e s m args below meth c s₁ B hml hex hv
  obtain ⟨rfl, ⟨hsz, hP, hK⟩, hG⟩ := hv
  have hx := B.exec
  have hb := B.bytes
  have hr := B.returns
  have hts := atoms_spec (ws := wm y_X_tell c_X_tell 10 (some .int)) B.pre
  have hown : s.vm.findClass "ShopDesks" = some m.cls := findClass_of_methodNamed B.named
  have hlocks := B.notSynchronized
  subst hsz
  have hout : ∀ pc, ∀ x ∈ c.exceptionTable.toList, covers x pc = false := fun pc x hx => (hex x hx).elim
  have hS : va_S (xA o s.heap.size) s.heap s.heap [] := va_S.rf
  have hW : ∀ i, i < 217 → xA o s.heap.size (o + i) := fun i hi => wA_in hi
  have hl := lv_entry ([.ref (o + 0), .int t, .long nu, .int th, .int kd, .long v, .long on]) (n := 10) (Nat.le_of_ble_eq_true rfl)
  rw [lg_entry_eq]
  generalize (lg_sl ([.ref (o + 0), .int t, .long nu, .int th, .int kd, .long v, .long on]) ++ List.replicate (10 - (lg_sl ([.ref (o + 0), .int t, .long nu, .int th, .int kd, .long v, .long on])).length) Slot.unset).toArray = ls at hl ⊢
  have hl : lv_has ls 10 [(0, .ref (o + 0)), (1, .int t), (2, .long nu), (4, .int th), (5, .int kd), (6, .long v), (8, .long on)] := hl
  refine lv_iload_n hx hb d_X_tell_0 rfl (lv_at hl 1 rfl) ?_
  refine x_Sv ⟨hx, hb, hml, hown, hts⟩ (k_X_needTeller l hl9 D cA o _ M t) (kS hts 1 aK_X_needTeller aM_X_40 aS_X_needTeller aN_X nm_X_needTeller rfl rfl ⟨(Nat.le_of_ble_eq_true rfl), (Nat.le_of_ble_eq_true rfl)⟩) hK hP hG hS rfl hl.1 rfl (Nat.le_of_ble_eq_true rfl) d_X_tell_1 ⟨(Nat.le_of_ble_eq_true rfl), (Nat.le_of_ble_eq_true rfl)⟩ (hout _) hlocks (fun E h => Or.inl ⟨h.1, Or.inl h.2⟩) (Nat.le_of_ble_eq_true rfl) (Nat.le_of_ble_eq_true rfl) (fun M_1 H locs g1 hP hS => ?_)
  rw [g1.1] at hP
  refine lv_iload hx hb d_X_tell_4 (lv_at hl 3 rfl) ?_
  refine x_Sv ⟨hx, hb, hml, hown, hts⟩ (k_X_needThing l hl9 D cA o _ M th) (kS hts 1 aK_X_needThing aM_X_44 aS_X_needThing aN_X nm_X_needThing rfl rfl ⟨(Nat.le_of_ble_eq_true rfl), (Nat.le_of_ble_eq_true rfl)⟩) hK hP hG hS rfl hl.1 rfl (Nat.le_of_ble_eq_true rfl) d_X_tell_6 ⟨(Nat.le_of_ble_eq_true rfl), (Nat.le_of_ble_eq_true rfl)⟩ (hout _) hlocks (fun E h => Or.inl ⟨h.1, Or.inr h.2⟩) (Nat.le_of_ble_eq_true rfl) (Nat.le_of_ble_eq_true rfl) (fun M_2 H locs g2 hP hS => ?_)
  rw [g2.1] at hP
  refine lv_iload hx hb d_X_tell_9 (lv_at hl 4 rfl) ?_
  refine x_Sv ⟨hx, hb, hml, hown, hts⟩ (k_X_needKind l hl9 D cA o _ M kd) (kS hts 1 aK_X_needKind aM_X_47 aS_X_needKind aN_X nm_X_needKind rfl rfl ⟨(Nat.le_of_ble_eq_true rfl), (Nat.le_of_ble_eq_true rfl)⟩) hK hP hG hS rfl hl.1 rfl (Nat.le_of_ble_eq_true rfl) d_X_tell_11 ⟨(Nat.le_of_ble_eq_true rfl), (Nat.le_of_ble_eq_true rfl)⟩ (hout _) hlocks (fun E h => Or.inr (Or.inl ⟨h.1, g1.2, g2.2, h.2⟩)) (Nat.le_of_ble_eq_true rfl) (Nat.le_of_ble_eq_true rfl) (fun M_3 H locs g3 hP hS => ?_)
  rw [g3.1] at hP
  refine lv_aload_n hx hb d_X_tell_14 rfl (lv_at hl 0 rfl) ?_
  refine w_get (C := R_X) (T := F_X) (N := 5) (ci := 4) (v := .ref (o + 1)) hx hb hts inw_X hown hK hP 0 (by decide) SX_0 rfl 0 (by decide) (hts _ (al aF_X_12)) rfl d_X_tell_15 ?_
  refine lv_iload_n hx hb d_X_tell_18 rfl (lv_at hl 1 rfl) ?_
  refine lv_lload_n hx hb d_X_tell_19 rfl (lv_at hl 2 rfl) ?_
  refine w_Vi ⟨hx, hb, hml, hown, hts⟩ (k_T_isTold l D cA o _ M t nu n hn en) (kV hts 2 aK_T_isTold aM_X_50 aI_T_isTold aV_T_isTold aN_T nm_T_isTold rfl rfl ⟨(Nat.le_of_ble_eq_true rfl), (Nat.le_of_ble_eq_true rfl)⟩) hK hP (by decide) SX_1 rfl rfl hl.1 rfl (Nat.le_of_ble_eq_true rfl) d_X_tell_20 ⟨(Nat.le_of_ble_eq_true rfl), (Nat.le_of_ble_eq_true rfl)⟩ hS (fun q h => wA_le hS.1 h) (fun rgt Mgt H locs gt hP hzc hkc hS => ?_)
  rw [gt.1] at hP
  refine lv_if_eq (tgt := 28) hx hb d_X_tell_23 (by decide) (fun c_5 => ?_) (fun c_5 => ?_)
  · have hto := rg4_0 gt.2 c_5
    refine lv_aload_n hx hb d_X_tell_28 rfl (lv_at hl 0 rfl) ?_
    refine w_get (C := R_X) (T := F_X) (N := 5) (ci := 4) (v := .ref (o + 1)) hx hb hts inw_X hown hK hP 0 (by decide) SX_0 rfl 0 (by decide) (hts _ (al aF_X_12)) rfl d_X_tell_29 ?_
    refine w_get (C := R_T) (T := F_T) (N := 7) (ci := 3) (v := .int (M.2.2 1 6)) hx hb hts inw_T hown hK hP 1 (by decide) SX_1 rfl 6 (by decide) (hts _ (al aF_X_54)) rfl d_X_tell_32 ?_
    refine w_topi en ?_
    refine lv_sipush (v := 300) hx hb d_X_tell_35 (by decide) ?_
    refine lv_icmp_lt (tgt := 51) hx hb d_X_tell_38 (by decide) (fun c_6 => ?_) (fun c_6 => ?_)
    · have q : n < 300 := i_lt (b := 300) (by omega) (by omega) c_6
      refine lv_aload_n hx hb d_X_tell_51 rfl (lv_at hl 0 rfl) ?_
      refine w_get (C := R_X) (T := F_X) (N := 5) (ci := 4) (v := .ref (o + 1)) hx hb hts inw_X hown hK hP 0 (by decide) SX_0 rfl 0 (by decide) (hts _ (al aF_X_12)) rfl d_X_tell_52 ?_
      refine lv_iload_n hx hb d_X_tell_55 rfl (lv_at hl 1 rfl) ?_
      refine lv_lload_n hx hb d_X_tell_56 rfl (lv_at hl 2 rfl) ?_
      refine lv_iload hx hb d_X_tell_57 (lv_at hl 3 rfl) ?_
      refine lv_iload hx hb d_X_tell_59 (lv_at hl 4 rfl) ?_
      refine lv_lload hx hb d_X_tell_61 (lv_at hl 5 rfl) ?_
      refine lv_lload hx hb d_X_tell_63 (lv_at hl 6 rfl) ?_
      refine w_Vv ⟨hx, hb, hml, hown, hts⟩ (k_T_append l D cA o _ M t th kd nu v on n hn en q) (kV hts 6 aK_T_append aM_X_64 aI_T_append aV_T_append aN_T nm_T_append rfl rfl ⟨(Nat.le_of_ble_eq_true rfl), (Nat.le_of_ble_eq_true rfl)⟩) hK hP (by decide) SX_1 rfl rfl hl.1 rfl (Nat.le_of_ble_eq_true rfl) d_X_tell_65 ⟨(Nat.le_of_ble_eq_true rfl), (Nat.le_of_ble_eq_true rfl)⟩ hS (fun q h => wA_le hS.1 h) (fun M_7 H locs hw_7 hP hzc hkc hS => ?_)
      rw [hw_7] at hP
      refine lv_iconst (v := 1) hx hb d_X_tell_68 (by decide) ?_
      refine vx_ret ?_
      refine W.widen (k := 4) (n := 24) (Nat.le_of_ble_eq_true rfl) (Nat.le_of_ble_eq_true rfl) ?_
      exact W.iret (v := 1) hx hb hr (fun tz hz9 hW9 => ⟨⟨1, (wF (wL (wL (wI (wI (wL (wI M 2 n t) 3 n nu) 4 n th) 5 n kd) 6 n v) 7 n on) 1 6 (nI (n + 1))), rfl, ⟨g1.2, g2.2, g3.2, Or.inr ⟨rfl, q, hto, rfl⟩⟩, by rw [hz9]; exact hP, va_K.moved hW9.alike hK⟩, hS.F hz9⟩) hS.2.2 d_X_tell_69
    · have q : n = 300 := by have := i_nlt (b := 300) (by omega) (by omega) c_6; omega
      obtain ⟨sa, hsa⟩ := hG.2.2.1 (59, "there are 300 tellings") (by decide)
      exact x_throwS (cls := "java/lang/IllegalStateException") hx hb hl9 hown (hts _ (al aC_X_57)) (hts _ (al aN_IllegalStateException)) hsa (hat_X_61 hts hG) hot_X_61 (by decide) hG hK hP hS (hl.1.trans hml.symm) d_X_tell_41 d_X_tell_44 d_X_tell_45 d_X_tell_47 d_X_tell_50 (hout _) (Nat.le_of_ble_eq_true rfl) (Nat.le_of_ble_eq_true rfl) (Nat.le_of_ble_eq_true rfl) (Nat.le_of_ble_eq_true rfl) hlocks (Or.inr (Or.inr ⟨rfl, g1.2, g2.2, g3.2, hto, q⟩)) (Nat.le_of_ble_eq_true rfl) (Nat.le_of_ble_eq_true rfl)
  · have hto := rg4_1 gt.2 c_5
    refine lv_iconst (v := 0) hx hb d_X_tell_26 (by decide) ?_
    refine vx_ret ?_
    refine W.widen (k := 4) (n := 24) (Nat.le_of_ble_eq_true rfl) (Nat.le_of_ble_eq_true rfl) ?_
    exact W.iret (v := 0) hx hb hr (fun tz hz9 hW9 => ⟨⟨0, M, rfl, ⟨g1.2, g2.2, g3.2, Or.inl ⟨rfl, rfl, hto⟩⟩, by rw [hz9]; exact hP, va_K.moved hW9.alike hK⟩, hS.F hz9⟩) hS.2.2 d_X_tell_27
end
