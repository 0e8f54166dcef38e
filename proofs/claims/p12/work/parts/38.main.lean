/-! THE CLAIM OUT OF ONE WALK OF THE LAW'S BODY. Your part is whole_start (and what it stands on); all else here is the same for every law, but numbers. -/
def R_law : String := "ShopDesksLaw"
def lw_P (b : Addr) (xs : List Int32) (args : Array Value) (s : State) : Prop := args = #[.ref b] ∧ s.IntsAt b xs ∧ xs.length ≤ 5120 ∧ (Jvm.Cond.and given_1 narrow_1).before args s = true
def lw_Q (_ : Array Value) (s : State) (o : Outcome) (t : State) : Prop := o = .returned (some (.int 1)) ∧ Framed s o t [] 601024 7293034
def lw_Z (below : List Frame) (a : Array Value) (s : State) : State → Prop := fun t => ∃ o, t.status = .running ∧ Ended t below o ∧ lw_Q a s o t
/-- the law's own end, with 1 on the stack, nothing written that was there before, its room as the claim has it -/
theorem lw_ret {p : Program} {l : Launch} {e : Env} {s : State} {m : MethodId} {below : List Frame} {meth : Method} {c : Code} {b : Nat} (hx : p.tables.exec = Jvm.exec) (hb : c.code = code) (hr : meth.sig.returnType = ret) (hlocks : meth.locks = false) {pc : Nat} {H : Heap} {ls : Array Slot} (hdg : decode code pc = .ok (.ireturn, 1)) : W p l e room_1 s m #[Value.ref b] below meth c H [] 601024 7293034 (lw_Z below #[Value.ref b] s) (F0 m pc ls [.int 1]) := by
  intro T hT X
  obtain ⟨fs, hret, hrun, hended, hW, hframe⟩ := X.leave (v := some (.int 1)) (hlocks := hlocks) (fun h => by rw [hr] at h; cases h)
  have hmeth' : T.vm.method? m = some meth := X.method'
  refine ⟨T.setFrames fs, ?_, .returned (some (.int 1)), hrun, hended, rfl, ⟨_, rfl⟩, hW, hframe⟩
  jvm_step X.here [X.here.top, hx, hb, hdg, hmeth', hr, ret, narrow_b1]
  (try refine ⟨rfl, ?_⟩); (try refine ⟨rfl, ?_⟩)
  first | (intro acts; rw [hret _ acts rfl rfl rfl]) | rw [hret _ _ rfl rfl rfl]
  exact Steps.refl _
/-- what holds at the law's entry: the machine, the code, the tables' words (any of lw_tbl by 'hts w (by decide +kernel)'), the script of L ints xs at the cell b, what the Statement gives of the start (any of its parts by flat_of_before) -/
def lw_At (p : Program) (s : State) (m : MethodId) (meth : Method) (c : Code) (b L : Nat) (xs : Nat → Int32) : Prop :=
  p.tables.exec = Jvm.exec ∧ c.code = code ∧ meth.sig.returnType = ret ∧ c.maxLocals = 8 ∧ s.vm.findClass R_law = some m.cls ∧ (∀ w ∈ lw_tbl, w.before #[Value.ref b] s = true) ∧ va_X b L xs s s.heap ∧ b < s.heap.size ∧ meth.locks = false ∧ (Jvm.Cond.and given_1 narrow_1).before #[Value.ref b] s = true
/-! what the start gives -/
theorem aw_tbl {w : Cond} (h : w ∈ aw) : w ∈ lw_tbl := (List.mem_filter.mp h).1
theorem ac_of {args : Array Value} {s : State} {t : FieldType} (h : (Cond.arrayClass t).before args s = true) (ho : ∀ C, t ≠ .object C) : ∃ c : ClassId, ArrOfT s c t ∧ va_RA s c t := by
  obtain ⟨c, k, comp, h1, h2, h3⟩ := Cond.arrayClass_spec h
  refine ⟨c, fun N z => ⟨(fun q hq => by cases hq), k, h2, comp, h3⟩, ?_⟩
  cases t <;> first | exact h1 | exact absurd rfl (ho _)
theorem ao_of {args : Array Value} {s : State} {C : String} (h : (Cond.arrayOver (.object C)).before args s = true) : ∃ c : ClassId, ArrOfT s c (.object C) ∧ va_RA s c (.object C) := by
  obtain ⟨comp, c, k, h1, h2, h3, h4, h5⟩ := Cond.arrayOver_spec h
  exact ⟨c, fun N z => ⟨(fun q hq => by cases hq), k, h3, comp, h4⟩, k, comp, h3, h4, h1, h5⟩
theorem st_ao3 : Cond.arrayOver (.object "ShopDesks$TellingSet") ∈ lw_tbl := by decide +kernel
theorem st_ao4 : Cond.arrayOver (.object "ShopDesks$Entry") ∈ lw_tbl := by decide +kernel
theorem start_K {args : Array Value} {s : State} (hts : ∀ w ∈ lw_tbl, w.before args s = true) : ∃ (D : va_G) (cA : Nat → ClassId), va_K D cls_ (tys_ cA) s := by
  obtain ⟨c0, i0, k0⟩ := u_known (C := R_E) (T := F_E) (N := 7) (n := 7) hts (fun w h => aw_tbl (in_E w h)) (hts _ (aw_tbl aT_E))
  obtain ⟨c1, i1, k1⟩ := u_known (C := R_L) (T := F_L) (N := 5) (n := 5) hts (fun w h => aw_tbl (in_L w h)) (hts _ (aw_tbl aT_L))
  obtain ⟨c2, i2, k2⟩ := u_known (C := R_S) (T := F_S) (N := 5) (n := 5) hts (fun w h => aw_tbl (in_S w h)) (hts _ (aw_tbl aT_S))
  obtain ⟨c3, i3, k3⟩ := u_known (C := R_T) (T := F_T) (N := 7) (n := 7) hts (fun w h => aw_tbl (in_T w h)) (hts _ (aw_tbl aT_T))
  obtain ⟨c4, i4, k4⟩ := u_known (C := R_X) (T := F_X) (N := 5) (n := 5) hts (fun w h => aw_tbl (in_X w h)) (hts _ (aw_tbl aT_X))
  obtain ⟨c5, i5, k5⟩ := u_known (C := R_M) (T := F_M) (N := 22) (n := 22) hts (fun w h => aw_tbl (in_M w h)) (hts _ (aw_tbl aT_M))
  obtain ⟨a0, ha0⟩ := ac_of (t := .int) (hts _ (aw_tbl aA_int)) (fun _ h => by cases h)
  obtain ⟨a1, ha1⟩ := ac_of (t := .long) (hts _ (aw_tbl aA_long)) (fun _ h => by cases h)
  obtain ⟨a2, ha2⟩ := ac_of (t := .boolean) (hts _ (aw_tbl aA_boolean)) (fun _ h => by cases h)
  obtain ⟨a3, ha3⟩ := ao_of (hts _ st_ao3)
  obtain ⟨a4, ha4⟩ := ao_of (hts _ st_ao4)
  refine ⟨(fun k => if k = 0 then c0 else if k = 1 then c1 else if k = 2 then c2 else if k = 3 then c3 else if k = 4 then c4 else c5, fun k => if k = 0 then i0 else if k = 1 then i1 else if k = 2 then i2 else if k = 3 then i3 else if k = 4 then i4 else i5), fun k => if k = 0 then a0 else if k = 1 then a1 else if k = 2 then a2 else if k = 3 then a3 else a4, fun k q hq => ?_, fun k q hq => ?_⟩
  · match k, hq with
    | 0, hq => cases hq; exact k0
    | 1, hq => cases hq; exact k1
    | 2, hq => cases hq; exact k2
    | 3, hq => cases hq; exact k3
    | 4, hq => cases hq; exact k4
    | 5, hq => cases hq; exact k5
    | k + 6, hq => simp at hq
  · match k, hq with
    | 0, hq => cases hq; exact ha0
    | 1, hq => cases hq; exact ha1
    | 2, hq => cases hq; exact ha2
    | 3, hq => cases hq; exact ha3
    | 4, hq => cases hq; exact ha4
    | k + 5, hq => simp at hq
theorem start_w {args : Array Value} {s : State} (hts : ∀ w ∈ lw_tbl, w.before args s = true) : ∀ w ∈ wm y_X_init c_X_init 2 none, w.before args s = true := fun w hw => (List.mem_cons.mp hw).elim (fun e => by rw [e]; exact hts _ (aw_tbl aK_X_init)) (fun h => hts _ (aw_tbl h))
theorem st_m1 : Cond.isRef (.static Bundle.tN "UNASSIGNED_STACK" Bundle.steD) ∈ flatC (Jvm.Cond.and given_1 narrow_1) := by decide +kernel
theorem st_m2 : Cond.isRef (.static Bundle.tN "SUPPRESSED_SENTINEL" Bundle.listD) ∈ flatC (Jvm.Cond.and given_1 narrow_1) := by decide +kernel
theorem st_m3 : ∀ q ∈ xTexts, Cond.exactly (.string "ShopDesks" q.1) "java/lang/String" ∈ flatC (Jvm.Cond.and given_1 narrow_1) := by decide +kernel
theorem st_m4 : ∀ q ∈ xTexts, Cond.stringRef "ShopDesks" q.1 q.2 ∈ lw_tbl := by decide +kernel
theorem st_m5 : ∀ w ∈ xBad, w ∈ lw_tbl := by decide +kernel
theorem st_m6 : ∀ E ∈ x3, ∀ E' ∈ x3, E ≠ E' → Cond.not (.castable E E') ∈ flatC (Jvm.Cond.and given_1 narrow_1) := by decide +kernel
theorem st_m7 : Cond.laysStatic Bundle.tN "UNASSIGNED_STACK" Bundle.steD ∈ lw_tbl := by decide +kernel
theorem st_m8 : Cond.laysStatic Bundle.tN "SUPPRESSED_SENTINEL" Bundle.listD ∈ lw_tbl := by decide +kernel
theorem start_G {args : Array Value} {s : State} (hts : ∀ w ∈ lw_tbl, w.before args s = true) (hg : (Jvm.Cond.and given_1 narrow_1).before args s = true) : xG (fun q => s.heap.size ≤ q) s := by
  have hs := flat_of_before _ hg
  refine ⟨vx_Zqof (hts _ st_m7) (hts _ (aw_tbl aN_Throwable)) (hs _ st_m1) (fun a h => Nat.not_le.mpr h), vx_Zqof (hts _ st_m8) (hts _ (aw_tbl aN_Throwable)) (hs _ st_m2) (fun a h => Nat.not_le.mpr h), fun q hq => ?_, fun w hw => va_Nw.of (xBad_ot w hw) (hts w (st_m5 w hw))⟩
  obtain ⟨a, c, cA, kA, q1, -⟩ := Cond.exactly_spec (args := args) (first := s) (o := none) (s := s) (idx := []) (t := .string "ShopDesks" q.1) (cls := "java/lang/String") (hs _ (st_m3 q hq))
  exact ⟨a, vk_R.of (hts _ (st_m4 q hq)) q1⟩
theorem start_N {args : Array Value} {s : State} (hg : (Jvm.Cond.and given_1 narrow_1).before args s = true) : xN s := fun E hE E' hE' ne => va_Nc.of (flat_of_before _ hg _ (st_m6 E hE E' hE' ne))
theorem start_gN {args : Array Value} {s : State} (hts : ∀ w ∈ lw_tbl, w.before args s = true) : gN s := ⟨va_AO.of (hts _ st_ao3), va_AO.of (hts _ st_ao4), va_Nw.of rfl (hts _ (List.mem_append_right _ aM_X_11)), va_Nw.of rfl (hts _ (List.mem_append_right _ aM_L_31))⟩
theorem lw_fin {p : Program} {e : Env} {s : State} {m : MethodId} {below : List Frame} {meth : Method} {c : Code} {l : Launch} {b : Nat} (hx : p.tables.exec = Jvm.exec) (hb : c.code = code) (hr : meth.sig.returnType = ret) (hlocks : meth.locks = false) {H : Heap} {locs : List Loc} {cells slots : Nat} {ls : Array Slot} (hS : va_S (fun q => s.heap.size ≤ q) s.heap H locs) (hc : cells ≤ 601024) (hs : slots ≤ 7293034) : W p l e room_1 s m #[Value.ref b] below meth c H locs cells slots (lw_Z below #[Value.ref b] s) (F0 m 1121 ls []) := by
  refine lv_iconst (v := 1) hx hb d_W_law_1121 (by decide) ?_
  refine W.widen (k := 601024) (n := 7293034) hc hs ?_
  refine va_forget (fun q hq => hS.2.2 q hq) ?_
  exact lw_ret hx hb hr hlocks d_W_law_1122
theorem law_loop {p : Program} {e : Env} {s : State} {m : MethodId} {below : List Frame} {meth : Method} {c : Code} {l : Launch} {b L : Nat} {xs : Nat → Int32} {D : va_G} {cA : Nat → ClassId} (hL : L ≤ 5120) (hr : meth.sig.returnType = ret) (hlocks : meth.locks = false) (C : LC p l s m #[Value.ref b] c D cA s.heap.size (s.heap.size + 217) (s.heap.size + 234) b L xs) : ∀ (fuel j : Nat), 5120 - 10 * j < fuel → 10 * j ≤ 5120 + 10 → ∀ (M N : wM) (fo : Nat → Int64) (H : Heap) (locs : List Loc) (ls : Array Slot), IW M N → xP D cA s.heap.size M H → nP D cA (s.heap.size + 217) N H → oP D cA (s.heap.size + 234) fo H → va_S (fun q => s.heap.size ≤ q) s.heap H locs → lv_has ls 8 [(0, .ref b), (1, .ref (s.heap.size + 0)), (2, .ref (s.heap.size + 217 + 0)), (3, .ref (s.heap.size + 234)), (4, .int (nI (10 * j)))] → W p l e room_1 s m #[Value.ref b] below meth c H locs (235 + 8 * j) (13157 + 48 * j) (lw_Z below #[Value.ref b] s) (F0 m 23 ls []) := by
  intro fuel
  induction fuel with
  | zero => intro j h; exact absurd h (Nat.not_lt_zero _)
  | succ fuel ih =>
    intro j hf hj M N fo H locs ls hI hP hP2 hO hS hl
    refine lw_head C (ix := 10 * j) (by omega) hS hl (fun _ => lw_fin C.1 C.2.1 hr hlocks hS (by omega) (by omega)) (fun hi => ?_)
    obtain ⟨n, sc, z, od, bs, ec, rc, ln, en, h⟩ := hI
    refine law_iter C hi h hP hP2 hO hS hl (Nat.le_trans (show 235 + 8 * j + 8 ≤ 600000 by omega) (Nat.le_of_ble_eq_true rfl)) (Nat.le_trans (show 13157 + 48 * j + 48 ≤ 7000000 by omega) (Nat.le_of_ble_eq_true rfl)) (fun M1 N1 f1 H1 locs1 ls1 hI hP hP2 hO hS hl => ?_)
    refine lw_tail C hl (fun ls hl => ?_)
    have e : 10 * j + 10 = 10 * (j + 1) := by omega
    rw [e] at hl
    have hW := ih (j + 1) (by omega) (by omega) M1 N1 f1 H1 locs1 ls hI hP hP2 hO hS hl
    rw [show 235 + 8 * j + 8 = 235 + 8 * (j + 1) by omega, show 13157 + 48 * j + 48 = 13157 + 48 * (j + 1) by omega]
    exact hW
theorem whole_start {p : Program} {e : Env} {s : State} {m : MethodId} {below : List Frame} {meth : Method} {c : Code} (l : Launch) (hl9 : l.stackTraces = false) {b L : Nat} {xs : Nat → Int32} (hL : L ≤ 5120) (C0 : lw_At p s m meth c b L xs) : W p l e room_1 s m #[Value.ref b] below meth c s.heap [] 0 0 (lw_Z below #[Value.ref b] s) (entryFrame m ([Value.ref b] : List Value).toArray 8) := by
  obtain ⟨hx, hb, hr, hml, hown, hts, hX, hbl, hlocks, hgv⟩ := C0
  obtain ⟨D, cA, hK⟩ := start_K hts
  have C : LC p l s m #[Value.ref b] c D cA s.heap.size (s.heap.size + 217) (s.heap.size + 234) b L xs := ⟨hx, hb, hml, hown, start_w hts, hK, start_G hts hgv, start_N hgv, hX, hbl, hl9, rfl, rfl, rfl, by omega⟩
  have hl := lv_entry ([.ref b]) (n := 8) (Nat.le_of_ble_eq_true rfl)
  rw [lg_entry_eq]
  generalize (lg_sl ([Value.ref b]) ++ List.replicate (8 - (lg_sl ([Value.ref b])).length) Slot.unset).toArray = ls at hl ⊢
  have hl : lv_has ls 8 [(0, .ref b)] := hl
  refine lw_start C (start_gN hts) hl (fun H locs ls hP hP2 hO hS hl => ?_)
  exact law_loop hL hr hlocks C (5120 + 1) 0 (by omega) (by omega) m0X m0M (fun _ => 0) H locs ls iv_0.w hP hP2 hO hS hl
-- ===== YOUR PART ENDS =====
set_option maxHeartbeats 4000000 in
theorem lw_walk (l : Launch) (hl9 : l.stackTraces = false) (b : Addr) (xs : List Int32) : MetFree l x (headSpec (Jvm.Cond.code x code maxLocals ret :: tables_1) room_1) (lw_P b xs) (fun _ _ _ _ _ => True) lw_Q := by
  refine MetFree.of_bodyS (code := code) (maxLocals := maxLocals) (ret := ret) (by decide) ?_ ?_
  · intro args s m h hn
    obtain ⟨meth, c, h1, h2, h3, h4, h5, h6, -, -⟩ := Cond.code_spec hn (atoms_spec (ws := Jvm.Cond.code x code maxLocals ret :: tables_1) h _ List.mem_cons_self)
    exact ⟨meth, c, h1, h2, h3, h4, h5, h6⟩
  · intro p e s m args below meth c s₁ B hml0 hP _
    obtain ⟨rfl, hx, hbd, hgv⟩ := hP
    obtain ⟨scr, harrAt, hlist, hof, hsmall⟩ := hx
    obtain ⟨hcb, hkn, -, -⟩ := State.arrayAt?_spec harrAt
    have hown : s.vm.findClass R_law = some m.cls := findClass_of_methodNamed B.named
    have hts0 : ∀ c ∈ (Jvm.Cond.code x code maxLocals ret :: tables_1), c.before #[Value.ref b] s = true := atoms_spec (ws := Jvm.Cond.code x code maxLocals ret :: tables_1) B.pre
    have hts : ∀ w ∈ lw_tbl, w.before #[Value.ref b] s = true := k2_hts_sels lw_privs (fun w hw => hts0 w (List.mem_cons_of_mem _ hw)) lw_privs_ok
    have hml : c.maxLocals = 8 := B.maxLocals_eq (hts0 _ List.mem_cons_self)
    have X₀ : Stand p l e room_1 s m #[Value.ref b] below meth c s₁ [] 0 0 := Stand.of_body B
    have hh0 : s₁.heap = s.heap := by rw [B.state]; rfl
    have hsz : scr.slots.size = xs.length := by rw [← Array.length_toList, hlist, List.length_map]
    have hval : ∀ j : Nat, j < xs.length → scr.slots[j]? = some (.int (xs.getD j 0)) := fun j hj => by
      rw [← Array.getElem?_toList, hlist]
      simp [hj]
    have hbl : b < s.heap.size := (Array.getElem?_eq_some_iff.mp hcb).1
    have hX : va_X b xs.length (fun j => xs.getD j 0) s s.heap := ⟨scr, hcb, hof, hkn, hsz, hval⟩
    have K : W p l e room_1 s m #[Value.ref b] below meth c s₁.heap [] 0 0 (lw_Z below #[Value.ref b] s) (entryFrame m ([Value.ref b] : List Value).toArray 8) := by
      rw [hh0]
      exact whole_start l hl9 hbd ⟨B.exec, B.bytes, B.returns, hml, hown, hts, hX, hbl, B.notSynchronized, hgv⟩
    obtain ⟨t, a1, o, b1, b2, b3⟩ := K s₁ rfl X₀
    exact ⟨t, o, a1, b1, b2, b3⟩
theorem lw_pre_spec {args : Array Value} {s : State} (h : (Jvm.Cond.and given_1 narrow_1).before args s = true) (hr : rest_1_c.before args s = true) : ∃ (b : Addr) (xs : List Int32), lw_P b xs args s := by
  have hs := flat_of_before _ h
  have hq := flat_of_before _ hr
  have hc : (Cond.count 1).before args s = true := hs _ (by decide +kernel)
  have harr : (Cond.arrayOf (.arg 0) .int).before args s = true := hs _ (by decide +kernel)
  have hle : (Cond.le (.length (.arg 0)) (.int 5120)).before args s = true := hs _ (by decide +kernel)
  have hlen : (Cond.isInt (.length (.arg 0))).before args s = true := hq _ (by decide +kernel)
  have hall : (Cond.all (.arg 0) (.isInt (.elem (.arg 0) (.index 0)))).before args s = true := hq _ (by decide +kernel)
  obtain ⟨b, xs, hb, hx⟩ := State.ints_of_pre rfl harr hlen hall
  have hsm : xs.length < 2 ^ 31 := hx.choose_spec.2.2.2
  have hev : (Term.length (.arg 0)).eval args s none [] s = some (.int xs.length.toInt32) := hx.length_eval hb
  have hv := Cond.le_ints hev (show (Term.int 5120).eval args s none [] s = some (.int 5120) from rfl)
  have hd : xs.length.toInt32 ≤ 5120 := by
    simpa [Cond.before, Cond.holds, hv] using hle
  have hN : xs.length ≤ 5120 := (Int32.ofNat_le_ofNat hsm (by decide)).mp (show Int32.ofNat xs.length ≤ Int32.ofNat 5120 from hd)
  exact ⟨b, xs, Cond.one_arg hc (show args[0]? = some (.ref b) from hb), hx, hN, h⟩
theorem lw_comes (l : Launch) (hl9 : l.stackTraces = false) : Comes l x (Jvm.Cond.code x code maxLocals ret :: tables_1) room_1 (fun tb e args s => Calls_1 tb e args s ∧ rest_1 tb e args s ∧ Pre_1 tb e args s)
    (fun _ _ args s o t => lw_Q args s o t) := by
  intro p e ha hc hk s m args below hf hfit hheap happ hpre
  obtain ⟨b, xs, hP⟩ := lw_pre_spec hpre.2.2 hpre.2.1
  obtain ⟨k, o, h1, h2, h3, hQ⟩ := lw_walk l hl9 b xs p e ha hc hk s m args below hf ((Spec.applies_iff_loose hf).mp happ).1 hP trivial
  exact ⟨k, o, h1, h2, h3, hQ⟩
theorem lw_frame {s t : State} {o : Outcome} {args : Array Value} (h : Framed s o t [] 601024 7293034) :
    Framed s o t (fieldLocs frame_1_writes args s ++ arrayLocs frame_1_arrays args s ++ staticLocs frame_1_statics s) 601024 7293034 := h
theorem lw_limb (L : Cond) (hL : ∀ (args : Array Value) (s t : State), L.after args s (.returned (some (.int 1))) t = true) :
    ArmFor flags0 classFile x code maxLocals ret World_1 tables_1 room_1 Calls_1 rest_1 Pre_1
      (fun tb e a s o t => postC L tb e a s o t ∧ Framed s o t (fieldLocs frame_1_writes a s ++ arrayLocs frame_1_arrays a s ++ staticLocs frame_1_statics s) 601024 7293034) := by
  intro l hfl _ _ p e ha hc hk s m args below hf hfit hheap happ hpre
  obtain ⟨k, o, h1, h2, h3, rfl, hF⟩ := lw_comes l (by show (!l.flags.contains Jvm.noTraceFlag) = false; rw [hfl]; decide +kernel) p e ha hc hk s m args below hf hfit hheap happ hpre
  exact ⟨k, _, h1, h2, h3, hL args s _, lw_frame hF⟩
theorem i_vc : Claimed_1_1 ∧ Claimed_1_2 := ⟨lw_limb limb_1_1 (fun args s t => by simp [limb_1_1, Cond.after, Cond.holds, Cond.value]), lw_limb limb_1_2 (fun args s t => Cond.after_iff.mpr (by
  first | (rw [show limb_1_2 = Cond.eq .result (.int 1) from rfl, Cond.eq_ints (x := 1) (y := 1) rfl rfl]; simp; done) | (simp [limb_1_2, Cond.value, Term.eval]; done)))⟩
