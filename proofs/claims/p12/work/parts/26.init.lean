/-! the constructors -/
abbrev dE : List Value := [.null, .null, .int 0, .int 0, .int 0, .int 0, .int 0]
theorem df_E : ∀ j, j < 7 → defaultValue (ft_E j) = vp_V dE j := lt_s (lt_s (lt_s (lt_s (lt_s (lt_s (lt_s (p := fun j => defaultValue (ft_E j) = vp_V dE j) (fun j h => absurd h (Nat.not_lt_zero _)) rfl) rfl) rfl) rfl) rfl) rfl) rfl
abbrev dL : List Value := [.null, .null, .int 0, .int 0, .int 0]
theorem df_L : ∀ j, j < 5 → defaultValue (ft_L j) = vp_V dL j := lt_s (lt_s (lt_s (lt_s (lt_s (p := fun j => defaultValue (ft_L j) = vp_V dL j) (fun j h => absurd h (Nat.not_lt_zero _)) rfl) rfl) rfl) rfl) rfl
abbrev dS : List Value := [.null, .null, .null, .int 0, .int 0]
theorem df_S : ∀ j, j < 5 → defaultValue (ft_S j) = vp_V dS j := lt_s (lt_s (lt_s (lt_s (lt_s (p := fun j => defaultValue (ft_S j) = vp_V dS j) (fun j h => absurd h (Nat.not_lt_zero _)) rfl) rfl) rfl) rfl) rfl
abbrev dT : List Value := [.null, .null, .null, .null, .null, .null, .int 0]
theorem df_T : ∀ j, j < 7 → defaultValue (ft_T j) = vp_V dT j := lt_s (lt_s (lt_s (lt_s (lt_s (lt_s (lt_s (p := fun j => defaultValue (ft_T j) = vp_V dT j) (fun j h => absurd h (Nat.not_lt_zero _)) rfl) rfl) rfl) rfl) rfl) rfl) rfl
abbrev dX : List Value := [.null, .null, .int 0, .null, .null]
theorem df_X : ∀ j, j < 5 → defaultValue (ft_X j) = vp_V dX j := lt_s (lt_s (lt_s (lt_s (lt_s (p := fun j => defaultValue (ft_X j) = vp_V dX j) (fun j h => absurd h (Nat.not_lt_zero _)) rfl) rfl) rfl) rfl) rfl
abbrev dM : List Value := [.int 0, .int 0, .null, .null, .null, .null, .null, .null, .int 0, .null, .null, .null, .null, .int 0, .null, .null, .null, .null, .null, .null, .int 0, .int 0]
theorem df_M : ∀ j, j < 22 → defaultValue (ft_M j) = vp_V dM j := lt_s (lt_s (lt_s (lt_s (lt_s (lt_s (lt_s (lt_s (lt_s (lt_s (lt_s (lt_s (lt_s (lt_s (lt_s (lt_s (lt_s (lt_s (lt_s (lt_s (lt_s (lt_s (p := fun j => defaultValue (ft_M j) = vp_V dM j) (fun j h => absurd h (Nat.not_lt_zero _)) rfl) rfl) rfl) rfl) rfl) rfl) rfl) rfl) rfl) rfl) rfl) rfl) rfl) rfl) rfl) rfl) rfl) rfl) rfl) rfl) rfl) rfl
abbrev w00 : wM := (fun _ _ => 0, fun _ _ => 0, fun _ _ => 0)
def gN (U : State) : Prop := va_AO "ShopDesks$TellingSet" U ∧ va_AO "ShopDesks$Entry" U ∧ va_Nw (.methodLinkNest "ShopDesks" 11 y_T_init "ShopDesks") U ∧ va_Nw (.methodLinkNest "ShopDesks$Ledger" 31 y_E_init "ShopDesks") U
theorem gN_warm {s U : State} (hW : s.WarmedH U.vm) (h : gN s) : gN U := ⟨h.1.moved hW.alike, h.2.1.moved hW.alike, va_Nw.warmM hW h.2.2.1, va_Nw.warmM hW h.2.2.2⟩
def gB (D : va_G) (cA : Nat → ClassId) (o : Nat) (e0 : va_E) : State → Prop := fun U => gP D cls_ (fun _ => e0) o 1 U.heap ∧ va_K D cls_ (tys_ cA) U ∧ gN U
def gQ (D : va_G) (cA : Nat → ClassId) (o : Nat) (E : Nat → va_E) (n : Nat) : Unit → State → Prop := fun _ t => gP D cls_ E o n t.heap ∧ va_K D cls_ (tys_ cA) t
theorem gB_blind {av : List Value} {D : va_G} {cA : Nat → ClassId} {o : Nat} {e0 : va_E} : FrameBlind (va_Pc av (gB D cA o e0)) := fun a U g mk q => ⟨q.1, q.2.1, va_K.moved (u := U) (U := U.calling g mk a) (Vm.Alike.refl U.vm) q.2.2.1, q.2.2.2.1.moved (Vm.Alike.refl U.vm), q.2.2.2.2.1.moved (Vm.Alike.refl U.vm), va_Nw.same (u := U) rfl rfl q.2.2.2.2.2.1, va_Nw.same (u := U) rfl rfl q.2.2.2.2.2.2⟩
theorem gB_one {H : Heap} {D : va_G} {o n : Nat} {E : Nat → va_E} {e0 : va_E} (hG : gP D cls_ (gu E n e0) o (n + 1) H) : ∀ i, i < 1 → va_at D cls_ (o + n + i, (fun _ => e0) i) H := by
  intro i hi
  obtain rfl : i = 0 := by omega
  have h := hG.2 n (by omega)
  rw [gu_s] at h
  exact h
theorem gB_pre {av : List Value} {s : State} {H : Heap} {D : va_G} {cA : Nat → ClassId} {o n : Nat} {E : Nat → va_E} {e0 : va_E} (hK : va_K D cls_ (tys_ cA) s) (hN : gN s) (hG : gP D cls_ (gu E n e0) o (n + 1) H) : PreS s H (va_Pc av (gB D cA (o + n) e0)) av :=
  ⟨gB_blind, fun U hU hW => ⟨rfl, by rw [hU]; exact ⟨by rw [hG.1, Nat.add_assoc], gB_one hG⟩, va_K.moved hW.alike hK, gN_warm hW hN⟩⟩
section KI
variable {s : State} {args : Array Value} {R rm : Room} {ym y : MethodName} {cm bytes : ByteArray} {nm maxL idx mc ms : Nat} {rr : Option FieldType} {own host : String}
theorem kI (hts : ∀ w ∈ wm ym cm nm rr, w.before args s = true) (n : Nat) (hc : Cond.code y bytes maxL none ∈ aw) (hl : Cond.methodLink own idx y ∈ aw) (hi : Cond.instanceMethod y ∈ aw) (hn : Cond.initialized y.cls ∈ aw) (hy : y.name = "<init>") (hd : notMH y n) (hrc : rm.cells = mc) (hrs : rm.slots = ms) (hR : rm.frames + 1 ≤ R.frames ∧ 8 + (maxL + 11) + rm.locals ≤ R.locals) : CallB R s args own idx y bytes maxL none (wm y bytes maxL none) rm mc ms n ∧ y.name = "<init>" ∧ (Cond.instanceMethod y).before args s = true :=
  ⟨callB_of n hts (wm_good hc) rfl hrc hrs (hts _ (al hn)) (hts _ (al hl)) hd hR, hy, hts _ (al hi)⟩
theorem kIN (hts : ∀ w ∈ wm ym cm nm rr, w.before args s = true) (n : Nat) (hc : Cond.code y bytes maxL none ∈ aw) (hl : va_Nw (.methodLinkNest own idx y host) s) (hi : Cond.instanceMethod y ∈ aw) (hn : Cond.initialized y.cls ∈ aw) (hy : y.name = "<init>") (hd : notMH y n) (hrc : rm.cells = mc) (hrs : rm.slots = ms) (hR : rm.frames + 1 ≤ R.frames ∧ 8 + (maxL + 11) + rm.locals ≤ R.locals) : va_CN R s args own idx y host bytes maxL none (wm y bytes maxL none) rm mc ms n ∧ y.name = "<init>" ∧ (Cond.instanceMethod y).before args s = true :=
  ⟨va_cnB n hts (wm_good hc) rfl hrc hrs hl (hts _ (al hn)) hd hR, hy, hts _ (al hi)⟩
end KI
def EE (cA : Nat → ClassId) (o : Nat) : Nat → va_E := fun i => if i = 0 then .inr (0, [.ref (o + 1), .ref (o + 2), .int 0, .int 0, .int 0, .int 0, .int 0]) else if i = 1 then .inl (cA 0, 6, .inl (fun _ => 0)) else .inl (cA 1, 6, .inr (.inl (fun _ => 0)))
def ES (cA : Nat → ClassId) (t o : Nat) : Nat → va_E := fun i => if i = 0 then .inr (2, [.ref t, .ref (o + 1), .ref (o + 2), .int 0, .int (-1)]) else if i = 1 then .inl (cA 0, 300, .inl (fun _ => 0)) else .inl (cA 2, 300, .inl (fun _ => 0))
def ET (cA : Nat → ClassId) (o : Nat) : Nat → va_E := fun i => if i = 0 then .inr (3, [.ref (o + 1), .ref (o + 2), .ref (o + 3), .ref (o + 4), .ref (o + 5), .ref (o + 6), .int 0]) else if i = 1 ∨ i = 3 ∨ i = 4 then .inl (cA 0, 300, .inl (fun _ => 0)) else .inl (cA 1, 300, .inr (.inl (fun _ => 0)))
def m0M : wM := (fun _ _ => 0, fun _ _ => 0, fun _ k => if k = 21 then -1 else 0)
set_option maxHeartbeats 4000000 in
set_option maxRecDepth 100000 in
/-- E_init -/
theorem k_E_init (l : Launch) (D : va_G) (cA : Nat → ClassId) (o : Nat)  : Met l y_E_init (wm y_E_init c_E_init 1 (none)) { frames := 1, cells := 2, slots := 12, locals := 20 } (va_Pc [.ref (o + 0)] (gB D cA o (.inr (0, dE)))) (va_Qv (fun _ : Unit => True) (gQ D cA o (EE cA o) 3) (fun q => o ≤ q)) 2 12 (fun q => o ≤ q) := by
  refine Met.ofW (cc := c_E_init) (maxL := 1) (ret := (none)) (by decide) rfl ?_
  intro p e s m args below meth c s₁ B hml hv
  obtain ⟨rfl, hG, hK, hN⟩ := hv
  have hx := B.exec
  have hb := B.bytes
  have hr := B.returns
  have hts := atoms_spec (ws := wm y_E_init c_E_init 1 (none)) B.pre
  have hown : s.vm.findClass "ShopDesks$Entry" = some m.cls := findClass_of_methodNamed B.named
  have hin : meth.name = "<init>" := (name_of_methodNamed B.named B.method).1
  have hA : ∀ q, o ≤ q → (fun q => o ≤ q) q := fun _ h => h
  have hS : va_S (fun q => o ≤ q) s.heap s.heap [] := va_S.rf
  have hl := lv_entry ([.ref (o + 0)]) (n := 1) (Nat.le_of_ble_eq_true rfl)
  rw [lg_entry_eq]
  generalize (lg_sl ([.ref (o + 0)]) ++ List.replicate (1 - (lg_sl ([.ref (o + 0)])).length) Slot.unset).toArray = ls at hl ⊢
  have hl : lv_has ls 1 [(0, .ref (o + 0))] := hl
  refine lv_aload_n hx hb d_E_init_0 rfl (lv_at hl 0 rfl) ?_
  refine W.objInit hx hb hown (hts _ (al aM_E_3)) (hts _ (al aI_obj)) (hts _ (al aK_obj)) rfl (by rw [hml]; exact hl.1) rfl d_E_init_1 (Nat.le_of_ble_eq_true rfl) (Nat.le_of_ble_eq_true rfl) ?_
  refine W.eq (g2 := F0 m 4 ls []) rfl ?_
  refine lv_aload_n hx hb d_E_init_4 rfl (lv_at hl 0 rfl) ?_
  refine lv_bipush (v := 6) hx hb d_E_init_5 (by decide) ?_
  refine g_newa (atype := .int) (ty := .int) (N' := 6) (a0 := (6, .inl (fun _ => 0))) hx hb (hts _ (al aA_int)) rfl hK hG hS 0 rfl (fun h9 => h9) rfl (by decide) (pk_cl 6) (Nat.le_of_ble_eq_true rfl) (Nat.le_of_ble_eq_true rfl) (Nat.le_of_ble_eq_true rfl) d_E_init_7 (fun H hG hS => ?_)
  refine g_putF (C := R_E) (T := F_E) (N := 7) (ci := 0) (v := .ref (o + 1)) (fs := [.null, .null, .int 0, .int 0, .int 0, .int 0, .int 0]) hx hb hts inw_E ft_E ft_E_ok fn_E hown hK hG hA hS 0 (by omega) rfl rfl 0 (by decide) (hts _ (al aF_E_9)) rfl hin rfl rfl rfl (Nat.le_of_ble_eq_true rfl) d_E_init_9 (fun H locs hG hS => ?_)
  refine lv_aload_n hx hb d_E_init_12 rfl (lv_at hl 0 rfl) ?_
  refine lv_bipush (v := 6) hx hb d_E_init_13 (by decide) ?_
  refine g_newa (atype := .long) (ty := .long) (N' := 6) (a0 := (6, .inr (.inl (fun _ => 0)))) hx hb (hts _ (al aA_long)) rfl hK hG hS 1 rfl (fun h9 => h9) rfl (by decide) (pk_cl 6) (Nat.le_of_ble_eq_true rfl) (Nat.le_of_ble_eq_true rfl) (Nat.le_of_ble_eq_true rfl) d_E_init_15 (fun H hG hS => ?_)
  refine g_putF (C := R_E) (T := F_E) (N := 7) (ci := 0) (v := .ref (o + 2)) (fs := [.ref (o + 1), .null, .int 0, .int 0, .int 0, .int 0, .int 0]) hx hb hts inw_E ft_E ft_E_ok fn_E hown hK hG hA hS 0 (by omega) rfl rfl 1 (by decide) (hts _ (al aF_E_15)) rfl hin rfl rfl rfl (Nat.le_of_ble_eq_true rfl) d_E_init_17 (fun H locs hG hS => ?_)
  refine lv_aload_n hx hb d_E_init_20 rfl (lv_at hl 0 rfl) ?_
  refine lv_iconst (v := 0) hx hb d_E_init_21 (by decide) ?_
  refine g_put (C := R_E) (T := F_E) (N := 7) (ci := 0) (v := .int 0) (fs := [.ref (o + 1), .ref (o + 2), .int 0, .int 0, .int 0, .int 0, .int 0]) hx hb hts inw_E ft_E ft_E_ok fn_E hown hK hG hA hS 0 (by omega) rfl rfl 2 (by decide) (hts _ (al aF_E_19)) rfl rfl rfl (Nat.le_of_ble_eq_true rfl) d_E_init_22 (fun H locs hG hS => ?_)
  refine lv_aload_n hx hb d_E_init_25 rfl (lv_at hl 0 rfl) ?_
  refine lv_iconst (v := 0) hx hb d_E_init_26 (by decide) ?_
  refine g_put (C := R_E) (T := F_E) (N := 7) (ci := 0) (v := .int 0) (fs := [.ref (o + 1), .ref (o + 2), .int 0, .int 0, .int 0, .int 0, .int 0]) hx hb hts inw_E ft_E ft_E_ok fn_E hown hK hG hA hS 0 (by omega) rfl rfl 3 (by decide) (hts _ (al aF_E_23)) rfl rfl rfl (Nat.le_of_ble_eq_true rfl) d_E_init_27 (fun H locs hG hS => ?_)
  refine lv_aload_n hx hb d_E_init_30 rfl (lv_at hl 0 rfl) ?_
  refine lv_iconst (v := 0) hx hb d_E_init_31 (by decide) ?_
  refine g_put (C := R_E) (T := F_E) (N := 7) (ci := 0) (v := .int 0) (fs := [.ref (o + 1), .ref (o + 2), .int 0, .int 0, .int 0, .int 0, .int 0]) hx hb hts inw_E ft_E ft_E_ok fn_E hown hK hG hA hS 0 (by omega) rfl rfl 4 (by decide) (hts _ (al aF_E_26)) rfl rfl rfl (Nat.le_of_ble_eq_true rfl) d_E_init_32 (fun H locs hG hS => ?_)
  refine lv_aload_n hx hb d_E_init_35 rfl (lv_at hl 0 rfl) ?_
  refine lv_iconst (v := 0) hx hb d_E_init_36 (by decide) ?_
  refine g_put (C := R_E) (T := F_E) (N := 7) (ci := 0) (v := .int 0) (fs := [.ref (o + 1), .ref (o + 2), .int 0, .int 0, .int 0, .int 0, .int 0]) hx hb hts inw_E ft_E ft_E_ok fn_E hown hK hG hA hS 0 (by omega) rfl rfl 5 (by decide) (hts _ (al aF_E_29)) rfl rfl rfl (Nat.le_of_ble_eq_true rfl) d_E_init_37 (fun H locs hG hS => ?_)
  refine lv_aload_n hx hb d_E_init_40 rfl (lv_at hl 0 rfl) ?_
  refine lv_iconst (v := 0) hx hb d_E_init_41 (by decide) ?_
  refine g_put (C := R_E) (T := F_E) (N := 7) (ci := 0) (v := .int 0) (fs := [.ref (o + 1), .ref (o + 2), .int 0, .int 0, .int 0, .int 0, .int 0]) hx hb hts inw_E ft_E ft_E_ok fn_E hown hK hG hA hS 0 (by omega) rfl rfl 6 (by decide) (hts _ (al aF_E_33)) rfl rfl rfl (Nat.le_of_ble_eq_true rfl) d_E_init_42 (fun H locs hG hS => ?_)
  have hG := gP_eq (E' := EE cA o) hG (lt_s (lt_s (lt_s (fun j h => absurd h (Nat.not_lt_zero _)) rfl) rfl) rfl)
  have hG : gP D cls_ (EE cA o) o 3 H := hG
  generalize (EE cA o) = EE9 at hG ⊢
  refine W.widen (k := 2) (n := 12) (Nat.le_of_ble_eq_true rfl) (Nat.le_of_ble_eq_true rfl) ?_
  exact W.vret hx hb hr (fun tz hz9 hW9 => ⟨⟨(), rfl, trivial, by rw [hz9]; exact hG, va_K.moved hW9.alike hK⟩, hS.F hz9⟩) hS.2.2 d_E_init_45
set_option maxHeartbeats 4000000 in
set_option maxRecDepth 100000 in
/-- T_init -/
theorem k_T_init (l : Launch) (D : va_G) (cA : Nat → ClassId) (o : Nat)  : Met l y_T_init (wm y_T_init c_T_init 1 (none)) { frames := 1, cells := 6, slots := 1800, locals := 20 } (va_Pc [.ref (o + 0)] (gB D cA o (.inr (3, dT)))) (va_Qv (fun _ : Unit => True) (gQ D cA o (ET cA o) 7) (fun q => o ≤ q)) 6 1800 (fun q => o ≤ q) := by
  refine Met.ofW (cc := c_T_init) (maxL := 1) (ret := (none)) (by decide) rfl ?_
  intro p e s m args below meth c s₁ B hml hv
  obtain ⟨rfl, hG, hK, hN⟩ := hv
  have hx := B.exec
  have hb := B.bytes
  have hr := B.returns
  have hts := atoms_spec (ws := wm y_T_init c_T_init 1 (none)) B.pre
  have hown : s.vm.findClass "ShopDesks$Tellings" = some m.cls := findClass_of_methodNamed B.named
  have hin : meth.name = "<init>" := (name_of_methodNamed B.named B.method).1
  have hA : ∀ q, o ≤ q → (fun q => o ≤ q) q := fun _ h => h
  have hS : va_S (fun q => o ≤ q) s.heap s.heap [] := va_S.rf
  have hl := lv_entry ([.ref (o + 0)]) (n := 1) (Nat.le_of_ble_eq_true rfl)
  rw [lg_entry_eq]
  generalize (lg_sl ([.ref (o + 0)]) ++ List.replicate (1 - (lg_sl ([.ref (o + 0)])).length) Slot.unset).toArray = ls at hl ⊢
  have hl : lv_has ls 1 [(0, .ref (o + 0))] := hl
  refine lv_aload_n hx hb d_T_init_0 rfl (lv_at hl 0 rfl) ?_
  refine W.objInit hx hb hown (hts _ (al aM_T_3)) (hts _ (al aI_obj)) (hts _ (al aK_obj)) rfl (by rw [hml]; exact hl.1) rfl d_T_init_1 (Nat.le_of_ble_eq_true rfl) (Nat.le_of_ble_eq_true rfl) ?_
  refine W.eq (g2 := F0 m 4 ls []) rfl ?_
  refine lv_aload_n hx hb d_T_init_4 rfl (lv_at hl 0 rfl) ?_
  refine lv_sipush (v := 300) hx hb d_T_init_5 (by decide) ?_
  refine g_newa (atype := .int) (ty := .int) (N' := 300) (a0 := (300, .inl (fun _ => 0))) hx hb (hts _ (al aA_int)) rfl hK hG hS 0 rfl (fun h9 => h9) rfl (by decide) (pk_cl 300) (Nat.le_of_ble_eq_true rfl) (Nat.le_of_ble_eq_true rfl) (Nat.le_of_ble_eq_true rfl) d_T_init_8 (fun H hG hS => ?_)
  refine g_putF (C := R_T) (T := F_T) (N := 7) (ci := 3) (v := .ref (o + 1)) (fs := [.null, .null, .null, .null, .null, .null, .int 0]) hx hb hts inw_T ft_T ft_T_ok fn_T hown hK hG hA hS 0 (by omega) rfl rfl 0 (by decide) (hts _ (al aF_T_9)) rfl hin rfl rfl rfl (Nat.le_of_ble_eq_true rfl) d_T_init_10 (fun H locs hG hS => ?_)
  refine lv_aload_n hx hb d_T_init_13 rfl (lv_at hl 0 rfl) ?_
  refine lv_sipush (v := 300) hx hb d_T_init_14 (by decide) ?_
  refine g_newa (atype := .long) (ty := .long) (N' := 300) (a0 := (300, .inr (.inl (fun _ => 0)))) hx hb (hts _ (al aA_long)) rfl hK hG hS 1 rfl (fun h9 => h9) rfl (by decide) (pk_cl 300) (Nat.le_of_ble_eq_true rfl) (Nat.le_of_ble_eq_true rfl) (Nat.le_of_ble_eq_true rfl) d_T_init_17 (fun H hG hS => ?_)
  refine g_putF (C := R_T) (T := F_T) (N := 7) (ci := 3) (v := .ref (o + 2)) (fs := [.ref (o + 1), .null, .null, .null, .null, .null, .int 0]) hx hb hts inw_T ft_T ft_T_ok fn_T hown hK hG hA hS 0 (by omega) rfl rfl 1 (by decide) (hts _ (al aF_T_15)) rfl hin rfl rfl rfl (Nat.le_of_ble_eq_true rfl) d_T_init_19 (fun H locs hG hS => ?_)
  refine lv_aload_n hx hb d_T_init_22 rfl (lv_at hl 0 rfl) ?_
  refine lv_sipush (v := 300) hx hb d_T_init_23 (by decide) ?_
  refine g_newa (atype := .int) (ty := .int) (N' := 300) (a0 := (300, .inl (fun _ => 0))) hx hb (hts _ (al aA_int)) rfl hK hG hS 0 rfl (fun h9 => h9) rfl (by decide) (pk_cl 300) (Nat.le_of_ble_eq_true rfl) (Nat.le_of_ble_eq_true rfl) (Nat.le_of_ble_eq_true rfl) d_T_init_26 (fun H hG hS => ?_)
  refine g_putF (C := R_T) (T := F_T) (N := 7) (ci := 3) (v := .ref (o + 3)) (fs := [.ref (o + 1), .ref (o + 2), .null, .null, .null, .null, .int 0]) hx hb hts inw_T ft_T ft_T_ok fn_T hown hK hG hA hS 0 (by omega) rfl rfl 2 (by decide) (hts _ (al aF_T_19)) rfl hin rfl rfl rfl (Nat.le_of_ble_eq_true rfl) d_T_init_28 (fun H locs hG hS => ?_)
  refine lv_aload_n hx hb d_T_init_31 rfl (lv_at hl 0 rfl) ?_
  refine lv_sipush (v := 300) hx hb d_T_init_32 (by decide) ?_
  refine g_newa (atype := .int) (ty := .int) (N' := 300) (a0 := (300, .inl (fun _ => 0))) hx hb (hts _ (al aA_int)) rfl hK hG hS 0 rfl (fun h9 => h9) rfl (by decide) (pk_cl 300) (Nat.le_of_ble_eq_true rfl) (Nat.le_of_ble_eq_true rfl) (Nat.le_of_ble_eq_true rfl) d_T_init_35 (fun H hG hS => ?_)
  refine g_putF (C := R_T) (T := F_T) (N := 7) (ci := 3) (v := .ref (o + 4)) (fs := [.ref (o + 1), .ref (o + 2), .ref (o + 3), .null, .null, .null, .int 0]) hx hb hts inw_T ft_T ft_T_ok fn_T hown hK hG hA hS 0 (by omega) rfl rfl 3 (by decide) (hts _ (al aF_T_22)) rfl hin rfl rfl rfl (Nat.le_of_ble_eq_true rfl) d_T_init_37 (fun H locs hG hS => ?_)
  refine lv_aload_n hx hb d_T_init_40 rfl (lv_at hl 0 rfl) ?_
  refine lv_sipush (v := 300) hx hb d_T_init_41 (by decide) ?_
  refine g_newa (atype := .long) (ty := .long) (N' := 300) (a0 := (300, .inr (.inl (fun _ => 0)))) hx hb (hts _ (al aA_long)) rfl hK hG hS 1 rfl (fun h9 => h9) rfl (by decide) (pk_cl 300) (Nat.le_of_ble_eq_true rfl) (Nat.le_of_ble_eq_true rfl) (Nat.le_of_ble_eq_true rfl) d_T_init_44 (fun H hG hS => ?_)
  refine g_putF (C := R_T) (T := F_T) (N := 7) (ci := 3) (v := .ref (o + 5)) (fs := [.ref (o + 1), .ref (o + 2), .ref (o + 3), .ref (o + 4), .null, .null, .int 0]) hx hb hts inw_T ft_T ft_T_ok fn_T hown hK hG hA hS 0 (by omega) rfl rfl 4 (by decide) (hts _ (al aF_T_25)) rfl hin rfl rfl rfl (Nat.le_of_ble_eq_true rfl) d_T_init_46 (fun H locs hG hS => ?_)
  refine lv_aload_n hx hb d_T_init_49 rfl (lv_at hl 0 rfl) ?_
  refine lv_sipush (v := 300) hx hb d_T_init_50 (by decide) ?_
  refine g_newa (atype := .long) (ty := .long) (N' := 300) (a0 := (300, .inr (.inl (fun _ => 0)))) hx hb (hts _ (al aA_long)) rfl hK hG hS 1 rfl (fun h9 => h9) rfl (by decide) (pk_cl 300) (Nat.le_of_ble_eq_true rfl) (Nat.le_of_ble_eq_true rfl) (Nat.le_of_ble_eq_true rfl) d_T_init_53 (fun H hG hS => ?_)
  refine g_putF (C := R_T) (T := F_T) (N := 7) (ci := 3) (v := .ref (o + 6)) (fs := [.ref (o + 1), .ref (o + 2), .ref (o + 3), .ref (o + 4), .ref (o + 5), .null, .int 0]) hx hb hts inw_T ft_T ft_T_ok fn_T hown hK hG hA hS 0 (by omega) rfl rfl 5 (by decide) (hts _ (al aF_T_28)) rfl hin rfl rfl rfl (Nat.le_of_ble_eq_true rfl) d_T_init_55 (fun H locs hG hS => ?_)
  refine lv_aload_n hx hb d_T_init_58 rfl (lv_at hl 0 rfl) ?_
  refine lv_iconst (v := 0) hx hb d_T_init_59 (by decide) ?_
  refine g_put (C := R_T) (T := F_T) (N := 7) (ci := 3) (v := .int 0) (fs := [.ref (o + 1), .ref (o + 2), .ref (o + 3), .ref (o + 4), .ref (o + 5), .ref (o + 6), .int 0]) hx hb hts inw_T ft_T ft_T_ok fn_T hown hK hG hA hS 0 (by omega) rfl rfl 6 (by decide) (hts _ (al aF_T_31)) rfl rfl rfl (Nat.le_of_ble_eq_true rfl) d_T_init_60 (fun H locs hG hS => ?_)
  have hG := gP_eq (E' := ET cA o) hG (lt_s (lt_s (lt_s (lt_s (lt_s (lt_s (lt_s (fun j h => absurd h (Nat.not_lt_zero _)) rfl) rfl) rfl) rfl) rfl) rfl) rfl)
  have hG : gP D cls_ (ET cA o) o 7 H := hG
  generalize (ET cA o) = EE9 at hG ⊢
  refine W.widen (k := 6) (n := 1800) (Nat.le_of_ble_eq_true rfl) (Nat.le_of_ble_eq_true rfl) ?_
  exact W.vret hx hb hr (fun tz hz9 hW9 => ⟨⟨(), rfl, trivial, by rw [hz9]; exact hG, va_K.moved hW9.alike hK⟩, hS.F hz9⟩) hS.2.2 d_T_init_63
set_option maxHeartbeats 4000000 in
set_option maxRecDepth 100000 in
/-- S_init -/
theorem k_S_init (l : Launch) (D : va_G) (cA : Nat → ClassId) (o : Nat) (t : Nat) : Met l y_S_init (wm y_S_init c_S_init 2 (none)) { frames := 1, cells := 2, slots := 600, locals := 20 } (va_Pc [.ref (o + 0), .ref t] (gB D cA o (.inr (2, dS)))) (va_Qv (fun _ : Unit => True) (gQ D cA o (ES cA t o) 3) (fun q => o ≤ q)) 2 600 (fun q => o ≤ q) := by
  refine Met.ofW (cc := c_S_init) (maxL := 2) (ret := (none)) (by decide) rfl ?_
  intro p e s m args below meth c s₁ B hml hv
  obtain ⟨rfl, hG, hK, hN⟩ := hv
  have hx := B.exec
  have hb := B.bytes
  have hr := B.returns
  have hts := atoms_spec (ws := wm y_S_init c_S_init 2 (none)) B.pre
  have hown : s.vm.findClass "ShopDesks$TellingSet" = some m.cls := findClass_of_methodNamed B.named
  have hin : meth.name = "<init>" := (name_of_methodNamed B.named B.method).1
  have hA : ∀ q, o ≤ q → (fun q => o ≤ q) q := fun _ h => h
  have hS : va_S (fun q => o ≤ q) s.heap s.heap [] := va_S.rf
  have hl := lv_entry ([.ref (o + 0), .ref t]) (n := 2) (Nat.le_of_ble_eq_true rfl)
  rw [lg_entry_eq]
  generalize (lg_sl ([.ref (o + 0), .ref t]) ++ List.replicate (2 - (lg_sl ([.ref (o + 0), .ref t])).length) Slot.unset).toArray = ls at hl ⊢
  have hl : lv_has ls 2 [(0, .ref (o + 0)), (1, .ref t)] := hl
  refine lv_aload_n hx hb d_S_init_0 rfl (lv_at hl 0 rfl) ?_
  refine W.objInit hx hb hown (hts _ (al aM_S_3)) (hts _ (al aI_obj)) (hts _ (al aK_obj)) rfl (by rw [hml]; exact hl.1) rfl d_S_init_1 (Nat.le_of_ble_eq_true rfl) (Nat.le_of_ble_eq_true rfl) ?_
  refine W.eq (g2 := F0 m 4 ls []) rfl ?_
  refine lv_aload_n hx hb d_S_init_4 rfl (lv_at hl 0 rfl) ?_
  refine lv_sipush (v := 300) hx hb d_S_init_5 (by decide) ?_
  refine g_newa (atype := .int) (ty := .int) (N' := 300) (a0 := (300, .inl (fun _ => 0))) hx hb (hts _ (al aA_int)) rfl hK hG hS 0 rfl (fun h9 => h9) rfl (by decide) (pk_cl 300) (Nat.le_of_ble_eq_true rfl) (Nat.le_of_ble_eq_true rfl) (Nat.le_of_ble_eq_true rfl) d_S_init_8 (fun H hG hS => ?_)
  refine g_putF (C := R_S) (T := F_S) (N := 5) (ci := 2) (v := .ref (o + 1)) (fs := [.null, .null, .null, .int 0, .int 0]) hx hb hts inw_S ft_S ft_S_ok fn_S hown hK hG hA hS 0 (by omega) rfl rfl 1 (by decide) (hts _ (al aF_S_9)) rfl hin rfl rfl rfl (Nat.le_of_ble_eq_true rfl) d_S_init_10 (fun H locs hG hS => ?_)
  refine lv_aload_n hx hb d_S_init_13 rfl (lv_at hl 0 rfl) ?_
  refine lv_sipush (v := 300) hx hb d_S_init_14 (by decide) ?_
  refine g_newa (atype := .boolean) (ty := .boolean) (N' := 300) (a0 := (300, .inl (fun _ => 0))) hx hb (hts _ (al aA_boolean)) rfl hK hG hS 2 rfl (fun h9 => h9) rfl (by decide) (pk_cl 300) (Nat.le_of_ble_eq_true rfl) (Nat.le_of_ble_eq_true rfl) (Nat.le_of_ble_eq_true rfl) d_S_init_17 (fun H hG hS => ?_)
  refine g_putF (C := R_S) (T := F_S) (N := 5) (ci := 2) (v := .ref (o + 2)) (fs := [.null, .ref (o + 1), .null, .int 0, .int 0]) hx hb hts inw_S ft_S ft_S_ok fn_S hown hK hG hA hS 0 (by omega) rfl rfl 2 (by decide) (hts _ (al aF_S_15)) rfl hin rfl rfl rfl (Nat.le_of_ble_eq_true rfl) d_S_init_19 (fun H locs hG hS => ?_)
  refine lv_aload_n hx hb d_S_init_22 rfl (lv_at hl 0 rfl) ?_
  refine lv_iconst (v := 0) hx hb d_S_init_23 (by decide) ?_
  refine g_put (C := R_S) (T := F_S) (N := 5) (ci := 2) (v := .int 0) (fs := [.null, .ref (o + 1), .ref (o + 2), .int 0, .int 0]) hx hb hts inw_S ft_S ft_S_ok fn_S hown hK hG hA hS 0 (by omega) rfl rfl 3 (by decide) (hts _ (al aF_S_19)) rfl rfl rfl (Nat.le_of_ble_eq_true rfl) d_S_init_24 (fun H locs hG hS => ?_)
  refine lv_aload_n hx hb d_S_init_27 rfl (lv_at hl 0 rfl) ?_
  refine lv_iconst (v := -1) hx hb d_S_init_28 (by decide) ?_
  refine g_put (C := R_S) (T := F_S) (N := 5) (ci := 2) (v := .int (-1)) (fs := [.null, .ref (o + 1), .ref (o + 2), .int 0, .int 0]) hx hb hts inw_S ft_S ft_S_ok fn_S hown hK hG hA hS 0 (by omega) rfl rfl 4 (by decide) (hts _ (al aF_S_23)) rfl rfl rfl (Nat.le_of_ble_eq_true rfl) d_S_init_29 (fun H locs hG hS => ?_)
  refine lv_aload_n hx hb d_S_init_32 rfl (lv_at hl 0 rfl) ?_
  refine lv_aload_n hx hb d_S_init_33 rfl (lv_at hl 1 rfl) ?_
  refine g_putF (C := R_S) (T := F_S) (N := 5) (ci := 2) (v := .ref t) (fs := [.null, .ref (o + 1), .ref (o + 2), .int 0, .int (-1)]) hx hb hts inw_S ft_S ft_S_ok fn_S hown hK hG hA hS 0 (by omega) rfl rfl 0 (by decide) (hts _ (al aF_S_26)) rfl hin rfl rfl rfl (Nat.le_of_ble_eq_true rfl) d_S_init_34 (fun H locs hG hS => ?_)
  have hG := gP_eq (E' := ES cA t o) hG (lt_s (lt_s (lt_s (fun j h => absurd h (Nat.not_lt_zero _)) rfl) rfl) rfl)
  have hG : gP D cls_ (ES cA t o) o 3 H := hG
  generalize (ES cA t o) = EE9 at hG ⊢
  refine W.widen (k := 2) (n := 600) (Nat.le_of_ble_eq_true rfl) (Nat.le_of_ble_eq_true rfl) ?_
  exact W.vret hx hb hr (fun tz hz9 hW9 => ⟨⟨(), rfl, trivial, by rw [hz9]; exact hG, va_K.moved hW9.alike hK⟩, hS.F hz9⟩) hS.2.2 d_S_init_37

