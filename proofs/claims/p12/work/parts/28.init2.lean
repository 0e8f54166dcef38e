/-! the constructors of the ledger and of the class -/
def EL (cA : Nat → ClassId) (o j : Nat) : Nat → va_E := fun i => if i = 0 then .inr (1, [.ref (o + 1), .ref (o + 2), .int 0, .int 0, .int (-1)]) else if i = 1 then .inl (cA 4, 60, .inr (.inr (.inr (.inr (fun q => if q < j then some (o + (3 + 3 * q)) else none))))) else if i = 2 then .inl (cA 0, 61, .inl (fun _ => 0)) else EE cA (o + (3 + 3 * ((i - 3) / 3))) ((i - 3) % 3)
theorem EL_1 (cA : Nat → ClassId) (o : Nat) : (.inl (cA 4, 60, .inr (.inr (.inr (.inr (fun _ => none))))) : va_E) = EL cA o 0 1 := by simp [EL]
theorem EL_ne {cA : Nat → ClassId} {o j j' i : Nat} (h : i ≠ 1) : EL cA o j i = EL cA o j' i := by simp [EL, h]
theorem EL_e {cA : Nat → ClassId} {o j q r : Nat} (hr : r < 3) : EL cA o j (3 + 3 * q + r) = EE cA (o + (3 + 3 * q)) r := by
  unfold EL
  rw [if_neg (by omega), if_neg (by omega), if_neg (by omega), show (3 + 3 * q + r - 3) / 3 = q by omega, show (3 + 3 * q + r - 3) % 3 = r by omega]
theorem up_lt (f : Nat → Nat) (j : Nat) : va_up (fun q => if q < j then some (f q) else none) j (some (f j)) = fun q => if q < j + 1 then some (f q) else none := by
  funext q
  by_cases e : q = j
  · subst e; simp [va_up]
  · have : (q < j + 1) ↔ (q < j) := by omega
    simp [va_up, e, this]
theorem EL_step (cA : Nat → ClassId) (o j : Nat) : ∀ i, i < 3 + 3 * j + 3 → gu (gj (EL cA o j) (3 + 3 * j) (EE cA (o + (3 + 3 * j)))) 1 (.inl (cA 4, 60, .inr (.inr (.inr (.inr (va_up (fun q => if q < j then some (o + (3 + 3 * q)) else none) j (some (o + (3 + 3 * j))))))))) i = EL cA o (j + 1) i := by
  intro i hi
  by_cases e : i = 1
  · subst e
    rw [gu_s, up_lt (fun q => o + (3 + 3 * q))]
    rfl
  · rw [gu_ne e]
    by_cases h : i < 3 + 3 * j
    · rw [gj_lt h]; exact EL_ne e
    · obtain ⟨r, rfl⟩ : ∃ r, i = 3 + 3 * j + r := ⟨i - (3 + 3 * j), by omega⟩
      rw [gj_ge rfl, EL_e (by omega)]
def EX (cA : Nat → ClassId) (o j : Nat) : Nat → va_E := fun i => if i = 0 then .inr (4, [.ref (o + 1), .ref (o + 8), .int 0, .null, .null]) else if i < 8 then ET cA (o + 1) (i - 1) else if i = 8 then .inl (cA 3, 8, .inr (.inr (.inr (.inr (fun q => if q < j then some (o + (9 + 3 * q)) else none))))) else ES cA (o + 1) (o + (9 + 3 * ((i - 9) / 3))) ((i - 9) % 3)
theorem EX_8 (cA : Nat → ClassId) (o : Nat) : (.inl (cA 3, 8, .inr (.inr (.inr (.inr (fun _ => none))))) : va_E) = EX cA o 0 8 := by simp [EX]
theorem EX_ne {cA : Nat → ClassId} {o j j' i : Nat} (h : i ≠ 8) : EX cA o j i = EX cA o j' i := by simp [EX, h]
theorem EX_s {cA : Nat → ClassId} {o j q r : Nat} (hr : r < 3) : EX cA o j (9 + 3 * q + r) = ES cA (o + 1) (o + (9 + 3 * q)) r := by
  unfold EX
  rw [if_neg (by omega), if_neg (by omega), if_neg (by omega), show (9 + 3 * q + r - 9) / 3 = q by omega, show (9 + 3 * q + r - 9) % 3 = r by omega]
theorem EX_step (cA : Nat → ClassId) (o j : Nat) : ∀ i, i < 9 + 3 * j + 3 → gu (gj (EX cA o j) (9 + 3 * j) (ES cA (o + 1) (o + (9 + 3 * j)))) 8 (.inl (cA 3, 8, .inr (.inr (.inr (.inr (va_up (fun q => if q < j then some (o + (9 + 3 * q)) else none) j (some (o + (9 + 3 * j))))))))) i = EX cA o (j + 1) i := by
  intro i hi
  by_cases e : i = 8
  · subst e
    rw [gu_s, up_lt (fun q => o + (9 + 3 * q))]
    rfl
  · rw [gu_ne e]
    by_cases h : i < 9 + 3 * j
    · rw [gj_lt h]; exact EX_ne e
    · obtain ⟨r, rfl⟩ : ∃ r, i = 9 + 3 * j + r := ⟨i - (9 + 3 * j), by omega⟩
      rw [gj_ge rfl, EX_s (by omega)]
def m0X : wM := (fun _ _ => 0, fun _ _ => 0, fun i k => if k = 4 ∧ (i = 34 ∨ (9 ≤ i ∧ i < 33)) then -1 else 0)
abbrev EXf (cA : Nat → ClassId) (o : Nat) : Nat → va_E := fun i => SX o cA i (m0X.1 i) (m0X.2.1 i) (m0X.2.2 i)
theorem EXf_a (cA : Nat → ClassId) (o : Nat) : ∀ i, i < 33 → i ≠ 0 → EX cA o 8 i = EXf cA o i :=
  lt_s (lt_s (lt_s (lt_s (lt_s (lt_s (lt_s (lt_s (lt_s (lt_s (lt_s (lt_s (lt_s (lt_s (lt_s (lt_s (lt_s (lt_s (lt_s (lt_s (lt_s (lt_s (lt_s (lt_s (lt_s (lt_s (lt_s (lt_s (lt_s (lt_s (lt_s (lt_s (lt_s (fun j h => absurd h (Nat.not_lt_zero _)) (fun h => absurd rfl h)) (fun _ => rfl)) (fun _ => rfl)) (fun _ => rfl)) (fun _ => rfl)) (fun _ => rfl)) (fun _ => rfl)) (fun _ => rfl)) (fun _ => rfl)) (fun _ => rfl)) (fun _ => rfl)) (fun _ => rfl)) (fun _ => rfl)) (fun _ => rfl)) (fun _ => rfl)) (fun _ => rfl)) (fun _ => rfl)) (fun _ => rfl)) (fun _ => rfl)) (fun _ => rfl)) (fun _ => rfl)) (fun _ => rfl)) (fun _ => rfl)) (fun _ => rfl)) (fun _ => rfl)) (fun _ => rfl)) (fun _ => rfl)) (fun _ => rfl)) (fun _ => rfl)) (fun _ => rfl)) (fun _ => rfl)) (fun _ => rfl)) (fun _ => rfl)
theorem EXf_e (cA : Nat → ClassId) (o : Nat) : ∀ i, i < 183 → EL cA (o + 34) 60 i = EXf cA o (34 + i) := by
  intro i hi
  by_cases h : i < 3
  · rcases (show i = 0 ∨ i = 1 ∨ i = 2 by omega) with rfl | rfl | rfl
    · rfl
    · show (.inl (cA 4, 60, .inr (.inr (.inr (.inr (fun q => if q < 60 then some (o + 34 + (3 + 3 * q)) else none))))) : va_E) = .inl (cA 4, 60, .inr (.inr (.inr (.inr (fun j => if j < 60 then some (o + (37 + 3 * j)) else none)))))
      have e : (fun q : Nat => if q < 60 then some (o + 34 + (3 + 3 * q)) else none) = fun j : Nat => if j < 60 then some (o + (37 + 3 * j)) else none := by
        funext q
        rw [show o + 34 + (3 + 3 * q) = o + (37 + 3 * q) by omega]
      rw [e]
    · rfl
  · obtain ⟨q, r, hr, rfl⟩ : ∃ q r, r < 3 ∧ i = 3 + 3 * q + r := ⟨(i - 3) / 3, (i - 3) % 3, by omega, by omega⟩
    rw [EL_e hr]
    show _ = SX o cA (34 + (3 + 3 * q + r)) _ _ _
    have hq : q < 60 := by omega
    rcases (show r = 0 ∨ r = 1 ∨ r = 2 by omega) with rfl | rfl | rfl
    · rw [show 34 + (3 + 3 * q + 0) = 37 + 3 * q by omega, SX_e hq]
      simp only [EE, m0X, if_true]
      rw [show o + 34 + (3 + 3 * q) + 1 = o + (37 + 3 * q + 1) by omega, show o + 34 + (3 + 3 * q) + 2 = o + (37 + 3 * q + 2) by omega]
      simp
      omega
    · rw [show 34 + (3 + 3 * q + 1) = 37 + 3 * q + 1 by omega, SX_ea hq]; rfl
    · rw [show 34 + (3 + 3 * q + 2) = 37 + 3 * q + 2 by omega, SX_ec hq]; rfl
set_option maxHeartbeats 4000000 in
set_option maxRecDepth 100000 in
/-- L_init -/
theorem k_L_init (l : Launch) (D : va_G) (cA : Nat → ClassId) (o : Nat)  : Met l y_L_init (wm y_L_init c_L_init 2 (none)) { frames := 2, cells := 182, slots := 1261, locals := 50 } (va_Pc [.ref (o + 0)] (gB D cA o (.inr (1, dL)))) (va_Qv (fun _ : Unit => True) (gQ D cA o (EL cA o 60) 183) (fun q => o ≤ q)) 182 1261 (fun q => o ≤ q) := by
  refine Met.ofW (cc := c_L_init) (maxL := 2) (ret := (none)) (by decide) rfl ?_
  intro p e s m args below meth c s₁ B hml hv
  obtain ⟨rfl, hG, hK, hN⟩ := hv
  have hx := B.exec
  have hb := B.bytes
  have hr := B.returns
  have hts := atoms_spec (ws := wm y_L_init c_L_init 2 (none)) B.pre
  have hown : s.vm.findClass "ShopDesks$Ledger" = some m.cls := findClass_of_methodNamed B.named
  have hin : meth.name = "<init>" := (name_of_methodNamed B.named B.method).1
  have hA : ∀ q, o ≤ q → (fun q => o ≤ q) q := fun _ h => h
  have hS : va_S (fun q => o ≤ q) s.heap s.heap [] := va_S.rf
  have hl := lv_entry ([.ref (o + 0)]) (n := 2) (Nat.le_of_ble_eq_true rfl)
  rw [lg_entry_eq]
  generalize (lg_sl ([.ref (o + 0)]) ++ List.replicate (2 - (lg_sl ([.ref (o + 0)])).length) Slot.unset).toArray = ls at hl ⊢
  have hl : lv_has ls 2 [(0, .ref (o + 0))] := hl
  refine lv_aload_n hx hb d_L_init_0 rfl (lv_at hl 0 rfl) ?_
  refine W.objInit hx hb hown (hts _ (al aM_L_3)) (hts _ (al aI_obj)) (hts _ (al aK_obj)) rfl (by rw [hml]; exact hl.1) rfl d_L_init_1 (Nat.le_of_ble_eq_true rfl) (Nat.le_of_ble_eq_true rfl) ?_
  refine W.eq (g2 := F0 m 4 ls []) rfl ?_
  refine lv_aload_n hx hb d_L_init_4 rfl (lv_at hl 0 rfl) ?_
  refine lv_bipush (v := 60) hx hb d_L_init_5 (by decide) ?_
  refine g_anew (N' := 60) hx hb hown (hts _ (al aC_L_9)) hN.2.1 hK hG hS 4 rfl (by decide) (pk_cl 60) (Nat.le_of_ble_eq_true rfl) (Nat.le_of_ble_eq_true rfl) (Nat.le_of_ble_eq_true rfl) d_L_init_7 (fun H hG hS => ?_)
  refine g_putF (C := R_L) (T := F_L) (N := 5) (ci := 1) (v := .ref (o + 1)) (fs := [.null, .null, .int 0, .int 0, .int 0]) hx hb hts inw_L ft_L ft_L_ok fn_L hown hK hG hA hS 0 (by omega) rfl rfl 0 (by decide) (hts _ (al aF_L_11)) rfl hin rfl rfl rfl (Nat.le_of_ble_eq_true rfl) d_L_init_10 (fun H locs hG hS => ?_)
  refine lv_aload_n hx hb d_L_init_13 rfl (lv_at hl 0 rfl) ?_
  refine lv_bipush (v := 61) hx hb d_L_init_14 (by decide) ?_
  refine g_newa (atype := .int) (ty := .int) (N' := 61) (a0 := (61, .inl (fun _ => 0))) hx hb (hts _ (al aA_int)) rfl hK hG hS 0 rfl (fun h9 => h9) rfl (by decide) (pk_cl 61) (Nat.le_of_ble_eq_true rfl) (Nat.le_of_ble_eq_true rfl) (Nat.le_of_ble_eq_true rfl) d_L_init_16 (fun H hG hS => ?_)
  refine g_putF (C := R_L) (T := F_L) (N := 5) (ci := 1) (v := .ref (o + 2)) (fs := [.ref (o + 1), .null, .int 0, .int 0, .int 0]) hx hb hts inw_L ft_L ft_L_ok fn_L hown hK hG hA hS 0 (by omega) rfl rfl 1 (by decide) (hts _ (al aF_L_17)) rfl hin rfl rfl rfl (Nat.le_of_ble_eq_true rfl) d_L_init_18 (fun H locs hG hS => ?_)
  refine lv_aload_n hx hb d_L_init_21 rfl (lv_at hl 0 rfl) ?_
  refine lv_iconst (v := 0) hx hb d_L_init_22 (by decide) ?_
  refine g_put (C := R_L) (T := F_L) (N := 5) (ci := 1) (v := .int 0) (fs := [.ref (o + 1), .ref (o + 2), .int 0, .int 0, .int 0]) hx hb hts inw_L ft_L ft_L_ok fn_L hown hK hG hA hS 0 (by omega) rfl rfl 2 (by decide) (hts _ (al aF_L_21)) rfl rfl rfl (Nat.le_of_ble_eq_true rfl) d_L_init_23 (fun H locs hG hS => ?_)
  refine lv_aload_n hx hb d_L_init_26 rfl (lv_at hl 0 rfl) ?_
  refine lv_iconst (v := 0) hx hb d_L_init_27 (by decide) ?_
  refine g_put (C := R_L) (T := F_L) (N := 5) (ci := 1) (v := .int 0) (fs := [.ref (o + 1), .ref (o + 2), .int 0, .int 0, .int 0]) hx hb hts inw_L ft_L ft_L_ok fn_L hown hK hG hA hS 0 (by omega) rfl rfl 3 (by decide) (hts _ (al aF_L_25)) rfl rfl rfl (Nat.le_of_ble_eq_true rfl) d_L_init_28 (fun H locs hG hS => ?_)
  refine lv_aload_n hx hb d_L_init_31 rfl (lv_at hl 0 rfl) ?_
  refine lv_iconst (v := -1) hx hb d_L_init_32 (by decide) ?_
  refine g_put (C := R_L) (T := F_L) (N := 5) (ci := 1) (v := .int (-1)) (fs := [.ref (o + 1), .ref (o + 2), .int 0, .int 0, .int 0]) hx hb hts inw_L ft_L ft_L_ok fn_L hown hK hG hA hS 0 (by omega) rfl rfl 4 (by decide) (hts _ (al aF_L_28)) rfl rfl rfl (Nat.le_of_ble_eq_true rfl) d_L_init_33 (fun H locs hG hS => ?_)
  refine lv_iconst (v := 0) hx hb d_L_init_36 (by decide) ?_
  refine lv_istore_n (lv' := [(1, .int 0), (0, .ref (o + 0))]) hx hb d_L_init_37 rfl hl (by decide) rfl (fun ls hl => ?_)
  have lp38 : ∀ (fuel : Nat) (j : Nat), 60 - j < fuel → (j ≤ 60) → ∀ (H : Heap) (locs : List Loc), gP D cls_ (EL cA o j) o (3 + 3 * j) H → va_S (fun q => o ≤ q) s.heap H locs → ∀ (ls : Array Slot), lv_has ls 2 [(0, .ref (o + 0)), (1, .int (nI j))] → W p l e (headSpec (wm y_L_init c_L_init 2 (none)) { frames := 2, cells := 182, slots := 1261, locals := 50 }).room s m ([.ref (o + 0)] : List Value).toArray below meth c H locs (2 + 3 * j) (121 + 19 * j) (MQ below (va_Qv (fun _ : Unit => True) (gQ D cA o (EL cA o 60) 183) (fun q => o ≤ q)) ([.ref (o + 0)] : List Value).toArray s 182 1261 (fun q => o ≤ q)) (F0 m 38 ls []) := by
    intro fuel
    induction fuel with
    | zero => intro j hfu; exact absurd hfu (Nat.not_lt_zero _)
    | succ fuel ih =>
      intro j hfu hj H locs hG hS ls hl
      refine lv_iload_n hx hb d_L_init_38 rfl (lv_at hl 1 rfl) ?_
      refine lv_bipush (v := 60) hx hb d_L_init_39 (by decide) ?_
      refine lv_icmp_ge (tgt := 63) hx hb d_L_init_41 (by decide) (fun c_1 => ?_) (fun c_1 => ?_)
      · have hj9 : 60 ≤ j := i_le (a := 60) (by omega) (by omega) c_1
        obtain rfl : j = 60 := by omega
        have hG := hG
        have hG : gP D cls_ (EL cA o 60) o 183 H := hG
        generalize (EL cA o 60) = EE9 at hG ⊢
        refine W.widen (k := 182) (n := 1261) (by omega) (by omega) ?_
        exact W.vret hx hb hr (fun tz hz9 hW9 => ⟨⟨(), rfl, trivial, by rw [hz9]; exact hG, va_K.moved hW9.alike hK⟩, hS.F hz9⟩) hS.2.2 d_L_init_63
      · have hj9 : j < 60 := i_nle (a := 60) (by omega) (by omega) c_1
        refine lv_aload_n hx hb d_L_init_44 rfl (lv_at hl 0 rfl) ?_
        refine w_get (S := fun i _ _ _ => (EL cA o j) i) (M := w00) (C := R_L) (T := F_L) (N := 5) (ci := 1) (v := .ref (o + 1)) (fs := [.ref (o + 1), .ref (o + 2), .int 0, .int 0, .int (-1)]) hx hb hts inw_L hown hK (gP_w hG) 0 (by omega) rfl rfl 0 (by decide) (hts _ (al aF_L_11)) rfl d_L_init_45 ?_
        refine lv_iload_n hx hb d_L_init_48 rfl (lv_at hl 1 rfl) ?_
        refine g_new (C := R_E) (T := F_E) (N := 7) (ci := 0) (fs := dE) hx hb hts inw_E ft_E ft_E_ok hown (hts _ (al aC_L_9)) (hts _ (al aT_E)) (hts _ (al aN_E)) hK hG hS rfl df_E (show 2 + 3 * j + 1 ≤ 182 by omega) (show 121 + 19 * j + 7 ≤ 1261 by omega) d_L_init_49 (fun H hG hS => ?_)
        refine lv_dup hx hb d_L_init_52 rfl ?_
        refine g_callv (E := EL cA o j) (E1 := EE cA (o + (3 + 3 * j))) (k := 3) (va_runIN (As := []) (rest := [.ref (o + (3 + 3 * j)), .int (nI j), .ref (o + 1)]) ⟨hx, hb, hml, hown, hts⟩ (k_E_init l D cA (o + (3 + 3 * j)) ) (kIN hts 0 aK_E_init hN.2.2.2 aI_E_init aN_E rfl nm_E_init rfl rfl ⟨(Nat.le_of_ble_eq_true rfl), (Nat.le_of_ble_eq_true rfl)⟩) (gB_pre hK hN hG) rfl rfl hl.1 rfl (lv_room (Nat.le_of_ble_eq_true rfl)) d_L_init_53 ⟨show 2 + 3 * j + 1 + 2 ≤ 182 by omega, show 121 + 19 * j + 7 + 12 ≤ 1261 by omega⟩) hG hS hA (fun H locs hG hS => ?_)
        refine g_aast (cA := cA 4) (N := 60) (f := fun q => if q < j then some (o + (3 + 3 * q)) else none) (r := (R_E, F_E, 7)) (k := j) (vs := [.ref (o + (3 + 3 * j) + 1), .ref (o + (3 + 3 * j) + 2), .int 0, .int 0, .int 0, .int 0, .int 0]) hx hb hK hG hA hS 1 4 (3 + 3 * j) 0 (by omega) (by omega) ((gj_lt (by omega)).trans rfl) rfl ((gj_ge (k := 0) rfl).trans rfl) rfl (by omega) (by omega) d_L_init_56 (fun H locs hG hS => ?_)
        refine lv_iinc (v := nI (j + 1)) (lv' := [(1, .int (nI (j + 1))), (0, .ref (o + 0))]) hx hb d_L_init_57 hl (k := 1) rfl (w_inc j) (by decide) rfl (fun ls hl => ?_)
        refine lv_goto (tgt := 38) hx hb d_L_init_60 (by decide) ?_
        have hG := gP_eq (E' := EL cA o (j + 1)) hG (EL_step cA o j)
        have hW9 : W p l e (headSpec (wm y_L_init c_L_init 2 (none)) { frames := 2, cells := 182, slots := 1261, locals := 50 }).room s m ([.ref (o + 0)] : List Value).toArray below meth c H locs (2 + 3 * (j + 1)) (121 + 19 * (j + 1)) (MQ below (va_Qv (fun _ : Unit => True) (gQ D cA o (EL cA o 60) 183) (fun q => o ≤ q)) ([.ref (o + 0)] : List Value).toArray s 182 1261 (fun q => o ≤ q)) (F0 m 38 ls []) := ih (j + 1) (by omega) hj9 _ _ hG hS ls (lv_sub hl [1, 0] rfl)
        exact hW9
  have hG := gP_eq (E' := EL cA o 0) hG (lt_s (lt_s (lt_s (fun j h => absurd h (Nat.not_lt_zero _)) rfl) (EL_1 cA o)) rfl)
  exact lp38 ((60 - 0) + 1) 0 (Nat.lt_succ_self _) (Nat.zero_le _) _ _ hG hS ls (lv_sub hl [1, 0] rfl)
set_option maxHeartbeats 4000000 in
set_option maxRecDepth 100000 in
/-- X_init -/
theorem k_X_init (l : Launch) (D : va_G) (cA : Nat → ClassId) (o : Nat)  : Met l y_X_init (wm y_X_init c_X_init 2 (none)) { frames := 3, cells := 216, slots := 7937, locals := 90 } (va_Pc [.ref (o + 0)] (gB D cA o (.inr (4, dX)))) (va_Qv (fun _ : Unit => True) (gQ D cA o (EXf cA o) 217) (fun q => o ≤ q)) 216 7937 (fun q => o ≤ q) := by
  refine Met.ofW (cc := c_X_init) (maxL := 2) (ret := (none)) (by decide) rfl ?_
  intro p e s m args below meth c s₁ B hml hv
  obtain ⟨rfl, hG, hK, hN⟩ := hv
  have hx := B.exec
  have hb := B.bytes
  have hr := B.returns
  have hts := atoms_spec (ws := wm y_X_init c_X_init 2 (none)) B.pre
  have hown : s.vm.findClass "ShopDesks" = some m.cls := findClass_of_methodNamed B.named
  have hin : meth.name = "<init>" := (name_of_methodNamed B.named B.method).1
  have hA : ∀ q, o ≤ q → (fun q => o ≤ q) q := fun _ h => h
  have hS : va_S (fun q => o ≤ q) s.heap s.heap [] := va_S.rf
  have hl := lv_entry ([.ref (o + 0)]) (n := 2) (Nat.le_of_ble_eq_true rfl)
  rw [lg_entry_eq]
  generalize (lg_sl ([.ref (o + 0)]) ++ List.replicate (2 - (lg_sl ([.ref (o + 0)])).length) Slot.unset).toArray = ls at hl ⊢
  have hl : lv_has ls 2 [(0, .ref (o + 0))] := hl
  refine lv_aload_n hx hb d_X_init_0 rfl (lv_at hl 0 rfl) ?_
  refine W.objInit hx hb hown (hts _ (al aM_X_3)) (hts _ (al aI_obj)) (hts _ (al aK_obj)) rfl (by rw [hml]; exact hl.1) rfl d_X_init_1 (Nat.le_of_ble_eq_true rfl) (Nat.le_of_ble_eq_true rfl) ?_
  refine W.eq (g2 := F0 m 4 ls []) rfl ?_
  refine lv_aload_n hx hb d_X_init_4 rfl (lv_at hl 0 rfl) ?_
  refine g_new (C := R_T) (T := F_T) (N := 7) (ci := 3) (fs := dT) hx hb hts inw_T ft_T ft_T_ok hown (hts _ (al aC_X_9)) (hts _ (al aT_T)) (hts _ (al aN_T)) hK hG hS rfl df_T (Nat.le_of_ble_eq_true rfl) (Nat.le_of_ble_eq_true rfl) d_X_init_5 (fun H hG hS => ?_)
  refine lv_dup hx hb d_X_init_8 rfl ?_
  refine g_callv (E := fun _ => .inr (4, dX)) (E1 := ET cA (o + 1)) (k := 7) (va_runIN (As := []) (rest := [.ref (o + 1), .ref (o + 0)]) ⟨hx, hb, hml, hown, hts⟩ (k_T_init l D cA (o + 1) ) (kIN hts 0 aK_T_init hN.2.2.1 aI_T_init aN_T rfl nm_T_init rfl rfl ⟨(Nat.le_of_ble_eq_true rfl), (Nat.le_of_ble_eq_true rfl)⟩) (gB_pre hK hN hG) rfl rfl hl.1 rfl (lv_room (Nat.le_of_ble_eq_true rfl)) d_X_init_9 ⟨(Nat.le_of_ble_eq_true rfl), (Nat.le_of_ble_eq_true rfl)⟩) hG hS hA (fun H locs hG hS => ?_)
  refine g_putF (C := R_X) (T := F_X) (N := 5) (ci := 4) (v := .ref (o + 1)) (fs := [.null, .null, .int 0, .null, .null]) hx hb hts inw_X ft_X ft_X_ok fn_X hown hK hG hA hS 0 (by omega) rfl rfl 0 (by decide) (hts _ (al aF_X_12)) rfl hin rfl rfl rfl (Nat.le_of_ble_eq_true rfl) d_X_init_12 (fun H locs hG hS => ?_)
  refine lv_aload_n hx hb d_X_init_15 rfl (lv_at hl 0 rfl) ?_
  refine lv_bipush (v := 8) hx hb d_X_init_16 (by decide) ?_
  refine g_anew (N' := 8) hx hb hown (hts _ (al aC_X_16)) hN.1 hK hG hS 3 rfl (by decide) (pk_cl 8) (Nat.le_of_ble_eq_true rfl) (Nat.le_of_ble_eq_true rfl) (Nat.le_of_ble_eq_true rfl) d_X_init_18 (fun H hG hS => ?_)
  refine g_putF (C := R_X) (T := F_X) (N := 5) (ci := 4) (v := .ref (o + 8)) (fs := [.ref (o + 1), .null, .int 0, .null, .null]) hx hb hts inw_X ft_X ft_X_ok fn_X hown hK hG hA hS 0 (by omega) rfl rfl 1 (by decide) (hts _ (al aF_X_18)) rfl hin rfl rfl rfl (Nat.le_of_ble_eq_true rfl) d_X_init_21 (fun H locs hG hS => ?_)
  refine lv_iconst (v := 0) hx hb d_X_init_24 (by decide) ?_
  refine lv_istore_n (lv' := [(1, .int 0), (0, .ref (o + 0))]) hx hb d_X_init_25 rfl hl (by decide) rfl (fun ls hl => ?_)
  have lp26 : ∀ (fuel : Nat) (j : Nat), 8 - j < fuel → (j ≤ 8) → ∀ (H : Heap) (locs : List Loc), gP D cls_ (EX cA o j) o (9 + 3 * j) H → va_S (fun q => o ≤ q) s.heap H locs → ∀ (ls : Array Slot), lv_has ls 2 [(0, .ref (o + 0)), (1, .int (nI j))] → W p l e (headSpec (wm y_X_init c_X_init 2 (none)) { frames := 3, cells := 216, slots := 7937, locals := 90 }).room s m ([.ref (o + 0)] : List Value).toArray below meth c H locs (8 + 3 * j) (1815 + 605 * j) (MQ below (va_Qv (fun _ : Unit => True) (gQ D cA o (EXf cA o) 217) (fun q => o ≤ q)) ([.ref (o + 0)] : List Value).toArray s 216 7937 (fun q => o ≤ q)) (F0 m 26 ls []) := by
    intro fuel
    induction fuel with
    | zero => intro j hfu; exact absurd hfu (Nat.not_lt_zero _)
    | succ fuel ih =>
      intro j hfu hj H locs hG hS ls hl
      refine lv_iload_n hx hb d_X_init_26 rfl (lv_at hl 1 rfl) ?_
      refine lv_bipush (v := 8) hx hb d_X_init_27 (by decide) ?_
      refine lv_icmp_ge (tgt := 55) hx hb d_X_init_29 (by decide) (fun c_1 => ?_) (fun c_1 => ?_)
      · have hj9 : 8 ≤ j := i_le (a := 8) (by omega) (by omega) c_1
        obtain rfl : j = 8 := by omega
        have hG : gP D cls_ (EX cA o 8) o 33 H := hG
        refine W.widen (k := 32) (n := 6655) (Nat.le_of_ble_eq_true rfl) (Nat.le_of_ble_eq_true rfl) ?_
        refine lv_aload_n hx hb d_X_init_55 rfl (lv_at hl 0 rfl) ?_
        refine lv_iconst (v := 0) hx hb d_X_init_56 (by decide) ?_
        refine g_put (C := R_X) (T := F_X) (N := 5) (ci := 4) (v := .int 0) (fs := [.ref (o + 1), .ref (o + 8), .int 0, .null, .null]) hx hb hts inw_X ft_X ft_X_ok fn_X hown hK hG hA hS 0 (by omega) rfl rfl 2 (by decide) (hts _ (al aF_X_25)) rfl rfl rfl (Nat.le_of_ble_eq_true rfl) d_X_init_57 (fun H locs hG hS => ?_)
        refine lv_aload_n hx hb d_X_init_60 rfl (lv_at hl 0 rfl) ?_
        refine lv_bipush (v := 16) hx hb d_X_init_61 (by decide) ?_
        refine g_newa (atype := .boolean) (ty := .boolean) (N' := 16) (a0 := (16, .inl (fun _ => 0))) hx hb (hts _ (al aA_boolean)) rfl hK hG hS 2 rfl (fun h9 => h9) rfl (by decide) (pk_cl 16) (Nat.le_of_ble_eq_true rfl) (Nat.le_of_ble_eq_true rfl) (Nat.le_of_ble_eq_true rfl) d_X_init_63 (fun H hG hS => ?_)
        refine g_putF (C := R_X) (T := F_X) (N := 5) (ci := 4) (v := .ref (o + 33)) (fs := [.ref (o + 1), .ref (o + 8), .int 0, .null, .null]) hx hb hts inw_X ft_X ft_X_ok fn_X hown hK hG hA hS 0 (by omega) rfl rfl 3 (by decide) (hts _ (al aF_X_29)) rfl hin rfl rfl rfl (Nat.le_of_ble_eq_true rfl) d_X_init_65 (fun H locs hG hS => ?_)
        refine lv_aload_n hx hb d_X_init_68 rfl (lv_at hl 0 rfl) ?_
        refine g_new (C := R_L) (T := F_L) (N := 5) (ci := 1) (fs := dL) hx hb hts inw_L ft_L ft_L_ok hown (hts _ (al aC_X_33)) (hts _ (al aT_L)) (hts _ (al aN_L)) hK hG hS rfl df_L (Nat.le_of_ble_eq_true rfl) (Nat.le_of_ble_eq_true rfl) d_X_init_69 (fun H hG hS => ?_)
        refine lv_dup hx hb d_X_init_72 rfl ?_
        refine g_callv (E := gu (gu (gu (EX cA o 8) 0 (.inr (4, [.ref (o + 1), .ref (o + 8), .int 0, .null, .null]))) 33 (.inl (cA 2, 16, .inl (fun _ => 0)))) 0 (.inr (4, [.ref (o + 1), .ref (o + 8), .int 0, .ref (o + 33), .null]))) (E1 := EL cA (o + 34) 60) (k := 183) (va_runI (As := []) (rest := [.ref (o + 34), .ref (o + 0)]) ⟨hx, hb, hml, hown, hts⟩ (k_L_init l D cA (o + 34) ) (kI hts 0 aK_L_init aM_X_35 aI_L_init aN_L rfl nm_L_init rfl rfl ⟨(Nat.le_of_ble_eq_true rfl), (Nat.le_of_ble_eq_true rfl)⟩) (gB_pre hK hN hG) rfl rfl hl.1 rfl (lv_room (Nat.le_of_ble_eq_true rfl)) d_X_init_73 ⟨(Nat.le_of_ble_eq_true rfl), (Nat.le_of_ble_eq_true rfl)⟩) hG hS hA (fun H locs hG hS => ?_)
        refine g_putF (C := R_X) (T := F_X) (N := 5) (ci := 4) (v := .ref (o + 34)) (fs := [.ref (o + 1), .ref (o + 8), .int 0, .ref (o + 33), .null]) hx hb hts inw_X ft_X ft_X_ok fn_X hown hK hG hA hS 0 (by omega) ((gj_lt (by omega)).trans rfl) rfl 4 (by decide) (hts _ (al aF_X_36)) rfl hin rfl rfl rfl (Nat.le_of_ble_eq_true rfl) d_X_init_76 (fun H locs hG hS => ?_)
        have hG := gP_eq (E' := EXf cA o) hG (fun i hi => by
      by_cases e0 : i = 0
      · subst e0; rfl
      · rw [gu_ne e0]
        by_cases e1 : i < 34
        · rw [gj_lt e1, gu_ne e0]
          by_cases e2 : i = 33
          · subst e2; rfl
          · rw [gu_ne e2, gu_ne e0]; exact EXf_a cA o i (by omega) e0
        · obtain ⟨r, rfl⟩ : ∃ r, i = 34 + r := ⟨i - 34, by omega⟩
          rw [gj_ge rfl]; exact EXf_e cA o r (by omega))
        have hG : gP D cls_ (EXf cA o) o 217 H := hG
        generalize (EXf cA o) = EE9 at hG ⊢
        refine W.widen (k := 216) (n := 7937) (Nat.le_of_ble_eq_true rfl) (Nat.le_of_ble_eq_true rfl) ?_
        exact W.vret hx hb hr (fun tz hz9 hW9 => ⟨⟨(), rfl, trivial, by rw [hz9]; exact hG, va_K.moved hW9.alike hK⟩, hS.F hz9⟩) hS.2.2 d_X_init_79
      · have hj9 : j < 8 := i_nle (a := 8) (by omega) (by omega) c_1
        refine lv_aload_n hx hb d_X_init_32 rfl (lv_at hl 0 rfl) ?_
        refine w_get (S := fun i _ _ _ => (EX cA o j) i) (M := w00) (C := R_X) (T := F_X) (N := 5) (ci := 4) (v := .ref (o + 8)) (fs := [.ref (o + 1), .ref (o + 8), .int 0, .null, .null]) hx hb hts inw_X hown hK (gP_w hG) 0 (by omega) rfl rfl 1 (by decide) (hts _ (al aF_X_18)) rfl d_X_init_33 ?_
        refine lv_iload_n hx hb d_X_init_36 rfl (lv_at hl 1 rfl) ?_
        refine g_new (C := R_S) (T := F_S) (N := 5) (ci := 2) (fs := dS) hx hb hts inw_S ft_S ft_S_ok hown (hts _ (al aC_X_16)) (hts _ (al aT_S)) (hts _ (al aN_S)) hK hG hS rfl df_S (show 8 + 3 * j + 1 ≤ 216 by omega) (show 1815 + 605 * j + 5 ≤ 7937 by omega) d_X_init_37 (fun H hG hS => ?_)
        refine lv_dup hx hb d_X_init_40 rfl ?_
        refine lv_aload_n hx hb d_X_init_41 rfl (lv_at hl 0 rfl) ?_
        refine w_get (S := fun i _ _ _ => (gu (EX cA o j) (9 + 3 * j) (.inr (2, dS))) i) (M := w00) (C := R_X) (T := F_X) (N := 5) (ci := 4) (v := .ref (o + 1)) (fs := [.ref (o + 1), .ref (o + 8), .int 0, .null, .null]) hx hb hts inw_X hown hK (gP_w hG) 0 (by omega) ((gu_ne (by omega)).trans rfl) rfl 0 (by decide) (hts _ (al aF_X_12)) rfl d_X_init_42 ?_
        refine g_callv (E := EX cA o j) (E1 := ES cA (o + 1) (o + (9 + 3 * j))) (k := 3) (va_runI (As := [.ref (o + 1)]) (rest := [.ref (o + (9 + 3 * j)), .int (nI j), .ref (o + 8)]) ⟨hx, hb, hml, hown, hts⟩ (k_S_init l D cA (o + (9 + 3 * j)) (o + 1)) (kI hts 1 aK_S_init aM_X_22 aI_S_init aN_S rfl nm_S_init rfl rfl ⟨(Nat.le_of_ble_eq_true rfl), (Nat.le_of_ble_eq_true rfl)⟩) (gB_pre hK hN hG) rfl rfl hl.1 rfl (lv_room (Nat.le_of_ble_eq_true rfl)) d_X_init_45 ⟨show 8 + 3 * j + 1 + 2 ≤ 216 by omega, show 1815 + 605 * j + 5 + 600 ≤ 7937 by omega⟩) hG hS hA (fun H locs hG hS => ?_)
        refine g_aast (cA := cA 3) (N := 8) (f := fun q => if q < j then some (o + (9 + 3 * q)) else none) (r := (R_S, F_S, 5)) (k := j) (vs := [.ref (o + 1), .ref (o + (9 + 3 * j) + 1), .ref (o + (9 + 3 * j) + 2), .int 0, .int (-1)]) hx hb hK hG hA hS 8 3 (9 + 3 * j) 2 (by omega) (by omega) ((gj_lt (by omega)).trans rfl) rfl ((gj_ge (k := 0) rfl).trans rfl) rfl (by omega) (by omega) d_X_init_48 (fun H locs hG hS => ?_)
        refine lv_iinc (v := nI (j + 1)) (lv' := [(1, .int (nI (j + 1))), (0, .ref (o + 0))]) hx hb d_X_init_49 hl (k := 1) rfl (w_inc j) (by decide) rfl (fun ls hl => ?_)
        refine lv_goto (tgt := 26) hx hb d_X_init_52 (by decide) ?_
        have hG := gP_eq (E' := EX cA o (j + 1)) hG (EX_step cA o j)
        have hW9 : W p l e (headSpec (wm y_X_init c_X_init 2 (none)) { frames := 3, cells := 216, slots := 7937, locals := 90 }).room s m ([.ref (o + 0)] : List Value).toArray below meth c H locs (8 + 3 * (j + 1)) (1815 + 605 * (j + 1)) (MQ below (va_Qv (fun _ : Unit => True) (gQ D cA o (EXf cA o) 217) (fun q => o ≤ q)) ([.ref (o + 0)] : List Value).toArray s 216 7937 (fun q => o ≤ q)) (F0 m 26 ls []) := ih (j + 1) (by omega) hj9 _ _ hG hS ls (lv_sub hl [1, 0] rfl)
        exact hW9
  have hG := gP_eq (E' := EX cA o 0) hG (lt_s (lt_s (lt_s (lt_s (lt_s (lt_s (lt_s (lt_s (lt_s (fun j h => absurd h (Nat.not_lt_zero _)) rfl) rfl) rfl) rfl) rfl) rfl) rfl) rfl) (EX_8 cA o))
  exact lp26 ((8 - 0) + 1) 0 (Nat.lt_succ_self _) (Nat.zero_le _) _ _ hG hS ls (lv_sub hl [1, 0] rfl)

