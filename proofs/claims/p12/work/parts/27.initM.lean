/-! the reference's constructor -/
set_option maxHeartbeats 4000000 in
set_option maxRecDepth 100000 in
/-- M_init -/
theorem k_M_init (l : Launch) (D : va_G) (cA : Nat → ClassId) (o : Nat)  : Met l y_M_init (wm y_M_init c_M_init 1 (none)) { frames := 1, cells := 16, slots := 5192, locals := 20 } (va_Pc [.ref (o + 0)] (gB D cA o (.inr (5, dM)))) (va_Qv (fun _ : Unit => True) (gQ D cA o (fun i => SM o cA i (m0M.1 i) (m0M.2.1 i) (m0M.2.2 i)) 17) (fun q => o ≤ q)) 16 5192 (fun q => o ≤ q) := by
  refine Met.ofW (cc := c_M_init) (maxL := 1) (ret := (none)) (by decide) rfl ?_
  intro p e s m args below meth c s₁ B hml hv
  obtain ⟨rfl, hG, hK, hN⟩ := hv
  have hx := B.exec
  have hb := B.bytes
  have hr := B.returns
  have hts := atoms_spec (ws := wm y_M_init c_M_init 1 (none)) B.pre
  have hown : s.vm.findClass "ShopDesksModel" = some m.cls := findClass_of_methodNamed B.named
  have hin : meth.name = "<init>" := (name_of_methodNamed B.named B.method).1
  have hA : ∀ q, o ≤ q → (fun q => o ≤ q) q := fun _ h => h
  have hS : va_S (fun q => o ≤ q) s.heap s.heap [] := va_S.rf
  have hl := lv_entry ([.ref (o + 0)]) (n := 1) (Nat.le_of_ble_eq_true rfl)
  rw [lg_entry_eq]
  generalize (lg_sl ([.ref (o + 0)]) ++ List.replicate (1 - (lg_sl ([.ref (o + 0)])).length) Slot.unset).toArray = ls at hl ⊢
  have hl : lv_has ls 1 [(0, .ref (o + 0))] := hl
  refine lv_aload_n hx hb d_M_init_0 rfl (lv_at hl 0 rfl) ?_
  refine W.objInit hx hb hown (hts _ (al aM_M_1)) (hts _ (al aI_obj)) (hts _ (al aK_obj)) rfl (by rw [hml]; exact hl.1) rfl d_M_init_1 (Nat.le_of_ble_eq_true rfl) (Nat.le_of_ble_eq_true rfl) ?_
  refine W.eq (g2 := F0 m 4 ls []) rfl ?_
  refine lv_aload_n hx hb d_M_init_4 rfl (lv_at hl 0 rfl) ?_
  refine lv_sipush (v := 300) hx hb d_M_init_5 (by decide) ?_
  refine g_newa (atype := .int) (ty := .int) (N' := 300) (a0 := (300, .inl (fun _ => 0))) hx hb (hts _ (al aA_int)) rfl hK hG hS 0 rfl (fun h9 => h9) rfl (by decide) (pk_cl 300) (Nat.le_of_ble_eq_true rfl) (Nat.le_of_ble_eq_true rfl) (Nat.le_of_ble_eq_true rfl) d_M_init_8 (fun H hG hS => ?_)
  refine g_putF (C := R_M) (T := F_M) (N := 22) (ci := 5) (v := .ref (o + 1)) (fs := [.int 0, .int 0, .null, .null, .null, .null, .null, .null, .int 0, .null, .null, .null, .null, .int 0, .null, .null, .null, .null, .null, .null, .int 0, .int 0]) hx hb hts inw_M ft_M ft_M_ok fn_M hown hK hG hA hS 0 (by omega) rfl rfl 2 (by decide) (hts _ (al aF_M_7)) rfl hin rfl rfl rfl (Nat.le_of_ble_eq_true rfl) d_M_init_10 (fun H locs hG hS => ?_)
  refine lv_aload_n hx hb d_M_init_13 rfl (lv_at hl 0 rfl) ?_
  refine lv_sipush (v := 300) hx hb d_M_init_14 (by decide) ?_
  refine g_newa (atype := .long) (ty := .long) (N' := 300) (a0 := (300, .inr (.inl (fun _ => 0)))) hx hb (hts _ (al aA_long)) rfl hK hG hS 1 rfl (fun h9 => h9) rfl (by decide) (pk_cl 300) (Nat.le_of_ble_eq_true rfl) (Nat.le_of_ble_eq_true rfl) (Nat.le_of_ble_eq_true rfl) d_M_init_17 (fun H hG hS => ?_)
  refine g_putF (C := R_M) (T := F_M) (N := 22) (ci := 5) (v := .ref (o + 2)) (fs := [.int 0, .int 0, .ref (o + 1), .null, .null, .null, .null, .null, .int 0, .null, .null, .null, .null, .int 0, .null, .null, .null, .null, .null, .null, .int 0, .int 0]) hx hb hts inw_M ft_M ft_M_ok fn_M hown hK hG hA hS 0 (by omega) rfl rfl 3 (by decide) (hts _ (al aF_M_13)) rfl hin rfl rfl rfl (Nat.le_of_ble_eq_true rfl) d_M_init_19 (fun H locs hG hS => ?_)
  refine lv_aload_n hx hb d_M_init_22 rfl (lv_at hl 0 rfl) ?_
  refine lv_sipush (v := 300) hx hb d_M_init_23 (by decide) ?_
  refine g_newa (atype := .int) (ty := .int) (N' := 300) (a0 := (300, .inl (fun _ => 0))) hx hb (hts _ (al aA_int)) rfl hK hG hS 0 rfl (fun h9 => h9) rfl (by decide) (pk_cl 300) (Nat.le_of_ble_eq_true rfl) (Nat.le_of_ble_eq_true rfl) (Nat.le_of_ble_eq_true rfl) d_M_init_26 (fun H hG hS => ?_)
  refine g_putF (C := R_M) (T := F_M) (N := 22) (ci := 5) (v := .ref (o + 3)) (fs := [.int 0, .int 0, .ref (o + 1), .ref (o + 2), .null, .null, .null, .null, .int 0, .null, .null, .null, .null, .int 0, .null, .null, .null, .null, .null, .null, .int 0, .int 0]) hx hb hts inw_M ft_M ft_M_ok fn_M hown hK hG hA hS 0 (by omega) rfl rfl 4 (by decide) (hts _ (al aF_M_17)) rfl hin rfl rfl rfl (Nat.le_of_ble_eq_true rfl) d_M_init_28 (fun H locs hG hS => ?_)
  refine lv_aload_n hx hb d_M_init_31 rfl (lv_at hl 0 rfl) ?_
  refine lv_sipush (v := 300) hx hb d_M_init_32 (by decide) ?_
  refine g_newa (atype := .int) (ty := .int) (N' := 300) (a0 := (300, .inl (fun _ => 0))) hx hb (hts _ (al aA_int)) rfl hK hG hS 0 rfl (fun h9 => h9) rfl (by decide) (pk_cl 300) (Nat.le_of_ble_eq_true rfl) (Nat.le_of_ble_eq_true rfl) (Nat.le_of_ble_eq_true rfl) d_M_init_35 (fun H hG hS => ?_)
  refine g_putF (C := R_M) (T := F_M) (N := 22) (ci := 5) (v := .ref (o + 4)) (fs := [.int 0, .int 0, .ref (o + 1), .ref (o + 2), .ref (o + 3), .null, .null, .null, .int 0, .null, .null, .null, .null, .int 0, .null, .null, .null, .null, .null, .null, .int 0, .int 0]) hx hb hts inw_M ft_M ft_M_ok fn_M hown hK hG hA hS 0 (by omega) rfl rfl 5 (by decide) (hts _ (al aF_M_20)) rfl hin rfl rfl rfl (Nat.le_of_ble_eq_true rfl) d_M_init_37 (fun H locs hG hS => ?_)
  refine lv_aload_n hx hb d_M_init_40 rfl (lv_at hl 0 rfl) ?_
  refine lv_sipush (v := 300) hx hb d_M_init_41 (by decide) ?_
  refine g_newa (atype := .long) (ty := .long) (N' := 300) (a0 := (300, .inr (.inl (fun _ => 0)))) hx hb (hts _ (al aA_long)) rfl hK hG hS 1 rfl (fun h9 => h9) rfl (by decide) (pk_cl 300) (Nat.le_of_ble_eq_true rfl) (Nat.le_of_ble_eq_true rfl) (Nat.le_of_ble_eq_true rfl) d_M_init_44 (fun H hG hS => ?_)
  refine g_putF (C := R_M) (T := F_M) (N := 22) (ci := 5) (v := .ref (o + 5)) (fs := [.int 0, .int 0, .ref (o + 1), .ref (o + 2), .ref (o + 3), .ref (o + 4), .null, .null, .int 0, .null, .null, .null, .null, .int 0, .null, .null, .null, .null, .null, .null, .int 0, .int 0]) hx hb hts inw_M ft_M ft_M_ok fn_M hown hK hG hA hS 0 (by omega) rfl rfl 6 (by decide) (hts _ (al aF_M_23)) rfl hin rfl rfl rfl (Nat.le_of_ble_eq_true rfl) d_M_init_46 (fun H locs hG hS => ?_)
  refine lv_aload_n hx hb d_M_init_49 rfl (lv_at hl 0 rfl) ?_
  refine lv_sipush (v := 300) hx hb d_M_init_50 (by decide) ?_
  refine g_newa (atype := .long) (ty := .long) (N' := 300) (a0 := (300, .inr (.inl (fun _ => 0)))) hx hb (hts _ (al aA_long)) rfl hK hG hS 1 rfl (fun h9 => h9) rfl (by decide) (pk_cl 300) (Nat.le_of_ble_eq_true rfl) (Nat.le_of_ble_eq_true rfl) (Nat.le_of_ble_eq_true rfl) d_M_init_53 (fun H hG hS => ?_)
  refine g_putF (C := R_M) (T := F_M) (N := 22) (ci := 5) (v := .ref (o + 6)) (fs := [.int 0, .int 0, .ref (o + 1), .ref (o + 2), .ref (o + 3), .ref (o + 4), .ref (o + 5), .null, .int 0, .null, .null, .null, .null, .int 0, .null, .null, .null, .null, .null, .null, .int 0, .int 0]) hx hb hts inw_M ft_M ft_M_ok fn_M hown hK hG hA hS 0 (by omega) rfl rfl 7 (by decide) (hts _ (al aF_M_26)) rfl hin rfl rfl rfl (Nat.le_of_ble_eq_true rfl) d_M_init_55 (fun H locs hG hS => ?_)
  refine lv_aload_n hx hb d_M_init_58 rfl (lv_at hl 0 rfl) ?_
  refine lv_bipush (v := 8) hx hb d_M_init_59 (by decide) ?_
  refine g_newa (atype := .int) (ty := .int) (N' := 8) (a0 := (8, .inl (fun _ => 0))) hx hb (hts _ (al aA_int)) rfl hK hG hS 0 rfl (fun h9 => h9) rfl (by decide) (pk_cl 8) (Nat.le_of_ble_eq_true rfl) (Nat.le_of_ble_eq_true rfl) (Nat.le_of_ble_eq_true rfl) d_M_init_61 (fun H hG hS => ?_)
  refine g_putF (C := R_M) (T := F_M) (N := 22) (ci := 5) (v := .ref (o + 7)) (fs := [.int 0, .int 0, .ref (o + 1), .ref (o + 2), .ref (o + 3), .ref (o + 4), .ref (o + 5), .ref (o + 6), .int 0, .null, .null, .null, .null, .int 0, .null, .null, .null, .null, .null, .null, .int 0, .int 0]) hx hb hts inw_M ft_M ft_M_ok fn_M hown hK hG hA hS 0 (by omega) rfl rfl 9 (by decide) (hts _ (al aF_M_29)) rfl hin rfl rfl rfl (Nat.le_of_ble_eq_true rfl) d_M_init_63 (fun H locs hG hS => ?_)
  refine lv_aload_n hx hb d_M_init_66 rfl (lv_at hl 0 rfl) ?_
  refine lv_sipush (v := 2400) hx hb d_M_init_67 (by decide) ?_
  refine g_newa (atype := .int) (ty := .int) (N' := 2400) (a0 := (2400, .inl (fun _ => 0))) hx hb (hts _ (al aA_int)) rfl hK hG hS 0 rfl (fun h9 => h9) rfl (by decide) (pk_cl 2400) (Nat.le_of_ble_eq_true rfl) (Nat.le_of_ble_eq_true rfl) (Nat.le_of_ble_eq_true rfl) d_M_init_70 (fun H hG hS => ?_)
  refine g_putF (C := R_M) (T := F_M) (N := 22) (ci := 5) (v := .ref (o + 8)) (fs := [.int 0, .int 0, .ref (o + 1), .ref (o + 2), .ref (o + 3), .ref (o + 4), .ref (o + 5), .ref (o + 6), .int 0, .ref (o + 7), .null, .null, .null, .int 0, .null, .null, .null, .null, .null, .null, .int 0, .int 0]) hx hb hts inw_M ft_M ft_M_ok fn_M hown hK hG hA hS 0 (by omega) rfl rfl 10 (by decide) (hts _ (al aF_M_32)) rfl hin rfl rfl rfl (Nat.le_of_ble_eq_true rfl) d_M_init_72 (fun H locs hG hS => ?_)
  refine lv_aload_n hx hb d_M_init_75 rfl (lv_at hl 0 rfl) ?_
  refine lv_bipush (v := 8) hx hb d_M_init_76 (by decide) ?_
  refine g_newa (atype := .int) (ty := .int) (N' := 8) (a0 := (8, .inl (fun _ => 0))) hx hb (hts _ (al aA_int)) rfl hK hG hS 0 rfl (fun h9 => h9) rfl (by decide) (pk_cl 8) (Nat.le_of_ble_eq_true rfl) (Nat.le_of_ble_eq_true rfl) (Nat.le_of_ble_eq_true rfl) d_M_init_78 (fun H hG hS => ?_)
  refine g_putF (C := R_M) (T := F_M) (N := 22) (ci := 5) (v := .ref (o + 9)) (fs := [.int 0, .int 0, .ref (o + 1), .ref (o + 2), .ref (o + 3), .ref (o + 4), .ref (o + 5), .ref (o + 6), .int 0, .ref (o + 7), .ref (o + 8), .null, .null, .int 0, .null, .null, .null, .null, .null, .null, .int 0, .int 0]) hx hb hts inw_M ft_M ft_M_ok fn_M hown hK hG hA hS 0 (by omega) rfl rfl 11 (by decide) (hts _ (al aF_M_35)) rfl hin rfl rfl rfl (Nat.le_of_ble_eq_true rfl) d_M_init_80 (fun H locs hG hS => ?_)
  refine lv_aload_n hx hb d_M_init_83 rfl (lv_at hl 0 rfl) ?_
  refine lv_bipush (v := 16) hx hb d_M_init_84 (by decide) ?_
  refine g_newa (atype := .boolean) (ty := .boolean) (N' := 16) (a0 := (16, .inl (fun _ => 0))) hx hb (hts _ (al aA_boolean)) rfl hK hG hS 2 rfl (fun h9 => h9) rfl (by decide) (pk_cl 16) (Nat.le_of_ble_eq_true rfl) (Nat.le_of_ble_eq_true rfl) (Nat.le_of_ble_eq_true rfl) d_M_init_86 (fun H hG hS => ?_)
  refine g_putF (C := R_M) (T := F_M) (N := 22) (ci := 5) (v := .ref (o + 10)) (fs := [.int 0, .int 0, .ref (o + 1), .ref (o + 2), .ref (o + 3), .ref (o + 4), .ref (o + 5), .ref (o + 6), .int 0, .ref (o + 7), .ref (o + 8), .ref (o + 9), .null, .int 0, .null, .null, .null, .null, .null, .null, .int 0, .int 0]) hx hb hts inw_M ft_M ft_M_ok fn_M hown hK hG hA hS 0 (by omega) rfl rfl 12 (by decide) (hts _ (al aF_M_38)) rfl hin rfl rfl rfl (Nat.le_of_ble_eq_true rfl) d_M_init_88 (fun H locs hG hS => ?_)
  refine lv_aload_n hx hb d_M_init_91 rfl (lv_at hl 0 rfl) ?_
  refine lv_bipush (v := 60) hx hb d_M_init_92 (by decide) ?_
  refine g_newa (atype := .int) (ty := .int) (N' := 60) (a0 := (60, .inl (fun _ => 0))) hx hb (hts _ (al aA_int)) rfl hK hG hS 0 rfl (fun h9 => h9) rfl (by decide) (pk_cl 60) (Nat.le_of_ble_eq_true rfl) (Nat.le_of_ble_eq_true rfl) (Nat.le_of_ble_eq_true rfl) d_M_init_94 (fun H hG hS => ?_)
  refine g_putF (C := R_M) (T := F_M) (N := 22) (ci := 5) (v := .ref (o + 11)) (fs := [.int 0, .int 0, .ref (o + 1), .ref (o + 2), .ref (o + 3), .ref (o + 4), .ref (o + 5), .ref (o + 6), .int 0, .ref (o + 7), .ref (o + 8), .ref (o + 9), .ref (o + 10), .int 0, .null, .null, .null, .null, .null, .null, .int 0, .int 0]) hx hb hts inw_M ft_M ft_M_ok fn_M hown hK hG hA hS 0 (by omega) rfl rfl 14 (by decide) (hts _ (al aF_M_42)) rfl hin rfl rfl rfl (Nat.le_of_ble_eq_true rfl) d_M_init_96 (fun H locs hG hS => ?_)
  refine lv_aload_n hx hb d_M_init_99 rfl (lv_at hl 0 rfl) ?_
  refine lv_bipush (v := 60) hx hb d_M_init_100 (by decide) ?_
  refine g_newa (atype := .int) (ty := .int) (N' := 60) (a0 := (60, .inl (fun _ => 0))) hx hb (hts _ (al aA_int)) rfl hK hG hS 0 rfl (fun h9 => h9) rfl (by decide) (pk_cl 60) (Nat.le_of_ble_eq_true rfl) (Nat.le_of_ble_eq_true rfl) (Nat.le_of_ble_eq_true rfl) d_M_init_102 (fun H hG hS => ?_)
  refine g_putF (C := R_M) (T := F_M) (N := 22) (ci := 5) (v := .ref (o + 12)) (fs := [.int 0, .int 0, .ref (o + 1), .ref (o + 2), .ref (o + 3), .ref (o + 4), .ref (o + 5), .ref (o + 6), .int 0, .ref (o + 7), .ref (o + 8), .ref (o + 9), .ref (o + 10), .int 0, .ref (o + 11), .null, .null, .null, .null, .null, .int 0, .int 0]) hx hb hts inw_M ft_M ft_M_ok fn_M hown hK hG hA hS 0 (by omega) rfl rfl 15 (by decide) (hts _ (al aF_M_45)) rfl hin rfl rfl rfl (Nat.le_of_ble_eq_true rfl) d_M_init_104 (fun H locs hG hS => ?_)
  refine lv_aload_n hx hb d_M_init_107 rfl (lv_at hl 0 rfl) ?_
  refine lv_sipush (v := 360) hx hb d_M_init_108 (by decide) ?_
  refine g_newa (atype := .int) (ty := .int) (N' := 360) (a0 := (360, .inl (fun _ => 0))) hx hb (hts _ (al aA_int)) rfl hK hG hS 0 rfl (fun h9 => h9) rfl (by decide) (pk_cl 360) (Nat.le_of_ble_eq_true rfl) (Nat.le_of_ble_eq_true rfl) (Nat.le_of_ble_eq_true rfl) d_M_init_111 (fun H hG hS => ?_)
  refine g_putF (C := R_M) (T := F_M) (N := 22) (ci := 5) (v := .ref (o + 13)) (fs := [.int 0, .int 0, .ref (o + 1), .ref (o + 2), .ref (o + 3), .ref (o + 4), .ref (o + 5), .ref (o + 6), .int 0, .ref (o + 7), .ref (o + 8), .ref (o + 9), .ref (o + 10), .int 0, .ref (o + 11), .ref (o + 12), .null, .null, .null, .null, .int 0, .int 0]) hx hb hts inw_M ft_M ft_M_ok fn_M hown hK hG hA hS 0 (by omega) rfl rfl 16 (by decide) (hts _ (al aF_M_48)) rfl hin rfl rfl rfl (Nat.le_of_ble_eq_true rfl) d_M_init_113 (fun H locs hG hS => ?_)
  refine lv_aload_n hx hb d_M_init_116 rfl (lv_at hl 0 rfl) ?_
  refine lv_sipush (v := 360) hx hb d_M_init_117 (by decide) ?_
  refine g_newa (atype := .long) (ty := .long) (N' := 360) (a0 := (360, .inr (.inl (fun _ => 0)))) hx hb (hts _ (al aA_long)) rfl hK hG hS 1 rfl (fun h9 => h9) rfl (by decide) (pk_cl 360) (Nat.le_of_ble_eq_true rfl) (Nat.le_of_ble_eq_true rfl) (Nat.le_of_ble_eq_true rfl) d_M_init_120 (fun H hG hS => ?_)
  refine g_putF (C := R_M) (T := F_M) (N := 22) (ci := 5) (v := .ref (o + 14)) (fs := [.int 0, .int 0, .ref (o + 1), .ref (o + 2), .ref (o + 3), .ref (o + 4), .ref (o + 5), .ref (o + 6), .int 0, .ref (o + 7), .ref (o + 8), .ref (o + 9), .ref (o + 10), .int 0, .ref (o + 11), .ref (o + 12), .ref (o + 13), .null, .null, .null, .int 0, .int 0]) hx hb hts inw_M ft_M ft_M_ok fn_M hown hK hG hA hS 0 (by omega) rfl rfl 17 (by decide) (hts _ (al aF_M_51)) rfl hin rfl rfl rfl (Nat.le_of_ble_eq_true rfl) d_M_init_122 (fun H locs hG hS => ?_)
  refine lv_aload_n hx hb d_M_init_125 rfl (lv_at hl 0 rfl) ?_
  refine lv_bipush (v := 60) hx hb d_M_init_126 (by decide) ?_
  refine g_newa (atype := .int) (ty := .int) (N' := 60) (a0 := (60, .inl (fun _ => 0))) hx hb (hts _ (al aA_int)) rfl hK hG hS 0 rfl (fun h9 => h9) rfl (by decide) (pk_cl 60) (Nat.le_of_ble_eq_true rfl) (Nat.le_of_ble_eq_true rfl) (Nat.le_of_ble_eq_true rfl) d_M_init_128 (fun H hG hS => ?_)
  refine g_putF (C := R_M) (T := F_M) (N := 22) (ci := 5) (v := .ref (o + 15)) (fs := [.int 0, .int 0, .ref (o + 1), .ref (o + 2), .ref (o + 3), .ref (o + 4), .ref (o + 5), .ref (o + 6), .int 0, .ref (o + 7), .ref (o + 8), .ref (o + 9), .ref (o + 10), .int 0, .ref (o + 11), .ref (o + 12), .ref (o + 13), .ref (o + 14), .null, .null, .int 0, .int 0]) hx hb hts inw_M ft_M ft_M_ok fn_M hown hK hG hA hS 0 (by omega) rfl rfl 18 (by decide) (hts _ (al aF_M_54)) rfl hin rfl rfl rfl (Nat.le_of_ble_eq_true rfl) d_M_init_130 (fun H locs hG hS => ?_)
  refine lv_aload_n hx hb d_M_init_133 rfl (lv_at hl 0 rfl) ?_
  refine lv_bipush (v := 60) hx hb d_M_init_134 (by decide) ?_
  refine g_newa (atype := .boolean) (ty := .boolean) (N' := 60) (a0 := (60, .inl (fun _ => 0))) hx hb (hts _ (al aA_boolean)) rfl hK hG hS 2 rfl (fun h9 => h9) rfl (by decide) (pk_cl 60) (Nat.le_of_ble_eq_true rfl) (Nat.le_of_ble_eq_true rfl) (Nat.le_of_ble_eq_true rfl) d_M_init_136 (fun H hG hS => ?_)
  refine g_putF (C := R_M) (T := F_M) (N := 22) (ci := 5) (v := .ref (o + 16)) (fs := [.int 0, .int 0, .ref (o + 1), .ref (o + 2), .ref (o + 3), .ref (o + 4), .ref (o + 5), .ref (o + 6), .int 0, .ref (o + 7), .ref (o + 8), .ref (o + 9), .ref (o + 10), .int 0, .ref (o + 11), .ref (o + 12), .ref (o + 13), .ref (o + 14), .ref (o + 15), .null, .int 0, .int 0]) hx hb hts inw_M ft_M ft_M_ok fn_M hown hK hG hA hS 0 (by omega) rfl rfl 19 (by decide) (hts _ (al aF_M_57)) rfl hin rfl rfl rfl (Nat.le_of_ble_eq_true rfl) d_M_init_138 (fun H locs hG hS => ?_)
  refine lv_aload_n hx hb d_M_init_141 rfl (lv_at hl 0 rfl) ?_
  refine lv_iconst (v := -1) hx hb d_M_init_142 (by decide) ?_
  refine g_put (C := R_M) (T := F_M) (N := 22) (ci := 5) (v := .int (-1)) (fs := [.int 0, .int 0, .ref (o + 1), .ref (o + 2), .ref (o + 3), .ref (o + 4), .ref (o + 5), .ref (o + 6), .int 0, .ref (o + 7), .ref (o + 8), .ref (o + 9), .ref (o + 10), .int 0, .ref (o + 11), .ref (o + 12), .ref (o + 13), .ref (o + 14), .ref (o + 15), .ref (o + 16), .int 0, .int 0]) hx hb hts inw_M ft_M ft_M_ok fn_M hown hK hG hA hS 0 (by omega) rfl rfl 21 (by decide) (hts _ (al aF_M_60)) rfl rfl rfl (Nat.le_of_ble_eq_true rfl) d_M_init_143 (fun H locs hG hS => ?_)
  have hG := gP_eq (E' := fun i => SM o cA i (m0M.1 i) (m0M.2.1 i) (m0M.2.2 i)) hG (lt_s (lt_s (lt_s (lt_s (lt_s (lt_s (lt_s (lt_s (lt_s (lt_s (lt_s (lt_s (lt_s (lt_s (lt_s (lt_s (lt_s (fun j h => absurd h (Nat.not_lt_zero _)) rfl) rfl) rfl) rfl) rfl) rfl) rfl) rfl) rfl) rfl) rfl) rfl) rfl) rfl) rfl) rfl) rfl)
  have hG : gP D cls_ (fun i => SM o cA i (m0M.1 i) (m0M.2.1 i) (m0M.2.2 i)) o 17 H := hG
  generalize (fun i => SM o cA i (m0M.1 i) (m0M.2.1 i) (m0M.2.2 i)) = EE9 at hG ⊢
  refine W.widen (k := 16) (n := 5192) (Nat.le_of_ble_eq_true rfl) (Nat.le_of_ble_eq_true rfl) ?_
  exact W.vret hx hb hr (fun tz hz9 hW9 => ⟨⟨(), rfl, trivial, by rw [hz9]; exact hG, va_K.moved hW9.alike hK⟩, hS.F hz9⟩) hS.2.2 d_M_init_146

