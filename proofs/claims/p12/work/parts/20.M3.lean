/-! the reference's own methods -/
theorem y_in {x : Int32} (n : Nat) (hn : n < 2147483647) : (0 ≤ x.toInt64 ∧ x.toInt64 ≤ lN n) ↔ xin x (nI (n + 1)) := by
  have e : x.toInt64.toInt = x.toInt := by simp
  have e0 : (0 : Int64).toInt = 0 := by decide
  have e1 : (0 : Int32).toInt = 0 := by decide
  unfold xin
  rw [Int64.le_iff_toInt_le, Int64.le_iff_toInt_le, Int32.lt_iff_toInt_lt, Int32.lt_iff_toInt_lt, e, e0, e1, lN_toInt (by omega), nI_toInt (by omega)]
  omega
theorem y_kd {x : Int32} : (¬ x < 0 ∧ x ≤ 3) ↔ xin x 4 := by
  unfold xin
  rw [Int32.le_iff_toInt_le, Int32.lt_iff_toInt_lt, Int32.lt_iff_toInt_lt]
  have e0 : (0 : Int32).toInt = 0 := by decide
  have e3 : (3 : Int32).toInt = 3 := by decide
  have e4 : (4 : Int32).toInt = 4 := by decide
  omega
theorem b2i_T {p : Prop} [Decidable p] (h : ¬ b2i (decide p) = 0) : p := of_decide_eq_true (b2i_1 h)
theorem b2i_F {p : Prop} [Decidable p] (h : b2i (decide p) = 0) : ¬ p := of_decide_eq_false (b2i_0 h)
theorem rf_0 {r : Int32} {n : Nat} {P : Nat → Prop} (hn : n ≤ 300) (h : (∃ j, j < n ∧ P j ∧ r = nI j) ∨ (r = -1 ∧ ∀ j, j < n → ¬ P j)) (q : r < 0) : ¬ ∃ j, j < n ∧ P j := by
  rcases h with ⟨j, hj, -, e⟩ | h
  · rw [e] at q; exact absurd q (nI_pos (by omega))
  · exact fun ⟨j, a, b⟩ => h.2 j a b
theorem rf_1 {r : Int32} {n : Nat} {P : Nat → Prop} (h : (∃ j, j < n ∧ P j ∧ r = nI j) ∨ (r = -1 ∧ ∀ j, j < n → ¬ P j)) (q : ¬ r < 0) : ∃ j, j < n ∧ P j := by
  rcases h with ⟨j, hj, a, -⟩ | h
  · exact ⟨j, hj, a⟩
  · exact absurd (by rw [h.1]; decide) q
set_option maxHeartbeats 4000000 in
set_option maxRecDepth 100000 in
/-- M_closeMonth -/
theorem k_M_closeMonth (l : Launch) (D : va_G) (cA : Nat → ClassId) (o sz : Nat) (M : wM) (x : Int32) : Met l y_M_closeMonth (wm y_M_closeMonth c_M_closeMonth 2 (some .boolean)) { frames := 1, cells := 0, slots := 0, locals := 25 } (va_Pc [.ref (o + 0), .int x] (mB D cA o M sz)) (va_Qi (fun r M1 => (r = 0 ∧ M1 = (wF M 0 0 1) ∧ ¬ xin x 120) ∨ (r = 0 ∧ M1 = (wF M 0 0 0) ∧ xin x 120 ∧ x ≤ M.2.2 0 21) ∨ (r = 1 ∧ M1 = wF (wF M 0 0 0) 0 21 x ∧ xin x 120 ∧ M.2.2 0 21 < x)) (mQ D cA o) (mA o sz)) 0 0 (mA o sz) := by
  refine Met.ofW (cc := c_M_closeMonth) (maxL := 2) (ret := (some .boolean)) (by decide) rfl ?_
  intro p e s m args below meth c s₁ B hml hv
  obtain ⟨rfl, hsz, hP, hK⟩ := hv
  have hx := B.exec
  have hb := B.bytes
  have hr := B.returns
  have hts := atoms_spec (ws := wm y_M_closeMonth c_M_closeMonth 2 (some .boolean)) B.pre
  have hown : s.vm.findClass "ShopDesksModel" = some m.cls := findClass_of_methodNamed B.named
  have hlocks := B.notSynchronized
  subst hsz
  have hS : va_S (mA o s.heap.size) s.heap s.heap [] := va_S.rf
  have hW : ∀ i, i < 17 → mA o s.heap.size (o + i) := fun i hi => wA_in hi
  have hl := lv_entry ([.ref (o + 0), .int x]) (n := 2) (Nat.le_of_ble_eq_true rfl)
  rw [lg_entry_eq]
  generalize (lg_sl ([.ref (o + 0), .int x]) ++ List.replicate (2 - (lg_sl ([.ref (o + 0), .int x])).length) Slot.unset).toArray = ls at hl ⊢
  have hl : lv_has ls 2 [(0, .ref (o + 0)), (1, .int x)] := hl
  refine lv_aload_n hx hb d_M_closeMonth_0 rfl (lv_at hl 0 rfl) ?_
  refine lv_iload_n hx hb d_M_closeMonth_1 rfl (lv_at hl 1 rfl) ?_
  refine lv_i2l hx hb d_M_closeMonth_2 rfl ?_
  refine lv_lconst (v := 0) hx hb d_M_closeMonth_3 (by decide) ?_
  refine lv_ldc2 (v := 119) hx hb hown (hts _ (al aL_M_163)) d_M_closeMonth_4 ?_
  refine w_Si ⟨hx, hb, hml, hown, hts⟩ (k_M_isIn l D cA o _ M (x.toInt64) 0 119) (kS hts 3 aK_M_isIn aM_M_72 aS_M_isIn aN_M nm_M_isIn rfl rfl ⟨(Nat.le_of_ble_eq_true rfl), (Nat.le_of_ble_eq_true rfl)⟩) hK hP rfl hl.1 rfl (Nat.le_of_ble_eq_true rfl) d_M_closeMonth_7 ⟨(Nat.le_of_ble_eq_true rfl), (Nat.le_of_ble_eq_true rfl)⟩ hS (fun q h => wA_le hS.1 h) (fun r_1 M_1 H locs hw_1 hP hzc hkc hS => ?_)
  rw [hw_1.1] at hP
  refine w_topi hw_1.2 ?_
  refine lv_if_eq (tgt := 17) hx hb d_M_closeMonth_10 (by decide) (fun c_2 => ?_) (fun c_2 => ?_)
  · have q : ¬ xin x (nI (119 + 1)) := fun h => b2i_F c_2 ((y_in 119 (by omega)).mpr h)
    refine lv_iconst (v := 1) hx hb d_M_closeMonth_17 (by decide) ?_
    refine w_put (C := R_M) (T := F_M) (N := 22) (ci := 5) (x := 1) hx hb hts inw_M ft_M ft_M_ok fn_M hown hK hP hW hS 0 (by decide) SM_0 rfl 0 (by decide) (hts _ (al aF_M_64)) rfl rfl rfl (Nat.le_of_ble_eq_true rfl) (by rw [wF_r]; exact SM_0.trans rfl) d_M_closeMonth_18 (fun H locs hP hS => ?_)
    refine lv_aload_n hx hb d_M_closeMonth_21 rfl (lv_at hl 0 rfl) ?_
    refine w_get (C := R_M) (T := F_M) (N := 22) (ci := 5) (v := .int 1) hx hb hts inw_M hown hK hP 0 (by decide) SM_0 rfl 0 (by decide) (hts _ (al aF_M_64)) rfl d_M_closeMonth_22 ?_
    refine lv_if_gt (tgt := 36) hx hb d_M_closeMonth_25 (by decide) (fun c_3 => ?_) (fun c_3 => ?_)
    · refine lv_iconst (v := 0) hx hb d_M_closeMonth_36 (by decide) ?_
      exact W.zret (v := 0) hx hb hr rfl (fun tz hz9 hW9 => ⟨⟨0, (wF M 0 0 1), rfl, Or.inl ⟨rfl, rfl, q⟩, by rw [hz9]; exact hP, va_K.moved hW9.alike hK⟩, hS.F hz9⟩) hS.2.2 d_M_closeMonth_37
    · exact absurd (by decide) c_3
  · have q : xin x (nI (119 + 1)) := (y_in 119 (by omega)).mp (b2i_T c_2)
    refine lv_iconst (v := 0) hx hb d_M_closeMonth_13 (by decide) ?_
    refine lv_goto (tgt := 18) hx hb d_M_closeMonth_14 (by decide) ?_
    refine w_put (C := R_M) (T := F_M) (N := 22) (ci := 5) (x := 0) hx hb hts inw_M ft_M ft_M_ok fn_M hown hK hP hW hS 0 (by decide) SM_0 rfl 0 (by decide) (hts _ (al aF_M_64)) rfl rfl rfl (Nat.le_of_ble_eq_true rfl) (by rw [wF_r]; exact SM_0.trans rfl) d_M_closeMonth_18 (fun H locs hP hS => ?_)
    refine lv_aload_n hx hb d_M_closeMonth_21 rfl (lv_at hl 0 rfl) ?_
    refine w_get (C := R_M) (T := F_M) (N := 22) (ci := 5) (v := .int 0) hx hb hts inw_M hown hK hP 0 (by decide) SM_0 rfl 0 (by decide) (hts _ (al aF_M_64)) rfl d_M_closeMonth_22 ?_
    refine lv_if_gt (tgt := 36) hx hb d_M_closeMonth_25 (by decide) (fun c_4 => ?_) (fun c_4 => ?_)
    · exact absurd c_4 (by decide)
    · refine lv_iload_n hx hb d_M_closeMonth_28 rfl (lv_at hl 1 rfl) ?_
      refine lv_aload_n hx hb d_M_closeMonth_29 rfl (lv_at hl 0 rfl) ?_
      refine w_get (C := R_M) (T := F_M) (N := 22) (ci := 5) (v := .int (M.2.2 0 21)) hx hb hts inw_M hown hK hP 0 (by decide) SM_0 rfl 21 (by decide) (hts _ (al aF_M_60)) rfl d_M_closeMonth_30 ?_
      refine lv_icmp_gt (tgt := 38) hx hb d_M_closeMonth_33 (by decide) (fun c_5 => ?_) (fun c_5 => ?_)
      · have q2 := c_5
        refine lv_aload_n hx hb d_M_closeMonth_38 rfl (lv_at hl 0 rfl) ?_
        refine lv_iload_n hx hb d_M_closeMonth_39 rfl (lv_at hl 1 rfl) ?_
        refine w_put (C := R_M) (T := F_M) (N := 22) (ci := 5) (x := x) hx hb hts inw_M ft_M ft_M_ok fn_M hown hK hP hW hS 0 (by decide) SM_0 rfl 21 (by decide) (hts _ (al aF_M_60)) rfl rfl rfl (Nat.le_of_ble_eq_true rfl) (by rw [wF_r]; exact SM_0.trans rfl) d_M_closeMonth_40 (fun H locs hP hS => ?_)
        refine lv_iconst (v := 1) hx hb d_M_closeMonth_43 (by decide) ?_
        exact W.zret (v := 1) hx hb hr rfl (fun tz hz9 hW9 => ⟨⟨1, (wF (wF M 0 0 0) 0 21 x), rfl, Or.inr (Or.inr ⟨rfl, rfl, q, q2⟩), by rw [hz9]; exact hP, va_K.moved hW9.alike hK⟩, hS.F hz9⟩) hS.2.2 d_M_closeMonth_44
      · have q2 := c_5
        refine lv_iconst (v := 0) hx hb d_M_closeMonth_36 (by decide) ?_
        exact W.zret (v := 0) hx hb hr rfl (fun tz hz9 hW9 => ⟨⟨0, (wF M 0 0 0), rfl, Or.inr (Or.inl ⟨rfl, rfl, q, Int32.not_lt.mp q2⟩), by rw [hz9]; exact hP, va_K.moved hW9.alike hK⟩, hS.F hz9⟩) hS.2.2 d_M_closeMonth_37
set_option maxHeartbeats 4000000 in
set_option maxRecDepth 100000 in
/-- M_mark -/
theorem k_M_mark (l : Launch) (D : va_G) (cA : Nat → ClassId) (o sz : Nat) (M : wM) (sc : Nat) (hsc : sc ≤ 8) (esc : M.2.2 0 8 = nI sc) (x : Int32) : Met l y_M_mark (wm y_M_mark c_M_mark 2 (some .int)) { frames := 1, cells := 0, slots := 0, locals := 21 } (va_Pc [.ref (o + 0), .int x] (mB D cA o M sz)) (va_Qi (fun r M1 => (r = 0 ∧ M1 = (wF M 0 0 1) ∧ ¬ xin x (nI sc)) ∨ (M1 = (wF M 0 0 0) ∧ ∃ k, k < sc ∧ x = nI k ∧ r = M.1 7 k)) (mQ D cA o) (mA o sz)) 0 0 (mA o sz) := by
  refine Met.ofW (cc := c_M_mark) (maxL := 2) (ret := (some .int)) (by decide) rfl ?_
  intro p e s m args below meth c s₁ B hml hv
  obtain ⟨rfl, hsz, hP, hK⟩ := hv
  have hx := B.exec
  have hb := B.bytes
  have hr := B.returns
  have hts := atoms_spec (ws := wm y_M_mark c_M_mark 2 (some .int)) B.pre
  have hown : s.vm.findClass "ShopDesksModel" = some m.cls := findClass_of_methodNamed B.named
  have hlocks := B.notSynchronized
  subst hsz
  have hS : va_S (mA o s.heap.size) s.heap s.heap [] := va_S.rf
  have hW : ∀ i, i < 17 → mA o s.heap.size (o + i) := fun i hi => wA_in hi
  have hl := lv_entry ([.ref (o + 0), .int x]) (n := 2) (Nat.le_of_ble_eq_true rfl)
  rw [lg_entry_eq]
  generalize (lg_sl ([.ref (o + 0), .int x]) ++ List.replicate (2 - (lg_sl ([.ref (o + 0), .int x])).length) Slot.unset).toArray = ls at hl ⊢
  have hl : lv_has ls 2 [(0, .ref (o + 0)), (1, .int x)] := hl
  refine lv_aload_n hx hb d_M_mark_0 rfl (lv_at hl 0 rfl) ?_
  refine lv_aload_n hx hb d_M_mark_1 rfl (lv_at hl 0 rfl) ?_
  refine lv_iload_n hx hb d_M_mark_2 rfl (lv_at hl 1 rfl) ?_
  refine w_Vi ⟨hx, hb, hml, hown, hts⟩ (k_M_isSet l D cA o _ M x) (kV hts 1 aK_M_isSet aM_M_89 aI_M_isSet aV_M_isSet aN_M nm_M_isSet rfl rfl ⟨(Nat.le_of_ble_eq_true rfl), (Nat.le_of_ble_eq_true rfl)⟩) hK hP (by decide) SM_0 rfl rfl hl.1 rfl (Nat.le_of_ble_eq_true rfl) d_M_mark_3 ⟨(Nat.le_of_ble_eq_true rfl), (Nat.le_of_ble_eq_true rfl)⟩ hS (fun q h => wA_le hS.1 h) (fun r_1 M_1 H locs hw_1 hP hzc hkc hS => ?_)
  rw [hw_1.1] at hP
  refine w_topi hw_1.2 ?_
  refine lv_if_eq (tgt := 13) hx hb d_M_mark_6 (by decide) (fun c_2 => ?_) (fun c_2 => ?_)
  · have q : ¬ xin x (nI sc) := by rw [← esc]; exact b2i_F c_2
    refine lv_iconst (v := 1) hx hb d_M_mark_13 (by decide) ?_
    refine w_put (C := R_M) (T := F_M) (N := 22) (ci := 5) (x := 1) hx hb hts inw_M ft_M ft_M_ok fn_M hown hK hP hW hS 0 (by decide) SM_0 rfl 0 (by decide) (hts _ (al aF_M_64)) rfl rfl rfl (Nat.le_of_ble_eq_true rfl) (by rw [wF_r]; exact SM_0.trans rfl) d_M_mark_14 (fun H locs hP hS => ?_)
    refine lv_aload_n hx hb d_M_mark_17 rfl (lv_at hl 0 rfl) ?_
    refine w_get (C := R_M) (T := F_M) (N := 22) (ci := 5) (v := .int 1) hx hb hts inw_M hown hK hP 0 (by decide) SM_0 rfl 0 (by decide) (hts _ (al aF_M_64)) rfl d_M_mark_18 ?_
    refine lv_if_le (tgt := 28) hx hb d_M_mark_21 (by decide) (fun c_3 => ?_) (fun c_3 => ?_)
    · exact absurd c_3 (by decide)
    · refine lv_iconst (v := 0) hx hb d_M_mark_24 (by decide) ?_
      refine lv_goto (tgt := 34) hx hb d_M_mark_25 (by decide) ?_
      exact W.iret (v := 0) hx hb hr (fun tz hz9 hW9 => ⟨⟨0, (wF M 0 0 1), rfl, Or.inl ⟨rfl, rfl, q⟩, by rw [hz9]; exact hP, va_K.moved hW9.alike hK⟩, hS.F hz9⟩) hS.2.2 d_M_mark_34
  · have q : xin x (nI sc) := by rw [← esc]; exact b2i_T c_2
    obtain ⟨k1, hk1, ek1⟩ := x_idx q.1 q.2 (by omega)
    have hk18 : k1 < 8 := by omega
    refine lv_iconst (v := 0) hx hb d_M_mark_9 (by decide) ?_
    refine lv_goto (tgt := 14) hx hb d_M_mark_10 (by decide) ?_
    refine w_put (C := R_M) (T := F_M) (N := 22) (ci := 5) (x := 0) hx hb hts inw_M ft_M ft_M_ok fn_M hown hK hP hW hS 0 (by decide) SM_0 rfl 0 (by decide) (hts _ (al aF_M_64)) rfl rfl rfl (Nat.le_of_ble_eq_true rfl) (by rw [wF_r]; exact SM_0.trans rfl) d_M_mark_14 (fun H locs hP hS => ?_)
    refine lv_aload_n hx hb d_M_mark_17 rfl (lv_at hl 0 rfl) ?_
    refine w_get (C := R_M) (T := F_M) (N := 22) (ci := 5) (v := .int 0) hx hb hts inw_M hown hK hP 0 (by decide) SM_0 rfl 0 (by decide) (hts _ (al aF_M_64)) rfl d_M_mark_18 ?_
    refine lv_if_le (tgt := 28) hx hb d_M_mark_21 (by decide) (fun c_4 => ?_) (fun c_4 => ?_)
    · refine lv_aload_n hx hb d_M_mark_28 rfl (lv_at hl 0 rfl) ?_
      refine w_get (C := R_M) (T := F_M) (N := 22) (ci := 5) (v := .ref (o + 7)) hx hb hts inw_M hown hK hP 0 (by decide) SM_0 rfl 9 (by decide) (hts _ (al aF_M_29)) rfl d_M_mark_29 ?_
      refine lv_iload_n hx hb d_M_mark_32 rfl (lv_at hl 1 rfl) ?_
      refine w_topi ek1 ?_
      refine w_iald hx hb hK hP 7 0 (by decide) SM_7 rfl (k := k1) (by omega) (by decide) d_M_mark_33 ?_
      exact W.iret (v := M.1 7 k1) hx hb hr (fun tz hz9 hW9 => ⟨⟨M.1 7 k1, (wF M 0 0 0), rfl, Or.inr ⟨rfl, k1, hk1, ek1, rfl⟩, by rw [hz9]; exact hP, va_K.moved hW9.alike hK⟩, hS.F hz9⟩) hS.2.2 d_M_mark_34
    · exact absurd (by decide) c_4
set_option maxHeartbeats 4000000 in
set_option maxRecDepth 100000 in
/-- M_entry -/
theorem k_M_entry (l : Launch) (D : va_G) (cA : Nat → ClassId) (o sz : Nat) (M : wM) (ec : Nat) (hec : ec ≤ 60) (eec : M.2.2 0 13 = nI ec) (day : Int32) : Met l y_M_entry (wm y_M_entry c_M_entry 2 (some .int)) { frames := 1, cells := 0, slots := 0, locals := 25 } (va_Pc [.ref (o + 0), .int day] (mB D cA o M sz)) (va_Qi (fun r M1 => (r = 0 ∧ M1 = (wF M 0 0 1) ∧ ¬ xin day 3600) ∨ (r = 0 ∧ M1 = (wF M 0 0 2) ∧ xin day 3600 ∧ ec = 60) ∨ (ec < 60 ∧ xin day 3600 ∧ M1 = wF (wI (wF M 0 0 0) 11 ec day) 0 13 (nI (ec + 1)) ∧ r = nI ec)) (mQ D cA o) (mA o sz)) 0 0 (mA o sz) := by
  refine Met.ofW (cc := c_M_entry) (maxL := 2) (ret := (some .int)) (by decide) rfl ?_
  intro p e s m args below meth c s₁ B hml hv
  obtain ⟨rfl, hsz, hP, hK⟩ := hv
  have hx := B.exec
  have hb := B.bytes
  have hr := B.returns
  have hts := atoms_spec (ws := wm y_M_entry c_M_entry 2 (some .int)) B.pre
  have hown : s.vm.findClass "ShopDesksModel" = some m.cls := findClass_of_methodNamed B.named
  have hlocks := B.notSynchronized
  subst hsz
  have hS : va_S (mA o s.heap.size) s.heap s.heap [] := va_S.rf
  have hW : ∀ i, i < 17 → mA o s.heap.size (o + i) := fun i hi => wA_in hi
  have hl := lv_entry ([.ref (o + 0), .int day]) (n := 2) (Nat.le_of_ble_eq_true rfl)
  rw [lg_entry_eq]
  generalize (lg_sl ([.ref (o + 0), .int day]) ++ List.replicate (2 - (lg_sl ([.ref (o + 0), .int day])).length) Slot.unset).toArray = ls at hl ⊢
  have hl : lv_has ls 2 [(0, .ref (o + 0)), (1, .int day)] := hl
  refine lv_aload_n hx hb d_M_entry_0 rfl (lv_at hl 0 rfl) ?_
  refine lv_iload_n hx hb d_M_entry_1 rfl (lv_at hl 1 rfl) ?_
  refine lv_i2l hx hb d_M_entry_2 rfl ?_
  refine lv_lconst (v := 0) hx hb d_M_entry_3 (by decide) ?_
  refine lv_ldc2 (v := 3599) hx hb hown (hts _ (al aL_M_136)) d_M_entry_4 ?_
  refine w_Si ⟨hx, hb, hml, hown, hts⟩ (k_M_isIn l D cA o _ M (day.toInt64) 0 3599) (kS hts 3 aK_M_isIn aM_M_72 aS_M_isIn aN_M nm_M_isIn rfl rfl ⟨(Nat.le_of_ble_eq_true rfl), (Nat.le_of_ble_eq_true rfl)⟩) hK hP rfl hl.1 rfl (Nat.le_of_ble_eq_true rfl) d_M_entry_7 ⟨(Nat.le_of_ble_eq_true rfl), (Nat.le_of_ble_eq_true rfl)⟩ hS (fun q h => wA_le hS.1 h) (fun r_1 M_1 H locs hw_1 hP hzc hkc hS => ?_)
  rw [hw_1.1] at hP
  refine w_topi hw_1.2 ?_
  refine lv_if_ne (tgt := 17) hx hb d_M_entry_10 (by decide) (fun c_2 => ?_) (fun c_2 => ?_)
  · have q : xin day (nI (3599 + 1)) := (y_in 3599 (by omega)).mp (b2i_T c_2)
    refine lv_aload_n hx hb d_M_entry_17 rfl (lv_at hl 0 rfl) ?_
    refine w_get (C := R_M) (T := F_M) (N := 22) (ci := 5) (v := .int (M.2.2 0 13)) hx hb hts inw_M hown hK hP 0 (by decide) SM_0 rfl 13 (by decide) (hts _ (al aF_M_138)) rfl d_M_entry_18 ?_
    refine w_topi eec ?_
    refine lv_bipush (v := 60) hx hb d_M_entry_21 (by decide) ?_
    refine lv_icmp_ne (tgt := 30) hx hb d_M_entry_23 (by decide) (fun c_3 => ?_) (fun c_3 => ?_)
    · have q2 : ec < 60 := Nat.lt_of_le_of_ne hec (fun e => c_3 (by rw [e]; rfl))
      refine lv_iconst (v := 0) hx hb d_M_entry_30 (by decide) ?_
      refine w_put (C := R_M) (T := F_M) (N := 22) (ci := 5) (x := 0) hx hb hts inw_M ft_M ft_M_ok fn_M hown hK hP hW hS 0 (by decide) SM_0 rfl 0 (by decide) (hts _ (al aF_M_64)) rfl rfl rfl (Nat.le_of_ble_eq_true rfl) (by rw [wF_r]; exact SM_0.trans rfl) d_M_entry_31 (fun H locs hP hS => ?_)
      refine lv_aload_n hx hb d_M_entry_34 rfl (lv_at hl 0 rfl) ?_
      refine w_get (C := R_M) (T := F_M) (N := 22) (ci := 5) (v := .int 0) hx hb hts inw_M hown hK hP 0 (by decide) SM_0 rfl 0 (by decide) (hts _ (al aF_M_64)) rfl d_M_entry_35 ?_
      refine lv_if_le (tgt := 45) hx hb d_M_entry_38 (by decide) (fun c_4 => ?_) (fun c_4 => ?_)
      · refine lv_aload_n hx hb d_M_entry_45 rfl (lv_at hl 0 rfl) ?_
        refine lv_iload_n hx hb d_M_entry_46 rfl (lv_at hl 1 rfl) ?_
        refine w_Vi ⟨hx, hb, hml, hown, hts⟩ (k_M_open l D cA o _ (wF M 0 0 0) ec q2 (by first | exact eec | exact (wF_k (by decide)).trans eec) day) (kV hts 1 aK_M_open aM_M_141 aI_M_open aV_M_open aN_M nm_M_open rfl rfl ⟨(Nat.le_of_ble_eq_true rfl), (Nat.le_of_ble_eq_true rfl)⟩) hK hP (by decide) SM_0 rfl rfl hl.1 rfl (Nat.le_of_ble_eq_true rfl) d_M_entry_47 ⟨(Nat.le_of_ble_eq_true rfl), (Nat.le_of_ble_eq_true rfl)⟩ hS (fun q h => wA_le hS.1 h) (fun r_5 M_5 H locs hw_5 hP hzc hkc hS => ?_)
        rw [hw_5.1] at hP
        refine w_topi hw_5.2 ?_
        exact W.iret (v := nI ec) hx hb hr (fun tz hz9 hW9 => ⟨⟨nI ec, (wF (wI (wF M 0 0 0) 11 ec day) 0 13 (nI (ec + 1))), rfl, Or.inr (Or.inr ⟨q2, q, rfl, rfl⟩), by rw [hz9]; exact hP, va_K.moved hW9.alike hK⟩, hS.F hz9⟩) hS.2.2 d_M_entry_50
      · exact absurd (by decide) c_4
    · have q2 : ec = 60 := (nI_eq (b := 60) (by omega) (by omega)).mp c_3
      refine lv_iconst (v := 2) hx hb d_M_entry_26 (by decide) ?_
      refine lv_goto (tgt := 31) hx hb d_M_entry_27 (by decide) ?_
      refine w_put (C := R_M) (T := F_M) (N := 22) (ci := 5) (x := 2) hx hb hts inw_M ft_M ft_M_ok fn_M hown hK hP hW hS 0 (by decide) SM_0 rfl 0 (by decide) (hts _ (al aF_M_64)) rfl rfl rfl (Nat.le_of_ble_eq_true rfl) (by rw [wF_r]; exact SM_0.trans rfl) d_M_entry_31 (fun H locs hP hS => ?_)
      refine lv_aload_n hx hb d_M_entry_34 rfl (lv_at hl 0 rfl) ?_
      refine w_get (C := R_M) (T := F_M) (N := 22) (ci := 5) (v := .int 2) hx hb hts inw_M hown hK hP 0 (by decide) SM_0 rfl 0 (by decide) (hts _ (al aF_M_64)) rfl d_M_entry_35 ?_
      refine lv_if_le (tgt := 45) hx hb d_M_entry_38 (by decide) (fun c_6 => ?_) (fun c_6 => ?_)
      · exact absurd c_6 (by decide)
      · refine lv_iconst (v := 0) hx hb d_M_entry_41 (by decide) ?_
        refine lv_goto (tgt := 50) hx hb d_M_entry_42 (by decide) ?_
        exact W.iret (v := 0) hx hb hr (fun tz hz9 hW9 => ⟨⟨0, (wF M 0 0 2), rfl, Or.inr (Or.inl ⟨rfl, rfl, q, q2⟩), by rw [hz9]; exact hP, va_K.moved hW9.alike hK⟩, hS.F hz9⟩) hS.2.2 d_M_entry_50
  · have q : ¬ xin day (nI (3599 + 1)) := fun h => b2i_F c_2 ((y_in 3599 (by omega)).mpr h)
    refine lv_iconst (v := 1) hx hb d_M_entry_13 (by decide) ?_
    refine lv_goto (tgt := 31) hx hb d_M_entry_14 (by decide) ?_
    refine w_put (C := R_M) (T := F_M) (N := 22) (ci := 5) (x := 1) hx hb hts inw_M ft_M ft_M_ok fn_M hown hK hP hW hS 0 (by decide) SM_0 rfl 0 (by decide) (hts _ (al aF_M_64)) rfl rfl rfl (Nat.le_of_ble_eq_true rfl) (by rw [wF_r]; exact SM_0.trans rfl) d_M_entry_31 (fun H locs hP hS => ?_)
    refine lv_aload_n hx hb d_M_entry_34 rfl (lv_at hl 0 rfl) ?_
    refine w_get (C := R_M) (T := F_M) (N := 22) (ci := 5) (v := .int 1) hx hb hts inw_M hown hK hP 0 (by decide) SM_0 rfl 0 (by decide) (hts _ (al aF_M_64)) rfl d_M_entry_35 ?_
    refine lv_if_le (tgt := 45) hx hb d_M_entry_38 (by decide) (fun c_7 => ?_) (fun c_7 => ?_)
    · exact absurd c_7 (by decide)
    · refine lv_iconst (v := 0) hx hb d_M_entry_41 (by decide) ?_
      refine lv_goto (tgt := 50) hx hb d_M_entry_42 (by decide) ?_
      exact W.iret (v := 0) hx hb hr (fun tz hz9 hW9 => ⟨⟨0, (wF M 0 0 1), rfl, Or.inl ⟨rfl, rfl, q⟩, by rw [hz9]; exact hP, va_K.moved hW9.alike hK⟩, hS.F hz9⟩) hS.2.2 d_M_entry_50
set_option maxHeartbeats 4000000 in
set_option maxRecDepth 100000 in
/-- M_row -/
theorem k_M_row (l : Launch) (D : va_G) (cA : Nat → ClassId) (o sz : Nat) (M : wM) (ec : Nat) (hec : ec ≤ 60) (eec : M.2.2 0 13 = nI ec) (rc : Nat → Nat) (hrc : ∀ j, j < 60 → rc j ≤ 6 ∧ M.1 12 j = nI (rc j)) (x ac : Int32) (ce : Int64) : Met l y_M_row (wm y_M_row c_M_row 5 (some .int)) { frames := 1, cells := 0, slots := 0, locals := 25 } (va_Pc [.ref (o + 0), .int x, .int ac, .long ce] (mB D cA o M sz)) (va_Qi (fun r M1 => (r = 0 ∧ M1 = (wF M 0 0 1) ∧ ¬ (xin x (nI ec) ∧ xin ac 10)) ∨ (r = 0 ∧ M1 = (wF M 0 0 2) ∧ xin x (nI ec) ∧ xin ac 10 ∧ ¬ (-1000000000 ≤ ce ∧ ce ≤ 1000000000)) ∨ (xin ac 10 ∧ (-1000000000 ≤ ce ∧ ce ≤ 1000000000) ∧ ∃ k, k < ec ∧ x = nI k ∧ ((r = 0 ∧ M1 = (wF M 0 0 3) ∧ (rc k = 6 ∨ 0 < M.1 15 k)) ∨ (rc k < 6 ∧ ¬ 0 < M.1 15 k ∧ M1 = wI (wL (wI (wF M 0 0 0) 13 (6 * k + rc k) ac) 14 (6 * k + rc k) ce) 12 k (nI (rc k + 1)) ∧ r = nI (rc k + 1))))) (mQ D cA o) (mA o sz)) 0 0 (mA o sz) := by
  refine Met.ofW (cc := c_M_row) (maxL := 5) (ret := (some .int)) (by decide) rfl ?_
  intro p e s m args below meth c s₁ B hml hv
  obtain ⟨rfl, hsz, hP, hK⟩ := hv
  have hx := B.exec
  have hb := B.bytes
  have hr := B.returns
  have hts := atoms_spec (ws := wm y_M_row c_M_row 5 (some .int)) B.pre
  have hown : s.vm.findClass "ShopDesksModel" = some m.cls := findClass_of_methodNamed B.named
  have hlocks := B.notSynchronized
  subst hsz
  have hS : va_S (mA o s.heap.size) s.heap s.heap [] := va_S.rf
  have hW : ∀ i, i < 17 → mA o s.heap.size (o + i) := fun i hi => wA_in hi
  have hl := lv_entry ([.ref (o + 0), .int x, .int ac, .long ce]) (n := 5) (Nat.le_of_ble_eq_true rfl)
  rw [lg_entry_eq]
  generalize (lg_sl ([.ref (o + 0), .int x, .int ac, .long ce]) ++ List.replicate (5 - (lg_sl ([.ref (o + 0), .int x, .int ac, .long ce])).length) Slot.unset).toArray = ls at hl ⊢
  have hl : lv_has ls 5 [(0, .ref (o + 0)), (1, .int x), (2, .int ac), (3, .long ce)] := hl
  refine lv_aload_n hx hb d_M_row_0 rfl (lv_at hl 0 rfl) ?_
  refine lv_aload_n hx hb d_M_row_1 rfl (lv_at hl 0 rfl) ?_
  refine lv_iload_n hx hb d_M_row_2 rfl (lv_at hl 1 rfl) ?_
  refine w_Vi ⟨hx, hb, hml, hown, hts⟩ (k_M_isEntry l D cA o _ M x) (kV hts 1 aK_M_isEntry aM_M_145 aI_M_isEntry aV_M_isEntry aN_M nm_M_isEntry rfl rfl ⟨(Nat.le_of_ble_eq_true rfl), (Nat.le_of_ble_eq_true rfl)⟩) hK hP (by decide) SM_0 rfl rfl hl.1 rfl (Nat.le_of_ble_eq_true rfl) d_M_row_3 ⟨(Nat.le_of_ble_eq_true rfl), (Nat.le_of_ble_eq_true rfl)⟩ hS (fun q h => wA_le hS.1 h) (fun r_1 M_1 H locs hw_1 hP hzc hkc hS => ?_)
  rw [hw_1.1] at hP
  refine w_topi hw_1.2 ?_
  refine lv_if_eq (tgt := 21) hx hb d_M_row_6 (by decide) (fun c_2 => ?_) (fun c_2 => ?_)
  · have q1 : ¬ xin x (nI ec) := by rw [← eec]; exact b2i_F c_2
    refine lv_iconst (v := 1) hx hb d_M_row_21 (by decide) ?_
    refine lv_goto (tgt := 67) hx hb d_M_row_22 (by decide) ?_
    refine w_put (C := R_M) (T := F_M) (N := 22) (ci := 5) (x := 1) hx hb hts inw_M ft_M ft_M_ok fn_M hown hK hP hW hS 0 (by decide) SM_0 rfl 0 (by decide) (hts _ (al aF_M_64)) rfl rfl rfl (Nat.le_of_ble_eq_true rfl) (by rw [wF_r]; exact SM_0.trans rfl) d_M_row_67 (fun H locs hP hS => ?_)
    refine lv_aload_n hx hb d_M_row_70 rfl (lv_at hl 0 rfl) ?_
    refine w_get (C := R_M) (T := F_M) (N := 22) (ci := 5) (v := .int 1) hx hb hts inw_M hown hK hP 0 (by decide) SM_0 rfl 0 (by decide) (hts _ (al aF_M_64)) rfl d_M_row_71 ?_
    refine lv_if_le (tgt := 79) hx hb d_M_row_74 (by decide) (fun c_3 => ?_) (fun c_3 => ?_)
    · exact absurd c_3 (by decide)
    · refine lv_iconst (v := 0) hx hb d_M_row_77 (by decide) ?_
      exact W.iret (v := 0) hx hb hr (fun tz hz9 hW9 => ⟨⟨0, (wF M 0 0 1), rfl, Or.inl ⟨rfl, rfl, fun h => q1 h.1⟩, by rw [hz9]; exact hP, va_K.moved hW9.alike hK⟩, hS.F hz9⟩) hS.2.2 d_M_row_78
  · have q1 : xin x (nI ec) := by rw [← eec]; exact b2i_T c_2
    obtain ⟨k1, hk1, ek1⟩ := x_idx q1.1 q1.2 (by omega)
    have hk18 : k1 < 60 := by omega
    refine lv_iload_n hx hb d_M_row_9 rfl (lv_at hl 2 rfl) ?_
    refine lv_i2l hx hb d_M_row_10 rfl ?_
    refine lv_lconst (v := 0) hx hb d_M_row_11 (by decide) ?_
    refine lv_ldc2 (v := 9) hx hb hown (hts _ (al aL_M_76)) d_M_row_12 ?_
    refine w_Si ⟨hx, hb, hml, hown, hts⟩ (k_M_isIn l D cA o _ M (ac.toInt64) 0 9) (kS hts 3 aK_M_isIn aM_M_72 aS_M_isIn aN_M nm_M_isIn rfl rfl ⟨(Nat.le_of_ble_eq_true rfl), (Nat.le_of_ble_eq_true rfl)⟩) hK hP rfl hl.1 rfl (Nat.le_of_ble_eq_true rfl) d_M_row_15 ⟨(Nat.le_of_ble_eq_true rfl), (Nat.le_of_ble_eq_true rfl)⟩ hS (fun q h => wA_le hS.1 h) (fun r_4 M_4 H locs hw_4 hP hzc hkc hS => ?_)
    rw [hw_4.1] at hP
    refine w_topi hw_4.2 ?_
    refine lv_if_ne (tgt := 25) hx hb d_M_row_18 (by decide) (fun c_5 => ?_) (fun c_5 => ?_)
    · have q2 : xin ac (nI (9 + 1)) := (y_in 9 (by omega)).mp (b2i_T c_5)
      refine lv_lload_n hx hb d_M_row_25 rfl (lv_at hl 3 rfl) ?_
      refine lv_ldc2 (v := -1000000000) hx hb hown (hts _ (al aL_M_148)) d_M_row_26 ?_
      refine lv_ldc2 (v := 1000000000) hx hb hown (hts _ (al aL_M_150)) d_M_row_29 ?_
      refine w_Si ⟨hx, hb, hml, hown, hts⟩ (k_M_isIn l D cA o _ M ce (-1000000000) 1000000000) (kS hts 3 aK_M_isIn aM_M_72 aS_M_isIn aN_M nm_M_isIn rfl rfl ⟨(Nat.le_of_ble_eq_true rfl), (Nat.le_of_ble_eq_true rfl)⟩) hK hP rfl hl.1 rfl (Nat.le_of_ble_eq_true rfl) d_M_row_32 ⟨(Nat.le_of_ble_eq_true rfl), (Nat.le_of_ble_eq_true rfl)⟩ hS (fun q h => wA_le hS.1 h) (fun r_6 M_6 H locs hw_6 hP hzc hkc hS => ?_)
      rw [hw_6.1] at hP
      refine w_topi hw_6.2 ?_
      refine lv_if_ne (tgt := 42) hx hb d_M_row_35 (by decide) (fun c_7 => ?_) (fun c_7 => ?_)
      · have q3 := b2i_T c_7
        refine lv_aload_n hx hb d_M_row_42 rfl (lv_at hl 0 rfl) ?_
        refine w_get (C := R_M) (T := F_M) (N := 22) (ci := 5) (v := .ref (o + 12)) hx hb hts inw_M hown hK hP 0 (by decide) SM_0 rfl 15 (by decide) (hts _ (al aF_M_45)) rfl d_M_row_43 ?_
        refine lv_iload_n hx hb d_M_row_46 rfl (lv_at hl 1 rfl) ?_
        refine w_topi ek1 ?_
        refine w_iald hx hb hK hP 12 0 (by decide) SM_12 rfl (k := k1) (by omega) (by decide) d_M_row_47 ?_
        refine w_topi ((hrc k1 hk18).2) ?_
        refine lv_bipush (v := 6) hx hb d_M_row_48 (by decide) ?_
        refine lv_icmp_eq (tgt := 62) hx hb d_M_row_50 (by decide) (fun c_8 => ?_) (fun c_8 => ?_)
        · have q4 : rc k1 = 6 ∨ 0 < M.1 15 k1 := Or.inl ((nI_eq (b := 6) (by have := (hrc k1 hk18).1; omega) (by omega)).mp c_8)
          refine lv_iconst (v := 3) hx hb d_M_row_62 (by decide) ?_
          refine lv_goto (tgt := 67) hx hb d_M_row_63 (by decide) ?_
          refine w_put (C := R_M) (T := F_M) (N := 22) (ci := 5) (x := 3) hx hb hts inw_M ft_M ft_M_ok fn_M hown hK hP hW hS 0 (by decide) SM_0 rfl 0 (by decide) (hts _ (al aF_M_64)) rfl rfl rfl (Nat.le_of_ble_eq_true rfl) (by rw [wF_r]; exact SM_0.trans rfl) d_M_row_67 (fun H locs hP hS => ?_)
          refine lv_aload_n hx hb d_M_row_70 rfl (lv_at hl 0 rfl) ?_
          refine w_get (C := R_M) (T := F_M) (N := 22) (ci := 5) (v := .int 3) hx hb hts inw_M hown hK hP 0 (by decide) SM_0 rfl 0 (by decide) (hts _ (al aF_M_64)) rfl d_M_row_71 ?_
          refine lv_if_le (tgt := 79) hx hb d_M_row_74 (by decide) (fun c_9 => ?_) (fun c_9 => ?_)
          · exact absurd c_9 (by decide)
          · refine lv_iconst (v := 0) hx hb d_M_row_77 (by decide) ?_
            exact W.iret (v := 0) hx hb hr (fun tz hz9 hW9 => ⟨⟨0, (wF M 0 0 3), rfl, Or.inr (Or.inr ⟨q2, q3, k1, hk1, ek1, Or.inl ⟨rfl, rfl, q4⟩⟩), by rw [hz9]; exact hP, va_K.moved hW9.alike hK⟩, hS.F hz9⟩) hS.2.2 d_M_row_78
        · have q5 : rc k1 < 6 := Nat.lt_of_le_of_ne (hrc k1 hk18).1 (fun e => c_8 (by rw [e]; rfl))
          refine lv_aload_n hx hb d_M_row_53 rfl (lv_at hl 0 rfl) ?_
          refine w_get (C := R_M) (T := F_M) (N := 22) (ci := 5) (v := .ref (o + 15)) hx hb hts inw_M hown hK hP 0 (by decide) SM_0 rfl 18 (by decide) (hts _ (al aF_M_54)) rfl d_M_row_54 ?_
          refine lv_iload_n hx hb d_M_row_57 rfl (lv_at hl 1 rfl) ?_
          refine w_topi ek1 ?_
          refine w_iald hx hb hK hP 15 0 (by decide) SM_15 rfl (k := k1) (by omega) (by decide) d_M_row_58 ?_
          refine lv_if_le (tgt := 66) hx hb d_M_row_59 (by decide) (fun c_10 => ?_) (fun c_10 => ?_)
          · have q6 : ¬ 0 < M.1 15 k1 := Int32.not_lt.mpr c_10
            refine lv_iconst (v := 0) hx hb d_M_row_66 (by decide) ?_
            refine w_put (C := R_M) (T := F_M) (N := 22) (ci := 5) (x := 0) hx hb hts inw_M ft_M ft_M_ok fn_M hown hK hP hW hS 0 (by decide) SM_0 rfl 0 (by decide) (hts _ (al aF_M_64)) rfl rfl rfl (Nat.le_of_ble_eq_true rfl) (by rw [wF_r]; exact SM_0.trans rfl) d_M_row_67 (fun H locs hP hS => ?_)
            refine lv_aload_n hx hb d_M_row_70 rfl (lv_at hl 0 rfl) ?_
            refine w_get (C := R_M) (T := F_M) (N := 22) (ci := 5) (v := .int 0) hx hb hts inw_M hown hK hP 0 (by decide) SM_0 rfl 0 (by decide) (hts _ (al aF_M_64)) rfl d_M_row_71 ?_
            refine lv_if_le (tgt := 79) hx hb d_M_row_74 (by decide) (fun c_11 => ?_) (fun c_11 => ?_)
            · refine lv_aload_n hx hb d_M_row_79 rfl (lv_at hl 0 rfl) ?_
              refine lv_iload_n hx hb d_M_row_80 rfl (lv_at hl 1 rfl) ?_
              refine w_topi ek1 ?_
              refine lv_iload_n hx hb d_M_row_81 rfl (lv_at hl 2 rfl) ?_
              refine lv_lload_n hx hb d_M_row_82 rfl (lv_at hl 3 rfl) ?_
              refine w_Vv ⟨hx, hb, hml, hown, hts⟩ (k_M_addRow l D cA o _ (wF M 0 0 0) k1 hk18 (rc k1) q5 (hrc k1 hk18).2 ac ce) (kV hts 3 aK_M_addRow aM_M_152 aI_M_addRow aV_M_addRow aN_M nm_M_addRow rfl rfl ⟨(Nat.le_of_ble_eq_true rfl), (Nat.le_of_ble_eq_true rfl)⟩) hK hP (by decide) SM_0 rfl rfl hl.1 rfl (Nat.le_of_ble_eq_true rfl) d_M_row_83 ⟨(Nat.le_of_ble_eq_true rfl), (Nat.le_of_ble_eq_true rfl)⟩ hS (fun q h => wA_le hS.1 h) (fun M_12 H locs hw_12 hP hzc hkc hS => ?_)
              rw [hw_12] at hP
              refine lv_aload_n hx hb d_M_row_86 rfl (lv_at hl 0 rfl) ?_
              refine w_get (C := R_M) (T := F_M) (N := 22) (ci := 5) (v := .ref (o + 12)) hx hb hts inw_M hown hK hP 0 (by decide) SM_0 rfl 15 (by decide) (hts _ (al aF_M_45)) rfl d_M_row_87 ?_
              refine lv_iload_n hx hb d_M_row_90 rfl (lv_at hl 1 rfl) ?_
              refine w_topi ek1 ?_
              refine w_iald hx hb hK hP 12 0 (by decide) SM_12 rfl (k := k1) (by omega) (by decide) d_M_row_91 ?_
              refine w_topi wI_s ?_
              exact W.iret (v := nI (rc k1 + 1)) hx hb hr (fun tz hz9 hW9 => ⟨⟨nI (rc k1 + 1), (wI (wL (wI (wF M 0 0 0) 13 (6 * k1 + rc k1) ac) 14 (6 * k1 + rc k1) ce) 12 k1 (nI (rc k1 + 1))), rfl, Or.inr (Or.inr ⟨q2, q3, k1, hk1, ek1, Or.inr ⟨q5, q6, rfl, rfl⟩⟩), by rw [hz9]; exact hP, va_K.moved hW9.alike hK⟩, hS.F hz9⟩) hS.2.2 d_M_row_92
            · exact absurd (by decide) c_11
          · have q4 : rc k1 = 6 ∨ 0 < M.1 15 k1 := Or.inr (Int32.not_le.mp c_10)
            refine lv_iconst (v := 3) hx hb d_M_row_62 (by decide) ?_
            refine lv_goto (tgt := 67) hx hb d_M_row_63 (by decide) ?_
            refine w_put (C := R_M) (T := F_M) (N := 22) (ci := 5) (x := 3) hx hb hts inw_M ft_M ft_M_ok fn_M hown hK hP hW hS 0 (by decide) SM_0 rfl 0 (by decide) (hts _ (al aF_M_64)) rfl rfl rfl (Nat.le_of_ble_eq_true rfl) (by rw [wF_r]; exact SM_0.trans rfl) d_M_row_67 (fun H locs hP hS => ?_)
            refine lv_aload_n hx hb d_M_row_70 rfl (lv_at hl 0 rfl) ?_
            refine w_get (C := R_M) (T := F_M) (N := 22) (ci := 5) (v := .int 3) hx hb hts inw_M hown hK hP 0 (by decide) SM_0 rfl 0 (by decide) (hts _ (al aF_M_64)) rfl d_M_row_71 ?_
            refine lv_if_le (tgt := 79) hx hb d_M_row_74 (by decide) (fun c_13 => ?_) (fun c_13 => ?_)
            · exact absurd c_13 (by decide)
            · refine lv_iconst (v := 0) hx hb d_M_row_77 (by decide) ?_
              exact W.iret (v := 0) hx hb hr (fun tz hz9 hW9 => ⟨⟨0, (wF M 0 0 3), rfl, Or.inr (Or.inr ⟨q2, q3, k1, hk1, ek1, Or.inl ⟨rfl, rfl, q4⟩⟩), by rw [hz9]; exact hP, va_K.moved hW9.alike hK⟩, hS.F hz9⟩) hS.2.2 d_M_row_78
      · have q3 := b2i_F c_7
        refine lv_iconst (v := 2) hx hb d_M_row_38 (by decide) ?_
        refine lv_goto (tgt := 67) hx hb d_M_row_39 (by decide) ?_
        refine w_put (C := R_M) (T := F_M) (N := 22) (ci := 5) (x := 2) hx hb hts inw_M ft_M ft_M_ok fn_M hown hK hP hW hS 0 (by decide) SM_0 rfl 0 (by decide) (hts _ (al aF_M_64)) rfl rfl rfl (Nat.le_of_ble_eq_true rfl) (by rw [wF_r]; exact SM_0.trans rfl) d_M_row_67 (fun H locs hP hS => ?_)
        refine lv_aload_n hx hb d_M_row_70 rfl (lv_at hl 0 rfl) ?_
        refine w_get (C := R_M) (T := F_M) (N := 22) (ci := 5) (v := .int 2) hx hb hts inw_M hown hK hP 0 (by decide) SM_0 rfl 0 (by decide) (hts _ (al aF_M_64)) rfl d_M_row_71 ?_
        refine lv_if_le (tgt := 79) hx hb d_M_row_74 (by decide) (fun c_14 => ?_) (fun c_14 => ?_)
        · exact absurd c_14 (by decide)
        · refine lv_iconst (v := 0) hx hb d_M_row_77 (by decide) ?_
          exact W.iret (v := 0) hx hb hr (fun tz hz9 hW9 => ⟨⟨0, (wF M 0 0 2), rfl, Or.inr (Or.inl ⟨rfl, rfl, q1, q2, q3⟩), by rw [hz9]; exact hP, va_K.moved hW9.alike hK⟩, hS.F hz9⟩) hS.2.2 d_M_row_78
    · have q2 : ¬ xin ac (nI (9 + 1)) := fun h => b2i_F c_5 ((y_in 9 (by omega)).mpr h)
      refine lv_iconst (v := 1) hx hb d_M_row_21 (by decide) ?_
      refine lv_goto (tgt := 67) hx hb d_M_row_22 (by decide) ?_
      refine w_put (C := R_M) (T := F_M) (N := 22) (ci := 5) (x := 1) hx hb hts inw_M ft_M ft_M_ok fn_M hown hK hP hW hS 0 (by decide) SM_0 rfl 0 (by decide) (hts _ (al aF_M_64)) rfl rfl rfl (Nat.le_of_ble_eq_true rfl) (by rw [wF_r]; exact SM_0.trans rfl) d_M_row_67 (fun H locs hP hS => ?_)
      refine lv_aload_n hx hb d_M_row_70 rfl (lv_at hl 0 rfl) ?_
      refine w_get (C := R_M) (T := F_M) (N := 22) (ci := 5) (v := .int 1) hx hb hts inw_M hown hK hP 0 (by decide) SM_0 rfl 0 (by decide) (hts _ (al aF_M_64)) rfl d_M_row_71 ?_
      refine lv_if_le (tgt := 79) hx hb d_M_row_74 (by decide) (fun c_15 => ?_) (fun c_15 => ?_)
      · exact absurd c_15 (by decide)
      · refine lv_iconst (v := 0) hx hb d_M_row_77 (by decide) ?_
        exact W.iret (v := 0) hx hb hr (fun tz hz9 hW9 => ⟨⟨0, (wF M 0 0 1), rfl, Or.inl ⟨rfl, rfl, fun h => q2 h.2⟩, by rw [hz9]; exact hP, va_K.moved hW9.alike hK⟩, hS.F hz9⟩) hS.2.2 d_M_row_78
set_option maxHeartbeats 4000000 in
set_option maxRecDepth 100000 in
/-- M_right -/
theorem k_M_right (l : Launch) (D : va_G) (cA : Nat → ClassId) (o sz : Nat) (M : wM) (x kd bo : Int32) (hbo : vp_nar .boolean bo = bo) : Met l y_M_right (wm y_M_right c_M_right 4 (some .boolean)) { frames := 1, cells := 0, slots := 0, locals := 25 } (va_Pc [.ref (o + 0), .int x, .int kd, .int bo] (mB D cA o M sz)) (va_Qi (fun r M1 => (r = 0 ∧ M1 = (wF M 0 0 1) ∧ ¬ xin x 4) ∨ (r = 0 ∧ M1 = (wF M 0 0 2) ∧ xin x 4 ∧ ¬ xin kd 4) ∨ (∃ a b, a < 4 ∧ b < 4 ∧ x = nI a ∧ kd = nI b ∧ ((r = 0 ∧ M1 = (wF M 0 0 0) ∧ M.1 10 (4 * a + b) = bo) ∨ (r = 1 ∧ M1 = wI (wF M 0 0 0) 10 (4 * a + b) bo ∧ ¬ M.1 10 (4 * a + b) = bo)))) (mQ D cA o) (mA o sz)) 0 0 (mA o sz) := by
  refine Met.ofW (cc := c_M_right) (maxL := 4) (ret := (some .boolean)) (by decide) rfl ?_
  intro p e s m args below meth c s₁ B hml hv
  obtain ⟨rfl, hsz, hP, hK⟩ := hv
  have hx := B.exec
  have hb := B.bytes
  have hr := B.returns
  have hts := atoms_spec (ws := wm y_M_right c_M_right 4 (some .boolean)) B.pre
  have hown : s.vm.findClass "ShopDesksModel" = some m.cls := findClass_of_methodNamed B.named
  have hlocks := B.notSynchronized
  subst hsz
  have hS : va_S (mA o s.heap.size) s.heap s.heap [] := va_S.rf
  have hW : ∀ i, i < 17 → mA o s.heap.size (o + i) := fun i hi => wA_in hi
  have hl := lv_entry ([.ref (o + 0), .int x, .int kd, .int bo]) (n := 4) (Nat.le_of_ble_eq_true rfl)
  rw [lg_entry_eq]
  generalize (lg_sl ([.ref (o + 0), .int x, .int kd, .int bo]) ++ List.replicate (4 - (lg_sl ([.ref (o + 0), .int x, .int kd, .int bo])).length) Slot.unset).toArray = ls at hl ⊢
  have hl : lv_has ls 4 [(0, .ref (o + 0)), (1, .int x), (2, .int kd), (3, .int bo)] := hl
  refine lv_aload_n hx hb d_M_right_0 rfl (lv_at hl 0 rfl) ?_
  refine lv_iload_n hx hb d_M_right_1 rfl (lv_at hl 1 rfl) ?_
  refine lv_i2l hx hb d_M_right_2 rfl ?_
  refine lv_lconst (v := 0) hx hb d_M_right_3 (by decide) ?_
  refine lv_ldc2 (v := 3) hx hb hown (hts _ (al aL_M_134)) d_M_right_4 ?_
  refine w_Si ⟨hx, hb, hml, hown, hts⟩ (k_M_isIn l D cA o _ M (x.toInt64) 0 3) (kS hts 3 aK_M_isIn aM_M_72 aS_M_isIn aN_M nm_M_isIn rfl rfl ⟨(Nat.le_of_ble_eq_true rfl), (Nat.le_of_ble_eq_true rfl)⟩) hK hP rfl hl.1 rfl (Nat.le_of_ble_eq_true rfl) d_M_right_7 ⟨(Nat.le_of_ble_eq_true rfl), (Nat.le_of_ble_eq_true rfl)⟩ hS (fun q h => wA_le hS.1 h) (fun r_1 M_1 H locs hw_1 hP hzc hkc hS => ?_)
  rw [hw_1.1] at hP
  refine w_topi hw_1.2 ?_
  refine lv_if_ne (tgt := 17) hx hb d_M_right_10 (by decide) (fun c_2 => ?_) (fun c_2 => ?_)
  · have q1 : xin x (nI (3 + 1)) := (y_in 3 (by omega)).mp (b2i_T c_2)
    obtain ⟨a1, ha1, ea1⟩ := x_idx (n := 4) q1.1 q1.2 (by omega)
    refine lv_iload_n hx hb d_M_right_17 rfl (lv_at hl 2 rfl) ?_
    refine w_Si ⟨hx, hb, hml, hown, hts⟩ (k_M_isKind l D cA o _ M kd) (kS hts 1 aK_M_isKind aM_M_78 aS_M_isKind aN_M nm_M_isKind rfl rfl ⟨(Nat.le_of_ble_eq_true rfl), (Nat.le_of_ble_eq_true rfl)⟩) hK hP rfl hl.1 rfl (Nat.le_of_ble_eq_true rfl) d_M_right_18 ⟨(Nat.le_of_ble_eq_true rfl), (Nat.le_of_ble_eq_true rfl)⟩ hS (fun q h => wA_le hS.1 h) (fun r_3 M_3 H locs hw_3 hP hzc hkc hS => ?_)
    rw [hw_3.1] at hP
    refine w_topi hw_3.2 ?_
    refine lv_if_eq (tgt := 28) hx hb d_M_right_21 (by decide) (fun c_4 => ?_) (fun c_4 => ?_)
    · have q2 : ¬ xin kd 4 := fun h => b2i_F c_4 (y_kd.mpr h)
      refine lv_iconst (v := 2) hx hb d_M_right_28 (by decide) ?_
      refine w_put (C := R_M) (T := F_M) (N := 22) (ci := 5) (x := 2) hx hb hts inw_M ft_M ft_M_ok fn_M hown hK hP hW hS 0 (by decide) SM_0 rfl 0 (by decide) (hts _ (al aF_M_64)) rfl rfl rfl (Nat.le_of_ble_eq_true rfl) (by rw [wF_r]; exact SM_0.trans rfl) d_M_right_29 (fun H locs hP hS => ?_)
      refine lv_aload_n hx hb d_M_right_32 rfl (lv_at hl 0 rfl) ?_
      refine w_get (C := R_M) (T := F_M) (N := 22) (ci := 5) (v := .int 2) hx hb hts inw_M hown hK hP 0 (by decide) SM_0 rfl 0 (by decide) (hts _ (al aF_M_64)) rfl d_M_right_33 ?_
      refine lv_if_gt (tgt := 53) hx hb d_M_right_36 (by decide) (fun c_5 => ?_) (fun c_5 => ?_)
      · refine lv_iconst (v := 0) hx hb d_M_right_53 (by decide) ?_
        exact W.zret (v := 0) hx hb hr rfl (fun tz hz9 hW9 => ⟨⟨0, (wF M 0 0 2), rfl, Or.inr (Or.inl ⟨rfl, rfl, q1, q2⟩), by rw [hz9]; exact hP, va_K.moved hW9.alike hK⟩, hS.F hz9⟩) hS.2.2 d_M_right_54
      · exact absurd (by decide) c_5
    · have q2 : xin kd 4 := y_kd.mp (b2i_T c_4)
      obtain ⟨b1, hb1, eb1⟩ := x_idx (n := 4) q2.1 q2.2 (by omega)
      refine lv_iconst (v := 0) hx hb d_M_right_24 (by decide) ?_
      refine lv_goto (tgt := 29) hx hb d_M_right_25 (by decide) ?_
      refine w_put (C := R_M) (T := F_M) (N := 22) (ci := 5) (x := 0) hx hb hts inw_M ft_M ft_M_ok fn_M hown hK hP hW hS 0 (by decide) SM_0 rfl 0 (by decide) (hts _ (al aF_M_64)) rfl rfl rfl (Nat.le_of_ble_eq_true rfl) (by rw [wF_r]; exact SM_0.trans rfl) d_M_right_29 (fun H locs hP hS => ?_)
      refine lv_aload_n hx hb d_M_right_32 rfl (lv_at hl 0 rfl) ?_
      refine w_get (C := R_M) (T := F_M) (N := 22) (ci := 5) (v := .int 0) hx hb hts inw_M hown hK hP 0 (by decide) SM_0 rfl 0 (by decide) (hts _ (al aF_M_64)) rfl d_M_right_33 ?_
      refine lv_if_gt (tgt := 53) hx hb d_M_right_36 (by decide) (fun c_6 => ?_) (fun c_6 => ?_)
      · exact absurd c_6 (by decide)
      · refine lv_aload_n hx hb d_M_right_39 rfl (lv_at hl 0 rfl) ?_
        refine w_get (C := R_M) (T := F_M) (N := 22) (ci := 5) (v := .ref (o + 10)) hx hb hts inw_M hown hK hP 0 (by decide) SM_0 rfl 12 (by decide) (hts _ (al aF_M_38)) rfl d_M_right_40 ?_
        refine lv_iconst (v := 4) hx hb d_M_right_43 (by decide) ?_
        refine lv_iload_n hx hb d_M_right_44 rfl (lv_at hl 1 rfl) ?_
        refine w_topi ea1 ?_
        refine lv_imul hx hb d_M_right_45 ?_
        refine lv_iload_n hx hb d_M_right_46 rfl (lv_at hl 2 rfl) ?_
        refine w_topi eb1 ?_
        refine lv_iadd hx hb d_M_right_47 ?_
        refine w_topi (y_idx 4 a1 b1) ?_
        refine w_zald hx hb hK hP 10 2 (by decide) SM_10 rfl (k := (4 * a1 + b1)) (by omega) (by decide) d_M_right_48 ?_
        refine lv_iload_n hx hb d_M_right_49 rfl (lv_at hl 3 rfl) ?_
        refine lv_icmp_ne (tgt := 55) hx hb d_M_right_50 (by decide) (fun c_7 => ?_) (fun c_7 => ?_)
        · have q3 := c_7
          refine lv_aload_n hx hb d_M_right_55 rfl (lv_at hl 0 rfl) ?_
          refine w_get (C := R_M) (T := F_M) (N := 22) (ci := 5) (v := .ref (o + 10)) hx hb hts inw_M hown hK hP 0 (by decide) SM_0 rfl 12 (by decide) (hts _ (al aF_M_38)) rfl d_M_right_56 ?_
          refine lv_iconst (v := 4) hx hb d_M_right_59 (by decide) ?_
          refine lv_iload_n hx hb d_M_right_60 rfl (lv_at hl 1 rfl) ?_
          refine w_topi ea1 ?_
          refine lv_imul hx hb d_M_right_61 ?_
          refine lv_iload_n hx hb d_M_right_62 rfl (lv_at hl 2 rfl) ?_
          refine w_topi eb1 ?_
          refine lv_iadd hx hb d_M_right_63 ?_
          refine w_topi (y_idx 4 a1 b1) ?_
          refine lv_iload_n hx hb d_M_right_64 rfl (lv_at hl 3 rfl) ?_
          refine w_zast hx hb hK hP hW hS 10 2 (by decide) (fun _ => SM_10) rfl (hbo) (k := (4 * a1 + b1)) (by omega) (by decide) d_M_right_65 (fun H locs hP hS => ?_)
          refine lv_iconst (v := 1) hx hb d_M_right_66 (by decide) ?_
          exact W.zret (v := 1) hx hb hr rfl (fun tz hz9 hW9 => ⟨⟨1, (wI (wF M 0 0 0) 10 (4 * a1 + b1) bo), rfl, Or.inr (Or.inr ⟨a1, b1, ha1, hb1, ea1, eb1, Or.inr ⟨rfl, rfl, q3⟩⟩), by rw [hz9]; exact hP, va_K.moved hW9.alike hK⟩, hS.F hz9⟩) hS.2.2 d_M_right_67
        · have q3 := c_7
          refine lv_iconst (v := 0) hx hb d_M_right_53 (by decide) ?_
          exact W.zret (v := 0) hx hb hr rfl (fun tz hz9 hW9 => ⟨⟨0, (wF M 0 0 0), rfl, Or.inr (Or.inr ⟨a1, b1, ha1, hb1, ea1, eb1, Or.inl ⟨rfl, rfl, q3⟩⟩), by rw [hz9]; exact hP, va_K.moved hW9.alike hK⟩, hS.F hz9⟩) hS.2.2 d_M_right_54
  · have q1 : ¬ xin x (nI (3 + 1)) := fun h => b2i_F c_2 ((y_in 3 (by omega)).mpr h)
    refine lv_iconst (v := 1) hx hb d_M_right_13 (by decide) ?_
    refine lv_goto (tgt := 29) hx hb d_M_right_14 (by decide) ?_
    refine w_put (C := R_M) (T := F_M) (N := 22) (ci := 5) (x := 1) hx hb hts inw_M ft_M ft_M_ok fn_M hown hK hP hW hS 0 (by decide) SM_0 rfl 0 (by decide) (hts _ (al aF_M_64)) rfl rfl rfl (Nat.le_of_ble_eq_true rfl) (by rw [wF_r]; exact SM_0.trans rfl) d_M_right_29 (fun H locs hP hS => ?_)
    refine lv_aload_n hx hb d_M_right_32 rfl (lv_at hl 0 rfl) ?_
    refine w_get (C := R_M) (T := F_M) (N := 22) (ci := 5) (v := .int 1) hx hb hts inw_M hown hK hP 0 (by decide) SM_0 rfl 0 (by decide) (hts _ (al aF_M_64)) rfl d_M_right_33 ?_
    refine lv_if_gt (tgt := 53) hx hb d_M_right_36 (by decide) (fun c_8 => ?_) (fun c_8 => ?_)
    · refine lv_iconst (v := 0) hx hb d_M_right_53 (by decide) ?_
      exact W.zret (v := 0) hx hb hr rfl (fun tz hz9 hW9 => ⟨⟨0, (wF M 0 0 1), rfl, Or.inl ⟨rfl, rfl, q1⟩, by rw [hz9]; exact hP, va_K.moved hW9.alike hK⟩, hS.F hz9⟩) hS.2.2 d_M_right_54
    · exact absurd (by decide) c_8
set_option maxHeartbeats 4000000 in
set_option maxRecDepth 100000 in
/-- M_batch -/
theorem k_M_batch (l : Launch) (D : va_G) (cA : Nat → ClassId) (o sz : Nat) (M : wM) (sc : Nat) (hsc : sc ≤ 8) (esc : M.2.2 0 8 = nI sc) (x bo : Int32) : Met l y_M_batch (wm y_M_batch c_M_batch 3 (some .boolean)) { frames := 1, cells := 0, slots := 0, locals := 21 } (va_Pc [.ref (o + 0), .int x, .int bo] (mB D cA o M sz)) (va_Qi (fun r M1 => (r = 0 ∧ M1 = (wF M 0 0 1) ∧ ¬ xin x (nI sc)) ∨ (∃ k, k < sc ∧ x = nI k ∧ ((r = 0 ∧ M1 = (wF M 0 0 0) ∧ ((M.1 9 k < 0 ∧ 0 = bo) ∨ (¬ M.1 9 k < 0 ∧ 1 = bo))) ∨ (r = 1 ∧ ((M.1 9 k < 0 ∧ ¬ 0 = bo) ∨ (¬ M.1 9 k < 0 ∧ ¬ 1 = bo)) ∧ M1 = wI (wF M 0 0 0) 9 k (if bo = 0 then -1 else M.1 7 k))))) (mQ D cA o) (mA o sz)) 0 0 (mA o sz) := by
  refine Met.ofW (cc := c_M_batch) (maxL := 3) (ret := (some .boolean)) (by decide) rfl ?_
  intro p e s m args below meth c s₁ B hml hv
  obtain ⟨rfl, hsz, hP, hK⟩ := hv
  have hx := B.exec
  have hb := B.bytes
  have hr := B.returns
  have hts := atoms_spec (ws := wm y_M_batch c_M_batch 3 (some .boolean)) B.pre
  have hown : s.vm.findClass "ShopDesksModel" = some m.cls := findClass_of_methodNamed B.named
  have hlocks := B.notSynchronized
  subst hsz
  have hS : va_S (mA o s.heap.size) s.heap s.heap [] := va_S.rf
  have hW : ∀ i, i < 17 → mA o s.heap.size (o + i) := fun i hi => wA_in hi
  have hl := lv_entry ([.ref (o + 0), .int x, .int bo]) (n := 3) (Nat.le_of_ble_eq_true rfl)
  rw [lg_entry_eq]
  generalize (lg_sl ([.ref (o + 0), .int x, .int bo]) ++ List.replicate (3 - (lg_sl ([.ref (o + 0), .int x, .int bo])).length) Slot.unset).toArray = ls at hl ⊢
  have hl : lv_has ls 3 [(0, .ref (o + 0)), (1, .int x), (2, .int bo)] := hl
  refine lv_aload_n hx hb d_M_batch_0 rfl (lv_at hl 0 rfl) ?_
  refine lv_aload_n hx hb d_M_batch_1 rfl (lv_at hl 0 rfl) ?_
  refine lv_iload_n hx hb d_M_batch_2 rfl (lv_at hl 1 rfl) ?_
  refine w_Vi ⟨hx, hb, hml, hown, hts⟩ (k_M_isSet l D cA o _ M x) (kV hts 1 aK_M_isSet aM_M_89 aI_M_isSet aV_M_isSet aN_M nm_M_isSet rfl rfl ⟨(Nat.le_of_ble_eq_true rfl), (Nat.le_of_ble_eq_true rfl)⟩) hK hP (by decide) SM_0 rfl rfl hl.1 rfl (Nat.le_of_ble_eq_true rfl) d_M_batch_3 ⟨(Nat.le_of_ble_eq_true rfl), (Nat.le_of_ble_eq_true rfl)⟩ hS (fun q h => wA_le hS.1 h) (fun r_1 M_1 H locs hw_1 hP hzc hkc hS => ?_)
  rw [hw_1.1] at hP
  refine w_topi hw_1.2 ?_
  refine lv_if_eq (tgt := 13) hx hb d_M_batch_6 (by decide) (fun c_2 => ?_) (fun c_2 => ?_)
  · have q : ¬ xin x (nI sc) := by rw [← esc]; exact b2i_F c_2
    refine lv_iconst (v := 1) hx hb d_M_batch_13 (by decide) ?_
    refine w_put (C := R_M) (T := F_M) (N := 22) (ci := 5) (x := 1) hx hb hts inw_M ft_M ft_M_ok fn_M hown hK hP hW hS 0 (by decide) SM_0 rfl 0 (by decide) (hts _ (al aF_M_64)) rfl rfl rfl (Nat.le_of_ble_eq_true rfl) (by rw [wF_r]; exact SM_0.trans rfl) d_M_batch_14 (fun H locs hP hS => ?_)
    refine lv_aload_n hx hb d_M_batch_17 rfl (lv_at hl 0 rfl) ?_
    refine w_get (C := R_M) (T := F_M) (N := 22) (ci := 5) (v := .int 1) hx hb hts inw_M hown hK hP 0 (by decide) SM_0 rfl 0 (by decide) (hts _ (al aF_M_64)) rfl d_M_batch_18 ?_
    refine lv_if_gt (tgt := 42) hx hb d_M_batch_21 (by decide) (fun c_3 => ?_) (fun c_3 => ?_)
    · refine lv_iconst (v := 0) hx hb d_M_batch_42 (by decide) ?_
      exact W.zret (v := 0) hx hb hr rfl (fun tz hz9 hW9 => ⟨⟨0, (wF M 0 0 1), rfl, Or.inl ⟨rfl, rfl, q⟩, by rw [hz9]; exact hP, va_K.moved hW9.alike hK⟩, hS.F hz9⟩) hS.2.2 d_M_batch_43
    · exact absurd (by decide) c_3
  · have q : xin x (nI sc) := by rw [← esc]; exact b2i_T c_2
    obtain ⟨k1, hk1, ek1⟩ := x_idx q.1 q.2 (by omega)
    have hk18 : k1 < 8 := by omega
    refine lv_iconst (v := 0) hx hb d_M_batch_9 (by decide) ?_
    refine lv_goto (tgt := 14) hx hb d_M_batch_10 (by decide) ?_
    refine w_put (C := R_M) (T := F_M) (N := 22) (ci := 5) (x := 0) hx hb hts inw_M ft_M ft_M_ok fn_M hown hK hP hW hS 0 (by decide) SM_0 rfl 0 (by decide) (hts _ (al aF_M_64)) rfl rfl rfl (Nat.le_of_ble_eq_true rfl) (by rw [wF_r]; exact SM_0.trans rfl) d_M_batch_14 (fun H locs hP hS => ?_)
    refine lv_aload_n hx hb d_M_batch_17 rfl (lv_at hl 0 rfl) ?_
    refine w_get (C := R_M) (T := F_M) (N := 22) (ci := 5) (v := .int 0) hx hb hts inw_M hown hK hP 0 (by decide) SM_0 rfl 0 (by decide) (hts _ (al aF_M_64)) rfl d_M_batch_18 ?_
    refine lv_if_gt (tgt := 42) hx hb d_M_batch_21 (by decide) (fun c_4 => ?_) (fun c_4 => ?_)
    · exact absurd c_4 (by decide)
    · refine lv_aload_n hx hb d_M_batch_24 rfl (lv_at hl 0 rfl) ?_
      refine w_get (C := R_M) (T := F_M) (N := 22) (ci := 5) (v := .ref (o + 9)) hx hb hts inw_M hown hK hP 0 (by decide) SM_0 rfl 11 (by decide) (hts _ (al aF_M_35)) rfl d_M_batch_25 ?_
      refine lv_iload_n hx hb d_M_batch_28 rfl (lv_at hl 1 rfl) ?_
      refine w_topi ek1 ?_
      refine w_iald hx hb hK hP 9 0 (by decide) SM_9 rfl (k := k1) (by omega) (by decide) d_M_batch_29 ?_
      refine lv_if_lt (tgt := 37) hx hb d_M_batch_30 (by decide) (fun c_5 => ?_) (fun c_5 => ?_)
      · have q2 := c_5
        refine lv_iconst (v := 0) hx hb d_M_batch_37 (by decide) ?_
        refine lv_iload_n hx hb d_M_batch_38 rfl (lv_at hl 2 rfl) ?_
        refine lv_icmp_ne (tgt := 44) hx hb d_M_batch_39 (by decide) (fun c_6 => ?_) (fun c_6 => ?_)
        · have q3 := c_6
          refine lv_aload_n hx hb d_M_batch_44 rfl (lv_at hl 0 rfl) ?_
          refine w_get (C := R_M) (T := F_M) (N := 22) (ci := 5) (v := .ref (o + 9)) hx hb hts inw_M hown hK hP 0 (by decide) SM_0 rfl 11 (by decide) (hts _ (al aF_M_35)) rfl d_M_batch_45 ?_
          refine lv_iload_n hx hb d_M_batch_48 rfl (lv_at hl 1 rfl) ?_
          refine w_topi ek1 ?_
          refine lv_iload_n hx hb d_M_batch_49 rfl (lv_at hl 2 rfl) ?_
          refine lv_if_eq (tgt := 62) hx hb d_M_batch_50 (by decide) (fun c_7 => ?_) (fun c_7 => ?_)
          · have q4 := c_7
            refine lv_iconst (v := -1) hx hb d_M_batch_62 (by decide) ?_
            refine w_iast hx hb hK hP hW hS 9 0 (by decide) (fun _ => SM_9) rfl (k := k1) (by omega) (by decide) d_M_batch_63 (fun H locs hP hS => ?_)
            refine lv_iconst (v := 1) hx hb d_M_batch_64 (by decide) ?_
            exact W.zret (v := 1) hx hb hr rfl (fun tz hz9 hW9 => ⟨⟨1, (wI (wF M 0 0 0) 9 k1 (-1)), rfl, Or.inr ⟨k1, hk1, ek1, Or.inr ⟨rfl, Or.inl ⟨q2, q3⟩, by rw [if_pos q4]⟩⟩, by rw [hz9]; exact hP, va_K.moved hW9.alike hK⟩, hS.F hz9⟩) hS.2.2 d_M_batch_65
          · have q4 := c_7
            refine lv_aload_n hx hb d_M_batch_53 rfl (lv_at hl 0 rfl) ?_
            refine w_get (C := R_M) (T := F_M) (N := 22) (ci := 5) (v := .ref (o + 7)) hx hb hts inw_M hown hK hP 0 (by decide) SM_0 rfl 9 (by decide) (hts _ (al aF_M_29)) rfl d_M_batch_54 ?_
            refine lv_iload_n hx hb d_M_batch_57 rfl (lv_at hl 1 rfl) ?_
            refine w_topi ek1 ?_
            refine w_iald hx hb hK hP 7 0 (by decide) SM_7 rfl (k := k1) (by omega) (by decide) d_M_batch_58 ?_
            refine lv_goto (tgt := 63) hx hb d_M_batch_59 (by decide) ?_
            refine w_iast hx hb hK hP hW hS 9 0 (by decide) (fun _ => SM_9) rfl (k := k1) (by omega) (by decide) d_M_batch_63 (fun H locs hP hS => ?_)
            refine lv_iconst (v := 1) hx hb d_M_batch_64 (by decide) ?_
            exact W.zret (v := 1) hx hb hr rfl (fun tz hz9 hW9 => ⟨⟨1, (wI (wF M 0 0 0) 9 k1 (M.1 7 k1)), rfl, Or.inr ⟨k1, hk1, ek1, Or.inr ⟨rfl, Or.inl ⟨q2, q3⟩, by rw [if_neg q4]⟩⟩, by rw [hz9]; exact hP, va_K.moved hW9.alike hK⟩, hS.F hz9⟩) hS.2.2 d_M_batch_65
        · have q3 := c_6
          refine lv_iconst (v := 0) hx hb d_M_batch_42 (by decide) ?_
          exact W.zret (v := 0) hx hb hr rfl (fun tz hz9 hW9 => ⟨⟨0, (wF M 0 0 0), rfl, Or.inr ⟨k1, hk1, ek1, Or.inl ⟨rfl, rfl, Or.inl ⟨q2, q3⟩⟩⟩, by rw [hz9]; exact hP, va_K.moved hW9.alike hK⟩, hS.F hz9⟩) hS.2.2 d_M_batch_43
      · have q2 := c_5
        refine lv_iconst (v := 1) hx hb d_M_batch_33 (by decide) ?_
        refine lv_goto (tgt := 38) hx hb d_M_batch_34 (by decide) ?_
        refine lv_iload_n hx hb d_M_batch_38 rfl (lv_at hl 2 rfl) ?_
        refine lv_icmp_ne (tgt := 44) hx hb d_M_batch_39 (by decide) (fun c_8 => ?_) (fun c_8 => ?_)
        · have q3 := c_8
          refine lv_aload_n hx hb d_M_batch_44 rfl (lv_at hl 0 rfl) ?_
          refine w_get (C := R_M) (T := F_M) (N := 22) (ci := 5) (v := .ref (o + 9)) hx hb hts inw_M hown hK hP 0 (by decide) SM_0 rfl 11 (by decide) (hts _ (al aF_M_35)) rfl d_M_batch_45 ?_
          refine lv_iload_n hx hb d_M_batch_48 rfl (lv_at hl 1 rfl) ?_
          refine w_topi ek1 ?_
          refine lv_iload_n hx hb d_M_batch_49 rfl (lv_at hl 2 rfl) ?_
          refine lv_if_eq (tgt := 62) hx hb d_M_batch_50 (by decide) (fun c_9 => ?_) (fun c_9 => ?_)
          · have q4 := c_9
            refine lv_iconst (v := -1) hx hb d_M_batch_62 (by decide) ?_
            refine w_iast hx hb hK hP hW hS 9 0 (by decide) (fun _ => SM_9) rfl (k := k1) (by omega) (by decide) d_M_batch_63 (fun H locs hP hS => ?_)
            refine lv_iconst (v := 1) hx hb d_M_batch_64 (by decide) ?_
            exact W.zret (v := 1) hx hb hr rfl (fun tz hz9 hW9 => ⟨⟨1, (wI (wF M 0 0 0) 9 k1 (-1)), rfl, Or.inr ⟨k1, hk1, ek1, Or.inr ⟨rfl, Or.inr ⟨q2, q3⟩, by rw [if_pos q4]⟩⟩, by rw [hz9]; exact hP, va_K.moved hW9.alike hK⟩, hS.F hz9⟩) hS.2.2 d_M_batch_65
          · have q4 := c_9
            refine lv_aload_n hx hb d_M_batch_53 rfl (lv_at hl 0 rfl) ?_
            refine w_get (C := R_M) (T := F_M) (N := 22) (ci := 5) (v := .ref (o + 7)) hx hb hts inw_M hown hK hP 0 (by decide) SM_0 rfl 9 (by decide) (hts _ (al aF_M_29)) rfl d_M_batch_54 ?_
            refine lv_iload_n hx hb d_M_batch_57 rfl (lv_at hl 1 rfl) ?_
            refine w_topi ek1 ?_
            refine w_iald hx hb hK hP 7 0 (by decide) SM_7 rfl (k := k1) (by omega) (by decide) d_M_batch_58 ?_
            refine lv_goto (tgt := 63) hx hb d_M_batch_59 (by decide) ?_
            refine w_iast hx hb hK hP hW hS 9 0 (by decide) (fun _ => SM_9) rfl (k := k1) (by omega) (by decide) d_M_batch_63 (fun H locs hP hS => ?_)
            refine lv_iconst (v := 1) hx hb d_M_batch_64 (by decide) ?_
            exact W.zret (v := 1) hx hb hr rfl (fun tz hz9 hW9 => ⟨⟨1, (wI (wF M 0 0 0) 9 k1 (M.1 7 k1)), rfl, Or.inr ⟨k1, hk1, ek1, Or.inr ⟨rfl, Or.inr ⟨q2, q3⟩, by rw [if_neg q4]⟩⟩, by rw [hz9]; exact hP, va_K.moved hW9.alike hK⟩, hS.F hz9⟩) hS.2.2 d_M_batch_65
        · have q3 := c_8
          refine lv_iconst (v := 0) hx hb d_M_batch_42 (by decide) ?_
          exact W.zret (v := 0) hx hb hr rfl (fun tz hz9 hW9 => ⟨⟨0, (wF M 0 0 0), rfl, Or.inr ⟨k1, hk1, ek1, Or.inl ⟨rfl, rfl, Or.inr ⟨q2, q3⟩⟩⟩, by rw [hz9]; exact hP, va_K.moved hW9.alike hK⟩, hS.F hz9⟩) hS.2.2 d_M_batch_43
set_option maxHeartbeats 4000000 in
set_option maxRecDepth 100000 in
/-- M_tell -/
theorem k_M_tell (l : Launch) (D : va_G) (cA : Nat → ClassId) (o sz : Nat) (M : wM) (n : Nat) (hn : n ≤ 300) (en : M.2.2 0 1 = nI n) (t th kd : Int32) (nu v on : Int64) : Met l y_M_tell (wm y_M_tell c_M_tell 10 (some .int)) { frames := 1, cells := 0, slots := 0, locals := 25 } (va_Pc [.ref (o + 0), .int t, .long nu, .int th, .int kd, .long v, .long on] (mB D cA o M sz)) (va_Qi (fun r M1 => (r = 0 ∧ M1 = (wF M 0 0 1) ∧ ¬ (xin t 6 ∧ xin th 10)) ∨ (r = 0 ∧ M1 = (wF M 0 0 2) ∧ xin t 6 ∧ xin th 10 ∧ ¬ xin kd 4) ∨ (xin t 6 ∧ xin th 10 ∧ xin kd 4 ∧ ((r = 0 ∧ M1 = (wF M 0 0 0) ∧ ∃ j, j < n ∧ M.2.1 2 j = nu ∧ M.1 1 j = t) ∨ (r = 0 ∧ M1 = wF (wF M 0 0 0) 0 0 3 ∧ ¬ (∃ j, j < n ∧ M.2.1 2 j = nu ∧ M.1 1 j = t) ∧ n = 300) ∨ (r = 1 ∧ n < 300 ∧ ¬ (∃ j, j < n ∧ M.2.1 2 j = nu ∧ M.1 1 j = t) ∧ M1 = wF (wL (wL (wI (wI (wL (wI (wF (wF M 0 0 0) 0 0 0) 1 n t) 2 n nu) 3 n th) 4 n kd) 5 n v) 6 n on) 0 1 (nI (n + 1)))))) (mQ D cA o) (mA o sz)) 0 0 (mA o sz) := by
  refine Met.ofW (cc := c_M_tell) (maxL := 10) (ret := (some .int)) (by decide) rfl ?_
  intro p e s m args below meth c s₁ B hml hv
  obtain ⟨rfl, hsz, hP, hK⟩ := hv
  have hx := B.exec
  have hb := B.bytes
  have hr := B.returns
  have hts := atoms_spec (ws := wm y_M_tell c_M_tell 10 (some .int)) B.pre
  have hown : s.vm.findClass "ShopDesksModel" = some m.cls := findClass_of_methodNamed B.named
  have hlocks := B.notSynchronized
  subst hsz
  have hS : va_S (mA o s.heap.size) s.heap s.heap [] := va_S.rf
  have hW : ∀ i, i < 17 → mA o s.heap.size (o + i) := fun i hi => wA_in hi
  have hl := lv_entry ([.ref (o + 0), .int t, .long nu, .int th, .int kd, .long v, .long on]) (n := 10) (Nat.le_of_ble_eq_true rfl)
  rw [lg_entry_eq]
  generalize (lg_sl ([.ref (o + 0), .int t, .long nu, .int th, .int kd, .long v, .long on]) ++ List.replicate (10 - (lg_sl ([.ref (o + 0), .int t, .long nu, .int th, .int kd, .long v, .long on])).length) Slot.unset).toArray = ls at hl ⊢
  have hl : lv_has ls 10 [(0, .ref (o + 0)), (1, .int t), (2, .long nu), (4, .int th), (5, .int kd), (6, .long v), (8, .long on)] := hl
  refine lv_aload_n hx hb d_M_tell_0 rfl (lv_at hl 0 rfl) ?_
  refine lv_iload_n hx hb d_M_tell_1 rfl (lv_at hl 1 rfl) ?_
  refine lv_i2l hx hb d_M_tell_2 rfl ?_
  refine lv_lconst (v := 0) hx hb d_M_tell_3 (by decide) ?_
  refine lv_ldc2 (v := 5) hx hb hown (hts _ (al aL_M_70)) d_M_tell_4 ?_
  refine w_Si ⟨hx, hb, hml, hown, hts⟩ (k_M_isIn l D cA o _ M (t.toInt64) 0 5) (kS hts 3 aK_M_isIn aM_M_72 aS_M_isIn aN_M nm_M_isIn rfl rfl ⟨(Nat.le_of_ble_eq_true rfl), (Nat.le_of_ble_eq_true rfl)⟩) hK hP rfl hl.1 rfl (Nat.le_of_ble_eq_true rfl) d_M_tell_7 ⟨(Nat.le_of_ble_eq_true rfl), (Nat.le_of_ble_eq_true rfl)⟩ hS (fun q h => wA_le hS.1 h) (fun r_1 M_1 H locs hw_1 hP hzc hkc hS => ?_)
  rw [hw_1.1] at hP
  refine w_topi hw_1.2 ?_
  refine lv_if_eq (tgt := 26) hx hb d_M_tell_10 (by decide) (fun c_2 => ?_) (fun c_2 => ?_)
  · have q1 : ¬ xin t (nI (5 + 1)) := fun h => b2i_F c_2 ((y_in 5 (by omega)).mpr h)
    refine lv_iconst (v := 1) hx hb d_M_tell_26 (by decide) ?_
    refine lv_goto (tgt := 43) hx hb d_M_tell_27 (by decide) ?_
    refine w_put (C := R_M) (T := F_M) (N := 22) (ci := 5) (x := 1) hx hb hts inw_M ft_M ft_M_ok fn_M hown hK hP hW hS 0 (by decide) SM_0 rfl 0 (by decide) (hts _ (al aF_M_64)) rfl rfl rfl (Nat.le_of_ble_eq_true rfl) (by rw [wF_r]; exact SM_0.trans rfl) d_M_tell_43 (fun H locs hP hS => ?_)
    refine lv_aload_n hx hb d_M_tell_46 rfl (lv_at hl 0 rfl) ?_
    refine w_get (C := R_M) (T := F_M) (N := 22) (ci := 5) (v := .int 1) hx hb hts inw_M hown hK hP 0 (by decide) SM_0 rfl 0 (by decide) (hts _ (al aF_M_64)) rfl d_M_tell_47 ?_
    refine lv_if_gt (tgt := 62) hx hb d_M_tell_50 (by decide) (fun c_3 => ?_) (fun c_3 => ?_)
    · refine lv_iconst (v := 0) hx hb d_M_tell_62 (by decide) ?_
      exact W.iret (v := 0) hx hb hr (fun tz hz9 hW9 => ⟨⟨0, (wF M 0 0 1), rfl, Or.inl ⟨rfl, rfl, fun h => q1 h.1⟩, by rw [hz9]; exact hP, va_K.moved hW9.alike hK⟩, hS.F hz9⟩) hS.2.2 d_M_tell_63
    · exact absurd (by decide) c_3
  · have q1 : xin t (nI (5 + 1)) := (y_in 5 (by omega)).mp (b2i_T c_2)
    refine lv_iload hx hb d_M_tell_13 (lv_at hl 3 rfl) ?_
    refine lv_i2l hx hb d_M_tell_15 rfl ?_
    refine lv_lconst (v := 0) hx hb d_M_tell_16 (by decide) ?_
    refine lv_ldc2 (v := 9) hx hb hown (hts _ (al aL_M_76)) d_M_tell_17 ?_
    refine w_Si ⟨hx, hb, hml, hown, hts⟩ (k_M_isIn l D cA o _ M (th.toInt64) 0 9) (kS hts 3 aK_M_isIn aM_M_72 aS_M_isIn aN_M nm_M_isIn rfl rfl ⟨(Nat.le_of_ble_eq_true rfl), (Nat.le_of_ble_eq_true rfl)⟩) hK hP rfl hl.1 rfl (Nat.le_of_ble_eq_true rfl) d_M_tell_20 ⟨(Nat.le_of_ble_eq_true rfl), (Nat.le_of_ble_eq_true rfl)⟩ hS (fun q h => wA_le hS.1 h) (fun r_4 M_4 H locs hw_4 hP hzc hkc hS => ?_)
    rw [hw_4.1] at hP
    refine w_topi hw_4.2 ?_
    refine lv_if_ne (tgt := 30) hx hb d_M_tell_23 (by decide) (fun c_5 => ?_) (fun c_5 => ?_)
    · have q2 : xin th (nI (9 + 1)) := (y_in 9 (by omega)).mp (b2i_T c_5)
      refine lv_iload hx hb d_M_tell_30 (lv_at hl 4 rfl) ?_
      refine w_Si ⟨hx, hb, hml, hown, hts⟩ (k_M_isKind l D cA o _ M kd) (kS hts 1 aK_M_isKind aM_M_78 aS_M_isKind aN_M nm_M_isKind rfl rfl ⟨(Nat.le_of_ble_eq_true rfl), (Nat.le_of_ble_eq_true rfl)⟩) hK hP rfl hl.1 rfl (Nat.le_of_ble_eq_true rfl) d_M_tell_32 ⟨(Nat.le_of_ble_eq_true rfl), (Nat.le_of_ble_eq_true rfl)⟩ hS (fun q h => wA_le hS.1 h) (fun r_6 M_6 H locs hw_6 hP hzc hkc hS => ?_)
      rw [hw_6.1] at hP
      refine w_topi hw_6.2 ?_
      refine lv_if_ne (tgt := 42) hx hb d_M_tell_35 (by decide) (fun c_7 => ?_) (fun c_7 => ?_)
      · have q3 : xin kd 4 := y_kd.mp (b2i_T c_7)
        refine lv_iconst (v := 0) hx hb d_M_tell_42 (by decide) ?_
        refine w_put (C := R_M) (T := F_M) (N := 22) (ci := 5) (x := 0) hx hb hts inw_M ft_M ft_M_ok fn_M hown hK hP hW hS 0 (by decide) SM_0 rfl 0 (by decide) (hts _ (al aF_M_64)) rfl rfl rfl (Nat.le_of_ble_eq_true rfl) (by rw [wF_r]; exact SM_0.trans rfl) d_M_tell_43 (fun H locs hP hS => ?_)
        refine lv_aload_n hx hb d_M_tell_46 rfl (lv_at hl 0 rfl) ?_
        refine w_get (C := R_M) (T := F_M) (N := 22) (ci := 5) (v := .int 0) hx hb hts inw_M hown hK hP 0 (by decide) SM_0 rfl 0 (by decide) (hts _ (al aF_M_64)) rfl d_M_tell_47 ?_
        refine lv_if_gt (tgt := 62) hx hb d_M_tell_50 (by decide) (fun c_8 => ?_) (fun c_8 => ?_)
        · exact absurd c_8 (by decide)
        · refine lv_aload_n hx hb d_M_tell_53 rfl (lv_at hl 0 rfl) ?_
          refine lv_iload_n hx hb d_M_tell_54 rfl (lv_at hl 1 rfl) ?_
          refine lv_lload_n hx hb d_M_tell_55 rfl (lv_at hl 2 rfl) ?_
          refine w_Vi ⟨hx, hb, hml, hown, hts⟩ (k_M_find l D cA o _ (wF M 0 0 0) n hn ((wF_k (by decide)).trans en) t nu) (kV hts 2 aK_M_find aM_M_82 aI_M_find aV_M_find aN_M nm_M_find rfl rfl ⟨(Nat.le_of_ble_eq_true rfl), (Nat.le_of_ble_eq_true rfl)⟩) hK hP (by decide) SM_0 rfl rfl hl.1 rfl (Nat.le_of_ble_eq_true rfl) d_M_tell_56 ⟨(Nat.le_of_ble_eq_true rfl), (Nat.le_of_ble_eq_true rfl)⟩ hS (fun q h => wA_le hS.1 h) (fun rgf Mgf H locs gf hP hzc hkc hS => ?_)
          rw [gf.1] at hP
          refine lv_if_lt (tgt := 64) hx hb d_M_tell_59 (by decide) (fun c_10 => ?_) (fun c_10 => ?_)
          · have q4 := rf_0 hn gf.2 c_10
            refine lv_aload_n hx hb d_M_tell_64 rfl (lv_at hl 0 rfl) ?_
            refine lv_aload_n hx hb d_M_tell_65 rfl (lv_at hl 0 rfl) ?_
            refine w_get (C := R_M) (T := F_M) (N := 22) (ci := 5) (v := .int (M.2.2 0 1)) hx hb hts inw_M hown hK hP 0 (by decide) SM_0 rfl 1 (by decide) (hts _ (al aF_M_67)) rfl d_M_tell_66 ?_
            refine w_topi en ?_
            refine lv_sipush (v := 300) hx hb d_M_tell_69 (by decide) ?_
            refine lv_icmp_ne (tgt := 79) hx hb d_M_tell_72 (by decide) (fun c_11 => ?_) (fun c_11 => ?_)
            · have q5 : n < 300 := Nat.lt_of_le_of_ne hn (fun e => c_11 (by rw [e]; rfl))
              refine lv_iconst (v := 0) hx hb d_M_tell_79 (by decide) ?_
              refine w_put (C := R_M) (T := F_M) (N := 22) (ci := 5) (x := 0) hx hb hts inw_M ft_M ft_M_ok fn_M hown hK hP hW hS 0 (by decide) SM_0 rfl 0 (by decide) (hts _ (al aF_M_64)) rfl rfl rfl (Nat.le_of_ble_eq_true rfl) (by rw [wF_r]; exact SM_0.trans rfl) d_M_tell_80 (fun H locs hP hS => ?_)
              refine lv_aload_n hx hb d_M_tell_83 rfl (lv_at hl 0 rfl) ?_
              refine w_get (C := R_M) (T := F_M) (N := 22) (ci := 5) (v := .int 0) hx hb hts inw_M hown hK hP 0 (by decide) SM_0 rfl 0 (by decide) (hts _ (al aF_M_64)) rfl d_M_tell_84 ?_
              refine lv_if_le (tgt := 92) hx hb d_M_tell_87 (by decide) (fun c_12 => ?_) (fun c_12 => ?_)
              · refine lv_aload_n hx hb d_M_tell_92 rfl (lv_at hl 0 rfl) ?_
                refine w_get (C := R_M) (T := F_M) (N := 22) (ci := 5) (v := .ref (o + 1)) hx hb hts inw_M hown hK hP 0 (by decide) SM_0 rfl 2 (by decide) (hts _ (al aF_M_7)) rfl d_M_tell_93 ?_
                refine lv_aload_n hx hb d_M_tell_96 rfl (lv_at hl 0 rfl) ?_
                refine w_get (C := R_M) (T := F_M) (N := 22) (ci := 5) (v := .int (M.2.2 0 1)) hx hb hts inw_M hown hK hP 0 (by decide) SM_0 rfl 1 (by decide) (hts _ (al aF_M_67)) rfl d_M_tell_97 ?_
                refine w_topi en ?_
                refine lv_iload_n hx hb d_M_tell_100 rfl (lv_at hl 1 rfl) ?_
                refine w_iast hx hb hK hP hW hS 1 0 (by decide) (fun _ => SM_1) rfl (k := n) (by omega) (by decide) d_M_tell_101 (fun H locs hP hS => ?_)
                refine lv_aload_n hx hb d_M_tell_102 rfl (lv_at hl 0 rfl) ?_
                refine w_get (C := R_M) (T := F_M) (N := 22) (ci := 5) (v := .ref (o + 2)) hx hb hts inw_M hown hK hP 0 (by decide) SM_0 rfl 3 (by decide) (hts _ (al aF_M_13)) rfl d_M_tell_103 ?_
                refine lv_aload_n hx hb d_M_tell_106 rfl (lv_at hl 0 rfl) ?_
                refine w_get (C := R_M) (T := F_M) (N := 22) (ci := 5) (v := .int (M.2.2 0 1)) hx hb hts inw_M hown hK hP 0 (by decide) SM_0 rfl 1 (by decide) (hts _ (al aF_M_67)) rfl d_M_tell_107 ?_
                refine w_topi en ?_
                refine lv_lload_n hx hb d_M_tell_110 rfl (lv_at hl 2 rfl) ?_
                refine w_last hx hb hK hP hW hS 2 1 (by decide) (fun _ => SM_2) rfl (k := n) (by omega) (by decide) d_M_tell_111 (fun H locs hP hS => ?_)
                refine lv_aload_n hx hb d_M_tell_112 rfl (lv_at hl 0 rfl) ?_
                refine w_get (C := R_M) (T := F_M) (N := 22) (ci := 5) (v := .ref (o + 3)) hx hb hts inw_M hown hK hP 0 (by decide) SM_0 rfl 4 (by decide) (hts _ (al aF_M_17)) rfl d_M_tell_113 ?_
                refine lv_aload_n hx hb d_M_tell_116 rfl (lv_at hl 0 rfl) ?_
                refine w_get (C := R_M) (T := F_M) (N := 22) (ci := 5) (v := .int (M.2.2 0 1)) hx hb hts inw_M hown hK hP 0 (by decide) SM_0 rfl 1 (by decide) (hts _ (al aF_M_67)) rfl d_M_tell_117 ?_
                refine w_topi en ?_
                refine lv_iload hx hb d_M_tell_120 (lv_at hl 3 rfl) ?_
                refine w_iast hx hb hK hP hW hS 3 0 (by decide) (fun _ => SM_3) rfl (k := n) (by omega) (by decide) d_M_tell_122 (fun H locs hP hS => ?_)
                refine lv_aload_n hx hb d_M_tell_123 rfl (lv_at hl 0 rfl) ?_
                refine w_get (C := R_M) (T := F_M) (N := 22) (ci := 5) (v := .ref (o + 4)) hx hb hts inw_M hown hK hP 0 (by decide) SM_0 rfl 5 (by decide) (hts _ (al aF_M_20)) rfl d_M_tell_124 ?_
                refine lv_aload_n hx hb d_M_tell_127 rfl (lv_at hl 0 rfl) ?_
                refine w_get (C := R_M) (T := F_M) (N := 22) (ci := 5) (v := .int (M.2.2 0 1)) hx hb hts inw_M hown hK hP 0 (by decide) SM_0 rfl 1 (by decide) (hts _ (al aF_M_67)) rfl d_M_tell_128 ?_
                refine w_topi en ?_
                refine lv_iload hx hb d_M_tell_131 (lv_at hl 4 rfl) ?_
                refine w_iast hx hb hK hP hW hS 4 0 (by decide) (fun _ => SM_4) rfl (k := n) (by omega) (by decide) d_M_tell_133 (fun H locs hP hS => ?_)
                refine lv_aload_n hx hb d_M_tell_134 rfl (lv_at hl 0 rfl) ?_
                refine w_get (C := R_M) (T := F_M) (N := 22) (ci := 5) (v := .ref (o + 5)) hx hb hts inw_M hown hK hP 0 (by decide) SM_0 rfl 6 (by decide) (hts _ (al aF_M_23)) rfl d_M_tell_135 ?_
                refine lv_aload_n hx hb d_M_tell_138 rfl (lv_at hl 0 rfl) ?_
                refine w_get (C := R_M) (T := F_M) (N := 22) (ci := 5) (v := .int (M.2.2 0 1)) hx hb hts inw_M hown hK hP 0 (by decide) SM_0 rfl 1 (by decide) (hts _ (al aF_M_67)) rfl d_M_tell_139 ?_
                refine w_topi en ?_
                refine lv_lload hx hb d_M_tell_142 (lv_at hl 5 rfl) ?_
                refine w_last hx hb hK hP hW hS 5 1 (by decide) (fun _ => SM_5) rfl (k := n) (by omega) (by decide) d_M_tell_144 (fun H locs hP hS => ?_)
                refine lv_aload_n hx hb d_M_tell_145 rfl (lv_at hl 0 rfl) ?_
                refine w_get (C := R_M) (T := F_M) (N := 22) (ci := 5) (v := .ref (o + 6)) hx hb hts inw_M hown hK hP 0 (by decide) SM_0 rfl 7 (by decide) (hts _ (al aF_M_26)) rfl d_M_tell_146 ?_
                refine lv_aload_n hx hb d_M_tell_149 rfl (lv_at hl 0 rfl) ?_
                refine w_get (C := R_M) (T := F_M) (N := 22) (ci := 5) (v := .int (M.2.2 0 1)) hx hb hts inw_M hown hK hP 0 (by decide) SM_0 rfl 1 (by decide) (hts _ (al aF_M_67)) rfl d_M_tell_150 ?_
                refine w_topi en ?_
                refine lv_lload hx hb d_M_tell_153 (lv_at hl 6 rfl) ?_
                refine w_last hx hb hK hP hW hS 6 1 (by decide) (fun _ => SM_6) rfl (k := n) (by omega) (by decide) d_M_tell_155 (fun H locs hP hS => ?_)
                refine lv_aload_n hx hb d_M_tell_156 rfl (lv_at hl 0 rfl) ?_
                refine lv_dup hx hb d_M_tell_157 rfl ?_
                refine w_get (C := R_M) (T := F_M) (N := 22) (ci := 5) (v := .int (M.2.2 0 1)) hx hb hts inw_M hown hK hP 0 (by decide) SM_0 rfl 1 (by decide) (hts _ (al aF_M_67)) rfl d_M_tell_158 ?_
                refine w_topi en ?_
                refine lv_iconst (v := 1) hx hb d_M_tell_161 (by decide) ?_
                refine lv_iadd hx hb d_M_tell_162 ?_
                refine w_topi ((nI_succ n).symm) ?_
                refine w_put (C := R_M) (T := F_M) (N := 22) (ci := 5) (x := nI (n + 1)) hx hb hts inw_M ft_M ft_M_ok fn_M hown hK hP hW hS 0 (by decide) SM_0 rfl 1 (by decide) (hts _ (al aF_M_67)) rfl rfl rfl (Nat.le_of_ble_eq_true rfl) (by rw [wF_r]; exact SM_0.trans rfl) d_M_tell_163 (fun H locs hP hS => ?_)
                refine lv_iconst (v := 1) hx hb d_M_tell_166 (by decide) ?_
                exact W.iret (v := 1) hx hb hr (fun tz hz9 hW9 => ⟨⟨1, (wF (wL (wL (wI (wI (wL (wI (wF (wF M 0 0 0) 0 0 0) 1 n t) 2 n nu) 3 n th) 4 n kd) 5 n v) 6 n on) 0 1 (nI (n + 1))), rfl, Or.inr (Or.inr ⟨q1, q2, q3, Or.inr (Or.inr ⟨rfl, q5, q4, rfl⟩)⟩), by rw [hz9]; exact hP, va_K.moved hW9.alike hK⟩, hS.F hz9⟩) hS.2.2 d_M_tell_167
              · exact absurd (by decide) c_12
            · have q5 : n = 300 := (nI_eq (b := 300) (by omega) (by omega)).mp c_11
              refine lv_iconst (v := 3) hx hb d_M_tell_75 (by decide) ?_
              refine lv_goto (tgt := 80) hx hb d_M_tell_76 (by decide) ?_
              refine w_put (C := R_M) (T := F_M) (N := 22) (ci := 5) (x := 3) hx hb hts inw_M ft_M ft_M_ok fn_M hown hK hP hW hS 0 (by decide) SM_0 rfl 0 (by decide) (hts _ (al aF_M_64)) rfl rfl rfl (Nat.le_of_ble_eq_true rfl) (by rw [wF_r]; exact SM_0.trans rfl) d_M_tell_80 (fun H locs hP hS => ?_)
              refine lv_aload_n hx hb d_M_tell_83 rfl (lv_at hl 0 rfl) ?_
              refine w_get (C := R_M) (T := F_M) (N := 22) (ci := 5) (v := .int 3) hx hb hts inw_M hown hK hP 0 (by decide) SM_0 rfl 0 (by decide) (hts _ (al aF_M_64)) rfl d_M_tell_84 ?_
              refine lv_if_le (tgt := 92) hx hb d_M_tell_87 (by decide) (fun c_13 => ?_) (fun c_13 => ?_)
              · exact absurd c_13 (by decide)
              · refine lv_iconst (v := 0) hx hb d_M_tell_90 (by decide) ?_
                exact W.iret (v := 0) hx hb hr (fun tz hz9 hW9 => ⟨⟨0, (wF (wF M 0 0 0) 0 0 3), rfl, Or.inr (Or.inr ⟨q1, q2, q3, Or.inr (Or.inl ⟨rfl, rfl, q4, q5⟩)⟩), by rw [hz9]; exact hP, va_K.moved hW9.alike hK⟩, hS.F hz9⟩) hS.2.2 d_M_tell_91
          · have q4 := rf_1 gf.2 c_10
            refine lv_iconst (v := 0) hx hb d_M_tell_62 (by decide) ?_
            exact W.iret (v := 0) hx hb hr (fun tz hz9 hW9 => ⟨⟨0, (wF M 0 0 0), rfl, Or.inr (Or.inr ⟨q1, q2, q3, Or.inl ⟨rfl, rfl, q4⟩⟩), by rw [hz9]; exact hP, va_K.moved hW9.alike hK⟩, hS.F hz9⟩) hS.2.2 d_M_tell_63
      · have q3 : ¬ xin kd 4 := fun h => b2i_F c_7 (y_kd.mpr h)
        refine lv_iconst (v := 2) hx hb d_M_tell_38 (by decide) ?_
        refine lv_goto (tgt := 43) hx hb d_M_tell_39 (by decide) ?_
        refine w_put (C := R_M) (T := F_M) (N := 22) (ci := 5) (x := 2) hx hb hts inw_M ft_M ft_M_ok fn_M hown hK hP hW hS 0 (by decide) SM_0 rfl 0 (by decide) (hts _ (al aF_M_64)) rfl rfl rfl (Nat.le_of_ble_eq_true rfl) (by rw [wF_r]; exact SM_0.trans rfl) d_M_tell_43 (fun H locs hP hS => ?_)
        refine lv_aload_n hx hb d_M_tell_46 rfl (lv_at hl 0 rfl) ?_
        refine w_get (C := R_M) (T := F_M) (N := 22) (ci := 5) (v := .int 2) hx hb hts inw_M hown hK hP 0 (by decide) SM_0 rfl 0 (by decide) (hts _ (al aF_M_64)) rfl d_M_tell_47 ?_
        refine lv_if_gt (tgt := 62) hx hb d_M_tell_50 (by decide) (fun c_14 => ?_) (fun c_14 => ?_)
        · refine lv_iconst (v := 0) hx hb d_M_tell_62 (by decide) ?_
          exact W.iret (v := 0) hx hb hr (fun tz hz9 hW9 => ⟨⟨0, (wF M 0 0 2), rfl, Or.inr (Or.inl ⟨rfl, rfl, q1, q2, q3⟩), by rw [hz9]; exact hP, va_K.moved hW9.alike hK⟩, hS.F hz9⟩) hS.2.2 d_M_tell_63
        · exact absurd (by decide) c_14
    · have q2 : ¬ xin th (nI (9 + 1)) := fun h => b2i_F c_5 ((y_in 9 (by omega)).mpr h)
      refine lv_iconst (v := 1) hx hb d_M_tell_26 (by decide) ?_
      refine lv_goto (tgt := 43) hx hb d_M_tell_27 (by decide) ?_
      refine w_put (C := R_M) (T := F_M) (N := 22) (ci := 5) (x := 1) hx hb hts inw_M ft_M ft_M_ok fn_M hown hK hP hW hS 0 (by decide) SM_0 rfl 0 (by decide) (hts _ (al aF_M_64)) rfl rfl rfl (Nat.le_of_ble_eq_true rfl) (by rw [wF_r]; exact SM_0.trans rfl) d_M_tell_43 (fun H locs hP hS => ?_)
      refine lv_aload_n hx hb d_M_tell_46 rfl (lv_at hl 0 rfl) ?_
      refine w_get (C := R_M) (T := F_M) (N := 22) (ci := 5) (v := .int 1) hx hb hts inw_M hown hK hP 0 (by decide) SM_0 rfl 0 (by decide) (hts _ (al aF_M_64)) rfl d_M_tell_47 ?_
      refine lv_if_gt (tgt := 62) hx hb d_M_tell_50 (by decide) (fun c_15 => ?_) (fun c_15 => ?_)
      · refine lv_iconst (v := 0) hx hb d_M_tell_62 (by decide) ?_
        exact W.iret (v := 0) hx hb hr (fun tz hz9 hW9 => ⟨⟨0, (wF M 0 0 1), rfl, Or.inl ⟨rfl, rfl, fun h => q2 h.2⟩, by rw [hz9]; exact hP, va_K.moved hW9.alike hK⟩, hS.F hz9⟩) hS.2.2 d_M_tell_63
      · exact absurd (by decide) c_15

