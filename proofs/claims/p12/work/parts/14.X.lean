/-! the class's own methods -/
theorem x_idx {x : Int32} {n : Nat} (h0 : ¬ x < 0) (h1 : x < nI n) (hn : n < 2147483648) : ∃ k, k < n ∧ x = nI k := by
  obtain ⟨k, hk, rfl⟩ := nI_of h0
  exact ⟨k, i_lt hk hn h1, rfl⟩
theorem x_mul4 (a b : Nat) : nI a * 4 + nI b = nI (a * 4 + b) := by
  rw [show (4 : Int32) = nI 4 from rfl, pk_mul, nI_add]
abbrev xbad (x h : Int32) : Prop := x < 0 ∨ ¬ x < h
abbrev xin (x h : Int32) : Prop := ¬ x < 0 ∧ x < h
theorem xin_nb {x h : Int32} (a : xin x h) : ¬ xbad x h := fun b => b.elim a.1 (fun c => c a.2)
/-- what the sets are: sizes z, tellings od -/
def xSets (M : wM) (z : Nat → Nat) (od : Nat → Nat → Nat) : Prop := ∀ s, s < 8 → z s ≤ 300 ∧ M.2.2 (9 + 3 * s) 3 = nI (z s) ∧ ∀ j, j < z s → M.1 (9 + 3 * s + 1) j = nI (od s j) ∧ od s j < 300
def xJoinOk (M : wM) (si ti : Nat) (od : Nat → Nat) (z z2 : Nat) : Prop := (∀ k, k ≤ z2 → (x_jM M si od z k).2.2 (9 + 3 * ti) 3 = nI z2 ∧ (∀ j, j < z2 → (x_jM M si od z k).1 (9 + 3 * ti + 1) j = nI (od j)) ∧ (x_jM M si od z k).2.2 (9 + 3 * si) 3 = nI (x_jZ M si od z k)) ∧ ∀ k, k < z2 → (x_jM M si od z k).1 (9 + 3 * si + 2) (od k) = 0 → x_jZ M si od z k < 300
theorem rg4_0 {r : Int32} {n : Nat} {P : Nat → Prop} (h : (r = 1 ∧ ∃ j, j < n ∧ P j) ∨ (r = 0 ∧ ∀ j, j < n → ¬ P j)) (q : r = 0) : ¬ ∃ j, j < n ∧ P j := by
  rcases h with h | h
  · rw [h.1] at q; exact absurd q (by decide)
  · exact fun ⟨j, a, b⟩ => h.2 j a b
theorem rg4_1 {r : Int32} {n : Nat} {P : Nat → Prop} (h : (r = 1 ∧ ∃ j, j < n ∧ P j) ∨ (r = 0 ∧ ∀ j, j < n → ¬ P j)) (q : ¬ r = 0) : ∃ j, j < n ∧ P j := by
  rcases h with h | h
  · exact h.2
  · exact absurd h.1 q
set_option maxHeartbeats 4000000 in
set_option maxRecDepth 100000 in
/-- X_closeMonth -/
theorem k_X_closeMonth (l : Launch) (hl9 : l.stackTraces = false) (D : va_G) (cA : Nat → ClassId) (o sz : Nat) (M : wM) (x : Int32) : vx_Met l y_X_closeMonth (wm y_X_closeMonth c_X_closeMonth 2 (some .boolean)) { frames := 6, cells := 1, slots := 6, locals := 86 } (va_Pc [.ref (o + 0), .int x] (xBx D cA o M sz)) (va_Qi (fun r M1 => xin x 120 ∧ ((r = 0 ∧ M1 = M ∧ x ≤ M.2.2 34 4) ∨ (r = 1 ∧ M1 = wF M 34 4 x ∧ M.2.2 34 4 < x))) (xQ D cA o) (xA o sz)) (xE D cA o M sz (fun E => E = "java/lang/IllegalArgumentException" ∧ xbad x 120)) 1 6 (xA o sz) := by
  refine vx_ofW (cc := c_X_closeMonth) (maxL := 2) (ret := (some .boolean)) (by decide) rfl ?_
  intro p e s m args below meth c s₁ B hml hex hv
  obtain ⟨rfl, ⟨hsz, hP, hK⟩, hG⟩ := hv
  have hx := B.exec
  have hb := B.bytes
  have hr := B.returns
  have hts := atoms_spec (ws := wm y_X_closeMonth c_X_closeMonth 2 (some .boolean)) B.pre
  have hown : s.vm.findClass "ShopDesks" = some m.cls := findClass_of_methodNamed B.named
  have hlocks := B.notSynchronized
  subst hsz
  have hout : ∀ pc, ∀ x ∈ c.exceptionTable.toList, covers x pc = false := fun pc x hx => (hex x hx).elim
  have hS : va_S (xA o s.heap.size) s.heap s.heap [] := va_S.rf
  have hW : ∀ i, i < 217 → xA o s.heap.size (o + i) := fun i hi => wA_in hi
  have hl := lv_entry ([.ref (o + 0), .int x]) (n := 2) (Nat.le_of_ble_eq_true rfl)
  rw [lg_entry_eq]
  generalize (lg_sl ([.ref (o + 0), .int x]) ++ List.replicate (2 - (lg_sl ([.ref (o + 0), .int x])).length) Slot.unset).toArray = ls at hl ⊢
  have hl : lv_has ls 2 [(0, .ref (o + 0)), (1, .int x)] := hl
  refine lv_iload_n hx hb d_X_closeMonth_0 rfl (lv_at hl 1 rfl) ?_
  refine lv_if_lt (tgt := 10) hx hb d_X_closeMonth_1 (by decide) (fun c_1 => ?_) (fun c_1 => ?_)
  · have q : xbad x 120 := Or.inl c_1
    obtain ⟨sa, hsa⟩ := hG.2.2.1 (199, "month is not 0 .. 119") (by decide)
    exact x_throwS (cls := "java/lang/IllegalArgumentException") hx hb hl9 hown (hts _ (al aC_X_91)) (hts _ (al aN_IllegalArgumentException)) hsa (hat_X_95 hts hG) hot_X_95 (by decide) hG hK hP hS (hl.1.trans hml.symm) d_X_closeMonth_10 d_X_closeMonth_13 d_X_closeMonth_14 d_X_closeMonth_16 d_X_closeMonth_19 (hout _) (Nat.le_of_ble_eq_true rfl) (Nat.le_of_ble_eq_true rfl) (Nat.le_of_ble_eq_true rfl) (Nat.le_of_ble_eq_true rfl) hlocks (⟨rfl, q⟩) (Nat.le_of_ble_eq_true rfl) (Nat.le_of_ble_eq_true rfl)
  · have q1 := c_1
    refine lv_iload_n hx hb d_X_closeMonth_4 rfl (lv_at hl 1 rfl) ?_
    refine lv_bipush (v := 120) hx hb d_X_closeMonth_5 (by decide) ?_
    refine lv_icmp_lt (tgt := 20) hx hb d_X_closeMonth_7 (by decide) (fun c_2 => ?_) (fun c_2 => ?_)
    · have q2 := c_2
      refine lv_iload_n hx hb d_X_closeMonth_20 rfl (lv_at hl 1 rfl) ?_
      refine lv_aload_n hx hb d_X_closeMonth_21 rfl (lv_at hl 0 rfl) ?_
      refine w_get (C := R_X) (T := F_X) (N := 5) (ci := 4) (v := .ref (o + 34)) hx hb hts inw_X hown hK hP 0 (by decide) SX_0 rfl 4 (by decide) (hts _ (al aF_X_36)) rfl d_X_closeMonth_22 ?_
      refine w_get (C := R_L) (T := F_L) (N := 5) (ci := 1) (v := .int (M.2.2 34 4)) hx hb hts inw_L hown hK hP 34 (by decide) SX_34 rfl 4 (by decide) (hts _ (al aF_X_201)) rfl d_X_closeMonth_25 ?_
      refine lv_icmp_gt (tgt := 33) hx hb d_X_closeMonth_28 (by decide) (fun c_3 => ?_) (fun c_3 => ?_)
      · have q3 := c_3
        refine lv_aload_n hx hb d_X_closeMonth_33 rfl (lv_at hl 0 rfl) ?_
        refine w_get (C := R_X) (T := F_X) (N := 5) (ci := 4) (v := .ref (o + 34)) hx hb hts inw_X hown hK hP 0 (by decide) SX_0 rfl 4 (by decide) (hts _ (al aF_X_36)) rfl d_X_closeMonth_34 ?_
        refine lv_iload_n hx hb d_X_closeMonth_37 rfl (lv_at hl 1 rfl) ?_
        refine w_put (C := R_L) (T := F_L) (N := 5) (ci := 1) (x := x) hx hb hts inw_L ft_L ft_L_ok fn_L hown hK hP hW hS 34 (by decide) SX_34 rfl 4 (by decide) (hts _ (al aF_X_201)) rfl rfl rfl (Nat.le_of_ble_eq_true rfl) (by rw [wF_r]; exact SX_34.trans rfl) d_X_closeMonth_38 (fun H locs hP hS => ?_)
        refine lv_iconst (v := 1) hx hb d_X_closeMonth_41 (by decide) ?_
        refine vx_ret ?_
        refine W.widen (k := 1) (n := 6) (Nat.le_of_ble_eq_true rfl) (Nat.le_of_ble_eq_true rfl) ?_
        exact W.zret (v := 1) hx hb hr rfl (fun tz hz9 hW9 => ⟨⟨1, (wF M 34 4 x), rfl, ⟨⟨q1, q2⟩, Or.inr ⟨rfl, rfl, q3⟩⟩, by rw [hz9]; exact hP, va_K.moved hW9.alike hK⟩, hS.F hz9⟩) hS.2.2 d_X_closeMonth_42
      · have q3 := c_3
        refine lv_iconst (v := 0) hx hb d_X_closeMonth_31 (by decide) ?_
        refine vx_ret ?_
        refine W.widen (k := 1) (n := 6) (Nat.le_of_ble_eq_true rfl) (Nat.le_of_ble_eq_true rfl) ?_
        exact W.zret (v := 0) hx hb hr rfl (fun tz hz9 hW9 => ⟨⟨0, M, rfl, ⟨⟨q1, q2⟩, Or.inl ⟨rfl, rfl, Int32.not_lt.mp q3⟩⟩, by rw [hz9]; exact hP, va_K.moved hW9.alike hK⟩, hS.F hz9⟩) hS.2.2 d_X_closeMonth_32
    · have q : xbad x 120 := Or.inr c_2
      obtain ⟨sa, hsa⟩ := hG.2.2.1 (199, "month is not 0 .. 119") (by decide)
      exact x_throwS (cls := "java/lang/IllegalArgumentException") hx hb hl9 hown (hts _ (al aC_X_91)) (hts _ (al aN_IllegalArgumentException)) hsa (hat_X_95 hts hG) hot_X_95 (by decide) hG hK hP hS (hl.1.trans hml.symm) d_X_closeMonth_10 d_X_closeMonth_13 d_X_closeMonth_14 d_X_closeMonth_16 d_X_closeMonth_19 (hout _) (Nat.le_of_ble_eq_true rfl) (Nat.le_of_ble_eq_true rfl) (Nat.le_of_ble_eq_true rfl) (Nat.le_of_ble_eq_true rfl) hlocks (⟨rfl, q⟩) (Nat.le_of_ble_eq_true rfl) (Nat.le_of_ble_eq_true rfl)
set_option maxHeartbeats 4000000 in
set_option maxRecDepth 100000 in
/-- X_mark -/
theorem k_X_mark (l : Launch) (hl9 : l.stackTraces = false) (D : va_G) (cA : Nat → ClassId) (o sz : Nat) (M : wM) (sc : Nat) (hsc : sc ≤ 8) (esc : M.2.2 0 2 = nI sc) (x : Int32) : vx_Met l y_X_mark (wm y_X_mark c_X_mark 2 (some .int)) { frames := 7, cells := 1, slots := 6, locals := 103 } (va_Pc [.ref (o + 0), .int x] (xBx D cA o M sz)) (va_Qi (fun r M1 => M1 = M ∧ ∃ k, k < sc ∧ x = nI k ∧ r = M.2.2 (9 + 3 * k) 3) (xQ D cA o) (xA o sz)) (xE D cA o M sz (fun E => E = "java/lang/IndexOutOfBoundsException" ∧ xbad x (nI sc))) 1 6 (xA o sz) := by
  refine vx_ofW (cc := c_X_mark) (maxL := 2) (ret := (some .int)) (by decide) rfl ?_
  intro p e s m args below meth c s₁ B hml hex hv
  obtain ⟨rfl, ⟨hsz, hP, hK⟩, hG⟩ := hv
  have hx := B.exec
  have hb := B.bytes
  have hr := B.returns
  have hts := atoms_spec (ws := wm y_X_mark c_X_mark 2 (some .int)) B.pre
  have hown : s.vm.findClass "ShopDesks" = some m.cls := findClass_of_methodNamed B.named
  have hlocks := B.notSynchronized
  subst hsz
  have hout : ∀ pc, ∀ x ∈ c.exceptionTable.toList, covers x pc = false := fun pc x hx => (hex x hx).elim
  have hS : va_S (xA o s.heap.size) s.heap s.heap [] := va_S.rf
  have hW : ∀ i, i < 217 → xA o s.heap.size (o + i) := fun i hi => wA_in hi
  have hl := lv_entry ([.ref (o + 0), .int x]) (n := 2) (Nat.le_of_ble_eq_true rfl)
  rw [lg_entry_eq]
  generalize (lg_sl ([.ref (o + 0), .int x]) ++ List.replicate (2 - (lg_sl ([.ref (o + 0), .int x])).length) Slot.unset).toArray = ls at hl ⊢
  have hl : lv_has ls 2 [(0, .ref (o + 0)), (1, .int x)] := hl
  refine lv_aload_n hx hb d_X_mark_0 rfl (lv_at hl 0 rfl) ?_
  refine lv_iload_n hx hb d_X_mark_1 rfl (lv_at hl 1 rfl) ?_
  refine x_Vv ⟨hx, hb, hml, hown, hts⟩ (k_X_needSet l hl9 D cA o _ M x) (kV hts 1 aK_X_needSet aM_X_73 aI_X_needSet aV_X_needSet aN_X nm_X_needSet rfl rfl ⟨(Nat.le_of_ble_eq_true rfl), (Nat.le_of_ble_eq_true rfl)⟩) hK hP hG hS (by decide) SX_0 rfl rfl hl.1 rfl (Nat.le_of_ble_eq_true rfl) d_X_mark_2 ⟨(Nat.le_of_ble_eq_true rfl), (Nat.le_of_ble_eq_true rfl)⟩ (hout _) hlocks (fun E h => ⟨h.1, by rw [← esc]; exact h.2⟩) (Nat.le_of_ble_eq_true rfl) (Nat.le_of_ble_eq_true rfl) (fun M_1 H locs g1 hP hS => ?_)
  rw [g1.1] at hP
  obtain ⟨k1, hk1, ek1⟩ := x_idx g1.2.1 (by rw [← esc]; exact g1.2.2) (by omega)
  have hk18 : k1 < 8 := by omega
  refine lv_aload_n hx hb d_X_mark_5 rfl (lv_at hl 0 rfl) ?_
  refine w_get (C := R_X) (T := F_X) (N := 5) (ci := 4) (v := .ref (o + 8)) hx hb hts inw_X hown hK hP 0 (by decide) SX_0 rfl 1 (by decide) (hts _ (al aF_X_18)) rfl d_X_mark_6 ?_
  refine lv_iload_n hx hb d_X_mark_9 rfl (lv_at hl 1 rfl) ?_
  refine w_topi ek1 ?_
  refine w_aald hx hb hK hP 8 3 (by decide) SX_8 rfl (k := k1) (by omega) (by decide) (if_pos (by omega)) d_X_mark_10 ?_
  refine w_get (C := R_S) (T := F_S) (N := 5) (ci := 2) (v := .int (M.2.2 (9 + 3 * k1) 3)) hx hb hts inw_S hown hK hP (9 + 3 * k1) (by omega) (SX_s hk18) rfl 3 (by decide) (hts _ (al aF_X_84)) rfl d_X_mark_11 ?_
  refine vx_ret ?_
  refine W.widen (k := 1) (n := 6) (Nat.le_of_ble_eq_true rfl) (Nat.le_of_ble_eq_true rfl) ?_
  exact W.iret (v := M.2.2 (9 + 3 * k1) 3) hx hb hr (fun tz hz9 hW9 => ⟨⟨M.2.2 (9 + 3 * k1) 3, M, rfl, ⟨rfl, k1, hk1, ek1, rfl⟩, by rw [hz9]; exact hP, va_K.moved hW9.alike hK⟩, hS.F hz9⟩) hS.2.2 d_X_mark_14
set_option maxHeartbeats 4000000 in
set_option maxRecDepth 100000 in
/-- X_equal -/
theorem k_X_equal (l : Launch) (hl9 : l.stackTraces = false) (D : va_G) (cA : Nat → ClassId) (o sz : Nat) (M : wM) (sc : Nat) (hsc : sc ≤ 8) (esc : M.2.2 0 2 = nI sc) (z : Nat → Nat) (od : Nat → Nat → Nat) (hse : xSets M z od) (x y : Int32) : vx_Met l y_X_equal (wm y_X_equal c_X_equal 3 (some .boolean)) { frames := 7, cells := 2, slots := 12, locals := 103 } (va_Pc [.ref (o + 0), .int x, .int y] (xBx D cA o M sz)) (va_Qi (fun r M1 => M1 = M ∧ ∃ k1 k2, k1 < sc ∧ k2 < sc ∧ x = nI k1 ∧ y = nI k2 ∧ r = b2i (decide (z k1 = z k2 ∧ ∀ j, j < z k1 → ¬ M.1 (9 + 3 * k2 + 2) (od k1 j) = 0))) (xQ D cA o) (xA o sz)) (xE D cA o M sz (fun E => E = "java/lang/IndexOutOfBoundsException" ∧ (xbad x (nI sc) ∨ xbad y (nI sc)))) 2 12 (xA o sz) := by
  refine vx_ofW (cc := c_X_equal) (maxL := 3) (ret := (some .boolean)) (by decide) rfl ?_
  intro p e s m args below meth c s₁ B hml hex hv
  obtain ⟨rfl, ⟨hsz, hP, hK⟩, hG⟩ := hv
  have hx := B.exec
  have hb := B.bytes
  have hr := B.returns
  have hts := atoms_spec (ws := wm y_X_equal c_X_equal 3 (some .boolean)) B.pre
  have hown : s.vm.findClass "ShopDesks" = some m.cls := findClass_of_methodNamed B.named
  have hlocks := B.notSynchronized
  subst hsz
  have hout : ∀ pc, ∀ x ∈ c.exceptionTable.toList, covers x pc = false := fun pc x hx => (hex x hx).elim
  have hS : va_S (xA o s.heap.size) s.heap s.heap [] := va_S.rf
  have hW : ∀ i, i < 217 → xA o s.heap.size (o + i) := fun i hi => wA_in hi
  have hl := lv_entry ([.ref (o + 0), .int x, .int y]) (n := 3) (Nat.le_of_ble_eq_true rfl)
  rw [lg_entry_eq]
  generalize (lg_sl ([.ref (o + 0), .int x, .int y]) ++ List.replicate (3 - (lg_sl ([.ref (o + 0), .int x, .int y])).length) Slot.unset).toArray = ls at hl ⊢
  have hl : lv_has ls 3 [(0, .ref (o + 0)), (1, .int x), (2, .int y)] := hl
  refine lv_aload_n hx hb d_X_equal_0 rfl (lv_at hl 0 rfl) ?_
  refine lv_iload_n hx hb d_X_equal_1 rfl (lv_at hl 1 rfl) ?_
  refine x_Vv ⟨hx, hb, hml, hown, hts⟩ (k_X_needSet l hl9 D cA o _ M x) (kV hts 1 aK_X_needSet aM_X_73 aI_X_needSet aV_X_needSet aN_X nm_X_needSet rfl rfl ⟨(Nat.le_of_ble_eq_true rfl), (Nat.le_of_ble_eq_true rfl)⟩) hK hP hG hS (by decide) SX_0 rfl rfl hl.1 rfl (Nat.le_of_ble_eq_true rfl) d_X_equal_2 ⟨(Nat.le_of_ble_eq_true rfl), (Nat.le_of_ble_eq_true rfl)⟩ (hout _) hlocks (fun E h => ⟨h.1, Or.inl (by rw [← esc]; exact h.2)⟩) (Nat.le_of_ble_eq_true rfl) (Nat.le_of_ble_eq_true rfl) (fun M_1 H locs g1 hP hS => ?_)
  rw [g1.1] at hP
  obtain ⟨k1, hk1, ek1⟩ := x_idx g1.2.1 (by rw [← esc]; exact g1.2.2) (by omega)
  have hk18 : k1 < 8 := by omega
  refine lv_aload_n hx hb d_X_equal_5 rfl (lv_at hl 0 rfl) ?_
  refine lv_iload_n hx hb d_X_equal_6 rfl (lv_at hl 2 rfl) ?_
  refine x_Vv ⟨hx, hb, hml, hown, hts⟩ (k_X_needSet l hl9 D cA o _ M y) (kV hts 1 aK_X_needSet aM_X_73 aI_X_needSet aV_X_needSet aN_X nm_X_needSet rfl rfl ⟨(Nat.le_of_ble_eq_true rfl), (Nat.le_of_ble_eq_true rfl)⟩) hK hP hG hS (by decide) SX_0 rfl rfl hl.1 rfl (Nat.le_of_ble_eq_true rfl) d_X_equal_7 ⟨(Nat.le_of_ble_eq_true rfl), (Nat.le_of_ble_eq_true rfl)⟩ (hout _) hlocks (fun E h => ⟨h.1, Or.inr (by rw [← esc]; exact h.2)⟩) (Nat.le_of_ble_eq_true rfl) (Nat.le_of_ble_eq_true rfl) (fun M_2 H locs g2 hP hS => ?_)
  rw [g2.1] at hP
  obtain ⟨k2, hk2, ek2⟩ := x_idx g2.2.1 (by rw [← esc]; exact g2.2.2) (by omega)
  have hk28 : k2 < 8 := by omega
  refine lv_aload_n hx hb d_X_equal_10 rfl (lv_at hl 0 rfl) ?_
  refine w_get (C := R_X) (T := F_X) (N := 5) (ci := 4) (v := .ref (o + 8)) hx hb hts inw_X hown hK hP 0 (by decide) SX_0 rfl 1 (by decide) (hts _ (al aF_X_18)) rfl d_X_equal_11 ?_
  refine lv_iload_n hx hb d_X_equal_14 rfl (lv_at hl 1 rfl) ?_
  refine w_topi ek1 ?_
  refine w_aald hx hb hK hP 8 3 (by decide) SX_8 rfl (k := k1) (by omega) (by decide) (if_pos (by omega)) d_X_equal_15 ?_
  refine lv_aload_n hx hb d_X_equal_16 rfl (lv_at hl 0 rfl) ?_
  refine w_get (C := R_X) (T := F_X) (N := 5) (ci := 4) (v := .ref (o + 8)) hx hb hts inw_X hown hK hP 0 (by decide) SX_0 rfl 1 (by decide) (hts _ (al aF_X_18)) rfl d_X_equal_17 ?_
  refine lv_iload_n hx hb d_X_equal_20 rfl (lv_at hl 2 rfl) ?_
  refine w_topi ek2 ?_
  refine w_aald hx hb hK hP 8 3 (by decide) SX_8 rfl (k := k2) (by omega) (by decide) (if_pos (by omega)) d_X_equal_21 ?_
  refine w_Vi ⟨hx, hb, hml, hown, hts⟩ (k_S_hasSameAs l D cA o _ M k1 k2 hk18 hk28 (od k1) (z k1) (z k2) (hse k1 hk18).1 (hse k2 hk28).1 (hse k1 hk18).2.1 (hse k2 hk28).2.1 (hse k1 hk18).2.2) (kV hts 1 aK_S_hasSameAs aM_X_80 aI_S_hasSameAs aV_S_hasSameAs aN_S nm_S_hasSameAs rfl rfl ⟨(Nat.le_of_ble_eq_true rfl), (Nat.le_of_ble_eq_true rfl)⟩) hK hP (by omega) (SX_s hk18) rfl rfl hl.1 rfl (Nat.le_of_ble_eq_true rfl) d_X_equal_22 ⟨(Nat.le_of_ble_eq_true rfl), (Nat.le_of_ble_eq_true rfl)⟩ hS (fun q h => wA_le hS.1 h) (fun r_3 M_3 H locs hw_3 hP hzc hkc hS => ?_)
  rw [hw_3.1] at hP
  refine w_topi hw_3.2 ?_
  refine vx_ret ?_
  refine W.widen (k := 2) (n := 12) (Nat.le_of_ble_eq_true rfl) (Nat.le_of_ble_eq_true rfl) ?_
  exact W.zret (v := b2i (decide (z k1 = z k2 ∧ ∀ j, j < z k1 → ¬ M.1 (9 + 3 * k2 + 2) (od k1 j) = 0))) hx hb hr (b2i_nar _) (fun tz hz9 hW9 => ⟨⟨b2i (decide (z k1 = z k2 ∧ ∀ j, j < z k1 → ¬ M.1 (9 + 3 * k2 + 2) (od k1 j) = 0)), M, rfl, ⟨rfl, k1, k2, hk1, hk2, ek1, ek2, rfl⟩, by rw [hz9]; exact hP, va_K.moved hW9.alike hK⟩, hS.F hz9⟩) hS.2.2 d_X_equal_25
set_option maxHeartbeats 4000000 in
set_option maxRecDepth 100000 in
/-- X_join -/
theorem k_X_join (l : Launch) (hl9 : l.stackTraces = false) (D : va_G) (cA : Nat → ClassId) (o sz : Nat) (M : wM) (sc : Nat) (hsc : sc ≤ 8) (esc : M.2.2 0 2 = nI sc) (z : Nat → Nat) (od : Nat → Nat → Nat) (hse : xSets M z od) (hjo : ∀ s t, s < 8 → t < 8 → xJoinOk M s t (od t) (z s) (z t)) (x y : Int32) : vx_Met l y_X_join (wm y_X_join c_X_join 3 (some .int)) { frames := 7, cells := 2, slots := 12, locals := 103 } (va_Pc [.ref (o + 0), .int x, .int y] (xBx D cA o M sz)) (va_Qi (fun r M1 => ∃ k1 k2, k1 < sc ∧ k2 < sc ∧ x = nI k1 ∧ y = nI k2 ∧ M1 = x_jM M k1 (od k2) (z k1) (z k2) ∧ r = nI (x_jZ M k1 (od k2) (z k1) (z k2)) - nI (z k1)) (xQ D cA o) (xA o sz)) (xE D cA o M sz (fun E => E = "java/lang/IndexOutOfBoundsException" ∧ (xbad x (nI sc) ∨ xbad y (nI sc)))) 2 12 (xA o sz) := by
  refine vx_ofW (cc := c_X_join) (maxL := 3) (ret := (some .int)) (by decide) rfl ?_
  intro p e s m args below meth c s₁ B hml hex hv
  obtain ⟨rfl, ⟨hsz, hP, hK⟩, hG⟩ := hv
  have hx := B.exec
  have hb := B.bytes
  have hr := B.returns
  have hts := atoms_spec (ws := wm y_X_join c_X_join 3 (some .int)) B.pre
  have hown : s.vm.findClass "ShopDesks" = some m.cls := findClass_of_methodNamed B.named
  have hlocks := B.notSynchronized
  subst hsz
  have hout : ∀ pc, ∀ x ∈ c.exceptionTable.toList, covers x pc = false := fun pc x hx => (hex x hx).elim
  have hS : va_S (xA o s.heap.size) s.heap s.heap [] := va_S.rf
  have hW : ∀ i, i < 217 → xA o s.heap.size (o + i) := fun i hi => wA_in hi
  have hl := lv_entry ([.ref (o + 0), .int x, .int y]) (n := 3) (Nat.le_of_ble_eq_true rfl)
  rw [lg_entry_eq]
  generalize (lg_sl ([.ref (o + 0), .int x, .int y]) ++ List.replicate (3 - (lg_sl ([.ref (o + 0), .int x, .int y])).length) Slot.unset).toArray = ls at hl ⊢
  have hl : lv_has ls 3 [(0, .ref (o + 0)), (1, .int x), (2, .int y)] := hl
  refine lv_aload_n hx hb d_X_join_0 rfl (lv_at hl 0 rfl) ?_
  refine lv_iload_n hx hb d_X_join_1 rfl (lv_at hl 1 rfl) ?_
  refine x_Vv ⟨hx, hb, hml, hown, hts⟩ (k_X_needSet l hl9 D cA o _ M x) (kV hts 1 aK_X_needSet aM_X_73 aI_X_needSet aV_X_needSet aN_X nm_X_needSet rfl rfl ⟨(Nat.le_of_ble_eq_true rfl), (Nat.le_of_ble_eq_true rfl)⟩) hK hP hG hS (by decide) SX_0 rfl rfl hl.1 rfl (Nat.le_of_ble_eq_true rfl) d_X_join_2 ⟨(Nat.le_of_ble_eq_true rfl), (Nat.le_of_ble_eq_true rfl)⟩ (hout _) hlocks (fun E h => ⟨h.1, Or.inl (by rw [← esc]; exact h.2)⟩) (Nat.le_of_ble_eq_true rfl) (Nat.le_of_ble_eq_true rfl) (fun M_1 H locs g1 hP hS => ?_)
  rw [g1.1] at hP
  obtain ⟨k1, hk1, ek1⟩ := x_idx g1.2.1 (by rw [← esc]; exact g1.2.2) (by omega)
  have hk18 : k1 < 8 := by omega
  refine lv_aload_n hx hb d_X_join_5 rfl (lv_at hl 0 rfl) ?_
  refine lv_iload_n hx hb d_X_join_6 rfl (lv_at hl 2 rfl) ?_
  refine x_Vv ⟨hx, hb, hml, hown, hts⟩ (k_X_needSet l hl9 D cA o _ M y) (kV hts 1 aK_X_needSet aM_X_73 aI_X_needSet aV_X_needSet aN_X nm_X_needSet rfl rfl ⟨(Nat.le_of_ble_eq_true rfl), (Nat.le_of_ble_eq_true rfl)⟩) hK hP hG hS (by decide) SX_0 rfl rfl hl.1 rfl (Nat.le_of_ble_eq_true rfl) d_X_join_7 ⟨(Nat.le_of_ble_eq_true rfl), (Nat.le_of_ble_eq_true rfl)⟩ (hout _) hlocks (fun E h => ⟨h.1, Or.inr (by rw [← esc]; exact h.2)⟩) (Nat.le_of_ble_eq_true rfl) (Nat.le_of_ble_eq_true rfl) (fun M_2 H locs g2 hP hS => ?_)
  rw [g2.1] at hP
  obtain ⟨k2, hk2, ek2⟩ := x_idx g2.2.1 (by rw [← esc]; exact g2.2.2) (by omega)
  have hk28 : k2 < 8 := by omega
  refine lv_aload_n hx hb d_X_join_10 rfl (lv_at hl 0 rfl) ?_
  refine w_get (C := R_X) (T := F_X) (N := 5) (ci := 4) (v := .ref (o + 8)) hx hb hts inw_X hown hK hP 0 (by decide) SX_0 rfl 1 (by decide) (hts _ (al aF_X_18)) rfl d_X_join_11 ?_
  refine lv_iload_n hx hb d_X_join_14 rfl (lv_at hl 1 rfl) ?_
  refine w_topi ek1 ?_
  refine w_aald hx hb hK hP 8 3 (by decide) SX_8 rfl (k := k1) (by omega) (by decide) (if_pos (by omega)) d_X_join_15 ?_
  refine lv_aload_n hx hb d_X_join_16 rfl (lv_at hl 0 rfl) ?_
  refine w_get (C := R_X) (T := F_X) (N := 5) (ci := 4) (v := .ref (o + 8)) hx hb hts inw_X hown hK hP 0 (by decide) SX_0 rfl 1 (by decide) (hts _ (al aF_X_18)) rfl d_X_join_17 ?_
  refine lv_iload_n hx hb d_X_join_20 rfl (lv_at hl 2 rfl) ?_
  refine w_topi ek2 ?_
  refine w_aald hx hb hK hP 8 3 (by decide) SX_8 rfl (k := k2) (by omega) (by decide) (if_pos (by omega)) d_X_join_21 ?_
  refine w_Vi ⟨hx, hb, hml, hown, hts⟩ (k_S_takeMissing l D cA o _ M k1 k2 hk18 hk28 (od k2) (z k1) (z k2) (hse k1 hk18).1 (hse k2 hk28).1 (hse k1 hk18).2.1 (fun j h => ((hse k2 hk28).2.2 j h).2) (hjo k1 k2 hk18 hk28).1 (hjo k1 k2 hk18 hk28).2) (kV hts 1 aK_S_takeMissing aM_X_76 aI_S_takeMissing aV_S_takeMissing aN_S nm_S_takeMissing rfl rfl ⟨(Nat.le_of_ble_eq_true rfl), (Nat.le_of_ble_eq_true rfl)⟩) hK hP (by omega) (SX_s hk18) rfl rfl hl.1 rfl (Nat.le_of_ble_eq_true rfl) d_X_join_22 ⟨(Nat.le_of_ble_eq_true rfl), (Nat.le_of_ble_eq_true rfl)⟩ hS (fun q h => wA_le hS.1 h) (fun r_3 M_3 H locs hw_3 hP hzc hkc hS => ?_)
  rw [hw_3.1] at hP
  refine w_topi hw_3.2 ?_
  refine vx_ret ?_
  refine W.widen (k := 2) (n := 12) (Nat.le_of_ble_eq_true rfl) (Nat.le_of_ble_eq_true rfl) ?_
  exact W.iret (v := nI (x_jZ M k1 (od k2) (z k1) (z k2)) - nI (z k1)) hx hb hr (fun tz hz9 hW9 => ⟨⟨nI (x_jZ M k1 (od k2) (z k1) (z k2)) - nI (z k1), (x_jM M k1 (od k2) (z k1) (z k2)), rfl, ⟨k1, k2, hk1, hk2, ek1, ek2, rfl, rfl⟩, by rw [hz9]; exact hP, va_K.moved hW9.alike hK⟩, hS.F hz9⟩) hS.2.2 d_X_join_25
set_option maxHeartbeats 4000000 in
set_option maxRecDepth 100000 in
/-- X_at -/
theorem k_X_at (l : Launch) (hl9 : l.stackTraces = false) (D : va_G) (cA : Nat → ClassId) (o sz : Nat) (M : wM) (sc : Nat) (hsc : sc ≤ 8) (esc : M.2.2 0 2 = nI sc) (z : Nat → Nat) (od : Nat → Nat → Nat) (hse : xSets M z od) (x th kd : Int32) (tm : Int64) : vx_Met l y_X_at (wm y_X_at c_X_at 6 (some .long)) { frames := 7, cells := 3, slots := 18, locals := 129 } (va_Pc [.ref (o + 0), .int x, .int th, .int kd, .long tm] (xBx D cA o M sz)) (va_Ql (fun r M1 => M1 = M ∧ xin th 10 ∧ xin kd 4 ∧ ∃ k, k < sc ∧ x = nI k ∧ r = x_known M (od k) th kd tm (z k)) (xQ D cA o) (xA o sz)) (xE D cA o M sz (fun E => (E = "java/lang/IndexOutOfBoundsException" ∧ (xbad x (nI sc) ∨ xbad th 10)) ∨ (E = "java/lang/IllegalArgumentException" ∧ xin x (nI sc) ∧ xin th 10 ∧ xbad kd 4))) 3 18 (xA o sz) := by
  refine vx_ofW (cc := c_X_at) (maxL := 6) (ret := (some .long)) (by decide) rfl ?_
  intro p e s m args below meth c s₁ B hml hex hv
  obtain ⟨rfl, ⟨hsz, hP, hK⟩, hG⟩ := hv
  have hx := B.exec
  have hb := B.bytes
  have hr := B.returns
  have hts := atoms_spec (ws := wm y_X_at c_X_at 6 (some .long)) B.pre
  have hown : s.vm.findClass "ShopDesks" = some m.cls := findClass_of_methodNamed B.named
  have hlocks := B.notSynchronized
  subst hsz
  have hout : ∀ pc, ∀ x ∈ c.exceptionTable.toList, covers x pc = false := fun pc x hx => (hex x hx).elim
  have hS : va_S (xA o s.heap.size) s.heap s.heap [] := va_S.rf
  have hW : ∀ i, i < 217 → xA o s.heap.size (o + i) := fun i hi => wA_in hi
  have hl := lv_entry ([.ref (o + 0), .int x, .int th, .int kd, .long tm]) (n := 6) (Nat.le_of_ble_eq_true rfl)
  rw [lg_entry_eq]
  generalize (lg_sl ([.ref (o + 0), .int x, .int th, .int kd, .long tm]) ++ List.replicate (6 - (lg_sl ([.ref (o + 0), .int x, .int th, .int kd, .long tm])).length) Slot.unset).toArray = ls at hl ⊢
  have hl : lv_has ls 6 [(0, .ref (o + 0)), (1, .int x), (2, .int th), (3, .int kd), (4, .long tm)] := hl
  refine lv_aload_n hx hb d_X_at_0 rfl (lv_at hl 0 rfl) ?_
  refine lv_iload_n hx hb d_X_at_1 rfl (lv_at hl 1 rfl) ?_
  refine x_Vv ⟨hx, hb, hml, hown, hts⟩ (k_X_needSet l hl9 D cA o _ M x) (kV hts 1 aK_X_needSet aM_X_73 aI_X_needSet aV_X_needSet aN_X nm_X_needSet rfl rfl ⟨(Nat.le_of_ble_eq_true rfl), (Nat.le_of_ble_eq_true rfl)⟩) hK hP hG hS (by decide) SX_0 rfl rfl hl.1 rfl (Nat.le_of_ble_eq_true rfl) d_X_at_2 ⟨(Nat.le_of_ble_eq_true rfl), (Nat.le_of_ble_eq_true rfl)⟩ (hout _) hlocks (fun E h => Or.inl ⟨h.1, Or.inl (by rw [← esc]; exact h.2)⟩) (Nat.le_of_ble_eq_true rfl) (Nat.le_of_ble_eq_true rfl) (fun M_1 H locs g1 hP hS => ?_)
  rw [g1.1] at hP
  obtain ⟨k1, hk1, ek1⟩ := x_idx g1.2.1 (by rw [← esc]; exact g1.2.2) (by omega)
  have hk18 : k1 < 8 := by omega
  refine lv_iload_n hx hb d_X_at_5 rfl (lv_at hl 2 rfl) ?_
  refine x_Sv ⟨hx, hb, hml, hown, hts⟩ (k_X_needThing l hl9 D cA o _ M th) (kS hts 1 aK_X_needThing aM_X_44 aS_X_needThing aN_X nm_X_needThing rfl rfl ⟨(Nat.le_of_ble_eq_true rfl), (Nat.le_of_ble_eq_true rfl)⟩) hK hP hG hS rfl hl.1 rfl (Nat.le_of_ble_eq_true rfl) d_X_at_6 ⟨(Nat.le_of_ble_eq_true rfl), (Nat.le_of_ble_eq_true rfl)⟩ (hout _) hlocks (fun E h => Or.inl ⟨h.1, Or.inr h.2⟩) (Nat.le_of_ble_eq_true rfl) (Nat.le_of_ble_eq_true rfl) (fun M_2 H locs g2 hP hS => ?_)
  rw [g2.1] at hP
  refine lv_iload_n hx hb d_X_at_9 rfl (lv_at hl 3 rfl) ?_
  refine x_Sv ⟨hx, hb, hml, hown, hts⟩ (k_X_needKind l hl9 D cA o _ M kd) (kS hts 1 aK_X_needKind aM_X_47 aS_X_needKind aN_X nm_X_needKind rfl rfl ⟨(Nat.le_of_ble_eq_true rfl), (Nat.le_of_ble_eq_true rfl)⟩) hK hP hG hS rfl hl.1 rfl (Nat.le_of_ble_eq_true rfl) d_X_at_10 ⟨(Nat.le_of_ble_eq_true rfl), (Nat.le_of_ble_eq_true rfl)⟩ (hout _) hlocks (fun E h => Or.inr ⟨h.1, by rw [← esc]; exact g1.2, g2.2, h.2⟩) (Nat.le_of_ble_eq_true rfl) (Nat.le_of_ble_eq_true rfl) (fun M_3 H locs g3 hP hS => ?_)
  rw [g3.1] at hP
  refine lv_aload_n hx hb d_X_at_13 rfl (lv_at hl 0 rfl) ?_
  refine w_get (C := R_X) (T := F_X) (N := 5) (ci := 4) (v := .ref (o + 8)) hx hb hts inw_X hown hK hP 0 (by decide) SX_0 rfl 1 (by decide) (hts _ (al aF_X_18)) rfl d_X_at_14 ?_
  refine lv_iload_n hx hb d_X_at_17 rfl (lv_at hl 1 rfl) ?_
  refine w_topi ek1 ?_
  refine w_aald hx hb hK hP 8 3 (by decide) SX_8 rfl (k := k1) (by omega) (by decide) (if_pos (by omega)) d_X_at_18 ?_
  refine lv_iload_n hx hb d_X_at_19 rfl (lv_at hl 2 rfl) ?_
  refine lv_iload_n hx hb d_X_at_20 rfl (lv_at hl 3 rfl) ?_
  refine lv_lload hx hb d_X_at_21 (lv_at hl 4 rfl) ?_
  refine lv_aload_n hx hb d_X_at_23 rfl (lv_at hl 0 rfl) ?_
  refine w_get (C := R_X) (T := F_X) (N := 5) (ci := 4) (v := .ref (o + 8)) hx hb hts inw_X hown hK hP 0 (by decide) SX_0 rfl 1 (by decide) (hts _ (al aF_X_18)) rfl d_X_at_24 ?_
  refine lv_iload_n hx hb d_X_at_27 rfl (lv_at hl 1 rfl) ?_
  refine w_topi ek1 ?_
  refine w_aald hx hb hK hP 8 3 (by decide) SX_8 rfl (k := k1) (by omega) (by decide) (if_pos (by omega)) d_X_at_28 ?_
  refine w_get (C := R_S) (T := F_S) (N := 5) (ci := 2) (v := .int (M.2.2 (9 + 3 * k1) 3)) hx hb hts inw_S hown hK hP (9 + 3 * k1) (by omega) (SX_s hk18) rfl 3 (by decide) (hts _ (al aF_X_84)) rfl d_X_at_29 ?_
  refine w_topi ((hse k1 hk18).2.1) ?_
  refine w_Vl ⟨hx, hb, hml, hown, hts⟩ (k_S_known l D cA o _ M k1 hk18 (od k1) (z k1) (hse k1 hk18).1 (hse k1 hk18).2.2 th kd tm) (kV hts 4 aK_S_known aM_X_87 aI_S_known aV_S_known aN_S nm_S_known rfl rfl ⟨(Nat.le_of_ble_eq_true rfl), (Nat.le_of_ble_eq_true rfl)⟩) hK hP (by omega) (SX_s hk18) rfl rfl hl.1 rfl (Nat.le_of_ble_eq_true rfl) d_X_at_32 ⟨(Nat.le_of_ble_eq_true rfl), (Nat.le_of_ble_eq_true rfl)⟩ hS (fun q h => wA_le hS.1 h) (fun r_4 M_4 H locs hw_4 hP hzc hkc hS => ?_)
  rw [hw_4.1] at hP
  refine w_topl hw_4.2 ?_
  refine vx_ret ?_
  refine W.widen (k := 3) (n := 18) (Nat.le_of_ble_eq_true rfl) (Nat.le_of_ble_eq_true rfl) ?_
  exact W.lret (v := x_known M (od k1) th kd tm (z k1)) hx hb hr (fun tz hz9 hW9 => ⟨⟨x_known M (od k1) th kd tm (z k1), M, rfl, ⟨rfl, g2.2, g3.2, k1, hk1, ek1, rfl⟩, by rw [hz9]; exact hP, va_K.moved hW9.alike hK⟩, hS.F hz9⟩) hS.2.2 d_X_at_35
set_option maxHeartbeats 4000000 in
set_option maxRecDepth 100000 in
/-- X_batch -/
theorem k_X_batch (l : Launch) (hl9 : l.stackTraces = false) (D : va_G) (cA : Nat → ClassId) (o sz : Nat) (M : wM) (sc : Nat) (hsc : sc ≤ 8) (esc : M.2.2 0 2 = nI sc) (x bo : Int32) : vx_Met l y_X_batch (wm y_X_batch c_X_batch 3 (some .boolean)) { frames := 7, cells := 1, slots := 6, locals := 103 } (va_Pc [.ref (o + 0), .int x, .int bo] (xBx D cA o M sz)) (va_Qi (fun r M1 => ∃ k, k < sc ∧ x = nI k ∧ ((bo = 0 ∧ ((r = 0 ∧ M1 = M ∧ M.2.2 (9 + 3 * k) 4 = -1) ∨ (r = 1 ∧ M1 = wF M (9 + 3 * k) 4 (-1) ∧ ¬ M.2.2 (9 + 3 * k) 4 = -1))) ∨ (¬ bo = 0 ∧ ((r = 0 ∧ M1 = M ∧ ¬ M.2.2 (9 + 3 * k) 4 = -1) ∨ (r = 1 ∧ M1 = wF M (9 + 3 * k) 4 (M.2.2 (9 + 3 * k) 3) ∧ M.2.2 (9 + 3 * k) 4 = -1))))) (xQ D cA o) (xA o sz)) (xE D cA o M sz (fun E => E = "java/lang/IndexOutOfBoundsException" ∧ xbad x (nI sc))) 1 6 (xA o sz) := by
  refine vx_ofW (cc := c_X_batch) (maxL := 3) (ret := (some .boolean)) (by decide) rfl ?_
  intro p e s m args below meth c s₁ B hml hex hv
  obtain ⟨rfl, ⟨hsz, hP, hK⟩, hG⟩ := hv
  have hx := B.exec
  have hb := B.bytes
  have hr := B.returns
  have hts := atoms_spec (ws := wm y_X_batch c_X_batch 3 (some .boolean)) B.pre
  have hown : s.vm.findClass "ShopDesks" = some m.cls := findClass_of_methodNamed B.named
  have hlocks := B.notSynchronized
  subst hsz
  have hout : ∀ pc, ∀ x ∈ c.exceptionTable.toList, covers x pc = false := fun pc x hx => (hex x hx).elim
  have hS : va_S (xA o s.heap.size) s.heap s.heap [] := va_S.rf
  have hW : ∀ i, i < 217 → xA o s.heap.size (o + i) := fun i hi => wA_in hi
  have hl := lv_entry ([.ref (o + 0), .int x, .int bo]) (n := 3) (Nat.le_of_ble_eq_true rfl)
  rw [lg_entry_eq]
  generalize (lg_sl ([.ref (o + 0), .int x, .int bo]) ++ List.replicate (3 - (lg_sl ([.ref (o + 0), .int x, .int bo])).length) Slot.unset).toArray = ls at hl ⊢
  have hl : lv_has ls 3 [(0, .ref (o + 0)), (1, .int x), (2, .int bo)] := hl
  refine lv_aload_n hx hb d_X_batch_0 rfl (lv_at hl 0 rfl) ?_
  refine lv_iload_n hx hb d_X_batch_1 rfl (lv_at hl 1 rfl) ?_
  refine x_Vv ⟨hx, hb, hml, hown, hts⟩ (k_X_needSet l hl9 D cA o _ M x) (kV hts 1 aK_X_needSet aM_X_73 aI_X_needSet aV_X_needSet aN_X nm_X_needSet rfl rfl ⟨(Nat.le_of_ble_eq_true rfl), (Nat.le_of_ble_eq_true rfl)⟩) hK hP hG hS (by decide) SX_0 rfl rfl hl.1 rfl (Nat.le_of_ble_eq_true rfl) d_X_batch_2 ⟨(Nat.le_of_ble_eq_true rfl), (Nat.le_of_ble_eq_true rfl)⟩ (hout _) hlocks (fun E h => ⟨h.1, by rw [← esc]; exact h.2⟩) (Nat.le_of_ble_eq_true rfl) (Nat.le_of_ble_eq_true rfl) (fun M_1 H locs g1 hP hS => ?_)
  rw [g1.1] at hP
  obtain ⟨k1, hk1, ek1⟩ := x_idx g1.2.1 (by rw [← esc]; exact g1.2.2) (by omega)
  have hk18 : k1 < 8 := by omega
  refine lv_iload_n hx hb d_X_batch_5 rfl (lv_at hl 2 rfl) ?_
  refine lv_if_eq (tgt := 21) hx hb d_X_batch_6 (by decide) (fun c_2 => ?_) (fun c_2 => ?_)
  · have q := c_2
    refine lv_aload_n hx hb d_X_batch_21 rfl (lv_at hl 0 rfl) ?_
    refine w_get (C := R_X) (T := F_X) (N := 5) (ci := 4) (v := .ref (o + 8)) hx hb hts inw_X hown hK hP 0 (by decide) SX_0 rfl 1 (by decide) (hts _ (al aF_X_18)) rfl d_X_batch_22 ?_
    refine lv_iload_n hx hb d_X_batch_25 rfl (lv_at hl 1 rfl) ?_
    refine w_topi ek1 ?_
    refine w_aald hx hb hK hP 8 3 (by decide) SX_8 rfl (k := k1) (by omega) (by decide) (if_pos (by omega)) d_X_batch_26 ?_
    refine w_Vi ⟨hx, hb, hml, hown, hts⟩ (k_S_endBatch l D cA o _ M k1 hk18) (kV hts 0 aK_S_endBatch aM_X_127 aI_S_endBatch aV_S_endBatch aN_S nm_S_endBatch rfl rfl ⟨(Nat.le_of_ble_eq_true rfl), (Nat.le_of_ble_eq_true rfl)⟩) hK hP (by omega) (SX_s hk18) rfl rfl hl.1 rfl (Nat.le_of_ble_eq_true rfl) d_X_batch_27 ⟨(Nat.le_of_ble_eq_true rfl), (Nat.le_of_ble_eq_true rfl)⟩ hS (fun q h => wA_le hS.1 h) (fun rg2 Mg2 H locs g2 hP hzc hkc hS => ?_)
    refine vx_ret ?_
    refine W.widen (k := 1) (n := 6) (Nat.le_of_ble_eq_true rfl) (Nat.le_of_ble_eq_true rfl) ?_
    exact W.zret (v := rg2) hx hb hr (by rcases g2 with h | h <;> rw [h.1] <;> rfl) (fun tz hz9 hW9 => ⟨⟨rg2, Mg2, rfl, ⟨k1, hk1, ek1, Or.inl ⟨q, g2⟩⟩, by rw [hz9]; exact hP, va_K.moved hW9.alike hK⟩, hS.F hz9⟩) hS.2.2 d_X_batch_30
  · have q := c_2
    refine lv_aload_n hx hb d_X_batch_9 rfl (lv_at hl 0 rfl) ?_
    refine w_get (C := R_X) (T := F_X) (N := 5) (ci := 4) (v := .ref (o + 8)) hx hb hts inw_X hown hK hP 0 (by decide) SX_0 rfl 1 (by decide) (hts _ (al aF_X_18)) rfl d_X_batch_10 ?_
    refine lv_iload_n hx hb d_X_batch_13 rfl (lv_at hl 1 rfl) ?_
    refine w_topi ek1 ?_
    refine w_aald hx hb hK hP 8 3 (by decide) SX_8 rfl (k := k1) (by omega) (by decide) (if_pos (by omega)) d_X_batch_14 ?_
    refine w_Vi ⟨hx, hb, hml, hown, hts⟩ (k_S_beginBatch l D cA o _ M k1 hk18) (kV hts 0 aK_S_beginBatch aM_X_123 aI_S_beginBatch aV_S_beginBatch aN_S nm_S_beginBatch rfl rfl ⟨(Nat.le_of_ble_eq_true rfl), (Nat.le_of_ble_eq_true rfl)⟩) hK hP (by omega) (SX_s hk18) rfl rfl hl.1 rfl (Nat.le_of_ble_eq_true rfl) d_X_batch_15 ⟨(Nat.le_of_ble_eq_true rfl), (Nat.le_of_ble_eq_true rfl)⟩ hS (fun q h => wA_le hS.1 h) (fun rg2 Mg2 H locs g2 hP hzc hkc hS => ?_)
    refine lv_goto (tgt := 30) hx hb d_X_batch_18 (by decide) ?_
    refine vx_ret ?_
    refine W.widen (k := 1) (n := 6) (Nat.le_of_ble_eq_true rfl) (Nat.le_of_ble_eq_true rfl) ?_
    exact W.zret (v := rg2) hx hb hr (by rcases g2 with h | h <;> rw [h.1] <;> rfl) (fun tz hz9 hW9 => ⟨⟨rg2, Mg2, rfl, ⟨k1, hk1, ek1, Or.inr ⟨q, g2⟩⟩, by rw [hz9]; exact hP, va_K.moved hW9.alike hK⟩, hS.F hz9⟩) hS.2.2 d_X_batch_30
set_option maxHeartbeats 4000000 in
set_option maxRecDepth 100000 in
/-- X_right -/
theorem k_X_right (l : Launch) (hl9 : l.stackTraces = false) (D : va_G) (cA : Nat → ClassId) (o sz : Nat) (M : wM) (x kd bo : Int32) (hbo : vp_nar .boolean bo = bo) : vx_Met l y_X_right (wm y_X_right c_X_right 6 (some .boolean)) { frames := 7, cells := 2, slots := 12, locals := 102 } (va_Pc [.ref (o + 0), .int x, .int kd, .int bo] (xBx D cA o M sz)) (va_Qi (fun r M1 => ∃ a b, a < 4 ∧ b < 4 ∧ x = nI a ∧ kd = nI b ∧ M1 = wI M 33 (a * 4 + b) bo ∧ r = b2i (decide (¬ M.1 33 (a * 4 + b) = bo))) (xQ D cA o) (xA o sz)) (xE D cA o M sz (fun E => (E = "java/lang/IndexOutOfBoundsException" ∧ xbad x 4) ∨ (E = "java/lang/IllegalArgumentException" ∧ xin x 4 ∧ xbad kd 4))) 2 12 (xA o sz) := by
  refine vx_ofW (cc := c_X_right) (maxL := 6) (ret := (some .boolean)) (by decide) rfl ?_
  intro p e s m args below meth c s₁ B hml hex hv
  obtain ⟨rfl, ⟨hsz, hP, hK⟩, hG⟩ := hv
  have hx := B.exec
  have hb := B.bytes
  have hr := B.returns
  have hts := atoms_spec (ws := wm y_X_right c_X_right 6 (some .boolean)) B.pre
  have hown : s.vm.findClass "ShopDesks" = some m.cls := findClass_of_methodNamed B.named
  have hlocks := B.notSynchronized
  subst hsz
  have hout : ∀ pc, ∀ x ∈ c.exceptionTable.toList, covers x pc = false := fun pc x hx => (hex x hx).elim
  have hS : va_S (xA o s.heap.size) s.heap s.heap [] := va_S.rf
  have hW : ∀ i, i < 217 → xA o s.heap.size (o + i) := fun i hi => wA_in hi
  have hl := lv_entry ([.ref (o + 0), .int x, .int kd, .int bo]) (n := 6) (Nat.le_of_ble_eq_true rfl)
  rw [lg_entry_eq]
  generalize (lg_sl ([.ref (o + 0), .int x, .int kd, .int bo]) ++ List.replicate (6 - (lg_sl ([.ref (o + 0), .int x, .int kd, .int bo])).length) Slot.unset).toArray = ls at hl ⊢
  have hl : lv_has ls 6 [(0, .ref (o + 0)), (1, .int x), (2, .int kd), (3, .int bo)] := hl
  refine lv_iload_n hx hb d_X_right_0 rfl (lv_at hl 1 rfl) ?_
  refine x_Sv ⟨hx, hb, hml, hown, hts⟩ (k_X_needPerson l hl9 D cA o _ M x) (kS hts 1 aK_X_needPerson aM_X_130 aS_X_needPerson aN_X nm_X_needPerson rfl rfl ⟨(Nat.le_of_ble_eq_true rfl), (Nat.le_of_ble_eq_true rfl)⟩) hK hP hG hS rfl hl.1 rfl (Nat.le_of_ble_eq_true rfl) d_X_right_1 ⟨(Nat.le_of_ble_eq_true rfl), (Nat.le_of_ble_eq_true rfl)⟩ (hout _) hlocks (fun E h => Or.inl h) (Nat.le_of_ble_eq_true rfl) (Nat.le_of_ble_eq_true rfl) (fun M_1 H locs g1 hP hS => ?_)
  rw [g1.1] at hP
  obtain ⟨a1, ha1, ea1⟩ := x_idx (n := 4) g1.2.1 g1.2.2 (by omega)
  refine lv_iload_n hx hb d_X_right_4 rfl (lv_at hl 2 rfl) ?_
  refine x_Sv ⟨hx, hb, hml, hown, hts⟩ (k_X_needKind l hl9 D cA o _ M kd) (kS hts 1 aK_X_needKind aM_X_47 aS_X_needKind aN_X nm_X_needKind rfl rfl ⟨(Nat.le_of_ble_eq_true rfl), (Nat.le_of_ble_eq_true rfl)⟩) hK hP hG hS rfl hl.1 rfl (Nat.le_of_ble_eq_true rfl) d_X_right_5 ⟨(Nat.le_of_ble_eq_true rfl), (Nat.le_of_ble_eq_true rfl)⟩ (hout _) hlocks (fun E h => Or.inr ⟨h.1, g1.2, h.2⟩) (Nat.le_of_ble_eq_true rfl) (Nat.le_of_ble_eq_true rfl) (fun M_2 H locs gk hP hS => ?_)
  rw [gk.1] at hP
  obtain ⟨b1, hb1, eb1⟩ := x_idx (n := 4) gk.2.1 gk.2.2 (by omega)
  refine lv_iload_n hx hb d_X_right_8 rfl (lv_at hl 1 rfl) ?_
  refine w_topi ea1 ?_
  refine lv_iconst (v := 4) hx hb d_X_right_9 (by decide) ?_
  refine lv_imul hx hb d_X_right_10 ?_
  refine lv_iload_n hx hb d_X_right_11 rfl (lv_at hl 2 rfl) ?_
  refine w_topi eb1 ?_
  refine lv_iadd hx hb d_X_right_12 ?_
  refine w_topi (x_mul4 a1 b1) ?_
  refine lv_istore (lv' := [(4, .int (nI (a1 * 4 + b1))), (0, .ref (o + 0)), (1, .int x), (2, .int kd), (3, .int bo)]) hx hb d_X_right_13 hl (by decide) rfl (fun ls hl => ?_)
  refine lv_aload_n hx hb d_X_right_15 rfl (lv_at hl 1 rfl) ?_
  refine w_get (C := R_X) (T := F_X) (N := 5) (ci := 4) (v := .ref (o + 33)) hx hb hts inw_X hown hK hP 0 (by decide) SX_0 rfl 3 (by decide) (hts _ (al aF_X_29)) rfl d_X_right_16 ?_
  refine lv_iload hx hb d_X_right_19 (lv_at hl 0 rfl) ?_
  refine w_zald hx hb hK hP 33 2 (by decide) SX_33 rfl (k := (a1 * 4 + b1)) (by omega) (by decide) d_X_right_21 ?_
  refine lv_iload_n hx hb d_X_right_22 rfl (lv_at hl 4 rfl) ?_
  refine lv_icmp_eq (tgt := 30) hx hb d_X_right_23 (by decide) (fun c_3 => ?_) (fun c_3 => ?_)
  · have q := c_3
    refine lv_iconst (v := 0) hx hb d_X_right_30 (by decide) ?_
    refine lv_istore (lv' := [(5, .int 0), (4, .int (nI (a1 * 4 + b1))), (0, .ref (o + 0)), (1, .int x), (2, .int kd), (3, .int bo)]) hx hb d_X_right_31 hl (by decide) rfl (fun ls hl => ?_)
    refine lv_aload_n hx hb d_X_right_33 rfl (lv_at hl 2 rfl) ?_
    refine w_get (C := R_X) (T := F_X) (N := 5) (ci := 4) (v := .ref (o + 33)) hx hb hts inw_X hown hK hP 0 (by decide) SX_0 rfl 3 (by decide) (hts _ (al aF_X_29)) rfl d_X_right_34 ?_
    refine lv_iload hx hb d_X_right_37 (lv_at hl 1 rfl) ?_
    refine lv_iload_n hx hb d_X_right_39 rfl (lv_at hl 5 rfl) ?_
    refine w_zast hx hb hK hP hW hS 33 2 (by decide) (fun _ => SX_33) rfl (hbo) (k := (a1 * 4 + b1)) (by omega) (by decide) d_X_right_40 (fun H locs hP hS => ?_)
    refine lv_iload hx hb d_X_right_41 (lv_at hl 0 rfl) ?_
    refine vx_ret ?_
    refine W.widen (k := 2) (n := 12) (Nat.le_of_ble_eq_true rfl) (Nat.le_of_ble_eq_true rfl) ?_
    exact W.zret (v := 0) hx hb hr rfl (fun tz hz9 hW9 => ⟨⟨0, (wI M 33 (a1 * 4 + b1) bo), rfl, ⟨a1, b1, ha1, hb1, ea1, eb1, rfl, (b2i_f (fun h => h q)).symm⟩, by rw [hz9]; exact hP, va_K.moved hW9.alike hK⟩, hS.F hz9⟩) hS.2.2 d_X_right_43
  · have q := c_3
    refine lv_iconst (v := 1) hx hb d_X_right_26 (by decide) ?_
    refine lv_goto (tgt := 31) hx hb d_X_right_27 (by decide) ?_
    refine lv_istore (lv' := [(5, .int 1), (4, .int (nI (a1 * 4 + b1))), (0, .ref (o + 0)), (1, .int x), (2, .int kd), (3, .int bo)]) hx hb d_X_right_31 hl (by decide) rfl (fun ls hl => ?_)
    refine lv_aload_n hx hb d_X_right_33 rfl (lv_at hl 2 rfl) ?_
    refine w_get (C := R_X) (T := F_X) (N := 5) (ci := 4) (v := .ref (o + 33)) hx hb hts inw_X hown hK hP 0 (by decide) SX_0 rfl 3 (by decide) (hts _ (al aF_X_29)) rfl d_X_right_34 ?_
    refine lv_iload hx hb d_X_right_37 (lv_at hl 1 rfl) ?_
    refine lv_iload_n hx hb d_X_right_39 rfl (lv_at hl 5 rfl) ?_
    refine w_zast hx hb hK hP hW hS 33 2 (by decide) (fun _ => SX_33) rfl (hbo) (k := (a1 * 4 + b1)) (by omega) (by decide) d_X_right_40 (fun H locs hP hS => ?_)
    refine lv_iload hx hb d_X_right_41 (lv_at hl 0 rfl) ?_
    refine vx_ret ?_
    refine W.widen (k := 2) (n := 12) (Nat.le_of_ble_eq_true rfl) (Nat.le_of_ble_eq_true rfl) ?_
    exact W.zret (v := 1) hx hb hr rfl (fun tz hz9 hW9 => ⟨⟨1, (wI M 33 (a1 * 4 + b1) bo), rfl, ⟨a1, b1, ha1, hb1, ea1, eb1, rfl, (b2i_t q).symm⟩, by rw [hz9]; exact hP, va_K.moved hW9.alike hK⟩, hS.F hz9⟩) hS.2.2 d_X_right_43
set_option maxHeartbeats 4000000 in
set_option maxRecDepth 100000 in
/-- X_seen -/
theorem k_X_seen (l : Launch) (hl9 : l.stackTraces = false) (D : va_G) (cA : Nat → ClassId) (o sz : Nat) (M : wM) (sc : Nat) (hsc : sc ≤ 8) (esc : M.2.2 0 2 = nI sc) (z : Nat → Nat) (od : Nat → Nat → Nat) (hse : xSets M z od) (bs : Nat → Nat) (hbs : ∀ s, s < 8 → bs s ≤ z s ∧ (if M.2.2 (9 + 3 * s) 4 = -1 then M.2.2 (9 + 3 * s) 3 else M.2.2 (9 + 3 * s) 4) = nI (bs s)) (x y th kd : Int32) : vx_Met l y_X_seen (wm y_X_seen c_X_seen 5 (some .long)) { frames := 7, cells := 5, slots := 30, locals := 129 } (va_Pc [.ref (o + 0), .int x, .int y, .int th, .int kd] (xBx D cA o M sz)) (va_Ql (fun r M1 => M1 = M ∧ xin th 10 ∧ ∃ a b k, a < 4 ∧ b < 4 ∧ x = nI a ∧ kd = nI b ∧ ¬ M.1 33 (a * 4 + b) = 0 ∧ k < sc ∧ y = nI k ∧ r = x_known M (od k) th kd 9223372036854775807 (bs k)) (xQ D cA o) (xA o sz)) (xE D cA o M sz (fun E => (E = "java/lang/IndexOutOfBoundsException" ∧ (xbad x 4 ∨ xbad y (nI sc) ∨ xbad th 10)) ∨ (E = "java/lang/IllegalArgumentException" ∧ xin x 4 ∧ xin y (nI sc) ∧ xin th 10 ∧ xbad kd 4) ∨ (E = "java/lang/IllegalStateException" ∧ xin y (nI sc) ∧ xin th 10 ∧ ∃ a b, a < 4 ∧ b < 4 ∧ x = nI a ∧ kd = nI b ∧ M.1 33 (a * 4 + b) = 0))) 5 30 (xA o sz) := by
  refine vx_ofW (cc := c_X_seen) (maxL := 5) (ret := (some .long)) (by decide) rfl ?_
  intro p e s m args below meth c s₁ B hml hex hv
  obtain ⟨rfl, ⟨hsz, hP, hK⟩, hG⟩ := hv
  have hx := B.exec
  have hb := B.bytes
  have hr := B.returns
  have hts := atoms_spec (ws := wm y_X_seen c_X_seen 5 (some .long)) B.pre
  have hown : s.vm.findClass "ShopDesks" = some m.cls := findClass_of_methodNamed B.named
  have hlocks := B.notSynchronized
  subst hsz
  have hout : ∀ pc, ∀ x ∈ c.exceptionTable.toList, covers x pc = false := fun pc x hx => (hex x hx).elim
  have hS : va_S (xA o s.heap.size) s.heap s.heap [] := va_S.rf
  have hW : ∀ i, i < 217 → xA o s.heap.size (o + i) := fun i hi => wA_in hi
  have hl := lv_entry ([.ref (o + 0), .int x, .int y, .int th, .int kd]) (n := 5) (Nat.le_of_ble_eq_true rfl)
  rw [lg_entry_eq]
  generalize (lg_sl ([.ref (o + 0), .int x, .int y, .int th, .int kd]) ++ List.replicate (5 - (lg_sl ([.ref (o + 0), .int x, .int y, .int th, .int kd])).length) Slot.unset).toArray = ls at hl ⊢
  have hl : lv_has ls 5 [(0, .ref (o + 0)), (1, .int x), (2, .int y), (3, .int th), (4, .int kd)] := hl
  refine lv_iload_n hx hb d_X_seen_0 rfl (lv_at hl 1 rfl) ?_
  refine x_Sv ⟨hx, hb, hml, hown, hts⟩ (k_X_needPerson l hl9 D cA o _ M x) (kS hts 1 aK_X_needPerson aM_X_130 aS_X_needPerson aN_X nm_X_needPerson rfl rfl ⟨(Nat.le_of_ble_eq_true rfl), (Nat.le_of_ble_eq_true rfl)⟩) hK hP hG hS rfl hl.1 rfl (Nat.le_of_ble_eq_true rfl) d_X_seen_1 ⟨(Nat.le_of_ble_eq_true rfl), (Nat.le_of_ble_eq_true rfl)⟩ (hout _) hlocks (fun E h => Or.inl ⟨h.1, Or.inl h.2⟩) (Nat.le_of_ble_eq_true rfl) (Nat.le_of_ble_eq_true rfl) (fun M_1 H locs g1 hP hS => ?_)
  rw [g1.1] at hP
  obtain ⟨a1, ha1, ea1⟩ := x_idx (n := 4) g1.2.1 g1.2.2 (by omega)
  refine lv_aload_n hx hb d_X_seen_4 rfl (lv_at hl 0 rfl) ?_
  refine lv_iload_n hx hb d_X_seen_5 rfl (lv_at hl 2 rfl) ?_
  refine x_Vv ⟨hx, hb, hml, hown, hts⟩ (k_X_needSet l hl9 D cA o _ M y) (kV hts 1 aK_X_needSet aM_X_73 aI_X_needSet aV_X_needSet aN_X nm_X_needSet rfl rfl ⟨(Nat.le_of_ble_eq_true rfl), (Nat.le_of_ble_eq_true rfl)⟩) hK hP hG hS (by decide) SX_0 rfl rfl hl.1 rfl (Nat.le_of_ble_eq_true rfl) d_X_seen_6 ⟨(Nat.le_of_ble_eq_true rfl), (Nat.le_of_ble_eq_true rfl)⟩ (hout _) hlocks (fun E h => Or.inl ⟨h.1, Or.inr (Or.inl (by rw [← esc]; exact h.2))⟩) (Nat.le_of_ble_eq_true rfl) (Nat.le_of_ble_eq_true rfl) (fun M_2 H locs g2 hP hS => ?_)
  rw [g2.1] at hP
  obtain ⟨k1, hk1, ek1⟩ := x_idx g2.2.1 (by rw [← esc]; exact g2.2.2) (by omega)
  have hk18 : k1 < 8 := by omega
  refine lv_iload_n hx hb d_X_seen_9 rfl (lv_at hl 3 rfl) ?_
  refine x_Sv ⟨hx, hb, hml, hown, hts⟩ (k_X_needThing l hl9 D cA o _ M th) (kS hts 1 aK_X_needThing aM_X_44 aS_X_needThing aN_X nm_X_needThing rfl rfl ⟨(Nat.le_of_ble_eq_true rfl), (Nat.le_of_ble_eq_true rfl)⟩) hK hP hG hS rfl hl.1 rfl (Nat.le_of_ble_eq_true rfl) d_X_seen_10 ⟨(Nat.le_of_ble_eq_true rfl), (Nat.le_of_ble_eq_true rfl)⟩ (hout _) hlocks (fun E h => Or.inl ⟨h.1, Or.inr (Or.inr h.2)⟩) (Nat.le_of_ble_eq_true rfl) (Nat.le_of_ble_eq_true rfl) (fun M_3 H locs g3 hP hS => ?_)
  rw [g3.1] at hP
  refine lv_iload hx hb d_X_seen_13 (lv_at hl 4 rfl) ?_
  refine x_Sv ⟨hx, hb, hml, hown, hts⟩ (k_X_needKind l hl9 D cA o _ M kd) (kS hts 1 aK_X_needKind aM_X_47 aS_X_needKind aN_X nm_X_needKind rfl rfl ⟨(Nat.le_of_ble_eq_true rfl), (Nat.le_of_ble_eq_true rfl)⟩) hK hP hG hS rfl hl.1 rfl (Nat.le_of_ble_eq_true rfl) d_X_seen_15 ⟨(Nat.le_of_ble_eq_true rfl), (Nat.le_of_ble_eq_true rfl)⟩ (hout _) hlocks (fun E h => Or.inr (Or.inl ⟨h.1, g1.2, by rw [← esc]; exact g2.2, g3.2, h.2⟩)) (Nat.le_of_ble_eq_true rfl) (Nat.le_of_ble_eq_true rfl) (fun M_4 H locs gk hP hS => ?_)
  rw [gk.1] at hP
  obtain ⟨b1, hb1, eb1⟩ := x_idx (n := 4) gk.2.1 gk.2.2 (by omega)
  refine lv_aload_n hx hb d_X_seen_18 rfl (lv_at hl 0 rfl) ?_
  refine w_get (C := R_X) (T := F_X) (N := 5) (ci := 4) (v := .ref (o + 33)) hx hb hts inw_X hown hK hP 0 (by decide) SX_0 rfl 3 (by decide) (hts _ (al aF_X_29)) rfl d_X_seen_19 ?_
  refine lv_iload_n hx hb d_X_seen_22 rfl (lv_at hl 1 rfl) ?_
  refine w_topi ea1 ?_
  refine lv_iconst (v := 4) hx hb d_X_seen_23 (by decide) ?_
  refine lv_imul hx hb d_X_seen_24 ?_
  refine lv_iload hx hb d_X_seen_25 (lv_at hl 4 rfl) ?_
  refine w_topi eb1 ?_
  refine lv_iadd hx hb d_X_seen_27 ?_
  refine w_topi (x_mul4 a1 b1) ?_
  refine w_zald hx hb hK hP 33 2 (by decide) SX_33 rfl (k := (a1 * 4 + b1)) (by omega) (by decide) d_X_seen_28 ?_
  refine lv_if_ne (tgt := 42) hx hb d_X_seen_29 (by decide) (fun c_5 => ?_) (fun c_5 => ?_)
  · have q := c_5
    refine lv_aload_n hx hb d_X_seen_42 rfl (lv_at hl 0 rfl) ?_
    refine w_get (C := R_X) (T := F_X) (N := 5) (ci := 4) (v := .ref (o + 8)) hx hb hts inw_X hown hK hP 0 (by decide) SX_0 rfl 1 (by decide) (hts _ (al aF_X_18)) rfl d_X_seen_43 ?_
    refine lv_iload_n hx hb d_X_seen_46 rfl (lv_at hl 2 rfl) ?_
    refine w_topi ek1 ?_
    refine w_aald hx hb hK hP 8 3 (by decide) SX_8 rfl (k := k1) (by omega) (by decide) (if_pos (by omega)) d_X_seen_47 ?_
    refine lv_iload_n hx hb d_X_seen_48 rfl (lv_at hl 3 rfl) ?_
    refine lv_iload hx hb d_X_seen_49 (lv_at hl 4 rfl) ?_
    refine w_topi eb1 ?_
    refine lv_ldc2 (v := 9223372036854775807) hx hb hown (hts _ (al aL_X_135)) d_X_seen_51 ?_
    refine lv_aload_n hx hb d_X_seen_54 rfl (lv_at hl 0 rfl) ?_
    refine w_get (C := R_X) (T := F_X) (N := 5) (ci := 4) (v := .ref (o + 8)) hx hb hts inw_X hown hK hP 0 (by decide) SX_0 rfl 1 (by decide) (hts _ (al aF_X_18)) rfl d_X_seen_55 ?_
    refine lv_iload_n hx hb d_X_seen_58 rfl (lv_at hl 2 rfl) ?_
    refine w_topi ek1 ?_
    refine w_aald hx hb hK hP 8 3 (by decide) SX_8 rfl (k := k1) (by omega) (by decide) (if_pos (by omega)) d_X_seen_59 ?_
    refine w_Vi ⟨hx, hb, hml, hown, hts⟩ (k_S_sizeToSee l D cA o _ M k1 hk18) (kV hts 0 aK_S_sizeToSee aM_X_137 aI_S_sizeToSee aV_S_sizeToSee aN_S nm_S_sizeToSee rfl rfl ⟨(Nat.le_of_ble_eq_true rfl), (Nat.le_of_ble_eq_true rfl)⟩) hK hP (by omega) (SX_s hk18) rfl rfl hl.1 rfl (Nat.le_of_ble_eq_true rfl) d_X_seen_60 ⟨(Nat.le_of_ble_eq_true rfl), (Nat.le_of_ble_eq_true rfl)⟩ hS (fun q h => wA_le hS.1 h) (fun r_6 M_6 H locs hw_6 hP hzc hkc hS => ?_)
    rw [hw_6.1] at hP
    refine w_topi hw_6.2 ?_
    refine w_topi ((hbs k1 hk18).2) ?_
    refine w_Vl ⟨hx, hb, hml, hown, hts⟩ (k_S_known l D cA o _ M k1 hk18 (od k1) (bs k1) (Nat.le_trans (hbs k1 hk18).1 (hse k1 hk18).1) (fun j h => (hse k1 hk18).2.2 j (Nat.lt_of_lt_of_le h (hbs k1 hk18).1)) th (nI b1) 9223372036854775807) (kV hts 4 aK_S_known aM_X_87 aI_S_known aV_S_known aN_S nm_S_known rfl rfl ⟨(Nat.le_of_ble_eq_true rfl), (Nat.le_of_ble_eq_true rfl)⟩) hK hP (by omega) (SX_s hk18) rfl rfl hl.1 rfl (Nat.le_of_ble_eq_true rfl) d_X_seen_63 ⟨(Nat.le_of_ble_eq_true rfl), (Nat.le_of_ble_eq_true rfl)⟩ hS (fun q h => wA_le hS.1 h) (fun r_7 M_7 H locs hw_7 hP hzc hkc hS => ?_)
    rw [hw_7.1] at hP
    refine w_topl hw_7.2 ?_
    refine vx_ret ?_
    refine W.widen (k := 5) (n := 30) (Nat.le_of_ble_eq_true rfl) (Nat.le_of_ble_eq_true rfl) ?_
    exact W.lret (v := x_known M (od k1) th (nI b1) 9223372036854775807 (bs k1)) hx hb hr (fun tz hz9 hW9 => ⟨⟨x_known M (od k1) th (nI b1) 9223372036854775807 (bs k1), M, rfl, ⟨rfl, g3.2, a1, b1, k1, ha1, hb1, ea1, eb1, q, hk1, ek1, by rw [eb1]⟩, by rw [hz9]; exact hP, va_K.moved hW9.alike hK⟩, hS.F hz9⟩) hS.2.2 d_X_seen_66
  · have q := c_5
    obtain ⟨sa, hsa⟩ := hG.2.2.1 (133, "the person has no right to that kind") (by decide)
    exact x_throwS (cls := "java/lang/IllegalStateException") hx hb hl9 hown (hts _ (al aC_X_57)) (hts _ (al aN_IllegalStateException)) hsa (hat_X_61 hts hG) hot_X_61 (by decide) hG hK hP hS (hl.1.trans hml.symm) d_X_seen_32 d_X_seen_35 d_X_seen_36 d_X_seen_38 d_X_seen_41 (hout _) (Nat.le_of_ble_eq_true rfl) (Nat.le_of_ble_eq_true rfl) (Nat.le_of_ble_eq_true rfl) (Nat.le_of_ble_eq_true rfl) hlocks (Or.inr (Or.inr ⟨rfl, by rw [← esc]; exact g2.2, g3.2, a1, b1, ha1, hb1, ea1, eb1, q⟩)) (Nat.le_of_ble_eq_true rfl) (Nat.le_of_ble_eq_true rfl)
set_option maxHeartbeats 4000000 in
set_option maxRecDepth 100000 in
/-- X_tell -/
theorem k_X_tell (l : Launch) (hl9 : l.stackTraces = false) (D : va_G) (cA : Nat → ClassId) (o sz : Nat) (M : wM) (n : Nat) (hn : n ≤ 300) (en : M.2.2 1 6 = nI n) (t th kd : Int32) (nu v on : Int64) : vx_Met l y_X_tell (wm y_X_tell c_X_tell 10 (some .int)) { frames := 7, cells := 4, slots := 24, locals := 102 } (va_Pc [.ref (o + 0), .int t, .long nu, .int th, .int kd, .long v, .long on] (xBx D cA o M sz)) (va_Qi (fun r M1 => xin t 6 ∧ xin th 10 ∧ xin kd 4 ∧ ((r = 0 ∧ M1 = M ∧ ∃ j, j < n ∧ M.2.1 3 j = nu ∧ M.1 2 j = t) ∨ (r = 1 ∧ n < 300 ∧ ¬ (∃ j, j < n ∧ M.2.1 3 j = nu ∧ M.1 2 j = t) ∧ M1 = wF (wL (wL (wI (wI (wL (wI M 2 n t) 3 n nu) 4 n th) 5 n kd) 6 n v) 7 n on) 1 6 (nI (n + 1))))) (xQ D cA o) (xA o sz)) (xE D cA o M sz (fun E => (E = "java/lang/IndexOutOfBoundsException" ∧ (xbad t 6 ∨ xbad th 10)) ∨ (E = "java/lang/IllegalArgumentException" ∧ xin t 6 ∧ xin th 10 ∧ xbad kd 4) ∨ (E = "java/lang/IllegalStateException" ∧ xin t 6 ∧ xin th 10 ∧ xin kd 4 ∧ ¬ (∃ j, j < n ∧ M.2.1 3 j = nu ∧ M.1 2 j = t) ∧ n = 300))) 4 24 (xA o sz) := by
  refine vx_ofW (cc := c_X_tell) (maxL := 10) (ret := (some .int)) (by decide) rfl ?_
  intro p e s m args below meth c s₁ B hml hex hv
  obtain ⟨rfl, ⟨hsz, hP, hK⟩, hG⟩ := hv
  have hx := B.exec
  have hb := B.bytes
  have hr := B.returns
  have hts := atoms_spec (ws := wm y_X_tell c_X_tell 10 (some .int)) B.pre
  have hown : s.vm.findClass "ShopDesks" = some m.cls := findClass_of_methodNamed B.named
  have hlocks := B.notSynchronized
  subst hsz
  have hout : ∀ pc, ∀ x ∈ c.exceptionTable.toList, covers x pc = false := fun pc x hx => (hex x hx).elim
  have hS : va_S (xA o s.heap.size) s.heap s.heap [] := va_S.rf
  have hW : ∀ i, i < 217 → xA o s.heap.size (o + i) := fun i hi => wA_in hi
  have hl := lv_entry ([.ref (o + 0), .int t, .long nu, .int th, .int kd, .long v, .long on]) (n := 10) (Nat.le_of_ble_eq_true rfl)
  rw [lg_entry_eq]
  generalize (lg_sl ([.ref (o + 0), .int t, .long nu, .int th, .int kd, .long v, .long on]) ++ List.replicate (10 - (lg_sl ([.ref (o + 0), .int t, .long nu, .int th, .int kd, .long v, .long on])).length) Slot.unset).toArray = ls at hl ⊢
  have hl : lv_has ls 10 [(0, .ref (o + 0)), (1, .int t), (2, .long nu), (4, .int th), (5, .int kd), (6, .long v), (8, .long on)] := hl
  refine lv_iload_n hx hb d_X_tell_0 rfl (lv_at hl 1 rfl) ?_
  refine x_Sv ⟨hx, hb, hml, hown, hts⟩ (k_X_needTeller l hl9 D cA o _ M t) (kS hts 1 aK_X_needTeller aM_X_40 aS_X_needTeller aN_X nm_X_needTeller rfl rfl ⟨(Nat.le_of_ble_eq_true rfl), (Nat.le_of_ble_eq_true rfl)⟩) hK hP hG hS rfl hl.1 rfl (Nat.le_of_ble_eq_true rfl) d_X_tell_1 ⟨(Nat.le_of_ble_eq_true rfl), (Nat.le_of_ble_eq_true rfl)⟩ (hout _) hlocks (fun E h => Or.inl ⟨h.1, Or.inl h.2⟩) (Nat.le_of_ble_eq_true rfl) (Nat.le_of_ble_eq_true rfl) (fun M_1 H locs g1 hP hS => ?_)
  rw [g1.1] at hP
  refine lv_iload hx hb d_X_tell_4 (lv_at hl 3 rfl) ?_
  refine x_Sv ⟨hx, hb, hml, hown, hts⟩ (k_X_needThing l hl9 D cA o _ M th) (kS hts 1 aK_X_needThing aM_X_44 aS_X_needThing aN_X nm_X_needThing rfl rfl ⟨(Nat.le_of_ble_eq_true rfl), (Nat.le_of_ble_eq_true rfl)⟩) hK hP hG hS rfl hl.1 rfl (Nat.le_of_ble_eq_true rfl) d_X_tell_6 ⟨(Nat.le_of_ble_eq_true rfl), (Nat.le_of_ble_eq_true rfl)⟩ (hout _) hlocks (fun E h => Or.inl ⟨h.1, Or.inr h.2⟩) (Nat.le_of_ble_eq_true rfl) (Nat.le_of_ble_eq_true rfl) (fun M_2 H locs g2 hP hS => ?_)
  rw [g2.1] at hP
  refine lv_iload hx hb d_X_tell_9 (lv_at hl 4 rfl) ?_
  refine x_Sv ⟨hx, hb, hml, hown, hts⟩ (k_X_needKind l hl9 D cA o _ M kd) (kS hts 1 aK_X_needKind aM_X_47 aS_X_needKind aN_X nm_X_needKind rfl rfl ⟨(Nat.le_of_ble_eq_true rfl), (Nat.le_of_ble_eq_true rfl)⟩) hK hP hG hS rfl hl.1 rfl (Nat.le_of_ble_eq_true rfl) d_X_tell_11 ⟨(Nat.le_of_ble_eq_true rfl), (Nat.le_of_ble_eq_true rfl)⟩ (hout _) hlocks (fun E h => Or.inr (Or.inl ⟨h.1, g1.2, g2.2, h.2⟩)) (Nat.le_of_ble_eq_true rfl) (Nat.le_of_ble_eq_true rfl) (fun M_3 H locs g3 hP hS => ?_)
  rw [g3.1] at hP
  refine lv_aload_n hx hb d_X_tell_14 rfl (lv_at hl 0 rfl) ?_
  refine w_get (C := R_X) (T := F_X) (N := 5) (ci := 4) (v := .ref (o + 1)) hx hb hts inw_X hown hK hP 0 (by decide) SX_0 rfl 0 (by decide) (hts _ (al aF_X_12)) rfl d_X_tell_15 ?_
  refine lv_iload_n hx hb d_X_tell_18 rfl (lv_at hl 1 rfl) ?_
  refine lv_lload_n hx hb d_X_tell_19 rfl (lv_at hl 2 rfl) ?_
  refine w_Vi ⟨hx, hb, hml, hown, hts⟩ (k_T_isTold l D cA o _ M t nu n hn en) (kV hts 2 aK_T_isTold aM_X_50 aI_T_isTold aV_T_isTold aN_T nm_T_isTold rfl rfl ⟨(Nat.le_of_ble_eq_true rfl), (Nat.le_of_ble_eq_true rfl)⟩) hK hP (by decide) SX_1 rfl rfl hl.1 rfl (Nat.le_of_ble_eq_true rfl) d_X_tell_20 ⟨(Nat.le_of_ble_eq_true rfl), (Nat.le_of_ble_eq_true rfl)⟩ hS (fun q h => wA_le hS.1 h) (fun rgt Mgt H locs gt hP hzc hkc hS => ?_)
  rw [gt.1] at hP
  refine lv_if_eq (tgt := 28) hx hb d_X_tell_23 (by decide) (fun c_5 => ?_) (fun c_5 => ?_)
  · have hto := rg4_0 gt.2 c_5
    refine lv_aload_n hx hb d_X_tell_28 rfl (lv_at hl 0 rfl) ?_
    refine w_get (C := R_X) (T := F_X) (N := 5) (ci := 4) (v := .ref (o + 1)) hx hb hts inw_X hown hK hP 0 (by decide) SX_0 rfl 0 (by decide) (hts _ (al aF_X_12)) rfl d_X_tell_29 ?_
    refine w_get (C := R_T) (T := F_T) (N := 7) (ci := 3) (v := .int (M.2.2 1 6)) hx hb hts inw_T hown hK hP 1 (by decide) SX_1 rfl 6 (by decide) (hts _ (al aF_X_54)) rfl d_X_tell_32 ?_
    refine w_topi en ?_
    refine lv_sipush (v := 300) hx hb d_X_tell_35 (by decide) ?_
    refine lv_icmp_lt (tgt := 51) hx hb d_X_tell_38 (by decide) (fun c_6 => ?_) (fun c_6 => ?_)
    · have q : n < 300 := i_lt (b := 300) (by omega) (by omega) c_6
      refine lv_aload_n hx hb d_X_tell_51 rfl (lv_at hl 0 rfl) ?_
      refine w_get (C := R_X) (T := F_X) (N := 5) (ci := 4) (v := .ref (o + 1)) hx hb hts inw_X hown hK hP 0 (by decide) SX_0 rfl 0 (by decide) (hts _ (al aF_X_12)) rfl d_X_tell_52 ?_
      refine lv_iload_n hx hb d_X_tell_55 rfl (lv_at hl 1 rfl) ?_
      refine lv_lload_n hx hb d_X_tell_56 rfl (lv_at hl 2 rfl) ?_
      refine lv_iload hx hb d_X_tell_57 (lv_at hl 3 rfl) ?_
      refine lv_iload hx hb d_X_tell_59 (lv_at hl 4 rfl) ?_
      refine lv_lload hx hb d_X_tell_61 (lv_at hl 5 rfl) ?_
      refine lv_lload hx hb d_X_tell_63 (lv_at hl 6 rfl) ?_
      refine w_Vv ⟨hx, hb, hml, hown, hts⟩ (k_T_append l D cA o _ M t th kd nu v on n hn en q) (kV hts 6 aK_T_append aM_X_64 aI_T_append aV_T_append aN_T nm_T_append rfl rfl ⟨(Nat.le_of_ble_eq_true rfl), (Nat.le_of_ble_eq_true rfl)⟩) hK hP (by decide) SX_1 rfl rfl hl.1 rfl (Nat.le_of_ble_eq_true rfl) d_X_tell_65 ⟨(Nat.le_of_ble_eq_true rfl), (Nat.le_of_ble_eq_true rfl)⟩ hS (fun q h => wA_le hS.1 h) (fun M_7 H locs hw_7 hP hzc hkc hS => ?_)
      rw [hw_7] at hP
      refine lv_iconst (v := 1) hx hb d_X_tell_68 (by decide) ?_
      refine vx_ret ?_
      refine W.widen (k := 4) (n := 24) (Nat.le_of_ble_eq_true rfl) (Nat.le_of_ble_eq_true rfl) ?_
      exact W.iret (v := 1) hx hb hr (fun tz hz9 hW9 => ⟨⟨1, (wF (wL (wL (wI (wI (wL (wI M 2 n t) 3 n nu) 4 n th) 5 n kd) 6 n v) 7 n on) 1 6 (nI (n + 1))), rfl, ⟨g1.2, g2.2, g3.2, Or.inr ⟨rfl, q, hto, rfl⟩⟩, by rw [hz9]; exact hP, va_K.moved hW9.alike hK⟩, hS.F hz9⟩) hS.2.2 d_X_tell_69
    · have q : n = 300 := by have := i_nlt (b := 300) (by omega) (by omega) c_6; omega
      obtain ⟨sa, hsa⟩ := hG.2.2.1 (59, "there are 300 tellings") (by decide)
      exact x_throwS (cls := "java/lang/IllegalStateException") hx hb hl9 hown (hts _ (al aC_X_57)) (hts _ (al aN_IllegalStateException)) hsa (hat_X_61 hts hG) hot_X_61 (by decide) hG hK hP hS (hl.1.trans hml.symm) d_X_tell_41 d_X_tell_44 d_X_tell_45 d_X_tell_47 d_X_tell_50 (hout _) (Nat.le_of_ble_eq_true rfl) (Nat.le_of_ble_eq_true rfl) (Nat.le_of_ble_eq_true rfl) (Nat.le_of_ble_eq_true rfl) hlocks (Or.inr (Or.inr ⟨rfl, g1.2, g2.2, g3.2, hto, q⟩)) (Nat.le_of_ble_eq_true rfl) (Nat.le_of_ble_eq_true rfl)
  · have hto := rg4_1 gt.2 c_5
    refine lv_iconst (v := 0) hx hb d_X_tell_26 (by decide) ?_
    refine vx_ret ?_
    refine W.widen (k := 4) (n := 24) (Nat.le_of_ble_eq_true rfl) (Nat.le_of_ble_eq_true rfl) ?_
    exact W.iret (v := 0) hx hb hr (fun tz hz9 hW9 => ⟨⟨0, M, rfl, ⟨g1.2, g2.2, g3.2, Or.inl ⟨rfl, rfl, hto⟩⟩, by rw [hz9]; exact hP, va_K.moved hW9.alike hK⟩, hS.F hz9⟩) hS.2.2 d_X_tell_27

