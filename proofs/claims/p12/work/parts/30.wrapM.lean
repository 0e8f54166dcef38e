/-! the law's own methods, walked -/
set_option maxHeartbeats 4000000 in
set_option maxRecDepth 100000 in
/-- W_tell -/
theorem k_W_tell (l : Launch) (hl9 : l.stackTraces = false) (D : va_G) (cA : Nat → ClassId) (o sz qo : Nat) (M : wM) (fo : Nat → Int64) (n : Nat) (hn : n ≤ 300) (en : M.2.2 1 6 = nI n) (t th kd : Int32) (nu v on : Int64) : Met l y_W_tell (wmW y_W_tell c_W_tell 12 (some .int) [(0, 19, 22, 13), (0, 19, 26, 15), (0, 19, 30, 17)]) { frames := 8, cells := 4, slots := 24, locals := 131 } (va_Pc [.ref (o + 0), .int t, .long nu, .int th, .int kd, .long v, .long on, .ref qo] (oB D cA o qo M fo sz)) (va_Qi (oPost (fun r M1 => xin t 6 ∧ xin th 10 ∧ xin kd 4 ∧ ((r = 0 ∧ M1 = M ∧ ∃ j, j < n ∧ M.2.1 3 j = nu ∧ M.1 2 j = t) ∨ (r = 1 ∧ n < 300 ∧ ¬ (∃ j, j < n ∧ M.2.1 3 j = nu ∧ M.1 2 j = t) ∧ M1 = wF (wL (wL (wI (wI (wL (wI M 2 n t) 3 n nu) 4 n th) 5 n kd) 6 n v) 7 n on) 1 6 (nI (n + 1))))) (fun r : Int32 => r.toInt64) (fun E => (E = "java/lang/IndexOutOfBoundsException" ∧ (xbad t 6 ∨ xbad th 10)) ∨ (E = "java/lang/IllegalArgumentException" ∧ xin t 6 ∧ xin th 10 ∧ xbad kd 4) ∨ (E = "java/lang/IllegalStateException" ∧ xin t 6 ∧ xin th 10 ∧ xin kd 4 ∧ ¬ (∃ j, j < n ∧ M.2.1 3 j = nu ∧ M.1 2 j = t) ∧ n = 300)) [(1, "java/lang/IndexOutOfBoundsException"), (2, "java/lang/IllegalArgumentException"), (3, "java/lang/IllegalStateException")] M fo) (oQ D cA o qo) (oA o qo sz)) 4 24 (oA o qo sz) := by
  refine met_ofWH (cc := c_W_tell) (maxL := 12) (ret := (some .int)) (hh := [(0, 19, 22, 13), (0, 19, 26, 15), (0, 19, 30, 17)]) (by decide) rfl ?_
  intro p e s m args below meth c s₁ B hml htab hv
  obtain ⟨rfl, ⟨hsz, hP, hK⟩, hO, hne, hG, hN⟩ := hv
  have hx := B.exec
  have hb := B.bytes
  have hr := B.returns
  have hts0 := atoms_spec (ws := wmW y_W_tell c_W_tell 12 (some .int) [(0, 19, 22, 13), (0, 19, 26, 15), (0, 19, 30, 17)]) B.pre
  have hts := wmW_x aK_X_tell hts0
  have hown : s.vm.findClass "ShopDesksLaw" = some m.cls := findClass_of_methodNamed B.named
  have hlocks := B.notSynchronized
  subst hsz
  have hS : va_S (oA o qo s.heap.size) s.heap s.heap [] := va_S.rf
  have hl := lv_entry ([.ref (o + 0), .int t, .long nu, .int th, .int kd, .long v, .long on, .ref qo]) (n := 12) (Nat.le_of_ble_eq_true rfl)
  rw [lg_entry_eq]
  generalize (lg_sl ([.ref (o + 0), .int t, .long nu, .int th, .int kd, .long v, .long on, .ref qo]) ++ List.replicate (12 - (lg_sl ([.ref (o + 0), .int t, .long nu, .int th, .int kd, .long v, .long on, .ref qo])).length) Slot.unset).toArray = ls at hl ⊢
  have hl : lv_has ls 12 [(0, .ref (o + 0)), (1, .int t), (2, .long nu), (4, .int th), (5, .int kd), (6, .long v), (8, .long on), (10, .ref qo)] := hl
  refine lv_aload hx hb d_W_tell_0 (lv_at hl 7 rfl) ?_
  refine lv_iconst (v := 0) hx hb d_W_tell_2 (by decide) ?_
  refine lv_aload_n hx hb d_W_tell_3 rfl (lv_at hl 0 rfl) ?_
  refine lv_iload_n hx hb d_W_tell_4 rfl (lv_at hl 1 rfl) ?_
  refine lv_lload_n hx hb d_W_tell_5 rfl (lv_at hl 2 rfl) ?_
  refine lv_iload hx hb d_W_tell_6 (lv_at hl 3 rfl) ?_
  refine lv_iload hx hb d_W_tell_8 (lv_at hl 4 rfl) ?_
  refine lv_lload hx hb d_W_tell_10 (lv_at hl 5 rfl) ?_
  refine lv_lload hx hb d_W_tell_12 (lv_at hl 6 rfl) ?_
  refine ow_Vi (pE := fun E => (E = "java/lang/IndexOutOfBoundsException" ∧ (xbad t 6 ∨ xbad th 10)) ∨ (E = "java/lang/IllegalArgumentException" ∧ xin t 6 ∧ xin th 10 ∧ xbad kd 4) ∨ (E = "java/lang/IllegalStateException" ∧ xin t 6 ∧ xin th 10 ∧ xin kd 4 ∧ ¬ (∃ j, j < n ∧ M.2.1 3 j = nu ∧ M.1 2 j = t) ∧ n = 300)) ⟨hx, hb, hml, hown, hts⟩ (k_X_tell l hl9 D cA o _ M n hn en t th kd nu v on) (kV hts 6 aK_X_tell aM_W_7 aI_X_tell aV_X_tell aN_X nm_X_tell rfl rfl ⟨(Nat.le_of_ble_eq_true rfl), (Nat.le_of_ble_eq_true rfl)⟩) hK hP hO hne hG hS rfl hl.1 rfl (Nat.le_of_ble_eq_true rfl) d_W_tell_14 ⟨(Nat.le_of_ble_eq_true rfl), (Nat.le_of_ble_eq_true rfl)⟩ (fun E ce9 q9 H locs hE hP hO hS hcell hcv hcl => ?_) (fun r9 M1 H locs hw hP hO hS => ?_)
  · have hE3 : E = "java/lang/IndexOutOfBoundsException" ∨ E = "java/lang/IllegalArgumentException" ∨ E = "java/lang/IllegalStateException" := by
      rcases hE with h9 | h9 | h9
      · exact Or.inl h9.1
      · exact Or.inr (Or.inl h9.1)
      · exact Or.inr (Or.inr (h9.1))
    rcases hE3 with rfl | rfl | rfl
    · refine wr_catch hown htab [] (0, 19, 22, 13) [(0, 19, 26, 15), (0, 19, 30, 17)] rfl (fun z hz => absurd hz List.not_mem_nil) (by decide) hN (by decide) (by decide) (by decide) (hts _ (al aC_W_13)) (x3_cast hG (by decide)) hcell hcv hcl ?_
      refine lv_astore (lv' := [(11, .ref q9), (0, .ref (o + 0)), (1, .int t), (2, .long nu), (4, .int th), (5, .int kd), (6, .long v), (8, .long on), (10, .ref qo)]) hx hb d_W_tell_22 hl (by decide) rfl (fun ls hl => ?_)
      refine lv_iconst (v := 1) hx hb d_W_tell_24 (by decide) ?_
      refine W.widen (k := 4) (n := 24) (Nat.le_of_ble_eq_true rfl) (Nat.le_of_ble_eq_true rfl) ?_
      exact W.iret (v := 1) hx hb hr (fun tz hz9 hW9 => ⟨⟨1, (M, fo), rfl, Or.inr ⟨rfl, (1, "java/lang/IndexOutOfBoundsException"), List.mem_cons_self, rfl, hE⟩, by rw [hz9]; exact hP, by rw [hz9]; exact hO, va_K.moved hW9.alike hK⟩, hS.F hz9⟩) hS.2.2 d_W_tell_25
    · refine wr_catch hown htab [("java/lang/IndexOutOfBoundsException", (0, 19, 22, 13))] (0, 19, 26, 15) [(0, 19, 30, 17)] rfl (List.forall_mem_cons.mpr ⟨⟨by decide, by decide, by decide, hts _ (al aC_W_13)⟩, (fun z hz => absurd hz List.not_mem_nil)⟩) (by decide) hN (by decide) (by decide) (by decide) (hts _ (al aC_W_15)) (x3_cast hG (by decide)) hcell hcv hcl ?_
      refine lv_astore (lv' := [(11, .ref q9), (0, .ref (o + 0)), (1, .int t), (2, .long nu), (4, .int th), (5, .int kd), (6, .long v), (8, .long on), (10, .ref qo)]) hx hb d_W_tell_26 hl (by decide) rfl (fun ls hl => ?_)
      refine lv_iconst (v := 2) hx hb d_W_tell_28 (by decide) ?_
      refine W.widen (k := 4) (n := 24) (Nat.le_of_ble_eq_true rfl) (Nat.le_of_ble_eq_true rfl) ?_
      exact W.iret (v := 2) hx hb hr (fun tz hz9 hW9 => ⟨⟨2, (M, fo), rfl, Or.inr ⟨rfl, (2, "java/lang/IllegalArgumentException"), (List.mem_cons_of_mem _ List.mem_cons_self), rfl, hE⟩, by rw [hz9]; exact hP, by rw [hz9]; exact hO, va_K.moved hW9.alike hK⟩, hS.F hz9⟩) hS.2.2 d_W_tell_29
    · refine wr_catch hown htab [("java/lang/IndexOutOfBoundsException", (0, 19, 22, 13)), ("java/lang/IllegalArgumentException", (0, 19, 26, 15))] (0, 19, 30, 17) [] rfl (List.forall_mem_cons.mpr ⟨⟨by decide, by decide, by decide, hts _ (al aC_W_13)⟩, (List.forall_mem_cons.mpr ⟨⟨by decide, by decide, by decide, hts _ (al aC_W_15)⟩, (fun z hz => absurd hz List.not_mem_nil)⟩)⟩) (by decide) hN (by decide) (by decide) (by decide) (hts _ (al aC_W_17)) (x3_cast hG (by decide)) hcell hcv hcl ?_
      refine lv_astore (lv' := [(11, .ref q9), (0, .ref (o + 0)), (1, .int t), (2, .long nu), (4, .int th), (5, .int kd), (6, .long v), (8, .long on), (10, .ref qo)]) hx hb d_W_tell_30 hl (by decide) rfl (fun ls hl => ?_)
      refine lv_iconst (v := 3) hx hb d_W_tell_32 (by decide) ?_
      refine W.widen (k := 4) (n := 24) (Nat.le_of_ble_eq_true rfl) (Nat.le_of_ble_eq_true rfl) ?_
      exact W.iret (v := 3) hx hb hr (fun tz hz9 hW9 => ⟨⟨3, (M, fo), rfl, Or.inr ⟨rfl, (3, "java/lang/IllegalStateException"), (List.mem_cons_of_mem _ (List.mem_cons_of_mem _ List.mem_cons_self)), rfl, hE⟩, by rw [hz9]; exact hP, by rw [hz9]; exact hO, va_K.moved hW9.alike hK⟩, hS.F hz9⟩) hS.2.2 d_W_tell_33
  · refine lv_i2l hx hb d_W_tell_17 rfl ?_
    refine ow_last hx hb hK hP hO hne hS (x := r9.toInt64) d_W_tell_18 (fun H locs hP hO hS => ?_)
    refine lv_goto (tgt := 34) hx hb d_W_tell_19 (by decide) ?_
    refine lv_iconst (v := 0) hx hb d_W_tell_34 (by decide) ?_
    refine W.widen (k := 4) (n := 24) (Nat.le_of_ble_eq_true rfl) (Nat.le_of_ble_eq_true rfl) ?_
    exact W.iret (v := 0) hx hb hr (fun tz hz9 hW9 => ⟨⟨0, (M1, vp_updL fo 0 r9.toInt64), rfl, Or.inl ⟨rfl, r9, hw, (updL_s (f := fo) (x := r9.toInt64))⟩, by rw [hz9]; exact hP, by rw [hz9]; exact hO, va_K.moved hW9.alike hK⟩, hS.F hz9⟩) hS.2.2 d_W_tell_35

set_option maxHeartbeats 4000000 in
set_option maxRecDepth 100000 in
/-- W_set -/
theorem k_W_set (l : Launch) (hl9 : l.stackTraces = false) (D : va_G) (cA : Nat → ClassId) (o sz qo : Nat) (M : wM) (fo : Nat → Int64) (sc : Nat) (hsc : sc ≤ 8) (esc : M.2.2 0 2 = nI sc) (n : Nat) (hn : n ≤ 300) (en : M.2.2 1 6 = nI n) (e0 : ∀ s, sc ≤ s → s < 8 → M.2.2 (9 + 3 * s) 3 = nI 0) (tl : Int32) : Met l y_W_set (wmW y_W_set c_W_set 4 (some .int) [(0, 9, 12, 13), (0, 9, 15, 17)]) { frames := 8, cells := 2, slots := 12, locals := 123 } (va_Pc [.ref (o + 0), .int tl, .ref qo] (oB D cA o qo M fo sz)) (va_Qi (oPost (fun r M1 => xin tl 6 ∧ sc < 8 ∧ r = nI sc ∧ ∃ N, xTaken M N sc tl n ∧ M1 = wF N 0 2 (nI (sc + 1))) (fun r : Int32 => r.toInt64) (fun E => (E = "java/lang/IndexOutOfBoundsException" ∧ xbad tl 6) ∨ (E = "java/lang/IllegalStateException" ∧ xin tl 6 ∧ sc = 8)) [(1, "java/lang/IndexOutOfBoundsException"), (2, "java/lang/IllegalStateException")] M fo) (oQ D cA o qo) (oA o qo sz)) 2 12 (oA o qo sz) := by
  refine met_ofWH (cc := c_W_set) (maxL := 4) (ret := (some .int)) (hh := [(0, 9, 12, 13), (0, 9, 15, 17)]) (by decide) rfl ?_
  intro p e s m args below meth c s₁ B hml htab hv
  obtain ⟨rfl, ⟨hsz, hP, hK⟩, hO, hne, hG, hN⟩ := hv
  have hx := B.exec
  have hb := B.bytes
  have hr := B.returns
  have hts0 := atoms_spec (ws := wmW y_W_set c_W_set 4 (some .int) [(0, 9, 12, 13), (0, 9, 15, 17)]) B.pre
  have hts := wmW_x aK_X_set hts0
  have hown : s.vm.findClass "ShopDesksLaw" = some m.cls := findClass_of_methodNamed B.named
  have hlocks := B.notSynchronized
  subst hsz
  have hS : va_S (oA o qo s.heap.size) s.heap s.heap [] := va_S.rf
  have hl := lv_entry ([.ref (o + 0), .int tl, .ref qo]) (n := 4) (Nat.le_of_ble_eq_true rfl)
  rw [lg_entry_eq]
  generalize (lg_sl ([.ref (o + 0), .int tl, .ref qo]) ++ List.replicate (4 - (lg_sl ([.ref (o + 0), .int tl, .ref qo])).length) Slot.unset).toArray = ls at hl ⊢
  have hl : lv_has ls 4 [(0, .ref (o + 0)), (1, .int tl), (2, .ref qo)] := hl
  refine lv_aload_n hx hb d_W_set_0 rfl (lv_at hl 2 rfl) ?_
  refine lv_iconst (v := 0) hx hb d_W_set_1 (by decide) ?_
  refine lv_aload_n hx hb d_W_set_2 rfl (lv_at hl 0 rfl) ?_
  refine lv_iload_n hx hb d_W_set_3 rfl (lv_at hl 1 rfl) ?_
  refine ow_Vi (pE := fun E => (E = "java/lang/IndexOutOfBoundsException" ∧ xbad tl 6) ∨ (E = "java/lang/IllegalStateException" ∧ xin tl 6 ∧ sc = 8)) ⟨hx, hb, hml, hown, hts⟩ (k_X_set l hl9 D cA o _ M sc hsc esc n hn en e0 tl) (kV hts 1 aK_X_set aM_W_19 aI_X_set aV_X_set aN_X nm_X_set rfl rfl ⟨(Nat.le_of_ble_eq_true rfl), (Nat.le_of_ble_eq_true rfl)⟩) hK hP hO hne hG hS rfl hl.1 rfl (Nat.le_of_ble_eq_true rfl) d_W_set_4 ⟨(Nat.le_of_ble_eq_true rfl), (Nat.le_of_ble_eq_true rfl)⟩ (fun E ce9 q9 H locs hE hP hO hS hcell hcv hcl => ?_) (fun r9 M1 H locs hw hP hO hS => ?_)
  · have hE3 : E = "java/lang/IndexOutOfBoundsException" ∨ E = "java/lang/IllegalStateException" := by
      rcases hE with h9 | h9
      · exact Or.inl h9.1
      · exact Or.inr (h9.1)
    rcases hE3 with rfl | rfl
    · refine wr_catch hown htab [] (0, 9, 12, 13) [(0, 9, 15, 17)] rfl (fun z hz => absurd hz List.not_mem_nil) (by decide) hN (by decide) (by decide) (by decide) (hts _ (al aC_W_13)) (x3_cast hG (by decide)) hcell hcv hcl ?_
      refine lv_astore_n (lv' := [(3, .ref q9), (0, .ref (o + 0)), (1, .int tl), (2, .ref qo)]) hx hb d_W_set_12 rfl hl (by decide) rfl (fun ls hl => ?_)
      refine lv_iconst (v := 1) hx hb d_W_set_13 (by decide) ?_
      refine W.widen (k := 2) (n := 12) (Nat.le_of_ble_eq_true rfl) (Nat.le_of_ble_eq_true rfl) ?_
      exact W.iret (v := 1) hx hb hr (fun tz hz9 hW9 => ⟨⟨1, (M, fo), rfl, Or.inr ⟨rfl, (1, "java/lang/IndexOutOfBoundsException"), List.mem_cons_self, rfl, hE⟩, by rw [hz9]; exact hP, by rw [hz9]; exact hO, va_K.moved hW9.alike hK⟩, hS.F hz9⟩) hS.2.2 d_W_set_14
    · refine wr_catch hown htab [("java/lang/IndexOutOfBoundsException", (0, 9, 12, 13))] (0, 9, 15, 17) [] rfl (List.forall_mem_cons.mpr ⟨⟨by decide, by decide, by decide, hts _ (al aC_W_13)⟩, (fun z hz => absurd hz List.not_mem_nil)⟩) (by decide) hN (by decide) (by decide) (by decide) (hts _ (al aC_W_17)) (x3_cast hG (by decide)) hcell hcv hcl ?_
      refine lv_astore_n (lv' := [(3, .ref q9), (0, .ref (o + 0)), (1, .int tl), (2, .ref qo)]) hx hb d_W_set_15 rfl hl (by decide) rfl (fun ls hl => ?_)
      refine lv_iconst (v := 2) hx hb d_W_set_16 (by decide) ?_
      refine W.widen (k := 2) (n := 12) (Nat.le_of_ble_eq_true rfl) (Nat.le_of_ble_eq_true rfl) ?_
      exact W.iret (v := 2) hx hb hr (fun tz hz9 hW9 => ⟨⟨2, (M, fo), rfl, Or.inr ⟨rfl, (2, "java/lang/IllegalStateException"), (List.mem_cons_of_mem _ List.mem_cons_self), rfl, hE⟩, by rw [hz9]; exact hP, by rw [hz9]; exact hO, va_K.moved hW9.alike hK⟩, hS.F hz9⟩) hS.2.2 d_W_set_17
  · refine lv_i2l hx hb d_W_set_7 rfl ?_
    refine ow_last hx hb hK hP hO hne hS (x := r9.toInt64) d_W_set_8 (fun H locs hP hO hS => ?_)
    refine lv_goto (tgt := 18) hx hb d_W_set_9 (by decide) ?_
    refine lv_iconst (v := 0) hx hb d_W_set_18 (by decide) ?_
    refine W.widen (k := 2) (n := 12) (Nat.le_of_ble_eq_true rfl) (Nat.le_of_ble_eq_true rfl) ?_
    exact W.iret (v := 0) hx hb hr (fun tz hz9 hW9 => ⟨⟨0, (M1, vp_updL fo 0 r9.toInt64), rfl, Or.inl ⟨rfl, r9, hw, (updL_s (f := fo) (x := r9.toInt64))⟩, by rw [hz9]; exact hP, by rw [hz9]; exact hO, va_K.moved hW9.alike hK⟩, hS.F hz9⟩) hS.2.2 d_W_set_19

set_option maxHeartbeats 4000000 in
set_option maxRecDepth 100000 in
/-- W_join -/
theorem k_W_join (l : Launch) (hl9 : l.stackTraces = false) (D : va_G) (cA : Nat → ClassId) (o sz qo : Nat) (M : wM) (fo : Nat → Int64) (sc : Nat) (hsc : sc ≤ 8) (esc : M.2.2 0 2 = nI sc) (z : Nat → Nat) (od : Nat → Nat → Nat) (hse : xSets M z od) (hjo : ∀ s t, s < 8 → t < 8 → xJoinOk M s t (od t) (z s) (z t)) (x y : Int32) : Met l y_W_join (wmW y_W_join c_W_join 5 (some .int) [(0, 10, 13, 13)]) { frames := 8, cells := 2, slots := 12, locals := 125 } (va_Pc [.ref (o + 0), .int x, .int y, .ref qo] (oB D cA o qo M fo sz)) (va_Qi (oPost (fun r M1 => ∃ k1 k2, k1 < sc ∧ k2 < sc ∧ x = nI k1 ∧ y = nI k2 ∧ M1 = x_jM M k1 (od k2) (z k1) (z k2) ∧ r = nI (x_jZ M k1 (od k2) (z k1) (z k2)) - nI (z k1)) (fun r : Int32 => r.toInt64) (fun E => E = "java/lang/IndexOutOfBoundsException" ∧ (xbad x (nI sc) ∨ xbad y (nI sc))) [(1, "java/lang/IndexOutOfBoundsException")] M fo) (oQ D cA o qo) (oA o qo sz)) 2 12 (oA o qo sz) := by
  refine met_ofWH (cc := c_W_join) (maxL := 5) (ret := (some .int)) (hh := [(0, 10, 13, 13)]) (by decide) rfl ?_
  intro p e s m args below meth c s₁ B hml htab hv
  obtain ⟨rfl, ⟨hsz, hP, hK⟩, hO, hne, hG, hN⟩ := hv
  have hx := B.exec
  have hb := B.bytes
  have hr := B.returns
  have hts0 := atoms_spec (ws := wmW y_W_join c_W_join 5 (some .int) [(0, 10, 13, 13)]) B.pre
  have hts := wmW_x aK_X_join hts0
  have hown : s.vm.findClass "ShopDesksLaw" = some m.cls := findClass_of_methodNamed B.named
  have hlocks := B.notSynchronized
  subst hsz
  have hS : va_S (oA o qo s.heap.size) s.heap s.heap [] := va_S.rf
  have hl := lv_entry ([.ref (o + 0), .int x, .int y, .ref qo]) (n := 5) (Nat.le_of_ble_eq_true rfl)
  rw [lg_entry_eq]
  generalize (lg_sl ([.ref (o + 0), .int x, .int y, .ref qo]) ++ List.replicate (5 - (lg_sl ([.ref (o + 0), .int x, .int y, .ref qo])).length) Slot.unset).toArray = ls at hl ⊢
  have hl : lv_has ls 5 [(0, .ref (o + 0)), (1, .int x), (2, .int y), (3, .ref qo)] := hl
  refine lv_aload_n hx hb d_W_join_0 rfl (lv_at hl 3 rfl) ?_
  refine lv_iconst (v := 0) hx hb d_W_join_1 (by decide) ?_
  refine lv_aload_n hx hb d_W_join_2 rfl (lv_at hl 0 rfl) ?_
  refine lv_iload_n hx hb d_W_join_3 rfl (lv_at hl 1 rfl) ?_
  refine lv_iload_n hx hb d_W_join_4 rfl (lv_at hl 2 rfl) ?_
  refine ow_Vi (pE := fun E => E = "java/lang/IndexOutOfBoundsException" ∧ (xbad x (nI sc) ∨ xbad y (nI sc))) ⟨hx, hb, hml, hown, hts⟩ (k_X_join l hl9 D cA o _ M sc hsc esc z od hse hjo x y) (kV hts 2 aK_X_join aM_W_23 aI_X_join aV_X_join aN_X nm_X_join rfl rfl ⟨(Nat.le_of_ble_eq_true rfl), (Nat.le_of_ble_eq_true rfl)⟩) hK hP hO hne hG hS rfl hl.1 rfl (Nat.le_of_ble_eq_true rfl) d_W_join_5 ⟨(Nat.le_of_ble_eq_true rfl), (Nat.le_of_ble_eq_true rfl)⟩ (fun E ce9 q9 H locs hE hP hO hS hcell hcv hcl => ?_) (fun r9 M1 H locs hw hP hO hS => ?_)
  · have hE3 := hE.1
    subst hE3
    refine wr_catch hown htab [] (0, 10, 13, 13) [] rfl (fun z hz => absurd hz List.not_mem_nil) (by decide) hN (by decide) (by decide) (by decide) (hts _ (al aC_W_13)) (x3_cast hG (by decide)) hcell hcv hcl ?_
    refine lv_astore (lv' := [(4, .ref q9), (0, .ref (o + 0)), (1, .int x), (2, .int y), (3, .ref qo)]) hx hb d_W_join_13 hl (by decide) rfl (fun ls hl => ?_)
    refine lv_iconst (v := 1) hx hb d_W_join_15 (by decide) ?_
    refine W.widen (k := 2) (n := 12) (Nat.le_of_ble_eq_true rfl) (Nat.le_of_ble_eq_true rfl) ?_
    exact W.iret (v := 1) hx hb hr (fun tz hz9 hW9 => ⟨⟨1, (M, fo), rfl, Or.inr ⟨rfl, (1, "java/lang/IndexOutOfBoundsException"), List.mem_cons_self, rfl, hE⟩, by rw [hz9]; exact hP, by rw [hz9]; exact hO, va_K.moved hW9.alike hK⟩, hS.F hz9⟩) hS.2.2 d_W_join_16
  · refine lv_i2l hx hb d_W_join_8 rfl ?_
    refine ow_last hx hb hK hP hO hne hS (x := r9.toInt64) d_W_join_9 (fun H locs hP hO hS => ?_)
    refine lv_goto (tgt := 17) hx hb d_W_join_10 (by decide) ?_
    refine lv_iconst (v := 0) hx hb d_W_join_17 (by decide) ?_
    refine W.widen (k := 2) (n := 12) (Nat.le_of_ble_eq_true rfl) (Nat.le_of_ble_eq_true rfl) ?_
    exact W.iret (v := 0) hx hb hr (fun tz hz9 hW9 => ⟨⟨0, (M1, vp_updL fo 0 r9.toInt64), rfl, Or.inl ⟨rfl, r9, hw, (updL_s (f := fo) (x := r9.toInt64))⟩, by rw [hz9]; exact hP, by rw [hz9]; exact hO, va_K.moved hW9.alike hK⟩, hS.F hz9⟩) hS.2.2 d_W_join_18

set_option maxHeartbeats 4000000 in
set_option maxRecDepth 100000 in
/-- W_equal -/
theorem k_W_equal (l : Launch) (hl9 : l.stackTraces = false) (D : va_G) (cA : Nat → ClassId) (o sz qo : Nat) (M : wM) (fo : Nat → Int64) (sc : Nat) (hsc : sc ≤ 8) (esc : M.2.2 0 2 = nI sc) (z : Nat → Nat) (od : Nat → Nat → Nat) (hse : xSets M z od) (x y : Int32) : Met l y_W_equal (wmW y_W_equal c_W_equal 5 (some .int) [(0, 17, 20, 13)]) { frames := 8, cells := 2, slots := 12, locals := 125 } (va_Pc [.ref (o + 0), .int x, .int y, .ref qo] (oB D cA o qo M fo sz)) (va_Qi (oPost (fun r M1 => M1 = M ∧ ∃ k1 k2, k1 < sc ∧ k2 < sc ∧ x = nI k1 ∧ y = nI k2 ∧ r = b2i (decide (z k1 = z k2 ∧ ∀ j, j < z k1 → ¬ M.1 (9 + 3 * k2 + 2) (od k1 j) = 0))) (fun r : Int32 => if r = 0 then (0 : Int64) else 1) (fun E => E = "java/lang/IndexOutOfBoundsException" ∧ (xbad x (nI sc) ∨ xbad y (nI sc))) [(1, "java/lang/IndexOutOfBoundsException")] M fo) (oQ D cA o qo) (oA o qo sz)) 2 12 (oA o qo sz) := by
  refine met_ofWH (cc := c_W_equal) (maxL := 5) (ret := (some .int)) (hh := [(0, 17, 20, 13)]) (by decide) rfl ?_
  intro p e s m args below meth c s₁ B hml htab hv
  obtain ⟨rfl, ⟨hsz, hP, hK⟩, hO, hne, hG, hN⟩ := hv
  have hx := B.exec
  have hb := B.bytes
  have hr := B.returns
  have hts0 := atoms_spec (ws := wmW y_W_equal c_W_equal 5 (some .int) [(0, 17, 20, 13)]) B.pre
  have hts := wmW_x aK_X_equal hts0
  have hown : s.vm.findClass "ShopDesksLaw" = some m.cls := findClass_of_methodNamed B.named
  have hlocks := B.notSynchronized
  subst hsz
  have hS : va_S (oA o qo s.heap.size) s.heap s.heap [] := va_S.rf
  have hl := lv_entry ([.ref (o + 0), .int x, .int y, .ref qo]) (n := 5) (Nat.le_of_ble_eq_true rfl)
  rw [lg_entry_eq]
  generalize (lg_sl ([.ref (o + 0), .int x, .int y, .ref qo]) ++ List.replicate (5 - (lg_sl ([.ref (o + 0), .int x, .int y, .ref qo])).length) Slot.unset).toArray = ls at hl ⊢
  have hl : lv_has ls 5 [(0, .ref (o + 0)), (1, .int x), (2, .int y), (3, .ref qo)] := hl
  refine lv_aload_n hx hb d_W_equal_0 rfl (lv_at hl 3 rfl) ?_
  refine lv_iconst (v := 0) hx hb d_W_equal_1 (by decide) ?_
  refine lv_aload_n hx hb d_W_equal_2 rfl (lv_at hl 0 rfl) ?_
  refine lv_iload_n hx hb d_W_equal_3 rfl (lv_at hl 1 rfl) ?_
  refine lv_iload_n hx hb d_W_equal_4 rfl (lv_at hl 2 rfl) ?_
  refine ow_Vi (pE := fun E => E = "java/lang/IndexOutOfBoundsException" ∧ (xbad x (nI sc) ∨ xbad y (nI sc))) ⟨hx, hb, hml, hown, hts⟩ (k_X_equal l hl9 D cA o _ M sc hsc esc z od hse x y) (kV hts 2 aK_X_equal aM_W_27 aI_X_equal aV_X_equal aN_X nm_X_equal rfl rfl ⟨(Nat.le_of_ble_eq_true rfl), (Nat.le_of_ble_eq_true rfl)⟩) hK hP hO hne hG hS rfl hl.1 rfl (Nat.le_of_ble_eq_true rfl) d_W_equal_5 ⟨(Nat.le_of_ble_eq_true rfl), (Nat.le_of_ble_eq_true rfl)⟩ (fun E ce9 q9 H locs hE hP hO hS hcell hcv hcl => ?_) (fun r9 M1 H locs hw hP hO hS => ?_)
  · have hE3 := hE.1
    subst hE3
    refine wr_catch hown htab [] (0, 17, 20, 13) [] rfl (fun z hz => absurd hz List.not_mem_nil) (by decide) hN (by decide) (by decide) (by decide) (hts _ (al aC_W_13)) (x3_cast hG (by decide)) hcell hcv hcl ?_
    refine lv_astore (lv' := [(4, .ref q9), (0, .ref (o + 0)), (1, .int x), (2, .int y), (3, .ref qo)]) hx hb d_W_equal_20 hl (by decide) rfl (fun ls hl => ?_)
    refine lv_iconst (v := 1) hx hb d_W_equal_22 (by decide) ?_
    refine W.widen (k := 2) (n := 12) (Nat.le_of_ble_eq_true rfl) (Nat.le_of_ble_eq_true rfl) ?_
    exact W.iret (v := 1) hx hb hr (fun tz hz9 hW9 => ⟨⟨1, (M, fo), rfl, Or.inr ⟨rfl, (1, "java/lang/IndexOutOfBoundsException"), List.mem_cons_self, rfl, hE⟩, by rw [hz9]; exact hP, by rw [hz9]; exact hO, va_K.moved hW9.alike hK⟩, hS.F hz9⟩) hS.2.2 d_W_equal_23
  · refine lv_if_eq (tgt := 15) hx hb d_W_equal_8 (by decide) (fun c_1 => ?_) (fun c_1 => ?_)
    · refine lv_lconst (v := 0) hx hb d_W_equal_15 (by decide) ?_
      refine ow_last hx hb hK hP hO hne hS (x := 0) d_W_equal_16 (fun H locs hP hO hS => ?_)
      refine lv_goto (tgt := 24) hx hb d_W_equal_17 (by decide) ?_
      refine lv_iconst (v := 0) hx hb d_W_equal_24 (by decide) ?_
      refine W.widen (k := 2) (n := 12) (Nat.le_of_ble_eq_true rfl) (Nat.le_of_ble_eq_true rfl) ?_
      exact W.iret (v := 0) hx hb hr (fun tz hz9 hW9 => ⟨⟨0, (M1, vp_updL fo 0 0), rfl, Or.inl ⟨rfl, r9, hw, ((updL_s (f := fo) (x := 0)).trans (if_pos c_1).symm)⟩, by rw [hz9]; exact hP, by rw [hz9]; exact hO, va_K.moved hW9.alike hK⟩, hS.F hz9⟩) hS.2.2 d_W_equal_25
    · refine lv_lconst (v := 1) hx hb d_W_equal_11 (by decide) ?_
      refine lv_goto (tgt := 16) hx hb d_W_equal_12 (by decide) ?_
      refine ow_last hx hb hK hP hO hne hS (x := 1) d_W_equal_16 (fun H locs hP hO hS => ?_)
      refine lv_goto (tgt := 24) hx hb d_W_equal_17 (by decide) ?_
      refine lv_iconst (v := 0) hx hb d_W_equal_24 (by decide) ?_
      refine W.widen (k := 2) (n := 12) (Nat.le_of_ble_eq_true rfl) (Nat.le_of_ble_eq_true rfl) ?_
      exact W.iret (v := 0) hx hb hr (fun tz hz9 hW9 => ⟨⟨0, (M1, vp_updL fo 0 1), rfl, Or.inl ⟨rfl, r9, hw, ((updL_s (f := fo) (x := 1)).trans (if_neg c_1).symm)⟩, by rw [hz9]; exact hP, by rw [hz9]; exact hO, va_K.moved hW9.alike hK⟩, hS.F hz9⟩) hS.2.2 d_W_equal_25

set_option maxHeartbeats 4000000 in
set_option maxRecDepth 100000 in
/-- W_at -/
theorem k_W_at (l : Launch) (hl9 : l.stackTraces = false) (D : va_G) (cA : Nat → ClassId) (o sz qo : Nat) (M : wM) (fo : Nat → Int64) (sc : Nat) (hsc : sc ≤ 8) (esc : M.2.2 0 2 = nI sc) (z : Nat → Nat) (od : Nat → Nat → Nat) (hse : xSets M z od) (x th kd : Int32) (tm : Int64) : Met l y_W_at (wmW y_W_at c_W_at 8 (some .int) [(0, 13, 16, 13), (0, 13, 20, 15)]) { frames := 8, cells := 3, slots := 18, locals := 154 } (va_Pc [.ref (o + 0), .int x, .int th, .int kd, .long tm, .ref qo] (oB D cA o qo M fo sz)) (va_Qi (oPost (fun r M1 => M1 = M ∧ xin th 10 ∧ xin kd 4 ∧ ∃ k, k < sc ∧ x = nI k ∧ r = x_known M (od k) th kd tm (z k)) (fun r : Int64 => r) (fun E => (E = "java/lang/IndexOutOfBoundsException" ∧ (xbad x (nI sc) ∨ xbad th 10)) ∨ (E = "java/lang/IllegalArgumentException" ∧ xin x (nI sc) ∧ xin th 10 ∧ xbad kd 4)) [(1, "java/lang/IndexOutOfBoundsException"), (2, "java/lang/IllegalArgumentException")] M fo) (oQ D cA o qo) (oA o qo sz)) 3 18 (oA o qo sz) := by
  refine met_ofWH (cc := c_W_at) (maxL := 8) (ret := (some .int)) (hh := [(0, 13, 16, 13), (0, 13, 20, 15)]) (by decide) rfl ?_
  intro p e s m args below meth c s₁ B hml htab hv
  obtain ⟨rfl, ⟨hsz, hP, hK⟩, hO, hne, hG, hN⟩ := hv
  have hx := B.exec
  have hb := B.bytes
  have hr := B.returns
  have hts0 := atoms_spec (ws := wmW y_W_at c_W_at 8 (some .int) [(0, 13, 16, 13), (0, 13, 20, 15)]) B.pre
  have hts := wmW_x aK_X_at hts0
  have hown : s.vm.findClass "ShopDesksLaw" = some m.cls := findClass_of_methodNamed B.named
  have hlocks := B.notSynchronized
  subst hsz
  have hS : va_S (oA o qo s.heap.size) s.heap s.heap [] := va_S.rf
  have hl := lv_entry ([.ref (o + 0), .int x, .int th, .int kd, .long tm, .ref qo]) (n := 8) (Nat.le_of_ble_eq_true rfl)
  rw [lg_entry_eq]
  generalize (lg_sl ([.ref (o + 0), .int x, .int th, .int kd, .long tm, .ref qo]) ++ List.replicate (8 - (lg_sl ([.ref (o + 0), .int x, .int th, .int kd, .long tm, .ref qo])).length) Slot.unset).toArray = ls at hl ⊢
  have hl : lv_has ls 8 [(0, .ref (o + 0)), (1, .int x), (2, .int th), (3, .int kd), (4, .long tm), (6, .ref qo)] := hl
  refine lv_aload hx hb d_W_at_0 (lv_at hl 5 rfl) ?_
  refine lv_iconst (v := 0) hx hb d_W_at_2 (by decide) ?_
  refine lv_aload_n hx hb d_W_at_3 rfl (lv_at hl 0 rfl) ?_
  refine lv_iload_n hx hb d_W_at_4 rfl (lv_at hl 1 rfl) ?_
  refine lv_iload_n hx hb d_W_at_5 rfl (lv_at hl 2 rfl) ?_
  refine lv_iload_n hx hb d_W_at_6 rfl (lv_at hl 3 rfl) ?_
  refine lv_lload hx hb d_W_at_7 (lv_at hl 4 rfl) ?_
  refine ow_Vl (pE := fun E => (E = "java/lang/IndexOutOfBoundsException" ∧ (xbad x (nI sc) ∨ xbad th 10)) ∨ (E = "java/lang/IllegalArgumentException" ∧ xin x (nI sc) ∧ xin th 10 ∧ xbad kd 4)) ⟨hx, hb, hml, hown, hts⟩ (k_X_at l hl9 D cA o _ M sc hsc esc z od hse x th kd tm) (kV hts 4 aK_X_at aM_W_31 aI_X_at aV_X_at aN_X nm_X_at rfl rfl ⟨(Nat.le_of_ble_eq_true rfl), (Nat.le_of_ble_eq_true rfl)⟩) hK hP hO hne hG hS rfl hl.1 rfl (Nat.le_of_ble_eq_true rfl) d_W_at_9 ⟨(Nat.le_of_ble_eq_true rfl), (Nat.le_of_ble_eq_true rfl)⟩ (fun E ce9 q9 H locs hE hP hO hS hcell hcv hcl => ?_) (fun r9 M1 H locs hw hP hO hS => ?_)
  · have hE3 : E = "java/lang/IndexOutOfBoundsException" ∨ E = "java/lang/IllegalArgumentException" := by
      rcases hE with h9 | h9
      · exact Or.inl h9.1
      · exact Or.inr (h9.1)
    rcases hE3 with rfl | rfl
    · refine wr_catch hown htab [] (0, 13, 16, 13) [(0, 13, 20, 15)] rfl (fun z hz => absurd hz List.not_mem_nil) (by decide) hN (by decide) (by decide) (by decide) (hts _ (al aC_W_13)) (x3_cast hG (by decide)) hcell hcv hcl ?_
      refine lv_astore (lv' := [(7, .ref q9), (0, .ref (o + 0)), (1, .int x), (2, .int th), (3, .int kd), (4, .long tm), (6, .ref qo)]) hx hb d_W_at_16 hl (by decide) rfl (fun ls hl => ?_)
      refine lv_iconst (v := 1) hx hb d_W_at_18 (by decide) ?_
      refine W.widen (k := 3) (n := 18) (Nat.le_of_ble_eq_true rfl) (Nat.le_of_ble_eq_true rfl) ?_
      exact W.iret (v := 1) hx hb hr (fun tz hz9 hW9 => ⟨⟨1, (M, fo), rfl, Or.inr ⟨rfl, (1, "java/lang/IndexOutOfBoundsException"), List.mem_cons_self, rfl, hE⟩, by rw [hz9]; exact hP, by rw [hz9]; exact hO, va_K.moved hW9.alike hK⟩, hS.F hz9⟩) hS.2.2 d_W_at_19
    · refine wr_catch hown htab [("java/lang/IndexOutOfBoundsException", (0, 13, 16, 13))] (0, 13, 20, 15) [] rfl (List.forall_mem_cons.mpr ⟨⟨by decide, by decide, by decide, hts _ (al aC_W_13)⟩, (fun z hz => absurd hz List.not_mem_nil)⟩) (by decide) hN (by decide) (by decide) (by decide) (hts _ (al aC_W_15)) (x3_cast hG (by decide)) hcell hcv hcl ?_
      refine lv_astore (lv' := [(7, .ref q9), (0, .ref (o + 0)), (1, .int x), (2, .int th), (3, .int kd), (4, .long tm), (6, .ref qo)]) hx hb d_W_at_20 hl (by decide) rfl (fun ls hl => ?_)
      refine lv_iconst (v := 2) hx hb d_W_at_22 (by decide) ?_
      refine W.widen (k := 3) (n := 18) (Nat.le_of_ble_eq_true rfl) (Nat.le_of_ble_eq_true rfl) ?_
      exact W.iret (v := 2) hx hb hr (fun tz hz9 hW9 => ⟨⟨2, (M, fo), rfl, Or.inr ⟨rfl, (2, "java/lang/IllegalArgumentException"), (List.mem_cons_of_mem _ List.mem_cons_self), rfl, hE⟩, by rw [hz9]; exact hP, by rw [hz9]; exact hO, va_K.moved hW9.alike hK⟩, hS.F hz9⟩) hS.2.2 d_W_at_23
  · refine ow_last hx hb hK hP hO hne hS (x := r9) d_W_at_12 (fun H locs hP hO hS => ?_)
    refine lv_goto (tgt := 24) hx hb d_W_at_13 (by decide) ?_
    refine lv_iconst (v := 0) hx hb d_W_at_24 (by decide) ?_
    refine W.widen (k := 3) (n := 18) (Nat.le_of_ble_eq_true rfl) (Nat.le_of_ble_eq_true rfl) ?_
    exact W.iret (v := 0) hx hb hr (fun tz hz9 hW9 => ⟨⟨0, (M1, vp_updL fo 0 r9), rfl, Or.inl ⟨rfl, r9, hw, (updL_s (f := fo) (x := r9))⟩, by rw [hz9]; exact hP, by rw [hz9]; exact hO, va_K.moved hW9.alike hK⟩, hS.F hz9⟩) hS.2.2 d_W_at_25

set_option maxHeartbeats 4000000 in
set_option maxRecDepth 100000 in
/-- W_conflict -/
theorem k_W_conflict (l : Launch) (hl9 : l.stackTraces = false) (D : va_G) (cA : Nat → ClassId) (o sz qo : Nat) (M : wM) (fo : Nat → Int64) (sc : Nat) (hsc : sc ≤ 8) (esc : M.2.2 0 2 = nI sc) (z : Nat → Nat) (od : Nat → Nat → Nat) (hse : xSets M z od) (x kk : Int32) : Met l y_W_conflict (wmW y_W_conflict c_W_conflict 5 (some .int) [(0, 10, 13, 13), (0, 10, 17, 15)]) { frames := 8, cells := 2, slots := 12, locals := 127 } (va_Pc [.ref (o + 0), .int x, .int kk, .ref qo] (oB D cA o qo M fo sz)) (va_Qi (oPost (fun r M1 => M1 = M ∧ ¬ kk < 0 ∧ ∃ k, k < sc ∧ x = nI k ∧ ((∃ i, i < 10 ∧ x_conf M (od k) (nI i) (z k) = true ∧ nI (x_cc M (od k) (z k) i) = kk ∧ r = nI i) ∨ ((∀ i, i < 10 → x_conf M (od k) (nI i) (z k) = true → ¬ nI (x_cc M (od k) (z k) i) = kk) ∧ r = -1))) (fun r : Int32 => r.toInt64) (fun E => (E = "java/lang/IndexOutOfBoundsException" ∧ xbad x (nI sc)) ∨ (E = "java/lang/IllegalArgumentException" ∧ xin x (nI sc) ∧ kk < 0)) [(1, "java/lang/IndexOutOfBoundsException"), (2, "java/lang/IllegalArgumentException")] M fo) (oQ D cA o qo) (oA o qo sz)) 2 12 (oA o qo sz) := by
  refine met_ofWH (cc := c_W_conflict) (maxL := 5) (ret := (some .int)) (hh := [(0, 10, 13, 13), (0, 10, 17, 15)]) (by decide) rfl ?_
  intro p e s m args below meth c s₁ B hml htab hv
  obtain ⟨rfl, ⟨hsz, hP, hK⟩, hO, hne, hG, hN⟩ := hv
  have hx := B.exec
  have hb := B.bytes
  have hr := B.returns
  have hts0 := atoms_spec (ws := wmW y_W_conflict c_W_conflict 5 (some .int) [(0, 10, 13, 13), (0, 10, 17, 15)]) B.pre
  have hts := wmW_x aK_X_conflict hts0
  have hown : s.vm.findClass "ShopDesksLaw" = some m.cls := findClass_of_methodNamed B.named
  have hlocks := B.notSynchronized
  subst hsz
  have hS : va_S (oA o qo s.heap.size) s.heap s.heap [] := va_S.rf
  have hl := lv_entry ([.ref (o + 0), .int x, .int kk, .ref qo]) (n := 5) (Nat.le_of_ble_eq_true rfl)
  rw [lg_entry_eq]
  generalize (lg_sl ([.ref (o + 0), .int x, .int kk, .ref qo]) ++ List.replicate (5 - (lg_sl ([.ref (o + 0), .int x, .int kk, .ref qo])).length) Slot.unset).toArray = ls at hl ⊢
  have hl : lv_has ls 5 [(0, .ref (o + 0)), (1, .int x), (2, .int kk), (3, .ref qo)] := hl
  refine lv_aload_n hx hb d_W_conflict_0 rfl (lv_at hl 3 rfl) ?_
  refine lv_iconst (v := 0) hx hb d_W_conflict_1 (by decide) ?_
  refine lv_aload_n hx hb d_W_conflict_2 rfl (lv_at hl 0 rfl) ?_
  refine lv_iload_n hx hb d_W_conflict_3 rfl (lv_at hl 1 rfl) ?_
  refine lv_iload_n hx hb d_W_conflict_4 rfl (lv_at hl 2 rfl) ?_
  refine ow_Vi (pE := fun E => (E = "java/lang/IndexOutOfBoundsException" ∧ xbad x (nI sc)) ∨ (E = "java/lang/IllegalArgumentException" ∧ xin x (nI sc) ∧ kk < 0)) ⟨hx, hb, hml, hown, hts⟩ (k_X_conflict l hl9 D cA o _ M sc hsc esc z od hse x kk) (kV hts 2 aK_X_conflict aM_W_35 aI_X_conflict aV_X_conflict aN_X nm_X_conflict rfl rfl ⟨(Nat.le_of_ble_eq_true rfl), (Nat.le_of_ble_eq_true rfl)⟩) hK hP hO hne hG hS rfl hl.1 rfl (Nat.le_of_ble_eq_true rfl) d_W_conflict_5 ⟨(Nat.le_of_ble_eq_true rfl), (Nat.le_of_ble_eq_true rfl)⟩ (fun E ce9 q9 H locs hE hP hO hS hcell hcv hcl => ?_) (fun r9 M1 H locs hw hP hO hS => ?_)
  · have hE3 : E = "java/lang/IndexOutOfBoundsException" ∨ E = "java/lang/IllegalArgumentException" := by
      rcases hE with h9 | h9
      · exact Or.inl h9.1
      · exact Or.inr (h9.1)
    rcases hE3 with rfl | rfl
    · refine wr_catch hown htab [] (0, 10, 13, 13) [(0, 10, 17, 15)] rfl (fun z hz => absurd hz List.not_mem_nil) (by decide) hN (by decide) (by decide) (by decide) (hts _ (al aC_W_13)) (x3_cast hG (by decide)) hcell hcv hcl ?_
      refine lv_astore (lv' := [(4, .ref q9), (0, .ref (o + 0)), (1, .int x), (2, .int kk), (3, .ref qo)]) hx hb d_W_conflict_13 hl (by decide) rfl (fun ls hl => ?_)
      refine lv_iconst (v := 1) hx hb d_W_conflict_15 (by decide) ?_
      refine W.widen (k := 2) (n := 12) (Nat.le_of_ble_eq_true rfl) (Nat.le_of_ble_eq_true rfl) ?_
      exact W.iret (v := 1) hx hb hr (fun tz hz9 hW9 => ⟨⟨1, (M, fo), rfl, Or.inr ⟨rfl, (1, "java/lang/IndexOutOfBoundsException"), List.mem_cons_self, rfl, hE⟩, by rw [hz9]; exact hP, by rw [hz9]; exact hO, va_K.moved hW9.alike hK⟩, hS.F hz9⟩) hS.2.2 d_W_conflict_16
    · refine wr_catch hown htab [("java/lang/IndexOutOfBoundsException", (0, 10, 13, 13))] (0, 10, 17, 15) [] rfl (List.forall_mem_cons.mpr ⟨⟨by decide, by decide, by decide, hts _ (al aC_W_13)⟩, (fun z hz => absurd hz List.not_mem_nil)⟩) (by decide) hN (by decide) (by decide) (by decide) (hts _ (al aC_W_15)) (x3_cast hG (by decide)) hcell hcv hcl ?_
      refine lv_astore (lv' := [(4, .ref q9), (0, .ref (o + 0)), (1, .int x), (2, .int kk), (3, .ref qo)]) hx hb d_W_conflict_17 hl (by decide) rfl (fun ls hl => ?_)
      refine lv_iconst (v := 2) hx hb d_W_conflict_19 (by decide) ?_
      refine W.widen (k := 2) (n := 12) (Nat.le_of_ble_eq_true rfl) (Nat.le_of_ble_eq_true rfl) ?_
      exact W.iret (v := 2) hx hb hr (fun tz hz9 hW9 => ⟨⟨2, (M, fo), rfl, Or.inr ⟨rfl, (2, "java/lang/IllegalArgumentException"), (List.mem_cons_of_mem _ List.mem_cons_self), rfl, hE⟩, by rw [hz9]; exact hP, by rw [hz9]; exact hO, va_K.moved hW9.alike hK⟩, hS.F hz9⟩) hS.2.2 d_W_conflict_20
  · refine lv_i2l hx hb d_W_conflict_8 rfl ?_
    refine ow_last hx hb hK hP hO hne hS (x := r9.toInt64) d_W_conflict_9 (fun H locs hP hO hS => ?_)
    refine lv_goto (tgt := 21) hx hb d_W_conflict_10 (by decide) ?_
    refine lv_iconst (v := 0) hx hb d_W_conflict_21 (by decide) ?_
    refine W.widen (k := 2) (n := 12) (Nat.le_of_ble_eq_true rfl) (Nat.le_of_ble_eq_true rfl) ?_
    exact W.iret (v := 0) hx hb hr (fun tz hz9 hW9 => ⟨⟨0, (M1, vp_updL fo 0 r9.toInt64), rfl, Or.inl ⟨rfl, r9, hw, (updL_s (f := fo) (x := r9.toInt64))⟩, by rw [hz9]; exact hP, by rw [hz9]; exact hO, va_K.moved hW9.alike hK⟩, hS.F hz9⟩) hS.2.2 d_W_conflict_22

set_option maxHeartbeats 4000000 in
set_option maxRecDepth 100000 in
/-- W_mark -/
theorem k_W_mark (l : Launch) (hl9 : l.stackTraces = false) (D : va_G) (cA : Nat → ClassId) (o sz qo : Nat) (M : wM) (fo : Nat → Int64) (sc : Nat) (hsc : sc ≤ 8) (esc : M.2.2 0 2 = nI sc) (x : Int32) : Met l y_W_mark (wmW y_W_mark c_W_mark 4 (some .int) [(0, 9, 12, 13)]) { frames := 8, cells := 1, slots := 6, locals := 124 } (va_Pc [.ref (o + 0), .int x, .ref qo] (oB D cA o qo M fo sz)) (va_Qi (oPost (fun r M1 => M1 = M ∧ ∃ k, k < sc ∧ x = nI k ∧ r = M.2.2 (9 + 3 * k) 3) (fun r : Int32 => r.toInt64) (fun E => E = "java/lang/IndexOutOfBoundsException" ∧ xbad x (nI sc)) [(1, "java/lang/IndexOutOfBoundsException")] M fo) (oQ D cA o qo) (oA o qo sz)) 1 6 (oA o qo sz) := by
  refine met_ofWH (cc := c_W_mark) (maxL := 4) (ret := (some .int)) (hh := [(0, 9, 12, 13)]) (by decide) rfl ?_
  intro p e s m args below meth c s₁ B hml htab hv
  obtain ⟨rfl, ⟨hsz, hP, hK⟩, hO, hne, hG, hN⟩ := hv
  have hx := B.exec
  have hb := B.bytes
  have hr := B.returns
  have hts0 := atoms_spec (ws := wmW y_W_mark c_W_mark 4 (some .int) [(0, 9, 12, 13)]) B.pre
  have hts := wmW_x aK_X_mark hts0
  have hown : s.vm.findClass "ShopDesksLaw" = some m.cls := findClass_of_methodNamed B.named
  have hlocks := B.notSynchronized
  subst hsz
  have hS : va_S (oA o qo s.heap.size) s.heap s.heap [] := va_S.rf
  have hl := lv_entry ([.ref (o + 0), .int x, .ref qo]) (n := 4) (Nat.le_of_ble_eq_true rfl)
  rw [lg_entry_eq]
  generalize (lg_sl ([.ref (o + 0), .int x, .ref qo]) ++ List.replicate (4 - (lg_sl ([.ref (o + 0), .int x, .ref qo])).length) Slot.unset).toArray = ls at hl ⊢
  have hl : lv_has ls 4 [(0, .ref (o + 0)), (1, .int x), (2, .ref qo)] := hl
  refine lv_aload_n hx hb d_W_mark_0 rfl (lv_at hl 2 rfl) ?_
  refine lv_iconst (v := 0) hx hb d_W_mark_1 (by decide) ?_
  refine lv_aload_n hx hb d_W_mark_2 rfl (lv_at hl 0 rfl) ?_
  refine lv_iload_n hx hb d_W_mark_3 rfl (lv_at hl 1 rfl) ?_
  refine ow_Vi (pE := fun E => E = "java/lang/IndexOutOfBoundsException" ∧ xbad x (nI sc)) ⟨hx, hb, hml, hown, hts⟩ (k_X_mark l hl9 D cA o _ M sc hsc esc x) (kV hts 1 aK_X_mark aM_W_38 aI_X_mark aV_X_mark aN_X nm_X_mark rfl rfl ⟨(Nat.le_of_ble_eq_true rfl), (Nat.le_of_ble_eq_true rfl)⟩) hK hP hO hne hG hS rfl hl.1 rfl (Nat.le_of_ble_eq_true rfl) d_W_mark_4 ⟨(Nat.le_of_ble_eq_true rfl), (Nat.le_of_ble_eq_true rfl)⟩ (fun E ce9 q9 H locs hE hP hO hS hcell hcv hcl => ?_) (fun r9 M1 H locs hw hP hO hS => ?_)
  · have hE3 := hE.1
    subst hE3
    refine wr_catch hown htab [] (0, 9, 12, 13) [] rfl (fun z hz => absurd hz List.not_mem_nil) (by decide) hN (by decide) (by decide) (by decide) (hts _ (al aC_W_13)) (x3_cast hG (by decide)) hcell hcv hcl ?_
    refine lv_astore_n (lv' := [(3, .ref q9), (0, .ref (o + 0)), (1, .int x), (2, .ref qo)]) hx hb d_W_mark_12 rfl hl (by decide) rfl (fun ls hl => ?_)
    refine lv_iconst (v := 1) hx hb d_W_mark_13 (by decide) ?_
    refine W.widen (k := 1) (n := 6) (Nat.le_of_ble_eq_true rfl) (Nat.le_of_ble_eq_true rfl) ?_
    exact W.iret (v := 1) hx hb hr (fun tz hz9 hW9 => ⟨⟨1, (M, fo), rfl, Or.inr ⟨rfl, (1, "java/lang/IndexOutOfBoundsException"), List.mem_cons_self, rfl, hE⟩, by rw [hz9]; exact hP, by rw [hz9]; exact hO, va_K.moved hW9.alike hK⟩, hS.F hz9⟩) hS.2.2 d_W_mark_14
  · refine lv_i2l hx hb d_W_mark_7 rfl ?_
    refine ow_last hx hb hK hP hO hne hS (x := r9.toInt64) d_W_mark_8 (fun H locs hP hO hS => ?_)
    refine lv_goto (tgt := 15) hx hb d_W_mark_9 (by decide) ?_
    refine lv_iconst (v := 0) hx hb d_W_mark_15 (by decide) ?_
    refine W.widen (k := 1) (n := 6) (Nat.le_of_ble_eq_true rfl) (Nat.le_of_ble_eq_true rfl) ?_
    exact W.iret (v := 0) hx hb hr (fun tz hz9 hW9 => ⟨⟨0, (M1, vp_updL fo 0 r9.toInt64), rfl, Or.inl ⟨rfl, r9, hw, (updL_s (f := fo) (x := r9.toInt64))⟩, by rw [hz9]; exact hP, by rw [hz9]; exact hO, va_K.moved hW9.alike hK⟩, hS.F hz9⟩) hS.2.2 d_W_mark_16

set_option maxHeartbeats 4000000 in
set_option maxRecDepth 100000 in
/-- W_since -/
theorem k_W_since (l : Launch) (hl9 : l.stackTraces = false) (D : va_G) (cA : Nat → ClassId) (o sz qo : Nat) (M : wM) (fo : Nat → Int64) (sc : Nat) (hsc : sc ≤ 8) (esc : M.2.2 0 2 = nI sc) (z : Nat → Nat) (od : Nat → Nat → Nat) (hse : xSets M z od) (x mk kk wh : Int32) : Met l y_W_since (wmW y_W_since c_W_since 7 (some .int) [(0, 13, 16, 13), (0, 13, 20, 15)]) { frames := 8, cells := 2, slots := 12, locals := 130 } (va_Pc [.ref (o + 0), .int x, .int mk, .int kk, .int wh, .ref qo] (oB D cA o qo M fo sz)) (va_Qi (oPost (fun r M1 => M1 = M ∧ ∃ k a b, k < sc ∧ x = nI k ∧ mk = nI a ∧ kk = nI b ∧ a < 2147483648 ∧ b < 2147483648 ∧ a + b < z k ∧ ¬ wh < 0 ∧ wh ≤ 2 ∧ r = (if wh = 0 then (M.1 2 (od k (a + b))).toInt64 else if wh = 1 then M.2.1 3 (od k (a + b)) else M.2.1 6 (od k (a + b)))) (fun r : Int64 => r) (fun E => (E = "java/lang/IndexOutOfBoundsException" ∧ (xbad x (nI sc) ∨ ∃ k, k < sc ∧ x = nI k ∧ ¬ mk.toInt64 + kk.toInt64 < (nI (z k)).toInt64)) ∨ (E = "java/lang/IllegalArgumentException" ∧ ∃ k, k < sc ∧ x = nI k ∧ mk.toInt64 + kk.toInt64 < (nI (z k)).toInt64 ∧ (mk < 0 ∨ kk < 0 ∨ wh < 0 ∨ ¬ wh ≤ 2))) [(1, "java/lang/IndexOutOfBoundsException"), (2, "java/lang/IllegalArgumentException")] M fo) (oQ D cA o qo) (oA o qo sz)) 2 12 (oA o qo sz) := by
  refine met_ofWH (cc := c_W_since) (maxL := 7) (ret := (some .int)) (hh := [(0, 13, 16, 13), (0, 13, 20, 15)]) (by decide) rfl ?_
  intro p e s m args below meth c s₁ B hml htab hv
  obtain ⟨rfl, ⟨hsz, hP, hK⟩, hO, hne, hG, hN⟩ := hv
  have hx := B.exec
  have hb := B.bytes
  have hr := B.returns
  have hts0 := atoms_spec (ws := wmW y_W_since c_W_since 7 (some .int) [(0, 13, 16, 13), (0, 13, 20, 15)]) B.pre
  have hts := wmW_x aK_X_since hts0
  have hown : s.vm.findClass "ShopDesksLaw" = some m.cls := findClass_of_methodNamed B.named
  have hlocks := B.notSynchronized
  subst hsz
  have hS : va_S (oA o qo s.heap.size) s.heap s.heap [] := va_S.rf
  have hl := lv_entry ([.ref (o + 0), .int x, .int mk, .int kk, .int wh, .ref qo]) (n := 7) (Nat.le_of_ble_eq_true rfl)
  rw [lg_entry_eq]
  generalize (lg_sl ([.ref (o + 0), .int x, .int mk, .int kk, .int wh, .ref qo]) ++ List.replicate (7 - (lg_sl ([.ref (o + 0), .int x, .int mk, .int kk, .int wh, .ref qo])).length) Slot.unset).toArray = ls at hl ⊢
  have hl : lv_has ls 7 [(0, .ref (o + 0)), (1, .int x), (2, .int mk), (3, .int kk), (4, .int wh), (5, .ref qo)] := hl
  refine lv_aload hx hb d_W_since_0 (lv_at hl 5 rfl) ?_
  refine lv_iconst (v := 0) hx hb d_W_since_2 (by decide) ?_
  refine lv_aload_n hx hb d_W_since_3 rfl (lv_at hl 0 rfl) ?_
  refine lv_iload_n hx hb d_W_since_4 rfl (lv_at hl 1 rfl) ?_
  refine lv_iload_n hx hb d_W_since_5 rfl (lv_at hl 2 rfl) ?_
  refine lv_iload_n hx hb d_W_since_6 rfl (lv_at hl 3 rfl) ?_
  refine lv_iload hx hb d_W_since_7 (lv_at hl 4 rfl) ?_
  refine ow_Vl (pE := fun E => (E = "java/lang/IndexOutOfBoundsException" ∧ (xbad x (nI sc) ∨ ∃ k, k < sc ∧ x = nI k ∧ ¬ mk.toInt64 + kk.toInt64 < (nI (z k)).toInt64)) ∨ (E = "java/lang/IllegalArgumentException" ∧ ∃ k, k < sc ∧ x = nI k ∧ mk.toInt64 + kk.toInt64 < (nI (z k)).toInt64 ∧ (mk < 0 ∨ kk < 0 ∨ wh < 0 ∨ ¬ wh ≤ 2))) ⟨hx, hb, hml, hown, hts⟩ (k_X_since l hl9 D cA o _ M sc hsc esc z od hse x mk kk wh) (kV hts 4 aK_X_since aM_W_41 aI_X_since aV_X_since aN_X nm_X_since rfl rfl ⟨(Nat.le_of_ble_eq_true rfl), (Nat.le_of_ble_eq_true rfl)⟩) hK hP hO hne hG hS rfl hl.1 rfl (Nat.le_of_ble_eq_true rfl) d_W_since_9 ⟨(Nat.le_of_ble_eq_true rfl), (Nat.le_of_ble_eq_true rfl)⟩ (fun E ce9 q9 H locs hE hP hO hS hcell hcv hcl => ?_) (fun r9 M1 H locs hw hP hO hS => ?_)
  · have hE3 : E = "java/lang/IndexOutOfBoundsException" ∨ E = "java/lang/IllegalArgumentException" := by
      rcases hE with h9 | h9
      · exact Or.inl h9.1
      · exact Or.inr (h9.1)
    rcases hE3 with rfl | rfl
    · refine wr_catch hown htab [] (0, 13, 16, 13) [(0, 13, 20, 15)] rfl (fun z hz => absurd hz List.not_mem_nil) (by decide) hN (by decide) (by decide) (by decide) (hts _ (al aC_W_13)) (x3_cast hG (by decide)) hcell hcv hcl ?_
      refine lv_astore (lv' := [(6, .ref q9), (0, .ref (o + 0)), (1, .int x), (2, .int mk), (3, .int kk), (4, .int wh), (5, .ref qo)]) hx hb d_W_since_16 hl (by decide) rfl (fun ls hl => ?_)
      refine lv_iconst (v := 1) hx hb d_W_since_18 (by decide) ?_
      refine W.widen (k := 2) (n := 12) (Nat.le_of_ble_eq_true rfl) (Nat.le_of_ble_eq_true rfl) ?_
      exact W.iret (v := 1) hx hb hr (fun tz hz9 hW9 => ⟨⟨1, (M, fo), rfl, Or.inr ⟨rfl, (1, "java/lang/IndexOutOfBoundsException"), List.mem_cons_self, rfl, hE⟩, by rw [hz9]; exact hP, by rw [hz9]; exact hO, va_K.moved hW9.alike hK⟩, hS.F hz9⟩) hS.2.2 d_W_since_19
    · refine wr_catch hown htab [("java/lang/IndexOutOfBoundsException", (0, 13, 16, 13))] (0, 13, 20, 15) [] rfl (List.forall_mem_cons.mpr ⟨⟨by decide, by decide, by decide, hts _ (al aC_W_13)⟩, (fun z hz => absurd hz List.not_mem_nil)⟩) (by decide) hN (by decide) (by decide) (by decide) (hts _ (al aC_W_15)) (x3_cast hG (by decide)) hcell hcv hcl ?_
      refine lv_astore (lv' := [(6, .ref q9), (0, .ref (o + 0)), (1, .int x), (2, .int mk), (3, .int kk), (4, .int wh), (5, .ref qo)]) hx hb d_W_since_20 hl (by decide) rfl (fun ls hl => ?_)
      refine lv_iconst (v := 2) hx hb d_W_since_22 (by decide) ?_
      refine W.widen (k := 2) (n := 12) (Nat.le_of_ble_eq_true rfl) (Nat.le_of_ble_eq_true rfl) ?_
      exact W.iret (v := 2) hx hb hr (fun tz hz9 hW9 => ⟨⟨2, (M, fo), rfl, Or.inr ⟨rfl, (2, "java/lang/IllegalArgumentException"), (List.mem_cons_of_mem _ List.mem_cons_self), rfl, hE⟩, by rw [hz9]; exact hP, by rw [hz9]; exact hO, va_K.moved hW9.alike hK⟩, hS.F hz9⟩) hS.2.2 d_W_since_23
  · refine ow_last hx hb hK hP hO hne hS (x := r9) d_W_since_12 (fun H locs hP hO hS => ?_)
    refine lv_goto (tgt := 24) hx hb d_W_since_13 (by decide) ?_
    refine lv_iconst (v := 0) hx hb d_W_since_24 (by decide) ?_
    refine W.widen (k := 2) (n := 12) (Nat.le_of_ble_eq_true rfl) (Nat.le_of_ble_eq_true rfl) ?_
    exact W.iret (v := 0) hx hb hr (fun tz hz9 hW9 => ⟨⟨0, (M1, vp_updL fo 0 r9), rfl, Or.inl ⟨rfl, r9, hw, (updL_s (f := fo) (x := r9))⟩, by rw [hz9]; exact hP, by rw [hz9]; exact hO, va_K.moved hW9.alike hK⟩, hS.F hz9⟩) hS.2.2 d_W_since_25

set_option maxHeartbeats 4000000 in
set_option maxRecDepth 100000 in
/-- W_batch -/
theorem k_W_batch (l : Launch) (hl9 : l.stackTraces = false) (D : va_G) (cA : Nat → ClassId) (o sz qo : Nat) (M : wM) (fo : Nat → Int64) (sc : Nat) (hsc : sc ≤ 8) (esc : M.2.2 0 2 = nI sc) (x bo : Int32) : Met l y_W_batch (wmW y_W_batch c_W_batch 5 (some .int) [(0, 17, 20, 13)]) { frames := 8, cells := 1, slots := 6, locals := 125 } (va_Pc [.ref (o + 0), .int x, .int bo, .ref qo] (oB D cA o qo M fo sz)) (va_Qi (oPost (fun r M1 => ∃ k, k < sc ∧ x = nI k ∧ ((bo = 0 ∧ ((r = 0 ∧ M1 = M ∧ M.2.2 (9 + 3 * k) 4 = -1) ∨ (r = 1 ∧ M1 = wF M (9 + 3 * k) 4 (-1) ∧ ¬ M.2.2 (9 + 3 * k) 4 = -1))) ∨ (¬ bo = 0 ∧ ((r = 0 ∧ M1 = M ∧ ¬ M.2.2 (9 + 3 * k) 4 = -1) ∨ (r = 1 ∧ M1 = wF M (9 + 3 * k) 4 (M.2.2 (9 + 3 * k) 3) ∧ M.2.2 (9 + 3 * k) 4 = -1))))) (fun r : Int32 => if r = 0 then (0 : Int64) else 1) (fun E => E = "java/lang/IndexOutOfBoundsException" ∧ xbad x (nI sc)) [(1, "java/lang/IndexOutOfBoundsException")] M fo) (oQ D cA o qo) (oA o qo sz)) 1 6 (oA o qo sz) := by
  refine met_ofWH (cc := c_W_batch) (maxL := 5) (ret := (some .int)) (hh := [(0, 17, 20, 13)]) (by decide) rfl ?_
  intro p e s m args below meth c s₁ B hml htab hv
  obtain ⟨rfl, ⟨hsz, hP, hK⟩, hO, hne, hG, hN⟩ := hv
  have hx := B.exec
  have hb := B.bytes
  have hr := B.returns
  have hts0 := atoms_spec (ws := wmW y_W_batch c_W_batch 5 (some .int) [(0, 17, 20, 13)]) B.pre
  have hts := wmW_x aK_X_batch hts0
  have hown : s.vm.findClass "ShopDesksLaw" = some m.cls := findClass_of_methodNamed B.named
  have hlocks := B.notSynchronized
  subst hsz
  have hS : va_S (oA o qo s.heap.size) s.heap s.heap [] := va_S.rf
  have hl := lv_entry ([.ref (o + 0), .int x, .int bo, .ref qo]) (n := 5) (Nat.le_of_ble_eq_true rfl)
  rw [lg_entry_eq]
  generalize (lg_sl ([.ref (o + 0), .int x, .int bo, .ref qo]) ++ List.replicate (5 - (lg_sl ([.ref (o + 0), .int x, .int bo, .ref qo])).length) Slot.unset).toArray = ls at hl ⊢
  have hl : lv_has ls 5 [(0, .ref (o + 0)), (1, .int x), (2, .int bo), (3, .ref qo)] := hl
  refine lv_aload_n hx hb d_W_batch_0 rfl (lv_at hl 3 rfl) ?_
  refine lv_iconst (v := 0) hx hb d_W_batch_1 (by decide) ?_
  refine lv_aload_n hx hb d_W_batch_2 rfl (lv_at hl 0 rfl) ?_
  refine lv_iload_n hx hb d_W_batch_3 rfl (lv_at hl 1 rfl) ?_
  refine lv_iload_n hx hb d_W_batch_4 rfl (lv_at hl 2 rfl) ?_
  refine ow_Vi (pE := fun E => E = "java/lang/IndexOutOfBoundsException" ∧ xbad x (nI sc)) ⟨hx, hb, hml, hown, hts⟩ (k_X_batch l hl9 D cA o _ M sc hsc esc x bo) (kV hts 2 aK_X_batch aM_W_45 aI_X_batch aV_X_batch aN_X nm_X_batch rfl rfl ⟨(Nat.le_of_ble_eq_true rfl), (Nat.le_of_ble_eq_true rfl)⟩) hK hP hO hne hG hS rfl hl.1 rfl (Nat.le_of_ble_eq_true rfl) d_W_batch_5 ⟨(Nat.le_of_ble_eq_true rfl), (Nat.le_of_ble_eq_true rfl)⟩ (fun E ce9 q9 H locs hE hP hO hS hcell hcv hcl => ?_) (fun r9 M1 H locs hw hP hO hS => ?_)
  · have hE3 := hE.1
    subst hE3
    refine wr_catch hown htab [] (0, 17, 20, 13) [] rfl (fun z hz => absurd hz List.not_mem_nil) (by decide) hN (by decide) (by decide) (by decide) (hts _ (al aC_W_13)) (x3_cast hG (by decide)) hcell hcv hcl ?_
    refine lv_astore (lv' := [(4, .ref q9), (0, .ref (o + 0)), (1, .int x), (2, .int bo), (3, .ref qo)]) hx hb d_W_batch_20 hl (by decide) rfl (fun ls hl => ?_)
    refine lv_iconst (v := 1) hx hb d_W_batch_22 (by decide) ?_
    refine W.widen (k := 1) (n := 6) (Nat.le_of_ble_eq_true rfl) (Nat.le_of_ble_eq_true rfl) ?_
    exact W.iret (v := 1) hx hb hr (fun tz hz9 hW9 => ⟨⟨1, (M, fo), rfl, Or.inr ⟨rfl, (1, "java/lang/IndexOutOfBoundsException"), List.mem_cons_self, rfl, hE⟩, by rw [hz9]; exact hP, by rw [hz9]; exact hO, va_K.moved hW9.alike hK⟩, hS.F hz9⟩) hS.2.2 d_W_batch_23
  · refine lv_if_eq (tgt := 15) hx hb d_W_batch_8 (by decide) (fun c_1 => ?_) (fun c_1 => ?_)
    · refine lv_lconst (v := 0) hx hb d_W_batch_15 (by decide) ?_
      refine ow_last hx hb hK hP hO hne hS (x := 0) d_W_batch_16 (fun H locs hP hO hS => ?_)
      refine lv_goto (tgt := 24) hx hb d_W_batch_17 (by decide) ?_
      refine lv_iconst (v := 0) hx hb d_W_batch_24 (by decide) ?_
      refine W.widen (k := 1) (n := 6) (Nat.le_of_ble_eq_true rfl) (Nat.le_of_ble_eq_true rfl) ?_
      exact W.iret (v := 0) hx hb hr (fun tz hz9 hW9 => ⟨⟨0, (M1, vp_updL fo 0 0), rfl, Or.inl ⟨rfl, r9, hw, ((updL_s (f := fo) (x := 0)).trans (if_pos c_1).symm)⟩, by rw [hz9]; exact hP, by rw [hz9]; exact hO, va_K.moved hW9.alike hK⟩, hS.F hz9⟩) hS.2.2 d_W_batch_25
    · refine lv_lconst (v := 1) hx hb d_W_batch_11 (by decide) ?_
      refine lv_goto (tgt := 16) hx hb d_W_batch_12 (by decide) ?_
      refine ow_last hx hb hK hP hO hne hS (x := 1) d_W_batch_16 (fun H locs hP hO hS => ?_)
      refine lv_goto (tgt := 24) hx hb d_W_batch_17 (by decide) ?_
      refine lv_iconst (v := 0) hx hb d_W_batch_24 (by decide) ?_
      refine W.widen (k := 1) (n := 6) (Nat.le_of_ble_eq_true rfl) (Nat.le_of_ble_eq_true rfl) ?_
      exact W.iret (v := 0) hx hb hr (fun tz hz9 hW9 => ⟨⟨0, (M1, vp_updL fo 0 1), rfl, Or.inl ⟨rfl, r9, hw, ((updL_s (f := fo) (x := 1)).trans (if_neg c_1).symm)⟩, by rw [hz9]; exact hP, by rw [hz9]; exact hO, va_K.moved hW9.alike hK⟩, hS.F hz9⟩) hS.2.2 d_W_batch_25

set_option maxHeartbeats 4000000 in
set_option maxRecDepth 100000 in
/-- W_right -/
theorem k_W_right (l : Launch) (hl9 : l.stackTraces = false) (D : va_G) (cA : Nat → ClassId) (o sz qo : Nat) (M : wM) (fo : Nat → Int64) (x kd bo : Int32) (hbo : vp_nar .boolean bo = bo) : Met l y_W_right (wmW y_W_right c_W_right 6 (some .int) [(0, 19, 22, 13), (0, 19, 26, 15)]) { frames := 8, cells := 2, slots := 12, locals := 127 } (va_Pc [.ref (o + 0), .int x, .int kd, .int bo, .ref qo] (oB D cA o qo M fo sz)) (va_Qi (oPost (fun r M1 => ∃ a b, a < 4 ∧ b < 4 ∧ x = nI a ∧ kd = nI b ∧ M1 = wI M 33 (a * 4 + b) bo ∧ r = b2i (decide (¬ M.1 33 (a * 4 + b) = bo))) (fun r : Int32 => if r = 0 then (0 : Int64) else 1) (fun E => (E = "java/lang/IndexOutOfBoundsException" ∧ xbad x 4) ∨ (E = "java/lang/IllegalArgumentException" ∧ xin x 4 ∧ xbad kd 4)) [(1, "java/lang/IndexOutOfBoundsException"), (2, "java/lang/IllegalArgumentException")] M fo) (oQ D cA o qo) (oA o qo sz)) 2 12 (oA o qo sz) := by
  refine met_ofWH (cc := c_W_right) (maxL := 6) (ret := (some .int)) (hh := [(0, 19, 22, 13), (0, 19, 26, 15)]) (by decide) rfl ?_
  intro p e s m args below meth c s₁ B hml htab hv
  obtain ⟨rfl, ⟨hsz, hP, hK⟩, hO, hne, hG, hN⟩ := hv
  have hx := B.exec
  have hb := B.bytes
  have hr := B.returns
  have hts0 := atoms_spec (ws := wmW y_W_right c_W_right 6 (some .int) [(0, 19, 22, 13), (0, 19, 26, 15)]) B.pre
  have hts := wmW_x aK_X_right hts0
  have hown : s.vm.findClass "ShopDesksLaw" = some m.cls := findClass_of_methodNamed B.named
  have hlocks := B.notSynchronized
  subst hsz
  have hS : va_S (oA o qo s.heap.size) s.heap s.heap [] := va_S.rf
  have hl := lv_entry ([.ref (o + 0), .int x, .int kd, .int bo, .ref qo]) (n := 6) (Nat.le_of_ble_eq_true rfl)
  rw [lg_entry_eq]
  generalize (lg_sl ([.ref (o + 0), .int x, .int kd, .int bo, .ref qo]) ++ List.replicate (6 - (lg_sl ([.ref (o + 0), .int x, .int kd, .int bo, .ref qo])).length) Slot.unset).toArray = ls at hl ⊢
  have hl : lv_has ls 6 [(0, .ref (o + 0)), (1, .int x), (2, .int kd), (3, .int bo), (4, .ref qo)] := hl
  refine lv_aload hx hb d_W_right_0 (lv_at hl 4 rfl) ?_
  refine lv_iconst (v := 0) hx hb d_W_right_2 (by decide) ?_
  refine lv_aload_n hx hb d_W_right_3 rfl (lv_at hl 0 rfl) ?_
  refine lv_iload_n hx hb d_W_right_4 rfl (lv_at hl 1 rfl) ?_
  refine lv_iload_n hx hb d_W_right_5 rfl (lv_at hl 2 rfl) ?_
  refine lv_iload_n hx hb d_W_right_6 rfl (lv_at hl 3 rfl) ?_
  refine ow_Vi (pE := fun E => (E = "java/lang/IndexOutOfBoundsException" ∧ xbad x 4) ∨ (E = "java/lang/IllegalArgumentException" ∧ xin x 4 ∧ xbad kd 4)) ⟨hx, hb, hml, hown, hts⟩ (k_X_right l hl9 D cA o _ M x kd bo hbo) (kV hts 3 aK_X_right aM_W_49 aI_X_right aV_X_right aN_X nm_X_right rfl rfl ⟨(Nat.le_of_ble_eq_true rfl), (Nat.le_of_ble_eq_true rfl)⟩) hK hP hO hne hG hS rfl hl.1 rfl (Nat.le_of_ble_eq_true rfl) d_W_right_7 ⟨(Nat.le_of_ble_eq_true rfl), (Nat.le_of_ble_eq_true rfl)⟩ (fun E ce9 q9 H locs hE hP hO hS hcell hcv hcl => ?_) (fun r9 M1 H locs hw hP hO hS => ?_)
  · have hE3 : E = "java/lang/IndexOutOfBoundsException" ∨ E = "java/lang/IllegalArgumentException" := by
      rcases hE with h9 | h9
      · exact Or.inl h9.1
      · exact Or.inr (h9.1)
    rcases hE3 with rfl | rfl
    · refine wr_catch hown htab [] (0, 19, 22, 13) [(0, 19, 26, 15)] rfl (fun z hz => absurd hz List.not_mem_nil) (by decide) hN (by decide) (by decide) (by decide) (hts _ (al aC_W_13)) (x3_cast hG (by decide)) hcell hcv hcl ?_
      refine lv_astore (lv' := [(5, .ref q9), (0, .ref (o + 0)), (1, .int x), (2, .int kd), (3, .int bo), (4, .ref qo)]) hx hb d_W_right_22 hl (by decide) rfl (fun ls hl => ?_)
      refine lv_iconst (v := 1) hx hb d_W_right_24 (by decide) ?_
      refine W.widen (k := 2) (n := 12) (Nat.le_of_ble_eq_true rfl) (Nat.le_of_ble_eq_true rfl) ?_
      exact W.iret (v := 1) hx hb hr (fun tz hz9 hW9 => ⟨⟨1, (M, fo), rfl, Or.inr ⟨rfl, (1, "java/lang/IndexOutOfBoundsException"), List.mem_cons_self, rfl, hE⟩, by rw [hz9]; exact hP, by rw [hz9]; exact hO, va_K.moved hW9.alike hK⟩, hS.F hz9⟩) hS.2.2 d_W_right_25
    · refine wr_catch hown htab [("java/lang/IndexOutOfBoundsException", (0, 19, 22, 13))] (0, 19, 26, 15) [] rfl (List.forall_mem_cons.mpr ⟨⟨by decide, by decide, by decide, hts _ (al aC_W_13)⟩, (fun z hz => absurd hz List.not_mem_nil)⟩) (by decide) hN (by decide) (by decide) (by decide) (hts _ (al aC_W_15)) (x3_cast hG (by decide)) hcell hcv hcl ?_
      refine lv_astore (lv' := [(5, .ref q9), (0, .ref (o + 0)), (1, .int x), (2, .int kd), (3, .int bo), (4, .ref qo)]) hx hb d_W_right_26 hl (by decide) rfl (fun ls hl => ?_)
      refine lv_iconst (v := 2) hx hb d_W_right_28 (by decide) ?_
      refine W.widen (k := 2) (n := 12) (Nat.le_of_ble_eq_true rfl) (Nat.le_of_ble_eq_true rfl) ?_
      exact W.iret (v := 2) hx hb hr (fun tz hz9 hW9 => ⟨⟨2, (M, fo), rfl, Or.inr ⟨rfl, (2, "java/lang/IllegalArgumentException"), (List.mem_cons_of_mem _ List.mem_cons_self), rfl, hE⟩, by rw [hz9]; exact hP, by rw [hz9]; exact hO, va_K.moved hW9.alike hK⟩, hS.F hz9⟩) hS.2.2 d_W_right_29
  · refine lv_if_eq (tgt := 17) hx hb d_W_right_10 (by decide) (fun c_1 => ?_) (fun c_1 => ?_)
    · refine lv_lconst (v := 0) hx hb d_W_right_17 (by decide) ?_
      refine ow_last hx hb hK hP hO hne hS (x := 0) d_W_right_18 (fun H locs hP hO hS => ?_)
      refine lv_goto (tgt := 30) hx hb d_W_right_19 (by decide) ?_
      refine lv_iconst (v := 0) hx hb d_W_right_30 (by decide) ?_
      refine W.widen (k := 2) (n := 12) (Nat.le_of_ble_eq_true rfl) (Nat.le_of_ble_eq_true rfl) ?_
      exact W.iret (v := 0) hx hb hr (fun tz hz9 hW9 => ⟨⟨0, (M1, vp_updL fo 0 0), rfl, Or.inl ⟨rfl, r9, hw, ((updL_s (f := fo) (x := 0)).trans (if_pos c_1).symm)⟩, by rw [hz9]; exact hP, by rw [hz9]; exact hO, va_K.moved hW9.alike hK⟩, hS.F hz9⟩) hS.2.2 d_W_right_31
    · refine lv_lconst (v := 1) hx hb d_W_right_13 (by decide) ?_
      refine lv_goto (tgt := 18) hx hb d_W_right_14 (by decide) ?_
      refine ow_last hx hb hK hP hO hne hS (x := 1) d_W_right_18 (fun H locs hP hO hS => ?_)
      refine lv_goto (tgt := 30) hx hb d_W_right_19 (by decide) ?_
      refine lv_iconst (v := 0) hx hb d_W_right_30 (by decide) ?_
      refine W.widen (k := 2) (n := 12) (Nat.le_of_ble_eq_true rfl) (Nat.le_of_ble_eq_true rfl) ?_
      exact W.iret (v := 0) hx hb hr (fun tz hz9 hW9 => ⟨⟨0, (M1, vp_updL fo 0 1), rfl, Or.inl ⟨rfl, r9, hw, ((updL_s (f := fo) (x := 1)).trans (if_neg c_1).symm)⟩, by rw [hz9]; exact hP, by rw [hz9]; exact hO, va_K.moved hW9.alike hK⟩, hS.F hz9⟩) hS.2.2 d_W_right_31

set_option maxHeartbeats 4000000 in
set_option maxRecDepth 100000 in
/-- W_seen -/
theorem k_W_seen (l : Launch) (hl9 : l.stackTraces = false) (D : va_G) (cA : Nat → ClassId) (o sz qo : Nat) (M : wM) (fo : Nat → Int64) (sc : Nat) (hsc : sc ≤ 8) (esc : M.2.2 0 2 = nI sc) (z : Nat → Nat) (od : Nat → Nat → Nat) (hse : xSets M z od) (bs : Nat → Nat) (hbs : ∀ s, s < 8 → bs s ≤ z s ∧ (if M.2.2 (9 + 3 * s) 4 = -1 then M.2.2 (9 + 3 * s) 3 else M.2.2 (9 + 3 * s) 4) = nI (bs s)) (x y th kd : Int32) : Met l y_W_seen (wmW y_W_seen c_W_seen 7 (some .int) [(0, 13, 16, 13), (0, 13, 20, 15), (0, 13, 24, 17)]) { frames := 8, cells := 5, slots := 30, locals := 153 } (va_Pc [.ref (o + 0), .int x, .int y, .int th, .int kd, .ref qo] (oB D cA o qo M fo sz)) (va_Qi (oPost (fun r M1 => M1 = M ∧ xin th 10 ∧ ∃ a b k, a < 4 ∧ b < 4 ∧ x = nI a ∧ kd = nI b ∧ ¬ M.1 33 (a * 4 + b) = 0 ∧ k < sc ∧ y = nI k ∧ r = x_known M (od k) th kd 9223372036854775807 (bs k)) (fun r : Int64 => r) (fun E => (E = "java/lang/IndexOutOfBoundsException" ∧ (xbad x 4 ∨ xbad y (nI sc) ∨ xbad th 10)) ∨ (E = "java/lang/IllegalArgumentException" ∧ xin x 4 ∧ xin y (nI sc) ∧ xin th 10 ∧ xbad kd 4) ∨ (E = "java/lang/IllegalStateException" ∧ xin y (nI sc) ∧ xin th 10 ∧ ∃ a b, a < 4 ∧ b < 4 ∧ x = nI a ∧ kd = nI b ∧ M.1 33 (a * 4 + b) = 0)) [(1, "java/lang/IndexOutOfBoundsException"), (2, "java/lang/IllegalArgumentException"), (3, "java/lang/IllegalStateException")] M fo) (oQ D cA o qo) (oA o qo sz)) 5 30 (oA o qo sz) := by
  refine met_ofWH (cc := c_W_seen) (maxL := 7) (ret := (some .int)) (hh := [(0, 13, 16, 13), (0, 13, 20, 15), (0, 13, 24, 17)]) (by decide) rfl ?_
  intro p e s m args below meth c s₁ B hml htab hv
  obtain ⟨rfl, ⟨hsz, hP, hK⟩, hO, hne, hG, hN⟩ := hv
  have hx := B.exec
  have hb := B.bytes
  have hr := B.returns
  have hts0 := atoms_spec (ws := wmW y_W_seen c_W_seen 7 (some .int) [(0, 13, 16, 13), (0, 13, 20, 15), (0, 13, 24, 17)]) B.pre
  have hts := wmW_x aK_X_seen hts0
  have hown : s.vm.findClass "ShopDesksLaw" = some m.cls := findClass_of_methodNamed B.named
  have hlocks := B.notSynchronized
  subst hsz
  have hS : va_S (oA o qo s.heap.size) s.heap s.heap [] := va_S.rf
  have hl := lv_entry ([.ref (o + 0), .int x, .int y, .int th, .int kd, .ref qo]) (n := 7) (Nat.le_of_ble_eq_true rfl)
  rw [lg_entry_eq]
  generalize (lg_sl ([.ref (o + 0), .int x, .int y, .int th, .int kd, .ref qo]) ++ List.replicate (7 - (lg_sl ([.ref (o + 0), .int x, .int y, .int th, .int kd, .ref qo])).length) Slot.unset).toArray = ls at hl ⊢
  have hl : lv_has ls 7 [(0, .ref (o + 0)), (1, .int x), (2, .int y), (3, .int th), (4, .int kd), (5, .ref qo)] := hl
  refine lv_aload hx hb d_W_seen_0 (lv_at hl 5 rfl) ?_
  refine lv_iconst (v := 0) hx hb d_W_seen_2 (by decide) ?_
  refine lv_aload_n hx hb d_W_seen_3 rfl (lv_at hl 0 rfl) ?_
  refine lv_iload_n hx hb d_W_seen_4 rfl (lv_at hl 1 rfl) ?_
  refine lv_iload_n hx hb d_W_seen_5 rfl (lv_at hl 2 rfl) ?_
  refine lv_iload_n hx hb d_W_seen_6 rfl (lv_at hl 3 rfl) ?_
  refine lv_iload hx hb d_W_seen_7 (lv_at hl 4 rfl) ?_
  refine ow_Vl (pE := fun E => (E = "java/lang/IndexOutOfBoundsException" ∧ (xbad x 4 ∨ xbad y (nI sc) ∨ xbad th 10)) ∨ (E = "java/lang/IllegalArgumentException" ∧ xin x 4 ∧ xin y (nI sc) ∧ xin th 10 ∧ xbad kd 4) ∨ (E = "java/lang/IllegalStateException" ∧ xin y (nI sc) ∧ xin th 10 ∧ ∃ a b, a < 4 ∧ b < 4 ∧ x = nI a ∧ kd = nI b ∧ M.1 33 (a * 4 + b) = 0)) ⟨hx, hb, hml, hown, hts⟩ (k_X_seen l hl9 D cA o _ M sc hsc esc z od hse bs hbs x y th kd) (kV hts 4 aK_X_seen aM_W_53 aI_X_seen aV_X_seen aN_X nm_X_seen rfl rfl ⟨(Nat.le_of_ble_eq_true rfl), (Nat.le_of_ble_eq_true rfl)⟩) hK hP hO hne hG hS rfl hl.1 rfl (Nat.le_of_ble_eq_true rfl) d_W_seen_9 ⟨(Nat.le_of_ble_eq_true rfl), (Nat.le_of_ble_eq_true rfl)⟩ (fun E ce9 q9 H locs hE hP hO hS hcell hcv hcl => ?_) (fun r9 M1 H locs hw hP hO hS => ?_)
  · have hE3 : E = "java/lang/IndexOutOfBoundsException" ∨ E = "java/lang/IllegalArgumentException" ∨ E = "java/lang/IllegalStateException" := by
      rcases hE with h9 | h9 | h9
      · exact Or.inl h9.1
      · exact Or.inr (Or.inl h9.1)
      · exact Or.inr (Or.inr (h9.1))
    rcases hE3 with rfl | rfl | rfl
    · refine wr_catch hown htab [] (0, 13, 16, 13) [(0, 13, 20, 15), (0, 13, 24, 17)] rfl (fun z hz => absurd hz List.not_mem_nil) (by decide) hN (by decide) (by decide) (by decide) (hts _ (al aC_W_13)) (x3_cast hG (by decide)) hcell hcv hcl ?_
      refine lv_astore (lv' := [(6, .ref q9), (0, .ref (o + 0)), (1, .int x), (2, .int y), (3, .int th), (4, .int kd), (5, .ref qo)]) hx hb d_W_seen_16 hl (by decide) rfl (fun ls hl => ?_)
      refine lv_iconst (v := 1) hx hb d_W_seen_18 (by decide) ?_
      refine W.widen (k := 5) (n := 30) (Nat.le_of_ble_eq_true rfl) (Nat.le_of_ble_eq_true rfl) ?_
      exact W.iret (v := 1) hx hb hr (fun tz hz9 hW9 => ⟨⟨1, (M, fo), rfl, Or.inr ⟨rfl, (1, "java/lang/IndexOutOfBoundsException"), List.mem_cons_self, rfl, hE⟩, by rw [hz9]; exact hP, by rw [hz9]; exact hO, va_K.moved hW9.alike hK⟩, hS.F hz9⟩) hS.2.2 d_W_seen_19
    · refine wr_catch hown htab [("java/lang/IndexOutOfBoundsException", (0, 13, 16, 13))] (0, 13, 20, 15) [(0, 13, 24, 17)] rfl (List.forall_mem_cons.mpr ⟨⟨by decide, by decide, by decide, hts _ (al aC_W_13)⟩, (fun z hz => absurd hz List.not_mem_nil)⟩) (by decide) hN (by decide) (by decide) (by decide) (hts _ (al aC_W_15)) (x3_cast hG (by decide)) hcell hcv hcl ?_
      refine lv_astore (lv' := [(6, .ref q9), (0, .ref (o + 0)), (1, .int x), (2, .int y), (3, .int th), (4, .int kd), (5, .ref qo)]) hx hb d_W_seen_20 hl (by decide) rfl (fun ls hl => ?_)
      refine lv_iconst (v := 2) hx hb d_W_seen_22 (by decide) ?_
      refine W.widen (k := 5) (n := 30) (Nat.le_of_ble_eq_true rfl) (Nat.le_of_ble_eq_true rfl) ?_
      exact W.iret (v := 2) hx hb hr (fun tz hz9 hW9 => ⟨⟨2, (M, fo), rfl, Or.inr ⟨rfl, (2, "java/lang/IllegalArgumentException"), (List.mem_cons_of_mem _ List.mem_cons_self), rfl, hE⟩, by rw [hz9]; exact hP, by rw [hz9]; exact hO, va_K.moved hW9.alike hK⟩, hS.F hz9⟩) hS.2.2 d_W_seen_23
    · refine wr_catch hown htab [("java/lang/IndexOutOfBoundsException", (0, 13, 16, 13)), ("java/lang/IllegalArgumentException", (0, 13, 20, 15))] (0, 13, 24, 17) [] rfl (List.forall_mem_cons.mpr ⟨⟨by decide, by decide, by decide, hts _ (al aC_W_13)⟩, (List.forall_mem_cons.mpr ⟨⟨by decide, by decide, by decide, hts _ (al aC_W_15)⟩, (fun z hz => absurd hz List.not_mem_nil)⟩)⟩) (by decide) hN (by decide) (by decide) (by decide) (hts _ (al aC_W_17)) (x3_cast hG (by decide)) hcell hcv hcl ?_
      refine lv_astore (lv' := [(6, .ref q9), (0, .ref (o + 0)), (1, .int x), (2, .int y), (3, .int th), (4, .int kd), (5, .ref qo)]) hx hb d_W_seen_24 hl (by decide) rfl (fun ls hl => ?_)
      refine lv_iconst (v := 3) hx hb d_W_seen_26 (by decide) ?_
      refine W.widen (k := 5) (n := 30) (Nat.le_of_ble_eq_true rfl) (Nat.le_of_ble_eq_true rfl) ?_
      exact W.iret (v := 3) hx hb hr (fun tz hz9 hW9 => ⟨⟨3, (M, fo), rfl, Or.inr ⟨rfl, (3, "java/lang/IllegalStateException"), (List.mem_cons_of_mem _ (List.mem_cons_of_mem _ List.mem_cons_self)), rfl, hE⟩, by rw [hz9]; exact hP, by rw [hz9]; exact hO, va_K.moved hW9.alike hK⟩, hS.F hz9⟩) hS.2.2 d_W_seen_27
  · refine ow_last hx hb hK hP hO hne hS (x := r9) d_W_seen_12 (fun H locs hP hO hS => ?_)
    refine lv_goto (tgt := 28) hx hb d_W_seen_13 (by decide) ?_
    refine lv_iconst (v := 0) hx hb d_W_seen_28 (by decide) ?_
    refine W.widen (k := 5) (n := 30) (Nat.le_of_ble_eq_true rfl) (Nat.le_of_ble_eq_true rfl) ?_
    exact W.iret (v := 0) hx hb hr (fun tz hz9 hW9 => ⟨⟨0, (M1, vp_updL fo 0 r9), rfl, Or.inl ⟨rfl, r9, hw, (updL_s (f := fo) (x := r9))⟩, by rw [hz9]; exact hP, by rw [hz9]; exact hO, va_K.moved hW9.alike hK⟩, hS.F hz9⟩) hS.2.2 d_W_seen_29

set_option maxHeartbeats 4000000 in
set_option maxRecDepth 100000 in
/-- W_entry -/
theorem k_W_entry (l : Launch) (hl9 : l.stackTraces = false) (D : va_G) (cA : Nat → ClassId) (o sz qo : Nat) (M : wM) (fo : Nat → Int64) (ec : Nat) (hec : ec ≤ 60) (eec : M.2.2 34 2 = nI ec) (day : Int32) : Met l y_W_entry (wmW y_W_entry c_W_entry 4 (some .int) [(0, 9, 12, 15), (0, 9, 15, 17)]) { frames := 8, cells := 2, slots := 12, locals := 123 } (va_Pc [.ref (o + 0), .int day, .ref qo] (oB D cA o qo M fo sz)) (va_Qi (oPost (fun r M1 => xin day 3600 ∧ ec < 60 ∧ M1 = x_opened M ec day ∧ r = nI ec) (fun r : Int32 => r.toInt64) (fun E => (E = "java/lang/IllegalArgumentException" ∧ xbad day 3600) ∨ (E = "java/lang/IllegalStateException" ∧ xin day 3600 ∧ ec = 60)) [(1, "java/lang/IllegalArgumentException"), (2, "java/lang/IllegalStateException")] M fo) (oQ D cA o qo) (oA o qo sz)) 2 12 (oA o qo sz) := by
  refine met_ofWH (cc := c_W_entry) (maxL := 4) (ret := (some .int)) (hh := [(0, 9, 12, 15), (0, 9, 15, 17)]) (by decide) rfl ?_
  intro p e s m args below meth c s₁ B hml htab hv
  obtain ⟨rfl, ⟨hsz, hP, hK⟩, hO, hne, hG, hN⟩ := hv
  have hx := B.exec
  have hb := B.bytes
  have hr := B.returns
  have hts0 := atoms_spec (ws := wmW y_W_entry c_W_entry 4 (some .int) [(0, 9, 12, 15), (0, 9, 15, 17)]) B.pre
  have hts := wmW_x aK_X_entry hts0
  have hown : s.vm.findClass "ShopDesksLaw" = some m.cls := findClass_of_methodNamed B.named
  have hlocks := B.notSynchronized
  subst hsz
  have hS : va_S (oA o qo s.heap.size) s.heap s.heap [] := va_S.rf
  have hl := lv_entry ([.ref (o + 0), .int day, .ref qo]) (n := 4) (Nat.le_of_ble_eq_true rfl)
  rw [lg_entry_eq]
  generalize (lg_sl ([.ref (o + 0), .int day, .ref qo]) ++ List.replicate (4 - (lg_sl ([.ref (o + 0), .int day, .ref qo])).length) Slot.unset).toArray = ls at hl ⊢
  have hl : lv_has ls 4 [(0, .ref (o + 0)), (1, .int day), (2, .ref qo)] := hl
  refine lv_aload_n hx hb d_W_entry_0 rfl (lv_at hl 2 rfl) ?_
  refine lv_iconst (v := 0) hx hb d_W_entry_1 (by decide) ?_
  refine lv_aload_n hx hb d_W_entry_2 rfl (lv_at hl 0 rfl) ?_
  refine lv_iload_n hx hb d_W_entry_3 rfl (lv_at hl 1 rfl) ?_
  refine ow_Vi (pE := fun E => (E = "java/lang/IllegalArgumentException" ∧ xbad day 3600) ∨ (E = "java/lang/IllegalStateException" ∧ xin day 3600 ∧ ec = 60)) ⟨hx, hb, hml, hown, hts⟩ (k_X_entry l hl9 D cA o _ M ec hec eec day) (kV hts 1 aK_X_entry aM_W_56 aI_X_entry aV_X_entry aN_X nm_X_entry rfl rfl ⟨(Nat.le_of_ble_eq_true rfl), (Nat.le_of_ble_eq_true rfl)⟩) hK hP hO hne hG hS rfl hl.1 rfl (Nat.le_of_ble_eq_true rfl) d_W_entry_4 ⟨(Nat.le_of_ble_eq_true rfl), (Nat.le_of_ble_eq_true rfl)⟩ (fun E ce9 q9 H locs hE hP hO hS hcell hcv hcl => ?_) (fun r9 M1 H locs hw hP hO hS => ?_)
  · have hE3 : E = "java/lang/IllegalArgumentException" ∨ E = "java/lang/IllegalStateException" := by
      rcases hE with h9 | h9
      · exact Or.inl h9.1
      · exact Or.inr (h9.1)
    rcases hE3 with rfl | rfl
    · refine wr_catch hown htab [] (0, 9, 12, 15) [(0, 9, 15, 17)] rfl (fun z hz => absurd hz List.not_mem_nil) (by decide) hN (by decide) (by decide) (by decide) (hts _ (al aC_W_15)) (x3_cast hG (by decide)) hcell hcv hcl ?_
      refine lv_astore_n (lv' := [(3, .ref q9), (0, .ref (o + 0)), (1, .int day), (2, .ref qo)]) hx hb d_W_entry_12 rfl hl (by decide) rfl (fun ls hl => ?_)
      refine lv_iconst (v := 1) hx hb d_W_entry_13 (by decide) ?_
      refine W.widen (k := 2) (n := 12) (Nat.le_of_ble_eq_true rfl) (Nat.le_of_ble_eq_true rfl) ?_
      exact W.iret (v := 1) hx hb hr (fun tz hz9 hW9 => ⟨⟨1, (M, fo), rfl, Or.inr ⟨rfl, (1, "java/lang/IllegalArgumentException"), List.mem_cons_self, rfl, hE⟩, by rw [hz9]; exact hP, by rw [hz9]; exact hO, va_K.moved hW9.alike hK⟩, hS.F hz9⟩) hS.2.2 d_W_entry_14
    · refine wr_catch hown htab [("java/lang/IllegalArgumentException", (0, 9, 12, 15))] (0, 9, 15, 17) [] rfl (List.forall_mem_cons.mpr ⟨⟨by decide, by decide, by decide, hts _ (al aC_W_15)⟩, (fun z hz => absurd hz List.not_mem_nil)⟩) (by decide) hN (by decide) (by decide) (by decide) (hts _ (al aC_W_17)) (x3_cast hG (by decide)) hcell hcv hcl ?_
      refine lv_astore_n (lv' := [(3, .ref q9), (0, .ref (o + 0)), (1, .int day), (2, .ref qo)]) hx hb d_W_entry_15 rfl hl (by decide) rfl (fun ls hl => ?_)
      refine lv_iconst (v := 2) hx hb d_W_entry_16 (by decide) ?_
      refine W.widen (k := 2) (n := 12) (Nat.le_of_ble_eq_true rfl) (Nat.le_of_ble_eq_true rfl) ?_
      exact W.iret (v := 2) hx hb hr (fun tz hz9 hW9 => ⟨⟨2, (M, fo), rfl, Or.inr ⟨rfl, (2, "java/lang/IllegalStateException"), (List.mem_cons_of_mem _ List.mem_cons_self), rfl, hE⟩, by rw [hz9]; exact hP, by rw [hz9]; exact hO, va_K.moved hW9.alike hK⟩, hS.F hz9⟩) hS.2.2 d_W_entry_17
  · refine lv_i2l hx hb d_W_entry_7 rfl ?_
    refine ow_last hx hb hK hP hO hne hS (x := r9.toInt64) d_W_entry_8 (fun H locs hP hO hS => ?_)
    refine lv_goto (tgt := 18) hx hb d_W_entry_9 (by decide) ?_
    refine lv_iconst (v := 0) hx hb d_W_entry_18 (by decide) ?_
    refine W.widen (k := 2) (n := 12) (Nat.le_of_ble_eq_true rfl) (Nat.le_of_ble_eq_true rfl) ?_
    exact W.iret (v := 0) hx hb hr (fun tz hz9 hW9 => ⟨⟨0, (M1, vp_updL fo 0 r9.toInt64), rfl, Or.inl ⟨rfl, r9, hw, (updL_s (f := fo) (x := r9.toInt64))⟩, by rw [hz9]; exact hP, by rw [hz9]; exact hO, va_K.moved hW9.alike hK⟩, hS.F hz9⟩) hS.2.2 d_W_entry_19

set_option maxHeartbeats 4000000 in
set_option maxRecDepth 100000 in
/-- W_row -/
theorem k_W_row (l : Launch) (hl9 : l.stackTraces = false) (D : va_G) (cA : Nat → ClassId) (o sz qo : Nat) (M : wM) (fo : Nat → Int64) (ec : Nat) (hec : ec ≤ 60) (eec : M.2.2 34 2 = nI ec) (rc : Nat → Nat) (hrc : ∀ j, j < 60 → rc j ≤ 6 ∧ M.2.2 (37 + 3 * j) 2 = nI (rc j)) (x ac : Int32) (ce : Int64) : Met l y_W_row (wmW y_W_row c_W_row 7 (some .int) [(0, 12, 15, 13), (0, 12, 19, 15), (0, 12, 23, 17)]) { frames := 8, cells := 3, slots := 18, locals := 128 } (va_Pc [.ref (o + 0), .int x, .int ac, .long ce, .ref qo] (oB D cA o qo M fo sz)) (va_Qi (oPost (fun r M1 => xin ac 10 ∧ ¬ ce < -1000000000 ∧ ce ≤ 1000000000 ∧ ∃ k, k < ec ∧ x = nI k ∧ M.2.2 (37 + 3 * k) 4 = 0 ∧ rc k < 6 ∧ M1 = x_row M k (rc k) ac ce ∧ r = nI (rc k + 1)) (fun r : Int32 => r.toInt64) (fun E => (E = "java/lang/IndexOutOfBoundsException" ∧ (xbad x (nI ec) ∨ xbad ac 10)) ∨ (E = "java/lang/IllegalArgumentException" ∧ xin x (nI ec) ∧ xin ac 10 ∧ (ce < -1000000000 ∨ ¬ ce ≤ 1000000000)) ∨ (E = "java/lang/IllegalStateException" ∧ xin ac 10 ∧ ¬ ce < -1000000000 ∧ ce ≤ 1000000000 ∧ ∃ k, k < ec ∧ x = nI k ∧ (¬ M.2.2 (37 + 3 * k) 4 = 0 ∨ rc k = 6))) [(1, "java/lang/IndexOutOfBoundsException"), (2, "java/lang/IllegalArgumentException"), (3, "java/lang/IllegalStateException")] M fo) (oQ D cA o qo) (oA o qo sz)) 3 18 (oA o qo sz) := by
  refine met_ofWH (cc := c_W_row) (maxL := 7) (ret := (some .int)) (hh := [(0, 12, 15, 13), (0, 12, 19, 15), (0, 12, 23, 17)]) (by decide) rfl ?_
  intro p e s m args below meth c s₁ B hml htab hv
  obtain ⟨rfl, ⟨hsz, hP, hK⟩, hO, hne, hG, hN⟩ := hv
  have hx := B.exec
  have hb := B.bytes
  have hr := B.returns
  have hts0 := atoms_spec (ws := wmW y_W_row c_W_row 7 (some .int) [(0, 12, 15, 13), (0, 12, 19, 15), (0, 12, 23, 17)]) B.pre
  have hts := wmW_x aK_X_row hts0
  have hown : s.vm.findClass "ShopDesksLaw" = some m.cls := findClass_of_methodNamed B.named
  have hlocks := B.notSynchronized
  subst hsz
  have hS : va_S (oA o qo s.heap.size) s.heap s.heap [] := va_S.rf
  have hl := lv_entry ([.ref (o + 0), .int x, .int ac, .long ce, .ref qo]) (n := 7) (Nat.le_of_ble_eq_true rfl)
  rw [lg_entry_eq]
  generalize (lg_sl ([.ref (o + 0), .int x, .int ac, .long ce, .ref qo]) ++ List.replicate (7 - (lg_sl ([.ref (o + 0), .int x, .int ac, .long ce, .ref qo])).length) Slot.unset).toArray = ls at hl ⊢
  have hl : lv_has ls 7 [(0, .ref (o + 0)), (1, .int x), (2, .int ac), (3, .long ce), (5, .ref qo)] := hl
  refine lv_aload hx hb d_W_row_0 (lv_at hl 4 rfl) ?_
  refine lv_iconst (v := 0) hx hb d_W_row_2 (by decide) ?_
  refine lv_aload_n hx hb d_W_row_3 rfl (lv_at hl 0 rfl) ?_
  refine lv_iload_n hx hb d_W_row_4 rfl (lv_at hl 1 rfl) ?_
  refine lv_iload_n hx hb d_W_row_5 rfl (lv_at hl 2 rfl) ?_
  refine lv_lload_n hx hb d_W_row_6 rfl (lv_at hl 3 rfl) ?_
  refine ow_Vi (pE := fun E => (E = "java/lang/IndexOutOfBoundsException" ∧ (xbad x (nI ec) ∨ xbad ac 10)) ∨ (E = "java/lang/IllegalArgumentException" ∧ xin x (nI ec) ∧ xin ac 10 ∧ (ce < -1000000000 ∨ ¬ ce ≤ 1000000000)) ∨ (E = "java/lang/IllegalStateException" ∧ xin ac 10 ∧ ¬ ce < -1000000000 ∧ ce ≤ 1000000000 ∧ ∃ k, k < ec ∧ x = nI k ∧ (¬ M.2.2 (37 + 3 * k) 4 = 0 ∨ rc k = 6))) ⟨hx, hb, hml, hown, hts⟩ (k_X_row l hl9 D cA o _ M ec hec eec rc hrc x ac ce) (kV hts 3 aK_X_row aM_W_59 aI_X_row aV_X_row aN_X nm_X_row rfl rfl ⟨(Nat.le_of_ble_eq_true rfl), (Nat.le_of_ble_eq_true rfl)⟩) hK hP hO hne hG hS rfl hl.1 rfl (Nat.le_of_ble_eq_true rfl) d_W_row_7 ⟨(Nat.le_of_ble_eq_true rfl), (Nat.le_of_ble_eq_true rfl)⟩ (fun E ce9 q9 H locs hE hP hO hS hcell hcv hcl => ?_) (fun r9 M1 H locs hw hP hO hS => ?_)
  · have hE3 : E = "java/lang/IndexOutOfBoundsException" ∨ E = "java/lang/IllegalArgumentException" ∨ E = "java/lang/IllegalStateException" := by
      rcases hE with h9 | h9 | h9
      · exact Or.inl h9.1
      · exact Or.inr (Or.inl h9.1)
      · exact Or.inr (Or.inr (h9.1))
    rcases hE3 with rfl | rfl | rfl
    · refine wr_catch hown htab [] (0, 12, 15, 13) [(0, 12, 19, 15), (0, 12, 23, 17)] rfl (fun z hz => absurd hz List.not_mem_nil) (by decide) hN (by decide) (by decide) (by decide) (hts _ (al aC_W_13)) (x3_cast hG (by decide)) hcell hcv hcl ?_
      refine lv_astore (lv' := [(6, .ref q9), (0, .ref (o + 0)), (1, .int x), (2, .int ac), (3, .long ce), (5, .ref qo)]) hx hb d_W_row_15 hl (by decide) rfl (fun ls hl => ?_)
      refine lv_iconst (v := 1) hx hb d_W_row_17 (by decide) ?_
      refine W.widen (k := 3) (n := 18) (Nat.le_of_ble_eq_true rfl) (Nat.le_of_ble_eq_true rfl) ?_
      exact W.iret (v := 1) hx hb hr (fun tz hz9 hW9 => ⟨⟨1, (M, fo), rfl, Or.inr ⟨rfl, (1, "java/lang/IndexOutOfBoundsException"), List.mem_cons_self, rfl, hE⟩, by rw [hz9]; exact hP, by rw [hz9]; exact hO, va_K.moved hW9.alike hK⟩, hS.F hz9⟩) hS.2.2 d_W_row_18
    · refine wr_catch hown htab [("java/lang/IndexOutOfBoundsException", (0, 12, 15, 13))] (0, 12, 19, 15) [(0, 12, 23, 17)] rfl (List.forall_mem_cons.mpr ⟨⟨by decide, by decide, by decide, hts _ (al aC_W_13)⟩, (fun z hz => absurd hz List.not_mem_nil)⟩) (by decide) hN (by decide) (by decide) (by decide) (hts _ (al aC_W_15)) (x3_cast hG (by decide)) hcell hcv hcl ?_
      refine lv_astore (lv' := [(6, .ref q9), (0, .ref (o + 0)), (1, .int x), (2, .int ac), (3, .long ce), (5, .ref qo)]) hx hb d_W_row_19 hl (by decide) rfl (fun ls hl => ?_)
      refine lv_iconst (v := 2) hx hb d_W_row_21 (by decide) ?_
      refine W.widen (k := 3) (n := 18) (Nat.le_of_ble_eq_true rfl) (Nat.le_of_ble_eq_true rfl) ?_
      exact W.iret (v := 2) hx hb hr (fun tz hz9 hW9 => ⟨⟨2, (M, fo), rfl, Or.inr ⟨rfl, (2, "java/lang/IllegalArgumentException"), (List.mem_cons_of_mem _ List.mem_cons_self), rfl, hE⟩, by rw [hz9]; exact hP, by rw [hz9]; exact hO, va_K.moved hW9.alike hK⟩, hS.F hz9⟩) hS.2.2 d_W_row_22
    · refine wr_catch hown htab [("java/lang/IndexOutOfBoundsException", (0, 12, 15, 13)), ("java/lang/IllegalArgumentException", (0, 12, 19, 15))] (0, 12, 23, 17) [] rfl (List.forall_mem_cons.mpr ⟨⟨by decide, by decide, by decide, hts _ (al aC_W_13)⟩, (List.forall_mem_cons.mpr ⟨⟨by decide, by decide, by decide, hts _ (al aC_W_15)⟩, (fun z hz => absurd hz List.not_mem_nil)⟩)⟩) (by decide) hN (by decide) (by decide) (by decide) (hts _ (al aC_W_17)) (x3_cast hG (by decide)) hcell hcv hcl ?_
      refine lv_astore (lv' := [(6, .ref q9), (0, .ref (o + 0)), (1, .int x), (2, .int ac), (3, .long ce), (5, .ref qo)]) hx hb d_W_row_23 hl (by decide) rfl (fun ls hl => ?_)
      refine lv_iconst (v := 3) hx hb d_W_row_25 (by decide) ?_
      refine W.widen (k := 3) (n := 18) (Nat.le_of_ble_eq_true rfl) (Nat.le_of_ble_eq_true rfl) ?_
      exact W.iret (v := 3) hx hb hr (fun tz hz9 hW9 => ⟨⟨3, (M, fo), rfl, Or.inr ⟨rfl, (3, "java/lang/IllegalStateException"), (List.mem_cons_of_mem _ (List.mem_cons_of_mem _ List.mem_cons_self)), rfl, hE⟩, by rw [hz9]; exact hP, by rw [hz9]; exact hO, va_K.moved hW9.alike hK⟩, hS.F hz9⟩) hS.2.2 d_W_row_26
  · refine lv_i2l hx hb d_W_row_10 rfl ?_
    refine ow_last hx hb hK hP hO hne hS (x := r9.toInt64) d_W_row_11 (fun H locs hP hO hS => ?_)
    refine lv_goto (tgt := 27) hx hb d_W_row_12 (by decide) ?_
    refine lv_iconst (v := 0) hx hb d_W_row_27 (by decide) ?_
    refine W.widen (k := 3) (n := 18) (Nat.le_of_ble_eq_true rfl) (Nat.le_of_ble_eq_true rfl) ?_
    exact W.iret (v := 0) hx hb hr (fun tz hz9 hW9 => ⟨⟨0, (M1, vp_updL fo 0 r9.toInt64), rfl, Or.inl ⟨rfl, r9, hw, (updL_s (f := fo) (x := r9.toInt64))⟩, by rw [hz9]; exact hP, by rw [hz9]; exact hO, va_K.moved hW9.alike hK⟩, hS.F hz9⟩) hS.2.2 d_W_row_28

set_option maxHeartbeats 4000000 in
set_option maxRecDepth 100000 in
/-- W_close -/
theorem k_W_close (l : Launch) (hl9 : l.stackTraces = false) (D : va_G) (cA : Nat → ClassId) (o sz qo : Nat) (M : wM) (fo : Nat → Int64) (ec : Nat) (hec : ec ≤ 60) (eec : M.2.2 34 2 = nI ec) (rc : Nat → Nat) (hrc : ∀ j, j < 60 → rc j ≤ 6 ∧ M.2.2 (37 + 3 * j) 2 = nI (rc j)) (ln : Nat) (eln : M.2.2 34 3 = nI ln) (hln : ∀ j, j < ec → M.2.2 (37 + 3 * j) 4 = 0 → ln < 60) (x : Int32) : Met l y_W_close (wmW y_W_close c_W_close 4 (some .int) [(0, 9, 12, 13), (0, 9, 15, 17)]) { frames := 8, cells := 2, slots := 12, locals := 125 } (va_Pc [.ref (o + 0), .int x, .ref qo] (oB D cA o qo M fo sz)) (va_Qi (oPost (fun r M1 => ∃ k, k < ec ∧ x = nI k ∧ M.2.2 (37 + 3 * k) 4 = 0 ∧ ((r = 0 ∧ M1 = M ∧ (M.2.2 (37 + 3 * k) 3 / 30 ≤ M.2.2 34 4 ∨ ¬ (0 < rc k ∧ x_tot M k (rc k) = 0))) ∨ (r = nI (ln + 1) ∧ M1 = x_numbered M ln k ∧ ¬ M.2.2 (37 + 3 * k) 3 / 30 ≤ M.2.2 34 4 ∧ 0 < rc k ∧ x_tot M k (rc k) = 0))) (fun r : Int32 => r.toInt64) (fun E => (E = "java/lang/IndexOutOfBoundsException" ∧ xbad x (nI ec)) ∨ (E = "java/lang/IllegalStateException" ∧ ∃ k, k < ec ∧ x = nI k ∧ ¬ M.2.2 (37 + 3 * k) 4 = 0)) [(1, "java/lang/IndexOutOfBoundsException"), (2, "java/lang/IllegalStateException")] M fo) (oQ D cA o qo) (oA o qo sz)) 2 12 (oA o qo sz) := by
  refine met_ofWH (cc := c_W_close) (maxL := 4) (ret := (some .int)) (hh := [(0, 9, 12, 13), (0, 9, 15, 17)]) (by decide) rfl ?_
  intro p e s m args below meth c s₁ B hml htab hv
  obtain ⟨rfl, ⟨hsz, hP, hK⟩, hO, hne, hG, hN⟩ := hv
  have hx := B.exec
  have hb := B.bytes
  have hr := B.returns
  have hts0 := atoms_spec (ws := wmW y_W_close c_W_close 4 (some .int) [(0, 9, 12, 13), (0, 9, 15, 17)]) B.pre
  have hts := wmW_x aK_X_close hts0
  have hown : s.vm.findClass "ShopDesksLaw" = some m.cls := findClass_of_methodNamed B.named
  have hlocks := B.notSynchronized
  subst hsz
  have hS : va_S (oA o qo s.heap.size) s.heap s.heap [] := va_S.rf
  have hl := lv_entry ([.ref (o + 0), .int x, .ref qo]) (n := 4) (Nat.le_of_ble_eq_true rfl)
  rw [lg_entry_eq]
  generalize (lg_sl ([.ref (o + 0), .int x, .ref qo]) ++ List.replicate (4 - (lg_sl ([.ref (o + 0), .int x, .ref qo])).length) Slot.unset).toArray = ls at hl ⊢
  have hl : lv_has ls 4 [(0, .ref (o + 0)), (1, .int x), (2, .ref qo)] := hl
  refine lv_aload_n hx hb d_W_close_0 rfl (lv_at hl 2 rfl) ?_
  refine lv_iconst (v := 0) hx hb d_W_close_1 (by decide) ?_
  refine lv_aload_n hx hb d_W_close_2 rfl (lv_at hl 0 rfl) ?_
  refine lv_iload_n hx hb d_W_close_3 rfl (lv_at hl 1 rfl) ?_
  refine ow_Vi (pE := fun E => (E = "java/lang/IndexOutOfBoundsException" ∧ xbad x (nI ec)) ∨ (E = "java/lang/IllegalStateException" ∧ ∃ k, k < ec ∧ x = nI k ∧ ¬ M.2.2 (37 + 3 * k) 4 = 0)) ⟨hx, hb, hml, hown, hts⟩ (k_X_close l hl9 D cA o _ M ec hec eec rc hrc ln eln hln x) (kV hts 1 aK_X_close aM_W_63 aI_X_close aV_X_close aN_X nm_X_close rfl rfl ⟨(Nat.le_of_ble_eq_true rfl), (Nat.le_of_ble_eq_true rfl)⟩) hK hP hO hne hG hS rfl hl.1 rfl (Nat.le_of_ble_eq_true rfl) d_W_close_4 ⟨(Nat.le_of_ble_eq_true rfl), (Nat.le_of_ble_eq_true rfl)⟩ (fun E ce9 q9 H locs hE hP hO hS hcell hcv hcl => ?_) (fun r9 M1 H locs hw hP hO hS => ?_)
  · have hE3 : E = "java/lang/IndexOutOfBoundsException" ∨ E = "java/lang/IllegalStateException" := by
      rcases hE with h9 | h9
      · exact Or.inl h9.1
      · exact Or.inr (h9.1)
    rcases hE3 with rfl | rfl
    · refine wr_catch hown htab [] (0, 9, 12, 13) [(0, 9, 15, 17)] rfl (fun z hz => absurd hz List.not_mem_nil) (by decide) hN (by decide) (by decide) (by decide) (hts _ (al aC_W_13)) (x3_cast hG (by decide)) hcell hcv hcl ?_
      refine lv_astore_n (lv' := [(3, .ref q9), (0, .ref (o + 0)), (1, .int x), (2, .ref qo)]) hx hb d_W_close_12 rfl hl (by decide) rfl (fun ls hl => ?_)
      refine lv_iconst (v := 1) hx hb d_W_close_13 (by decide) ?_
      refine W.widen (k := 2) (n := 12) (Nat.le_of_ble_eq_true rfl) (Nat.le_of_ble_eq_true rfl) ?_
      exact W.iret (v := 1) hx hb hr (fun tz hz9 hW9 => ⟨⟨1, (M, fo), rfl, Or.inr ⟨rfl, (1, "java/lang/IndexOutOfBoundsException"), List.mem_cons_self, rfl, hE⟩, by rw [hz9]; exact hP, by rw [hz9]; exact hO, va_K.moved hW9.alike hK⟩, hS.F hz9⟩) hS.2.2 d_W_close_14
    · refine wr_catch hown htab [("java/lang/IndexOutOfBoundsException", (0, 9, 12, 13))] (0, 9, 15, 17) [] rfl (List.forall_mem_cons.mpr ⟨⟨by decide, by decide, by decide, hts _ (al aC_W_13)⟩, (fun z hz => absurd hz List.not_mem_nil)⟩) (by decide) hN (by decide) (by decide) (by decide) (hts _ (al aC_W_17)) (x3_cast hG (by decide)) hcell hcv hcl ?_
      refine lv_astore_n (lv' := [(3, .ref q9), (0, .ref (o + 0)), (1, .int x), (2, .ref qo)]) hx hb d_W_close_15 rfl hl (by decide) rfl (fun ls hl => ?_)
      refine lv_iconst (v := 2) hx hb d_W_close_16 (by decide) ?_
      refine W.widen (k := 2) (n := 12) (Nat.le_of_ble_eq_true rfl) (Nat.le_of_ble_eq_true rfl) ?_
      exact W.iret (v := 2) hx hb hr (fun tz hz9 hW9 => ⟨⟨2, (M, fo), rfl, Or.inr ⟨rfl, (2, "java/lang/IllegalStateException"), (List.mem_cons_of_mem _ List.mem_cons_self), rfl, hE⟩, by rw [hz9]; exact hP, by rw [hz9]; exact hO, va_K.moved hW9.alike hK⟩, hS.F hz9⟩) hS.2.2 d_W_close_17
  · refine lv_i2l hx hb d_W_close_7 rfl ?_
    refine ow_last hx hb hK hP hO hne hS (x := r9.toInt64) d_W_close_8 (fun H locs hP hO hS => ?_)
    refine lv_goto (tgt := 18) hx hb d_W_close_9 (by decide) ?_
    refine lv_iconst (v := 0) hx hb d_W_close_18 (by decide) ?_
    refine W.widen (k := 2) (n := 12) (Nat.le_of_ble_eq_true rfl) (Nat.le_of_ble_eq_true rfl) ?_
    exact W.iret (v := 0) hx hb hr (fun tz hz9 hW9 => ⟨⟨0, (M1, vp_updL fo 0 r9.toInt64), rfl, Or.inl ⟨rfl, r9, hw, (updL_s (f := fo) (x := r9.toInt64))⟩, by rw [hz9]; exact hP, by rw [hz9]; exact hO, va_K.moved hW9.alike hK⟩, hS.F hz9⟩) hS.2.2 d_W_close_19

set_option maxHeartbeats 4000000 in
set_option maxRecDepth 100000 in
/-- W_balance -/
theorem k_W_balance (l : Launch) (hl9 : l.stackTraces = false) (D : va_G) (cA : Nat → ClassId) (o sz qo : Nat) (M : wM) (fo : Nat → Int64) (ec : Nat) (hec : ec ≤ 60) (eec : M.2.2 34 2 = nI ec) (rc : Nat → Nat) (hrc : ∀ j, j < 60 → rc j ≤ 6 ∧ M.2.2 (37 + 3 * j) 2 = nI (rc j)) (ac day : Int32) : Met l y_W_balance (wmW y_W_balance c_W_balance 5 (some .int) [(0, 9, 12, 13)]) { frames := 8, cells := 1, slots := 6, locals := 124 } (va_Pc [.ref (o + 0), .int ac, .int day, .ref qo] (oB D cA o qo M fo sz)) (va_Qi (oPost (fun r M1 => M1 = M ∧ xin ac 10 ∧ r = x_bal M rc ac day ec) (fun r : Int64 => r) (fun E => E = "java/lang/IndexOutOfBoundsException" ∧ xbad ac 10) [(1, "java/lang/IndexOutOfBoundsException")] M fo) (oQ D cA o qo) (oA o qo sz)) 1 6 (oA o qo sz) := by
  refine met_ofWH (cc := c_W_balance) (maxL := 5) (ret := (some .int)) (hh := [(0, 9, 12, 13)]) (by decide) rfl ?_
  intro p e s m args below meth c s₁ B hml htab hv
  obtain ⟨rfl, ⟨hsz, hP, hK⟩, hO, hne, hG, hN⟩ := hv
  have hx := B.exec
  have hb := B.bytes
  have hr := B.returns
  have hts0 := atoms_spec (ws := wmW y_W_balance c_W_balance 5 (some .int) [(0, 9, 12, 13)]) B.pre
  have hts := wmW_x aK_X_balance hts0
  have hown : s.vm.findClass "ShopDesksLaw" = some m.cls := findClass_of_methodNamed B.named
  have hlocks := B.notSynchronized
  subst hsz
  have hS : va_S (oA o qo s.heap.size) s.heap s.heap [] := va_S.rf
  have hl := lv_entry ([.ref (o + 0), .int ac, .int day, .ref qo]) (n := 5) (Nat.le_of_ble_eq_true rfl)
  rw [lg_entry_eq]
  generalize (lg_sl ([.ref (o + 0), .int ac, .int day, .ref qo]) ++ List.replicate (5 - (lg_sl ([.ref (o + 0), .int ac, .int day, .ref qo])).length) Slot.unset).toArray = ls at hl ⊢
  have hl : lv_has ls 5 [(0, .ref (o + 0)), (1, .int ac), (2, .int day), (3, .ref qo)] := hl
  refine lv_aload_n hx hb d_W_balance_0 rfl (lv_at hl 3 rfl) ?_
  refine lv_iconst (v := 0) hx hb d_W_balance_1 (by decide) ?_
  refine lv_aload_n hx hb d_W_balance_2 rfl (lv_at hl 0 rfl) ?_
  refine lv_iload_n hx hb d_W_balance_3 rfl (lv_at hl 1 rfl) ?_
  refine lv_iload_n hx hb d_W_balance_4 rfl (lv_at hl 2 rfl) ?_
  refine ow_Vl (pE := fun E => E = "java/lang/IndexOutOfBoundsException" ∧ xbad ac 10) ⟨hx, hb, hml, hown, hts⟩ (k_X_balance l hl9 D cA o _ M ec hec eec rc hrc ac day) (kV hts 2 aK_X_balance aM_W_66 aI_X_balance aV_X_balance aN_X nm_X_balance rfl rfl ⟨(Nat.le_of_ble_eq_true rfl), (Nat.le_of_ble_eq_true rfl)⟩) hK hP hO hne hG hS rfl hl.1 rfl (Nat.le_of_ble_eq_true rfl) d_W_balance_5 ⟨(Nat.le_of_ble_eq_true rfl), (Nat.le_of_ble_eq_true rfl)⟩ (fun E ce9 q9 H locs hE hP hO hS hcell hcv hcl => ?_) (fun r9 M1 H locs hw hP hO hS => ?_)
  · have hE3 := hE.1
    subst hE3
    refine wr_catch hown htab [] (0, 9, 12, 13) [] rfl (fun z hz => absurd hz List.not_mem_nil) (by decide) hN (by decide) (by decide) (by decide) (hts _ (al aC_W_13)) (x3_cast hG (by decide)) hcell hcv hcl ?_
    refine lv_astore (lv' := [(4, .ref q9), (0, .ref (o + 0)), (1, .int ac), (2, .int day), (3, .ref qo)]) hx hb d_W_balance_12 hl (by decide) rfl (fun ls hl => ?_)
    refine lv_iconst (v := 1) hx hb d_W_balance_14 (by decide) ?_
    refine W.widen (k := 1) (n := 6) (Nat.le_of_ble_eq_true rfl) (Nat.le_of_ble_eq_true rfl) ?_
    exact W.iret (v := 1) hx hb hr (fun tz hz9 hW9 => ⟨⟨1, (M, fo), rfl, Or.inr ⟨rfl, (1, "java/lang/IndexOutOfBoundsException"), List.mem_cons_self, rfl, hE⟩, by rw [hz9]; exact hP, by rw [hz9]; exact hO, va_K.moved hW9.alike hK⟩, hS.F hz9⟩) hS.2.2 d_W_balance_15
  · refine ow_last hx hb hK hP hO hne hS (x := r9) d_W_balance_8 (fun H locs hP hO hS => ?_)
    refine lv_goto (tgt := 16) hx hb d_W_balance_9 (by decide) ?_
    refine lv_iconst (v := 0) hx hb d_W_balance_16 (by decide) ?_
    refine W.widen (k := 1) (n := 6) (Nat.le_of_ble_eq_true rfl) (Nat.le_of_ble_eq_true rfl) ?_
    exact W.iret (v := 0) hx hb hr (fun tz hz9 hW9 => ⟨⟨0, (M1, vp_updL fo 0 r9), rfl, Or.inl ⟨rfl, r9, hw, (updL_s (f := fo) (x := r9))⟩, by rw [hz9]; exact hP, by rw [hz9]; exact hO, va_K.moved hW9.alike hK⟩, hS.F hz9⟩) hS.2.2 d_W_balance_17

set_option maxHeartbeats 4000000 in
set_option maxRecDepth 100000 in
/-- W_closeMonth -/
theorem k_W_closeMonth (l : Launch) (hl9 : l.stackTraces = false) (D : va_G) (cA : Nat → ClassId) (o sz qo : Nat) (M : wM) (fo : Nat → Int64) (x : Int32) : Met l y_W_closeMonth (wmW y_W_closeMonth c_W_closeMonth 4 (some .int) [(0, 16, 19, 15)]) { frames := 7, cells := 1, slots := 6, locals := 107 } (va_Pc [.ref (o + 0), .int x, .ref qo] (oB D cA o qo M fo sz)) (va_Qi (oPost (fun r M1 => xin x 120 ∧ ((r = 0 ∧ M1 = M ∧ x ≤ M.2.2 34 4) ∨ (r = 1 ∧ M1 = wF M 34 4 x ∧ M.2.2 34 4 < x))) (fun r : Int32 => if r = 0 then (0 : Int64) else 1) (fun E => E = "java/lang/IllegalArgumentException" ∧ xbad x 120) [(1, "java/lang/IllegalArgumentException")] M fo) (oQ D cA o qo) (oA o qo sz)) 1 6 (oA o qo sz) := by
  refine met_ofWH (cc := c_W_closeMonth) (maxL := 4) (ret := (some .int)) (hh := [(0, 16, 19, 15)]) (by decide) rfl ?_
  intro p e s m args below meth c s₁ B hml htab hv
  obtain ⟨rfl, ⟨hsz, hP, hK⟩, hO, hne, hG, hN⟩ := hv
  have hx := B.exec
  have hb := B.bytes
  have hr := B.returns
  have hts0 := atoms_spec (ws := wmW y_W_closeMonth c_W_closeMonth 4 (some .int) [(0, 16, 19, 15)]) B.pre
  have hts := wmW_x aK_X_closeMonth hts0
  have hown : s.vm.findClass "ShopDesksLaw" = some m.cls := findClass_of_methodNamed B.named
  have hlocks := B.notSynchronized
  subst hsz
  have hS : va_S (oA o qo s.heap.size) s.heap s.heap [] := va_S.rf
  have hl := lv_entry ([.ref (o + 0), .int x, .ref qo]) (n := 4) (Nat.le_of_ble_eq_true rfl)
  rw [lg_entry_eq]
  generalize (lg_sl ([.ref (o + 0), .int x, .ref qo]) ++ List.replicate (4 - (lg_sl ([.ref (o + 0), .int x, .ref qo])).length) Slot.unset).toArray = ls at hl ⊢
  have hl : lv_has ls 4 [(0, .ref (o + 0)), (1, .int x), (2, .ref qo)] := hl
  refine lv_aload_n hx hb d_W_closeMonth_0 rfl (lv_at hl 2 rfl) ?_
  refine lv_iconst (v := 0) hx hb d_W_closeMonth_1 (by decide) ?_
  refine lv_aload_n hx hb d_W_closeMonth_2 rfl (lv_at hl 0 rfl) ?_
  refine lv_iload_n hx hb d_W_closeMonth_3 rfl (lv_at hl 1 rfl) ?_
  refine ow_Vi (pE := fun E => E = "java/lang/IllegalArgumentException" ∧ xbad x 120) ⟨hx, hb, hml, hown, hts⟩ (k_X_closeMonth l hl9 D cA o _ M x) (kV hts 1 aK_X_closeMonth aM_W_70 aI_X_closeMonth aV_X_closeMonth aN_X nm_X_closeMonth rfl rfl ⟨(Nat.le_of_ble_eq_true rfl), (Nat.le_of_ble_eq_true rfl)⟩) hK hP hO hne hG hS rfl hl.1 rfl (Nat.le_of_ble_eq_true rfl) d_W_closeMonth_4 ⟨(Nat.le_of_ble_eq_true rfl), (Nat.le_of_ble_eq_true rfl)⟩ (fun E ce9 q9 H locs hE hP hO hS hcell hcv hcl => ?_) (fun r9 M1 H locs hw hP hO hS => ?_)
  · have hE3 := hE.1
    subst hE3
    refine wr_catch hown htab [] (0, 16, 19, 15) [] rfl (fun z hz => absurd hz List.not_mem_nil) (by decide) hN (by decide) (by decide) (by decide) (hts _ (al aC_W_15)) (x3_cast hG (by decide)) hcell hcv hcl ?_
    refine lv_astore_n (lv' := [(3, .ref q9), (0, .ref (o + 0)), (1, .int x), (2, .ref qo)]) hx hb d_W_closeMonth_19 rfl hl (by decide) rfl (fun ls hl => ?_)
    refine lv_iconst (v := 1) hx hb d_W_closeMonth_20 (by decide) ?_
    refine W.widen (k := 1) (n := 6) (Nat.le_of_ble_eq_true rfl) (Nat.le_of_ble_eq_true rfl) ?_
    exact W.iret (v := 1) hx hb hr (fun tz hz9 hW9 => ⟨⟨1, (M, fo), rfl, Or.inr ⟨rfl, (1, "java/lang/IllegalArgumentException"), List.mem_cons_self, rfl, hE⟩, by rw [hz9]; exact hP, by rw [hz9]; exact hO, va_K.moved hW9.alike hK⟩, hS.F hz9⟩) hS.2.2 d_W_closeMonth_21
  · refine lv_if_eq (tgt := 14) hx hb d_W_closeMonth_7 (by decide) (fun c_1 => ?_) (fun c_1 => ?_)
    · refine lv_lconst (v := 0) hx hb d_W_closeMonth_14 (by decide) ?_
      refine ow_last hx hb hK hP hO hne hS (x := 0) d_W_closeMonth_15 (fun H locs hP hO hS => ?_)
      refine lv_goto (tgt := 22) hx hb d_W_closeMonth_16 (by decide) ?_
      refine lv_iconst (v := 0) hx hb d_W_closeMonth_22 (by decide) ?_
      refine W.widen (k := 1) (n := 6) (Nat.le_of_ble_eq_true rfl) (Nat.le_of_ble_eq_true rfl) ?_
      exact W.iret (v := 0) hx hb hr (fun tz hz9 hW9 => ⟨⟨0, (M1, vp_updL fo 0 0), rfl, Or.inl ⟨rfl, r9, hw, ((updL_s (f := fo) (x := 0)).trans (if_pos c_1).symm)⟩, by rw [hz9]; exact hP, by rw [hz9]; exact hO, va_K.moved hW9.alike hK⟩, hS.F hz9⟩) hS.2.2 d_W_closeMonth_23
    · refine lv_lconst (v := 1) hx hb d_W_closeMonth_10 (by decide) ?_
      refine lv_goto (tgt := 15) hx hb d_W_closeMonth_11 (by decide) ?_
      refine ow_last hx hb hK hP hO hne hS (x := 1) d_W_closeMonth_15 (fun H locs hP hO hS => ?_)
      refine lv_goto (tgt := 22) hx hb d_W_closeMonth_16 (by decide) ?_
      refine lv_iconst (v := 0) hx hb d_W_closeMonth_22 (by decide) ?_
      refine W.widen (k := 1) (n := 6) (Nat.le_of_ble_eq_true rfl) (Nat.le_of_ble_eq_true rfl) ?_
      exact W.iret (v := 0) hx hb hr (fun tz hz9 hW9 => ⟨⟨0, (M1, vp_updL fo 0 1), rfl, Or.inl ⟨rfl, r9, hw, ((updL_s (f := fo) (x := 1)).trans (if_neg c_1).symm)⟩, by rw [hz9]; exact hP, by rw [hz9]; exact hO, va_K.moved hW9.alike hK⟩, hS.F hz9⟩) hS.2.2 d_W_closeMonth_23

set_option maxHeartbeats 4000000 in
set_option maxRecDepth 100000 in
/-- W_reverse -/
theorem k_W_reverse (l : Launch) (hl9 : l.stackTraces = false) (D : va_G) (cA : Nat → ClassId) (o sz qo : Nat) (M : wM) (fo : Nat → Int64) (ec : Nat) (hec : ec ≤ 60) (eec : M.2.2 34 2 = nI ec) (rc : Nat → Nat) (hrc : ∀ j, j < 60 → rc j ≤ 6 ∧ M.2.2 (37 + 3 * j) 2 = nI (rc j)) (hfr : ec < 60 → rc ec = 0) (ln : Nat) (hln : ln ≤ ec) (eln : M.2.2 34 3 = nI ln) (en : Nat → Nat) (hen : ∀ m, 1 ≤ m → m ≤ ln → M.1 36 m = nI (en m) ∧ en m < ec) (x day : Int32) : Met l y_W_reverse (wmW y_W_reverse c_W_reverse 5 (some .int) [(0, 10, 13, 13), (0, 10, 17, 15), (0, 10, 21, 17)]) { frames := 8, cells := 3, slots := 18, locals := 125 } (va_Pc [.ref (o + 0), .int x, .int day, .ref qo] (oB D cA o qo M fo sz)) (va_Qi (oPost (fun r M1 => xin day 3600 ∧ ∃ m, 1 ≤ m ∧ m ≤ ln ∧ x = nI m ∧ M.2.2 (37 + 3 * en m) 5 = 0 ∧ M.2.2 (37 + 3 * en m) 6 = 0 ∧ ec < 60 ∧ ((r = 0 ∧ M1 = M ∧ day / 30 ≤ M.2.2 34 4) ∨ (r = nI (ln + 1) ∧ M1 = x_reversed M ec (en m) (rc (en m)) ln day ∧ ¬ day / 30 ≤ M.2.2 34 4))) (fun r : Int32 => r.toInt64) (fun E => (E = "java/lang/IndexOutOfBoundsException" ∧ (x < 1 ∨ ¬ x ≤ nI ln)) ∨ (E = "java/lang/IllegalArgumentException" ∧ ¬ x < 1 ∧ x ≤ nI ln ∧ xbad day 3600) ∨ (E = "java/lang/IllegalStateException" ∧ xin day 3600 ∧ ∃ m, 1 ≤ m ∧ m ≤ ln ∧ x = nI m ∧ (¬ M.2.2 (37 + 3 * en m) 5 = 0 ∨ ¬ M.2.2 (37 + 3 * en m) 6 = 0 ∨ ec = 60))) [(1, "java/lang/IndexOutOfBoundsException"), (2, "java/lang/IllegalArgumentException"), (3, "java/lang/IllegalStateException")] M fo) (oQ D cA o qo) (oA o qo sz)) 3 18 (oA o qo sz) := by
  refine met_ofWH (cc := c_W_reverse) (maxL := 5) (ret := (some .int)) (hh := [(0, 10, 13, 13), (0, 10, 17, 15), (0, 10, 21, 17)]) (by decide) rfl ?_
  intro p e s m args below meth c s₁ B hml htab hv
  obtain ⟨rfl, ⟨hsz, hP, hK⟩, hO, hne, hG, hN⟩ := hv
  have hx := B.exec
  have hb := B.bytes
  have hr := B.returns
  have hts0 := atoms_spec (ws := wmW y_W_reverse c_W_reverse 5 (some .int) [(0, 10, 13, 13), (0, 10, 17, 15), (0, 10, 21, 17)]) B.pre
  have hts := wmW_x aK_X_reverse hts0
  have hown : s.vm.findClass "ShopDesksLaw" = some m.cls := findClass_of_methodNamed B.named
  have hlocks := B.notSynchronized
  subst hsz
  have hS : va_S (oA o qo s.heap.size) s.heap s.heap [] := va_S.rf
  have hl := lv_entry ([.ref (o + 0), .int x, .int day, .ref qo]) (n := 5) (Nat.le_of_ble_eq_true rfl)
  rw [lg_entry_eq]
  generalize (lg_sl ([.ref (o + 0), .int x, .int day, .ref qo]) ++ List.replicate (5 - (lg_sl ([.ref (o + 0), .int x, .int day, .ref qo])).length) Slot.unset).toArray = ls at hl ⊢
  have hl : lv_has ls 5 [(0, .ref (o + 0)), (1, .int x), (2, .int day), (3, .ref qo)] := hl
  refine lv_aload_n hx hb d_W_reverse_0 rfl (lv_at hl 3 rfl) ?_
  refine lv_iconst (v := 0) hx hb d_W_reverse_1 (by decide) ?_
  refine lv_aload_n hx hb d_W_reverse_2 rfl (lv_at hl 0 rfl) ?_
  refine lv_iload_n hx hb d_W_reverse_3 rfl (lv_at hl 1 rfl) ?_
  refine lv_iload_n hx hb d_W_reverse_4 rfl (lv_at hl 2 rfl) ?_
  refine ow_Vi (pE := fun E => (E = "java/lang/IndexOutOfBoundsException" ∧ (x < 1 ∨ ¬ x ≤ nI ln)) ∨ (E = "java/lang/IllegalArgumentException" ∧ ¬ x < 1 ∧ x ≤ nI ln ∧ xbad day 3600) ∨ (E = "java/lang/IllegalStateException" ∧ xin day 3600 ∧ ∃ m, 1 ≤ m ∧ m ≤ ln ∧ x = nI m ∧ (¬ M.2.2 (37 + 3 * en m) 5 = 0 ∨ ¬ M.2.2 (37 + 3 * en m) 6 = 0 ∨ ec = 60))) ⟨hx, hb, hml, hown, hts⟩ (k_X_reverse l hl9 D cA o _ M ec hec eec rc hrc hfr ln hln eln en hen x day) (kV hts 2 aK_X_reverse aM_W_74 aI_X_reverse aV_X_reverse aN_X nm_X_reverse rfl rfl ⟨(Nat.le_of_ble_eq_true rfl), (Nat.le_of_ble_eq_true rfl)⟩) hK hP hO hne hG hS rfl hl.1 rfl (Nat.le_of_ble_eq_true rfl) d_W_reverse_5 ⟨(Nat.le_of_ble_eq_true rfl), (Nat.le_of_ble_eq_true rfl)⟩ (fun E ce9 q9 H locs hE hP hO hS hcell hcv hcl => ?_) (fun r9 M1 H locs hw hP hO hS => ?_)
  · have hE3 : E = "java/lang/IndexOutOfBoundsException" ∨ E = "java/lang/IllegalArgumentException" ∨ E = "java/lang/IllegalStateException" := by
      rcases hE with h9 | h9 | h9
      · exact Or.inl h9.1
      · exact Or.inr (Or.inl h9.1)
      · exact Or.inr (Or.inr (h9.1))
    rcases hE3 with rfl | rfl | rfl
    · refine wr_catch hown htab [] (0, 10, 13, 13) [(0, 10, 17, 15), (0, 10, 21, 17)] rfl (fun z hz => absurd hz List.not_mem_nil) (by decide) hN (by decide) (by decide) (by decide) (hts _ (al aC_W_13)) (x3_cast hG (by decide)) hcell hcv hcl ?_
      refine lv_astore (lv' := [(4, .ref q9), (0, .ref (o + 0)), (1, .int x), (2, .int day), (3, .ref qo)]) hx hb d_W_reverse_13 hl (by decide) rfl (fun ls hl => ?_)
      refine lv_iconst (v := 1) hx hb d_W_reverse_15 (by decide) ?_
      refine W.widen (k := 3) (n := 18) (Nat.le_of_ble_eq_true rfl) (Nat.le_of_ble_eq_true rfl) ?_
      exact W.iret (v := 1) hx hb hr (fun tz hz9 hW9 => ⟨⟨1, (M, fo), rfl, Or.inr ⟨rfl, (1, "java/lang/IndexOutOfBoundsException"), List.mem_cons_self, rfl, hE⟩, by rw [hz9]; exact hP, by rw [hz9]; exact hO, va_K.moved hW9.alike hK⟩, hS.F hz9⟩) hS.2.2 d_W_reverse_16
    · refine wr_catch hown htab [("java/lang/IndexOutOfBoundsException", (0, 10, 13, 13))] (0, 10, 17, 15) [(0, 10, 21, 17)] rfl (List.forall_mem_cons.mpr ⟨⟨by decide, by decide, by decide, hts _ (al aC_W_13)⟩, (fun z hz => absurd hz List.not_mem_nil)⟩) (by decide) hN (by decide) (by decide) (by decide) (hts _ (al aC_W_15)) (x3_cast hG (by decide)) hcell hcv hcl ?_
      refine lv_astore (lv' := [(4, .ref q9), (0, .ref (o + 0)), (1, .int x), (2, .int day), (3, .ref qo)]) hx hb d_W_reverse_17 hl (by decide) rfl (fun ls hl => ?_)
      refine lv_iconst (v := 2) hx hb d_W_reverse_19 (by decide) ?_
      refine W.widen (k := 3) (n := 18) (Nat.le_of_ble_eq_true rfl) (Nat.le_of_ble_eq_true rfl) ?_
      exact W.iret (v := 2) hx hb hr (fun tz hz9 hW9 => ⟨⟨2, (M, fo), rfl, Or.inr ⟨rfl, (2, "java/lang/IllegalArgumentException"), (List.mem_cons_of_mem _ List.mem_cons_self), rfl, hE⟩, by rw [hz9]; exact hP, by rw [hz9]; exact hO, va_K.moved hW9.alike hK⟩, hS.F hz9⟩) hS.2.2 d_W_reverse_20
    · refine wr_catch hown htab [("java/lang/IndexOutOfBoundsException", (0, 10, 13, 13)), ("java/lang/IllegalArgumentException", (0, 10, 17, 15))] (0, 10, 21, 17) [] rfl (List.forall_mem_cons.mpr ⟨⟨by decide, by decide, by decide, hts _ (al aC_W_13)⟩, (List.forall_mem_cons.mpr ⟨⟨by decide, by decide, by decide, hts _ (al aC_W_15)⟩, (fun z hz => absurd hz List.not_mem_nil)⟩)⟩) (by decide) hN (by decide) (by decide) (by decide) (hts _ (al aC_W_17)) (x3_cast hG (by decide)) hcell hcv hcl ?_
      refine lv_astore (lv' := [(4, .ref q9), (0, .ref (o + 0)), (1, .int x), (2, .int day), (3, .ref qo)]) hx hb d_W_reverse_21 hl (by decide) rfl (fun ls hl => ?_)
      refine lv_iconst (v := 3) hx hb d_W_reverse_23 (by decide) ?_
      refine W.widen (k := 3) (n := 18) (Nat.le_of_ble_eq_true rfl) (Nat.le_of_ble_eq_true rfl) ?_
      exact W.iret (v := 3) hx hb hr (fun tz hz9 hW9 => ⟨⟨3, (M, fo), rfl, Or.inr ⟨rfl, (3, "java/lang/IllegalStateException"), (List.mem_cons_of_mem _ (List.mem_cons_of_mem _ List.mem_cons_self)), rfl, hE⟩, by rw [hz9]; exact hP, by rw [hz9]; exact hO, va_K.moved hW9.alike hK⟩, hS.F hz9⟩) hS.2.2 d_W_reverse_24
  · refine lv_i2l hx hb d_W_reverse_8 rfl ?_
    refine ow_last hx hb hK hP hO hne hS (x := r9.toInt64) d_W_reverse_9 (fun H locs hP hO hS => ?_)
    refine lv_goto (tgt := 25) hx hb d_W_reverse_10 (by decide) ?_
    refine lv_iconst (v := 0) hx hb d_W_reverse_25 (by decide) ?_
    refine W.widen (k := 3) (n := 18) (Nat.le_of_ble_eq_true rfl) (Nat.le_of_ble_eq_true rfl) ?_
    exact W.iret (v := 0) hx hb hr (fun tz hz9 hW9 => ⟨⟨0, (M1, vp_updL fo 0 r9.toInt64), rfl, Or.inl ⟨rfl, r9, hw, (updL_s (f := fo) (x := r9.toInt64))⟩, by rw [hz9]; exact hP, by rw [hz9]; exact hO, va_K.moved hW9.alike hK⟩, hS.F hz9⟩) hS.2.2 d_W_reverse_26
