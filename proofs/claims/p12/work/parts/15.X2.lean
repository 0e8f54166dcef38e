/-! the class's own methods: the ledger's -/
theorem x_num {x : Int32} {n : Nat} (h0 : ¬ x < 1) (h1 : x ≤ nI n) (hn : n < 2147483648) : ∃ k, 1 ≤ k ∧ k ≤ n ∧ x = nI k := by
  have h00 : ¬ x < 0 := fun h => h0 (by rw [Int32.lt_iff_toInt_lt] at h ⊢; have e0 : (0 : Int32).toInt = 0 := by decide
                                        have e1 : (1 : Int32).toInt = 1 := by decide
                                        omega)
  obtain ⟨k, hk, rfl⟩ := nI_of h00
  refine ⟨k, ?_, i_le hk hn h1, rfl⟩
  exact Nat.pos_of_ne_zero (fun e => h0 (by rw [e]; decide))
set_option maxHeartbeats 4000000 in
set_option maxRecDepth 100000 in
/-- X_entry -/
theorem k_X_entry (l : Launch) (hl9 : l.stackTraces = false) (D : va_G) (cA : Nat → ClassId) (o sz : Nat) (M : wM) (ec : Nat) (hec : ec ≤ 60) (eec : M.2.2 34 2 = nI ec) (day : Int32) : vx_Met l y_X_entry (wm y_X_entry c_X_entry 2 (some .int)) { frames := 7, cells := 2, slots := 12, locals := 102 } (va_Pc [.ref (o + 0), .int day] (xBx D cA o M sz)) (va_Qi (fun r M1 => xin day 3600 ∧ ec < 60 ∧ M1 = x_opened M ec day ∧ r = nI ec) (xQ D cA o) (xA o sz)) (xE D cA o M sz (fun E => (E = "java/lang/IllegalArgumentException" ∧ xbad day 3600) ∨ (E = "java/lang/IllegalStateException" ∧ xin day 3600 ∧ ec = 60))) 2 12 (xA o sz) := by
  refine vx_ofW (cc := c_X_entry) (maxL := 2) (ret := (some .int)) (by decide) rfl ?_
  intro p e s m args below meth c s₁ B hml hex hv
  obtain ⟨rfl, ⟨hsz, hP, hK⟩, hG⟩ := hv
  have hx := B.exec
  have hb := B.bytes
  have hr := B.returns
  have hts := atoms_spec (ws := wm y_X_entry c_X_entry 2 (some .int)) B.pre
  have hown : s.vm.findClass "ShopDesks" = some m.cls := findClass_of_methodNamed B.named
  have hlocks := B.notSynchronized
  subst hsz
  have hout : ∀ pc, ∀ x ∈ c.exceptionTable.toList, covers x pc = false := fun pc x hx => (hex x hx).elim
  have hS : va_S (xA o s.heap.size) s.heap s.heap [] := va_S.rf
  have hW : ∀ i, i < 217 → xA o s.heap.size (o + i) := fun i hi => wA_in hi
  have hl := lv_entry ([.ref (o + 0), .int day]) (n := 2) (Nat.le_of_ble_eq_true rfl)
  rw [lg_entry_eq]
  generalize (lg_sl ([.ref (o + 0), .int day]) ++ List.replicate (2 - (lg_sl ([.ref (o + 0), .int day])).length) Slot.unset).toArray = ls at hl ⊢
  have hl : lv_has ls 2 [(0, .ref (o + 0)), (1, .int day)] := hl
  refine lv_iload_n hx hb d_X_entry_0 rfl (lv_at hl 1 rfl) ?_
  refine x_Sv ⟨hx, hb, hml, hown, hts⟩ (k_X_needDay l hl9 D cA o _ M day) (kS hts 1 aK_X_needDay aM_X_141 aS_X_needDay aN_X nm_X_needDay rfl rfl ⟨(Nat.le_of_ble_eq_true rfl), (Nat.le_of_ble_eq_true rfl)⟩) hK hP hG hS rfl hl.1 rfl (Nat.le_of_ble_eq_true rfl) d_X_entry_1 ⟨(Nat.le_of_ble_eq_true rfl), (Nat.le_of_ble_eq_true rfl)⟩ (hout _) hlocks (fun E h => Or.inl h) (Nat.le_of_ble_eq_true rfl) (Nat.le_of_ble_eq_true rfl) (fun M_1 H locs g1 hP hS => ?_)
  rw [g1.1] at hP
  refine lv_aload_n hx hb d_X_entry_4 rfl (lv_at hl 0 rfl) ?_
  refine x_Vv ⟨hx, hb, hml, hown, hts⟩ (k_X_needRoomForEntry l hl9 D cA o _ M ) (kV hts 0 aK_X_needRoomForEntry aM_X_144 aI_X_needRoomForEntry aV_X_needRoomForEntry aN_X nm_X_needRoomForEntry rfl rfl ⟨(Nat.le_of_ble_eq_true rfl), (Nat.le_of_ble_eq_true rfl)⟩) hK hP hG hS (by decide) SX_0 rfl rfl hl.1 rfl (Nat.le_of_ble_eq_true rfl) d_X_entry_5 ⟨(Nat.le_of_ble_eq_true rfl), (Nat.le_of_ble_eq_true rfl)⟩ (hout _) hlocks (fun E h => Or.inr ⟨h.1, g1.2, (by have q9 := h.2; rw [eec] at q9; have := i_nlt (b := 60) (by omega) (by omega) q9; omega)⟩) (Nat.le_of_ble_eq_true rfl) (Nat.le_of_ble_eq_true rfl) (fun M_2 H locs gr hP hS => ?_)
  rw [gr.1] at hP
  have hec6 : ec < 60 := i_lt (b := 60) (by omega) (by omega) (by rw [← eec]; exact gr.2)
  refine lv_aload_n hx hb d_X_entry_8 rfl (lv_at hl 0 rfl) ?_
  refine w_get (C := R_X) (T := F_X) (N := 5) (ci := 4) (v := .ref (o + 34)) hx hb hts inw_X hown hK hP 0 (by decide) SX_0 rfl 4 (by decide) (hts _ (al aF_X_36)) rfl d_X_entry_9 ?_
  refine lv_iload_n hx hb d_X_entry_12 rfl (lv_at hl 1 rfl) ?_
  refine w_Vi ⟨hx, hb, hml, hown, hts⟩ (k_L_openEntry l D cA o _ M ec hec6 eec day) (kV hts 1 aK_L_openEntry aM_X_147 aI_L_openEntry aV_L_openEntry aN_L nm_L_openEntry rfl rfl ⟨(Nat.le_of_ble_eq_true rfl), (Nat.le_of_ble_eq_true rfl)⟩) hK hP (by decide) SX_34 rfl rfl hl.1 rfl (Nat.le_of_ble_eq_true rfl) d_X_entry_13 ⟨(Nat.le_of_ble_eq_true rfl), (Nat.le_of_ble_eq_true rfl)⟩ hS (fun q h => wA_le hS.1 h) (fun r_3 M_3 H locs hw_3 hP hzc hkc hS => ?_)
  rw [hw_3.1] at hP
  refine w_topi hw_3.2 ?_
  refine vx_ret ?_
  refine W.widen (k := 2) (n := 12) (Nat.le_of_ble_eq_true rfl) (Nat.le_of_ble_eq_true rfl) ?_
  exact W.iret (v := nI ec) hx hb hr (fun tz hz9 hW9 => ⟨⟨nI ec, (x_opened M ec day), rfl, ⟨g1.2, hec6, rfl, rfl⟩, by rw [hz9]; exact hP, va_K.moved hW9.alike hK⟩, hS.F hz9⟩) hS.2.2 d_X_entry_16
set_option maxHeartbeats 4000000 in
set_option maxRecDepth 100000 in
/-- X_row -/
theorem k_X_row (l : Launch) (hl9 : l.stackTraces = false) (D : va_G) (cA : Nat → ClassId) (o sz : Nat) (M : wM) (ec : Nat) (hec : ec ≤ 60) (eec : M.2.2 34 2 = nI ec) (rc : Nat → Nat) (hrc : ∀ j, j < 60 → rc j ≤ 6 ∧ M.2.2 (37 + 3 * j) 2 = nI (rc j)) (x ac : Int32) (ce : Int64) : vx_Met l y_X_row (wm y_X_row c_X_row 6 (some .int)) { frames := 7, cells := 3, slots := 18, locals := 103 } (va_Pc [.ref (o + 0), .int x, .int ac, .long ce] (xBx D cA o M sz)) (va_Qi (fun r M1 => xin ac 10 ∧ ¬ ce < -1000000000 ∧ ce ≤ 1000000000 ∧ ∃ k, k < ec ∧ x = nI k ∧ M.2.2 (37 + 3 * k) 4 = 0 ∧ rc k < 6 ∧ M1 = x_row M k (rc k) ac ce ∧ r = nI (rc k + 1)) (xQ D cA o) (xA o sz)) (xE D cA o M sz (fun E => (E = "java/lang/IndexOutOfBoundsException" ∧ (xbad x (nI ec) ∨ xbad ac 10)) ∨ (E = "java/lang/IllegalArgumentException" ∧ xin x (nI ec) ∧ xin ac 10 ∧ (ce < -1000000000 ∨ ¬ ce ≤ 1000000000)) ∨ (E = "java/lang/IllegalStateException" ∧ xin ac 10 ∧ ¬ ce < -1000000000 ∧ ce ≤ 1000000000 ∧ ∃ k, k < ec ∧ x = nI k ∧ (¬ M.2.2 (37 + 3 * k) 4 = 0 ∨ rc k = 6)))) 3 18 (xA o sz) := by
  refine vx_ofW (cc := c_X_row) (maxL := 6) (ret := (some .int)) (by decide) rfl ?_
  intro p e s m args below meth c s₁ B hml hex hv
  obtain ⟨rfl, ⟨hsz, hP, hK⟩, hG⟩ := hv
  have hx := B.exec
  have hb := B.bytes
  have hr := B.returns
  have hts := atoms_spec (ws := wm y_X_row c_X_row 6 (some .int)) B.pre
  have hown : s.vm.findClass "ShopDesks" = some m.cls := findClass_of_methodNamed B.named
  have hlocks := B.notSynchronized
  subst hsz
  have hout : ∀ pc, ∀ x ∈ c.exceptionTable.toList, covers x pc = false := fun pc x hx => (hex x hx).elim
  have hS : va_S (xA o s.heap.size) s.heap s.heap [] := va_S.rf
  have hW : ∀ i, i < 217 → xA o s.heap.size (o + i) := fun i hi => wA_in hi
  have hl := lv_entry ([.ref (o + 0), .int x, .int ac, .long ce]) (n := 6) (Nat.le_of_ble_eq_true rfl)
  rw [lg_entry_eq]
  generalize (lg_sl ([.ref (o + 0), .int x, .int ac, .long ce]) ++ List.replicate (6 - (lg_sl ([.ref (o + 0), .int x, .int ac, .long ce])).length) Slot.unset).toArray = ls at hl ⊢
  have hl : lv_has ls 6 [(0, .ref (o + 0)), (1, .int x), (2, .int ac), (3, .long ce)] := hl
  refine lv_aload_n hx hb d_X_row_0 rfl (lv_at hl 0 rfl) ?_
  refine lv_iload_n hx hb d_X_row_1 rfl (lv_at hl 1 rfl) ?_
  refine x_Vv ⟨hx, hb, hml, hown, hts⟩ (k_X_needEntry l hl9 D cA o _ M x) (kV hts 1 aK_X_needEntry aM_X_151 aI_X_needEntry aV_X_needEntry aN_X nm_X_needEntry rfl rfl ⟨(Nat.le_of_ble_eq_true rfl), (Nat.le_of_ble_eq_true rfl)⟩) hK hP hG hS (by decide) SX_0 rfl rfl hl.1 rfl (Nat.le_of_ble_eq_true rfl) d_X_row_2 ⟨(Nat.le_of_ble_eq_true rfl), (Nat.le_of_ble_eq_true rfl)⟩ (hout _) hlocks (fun E h => Or.inl ⟨h.1, Or.inl (by rw [← eec]; exact h.2)⟩) (Nat.le_of_ble_eq_true rfl) (Nat.le_of_ble_eq_true rfl) (fun M_1 H locs g1 hP hS => ?_)
  rw [g1.1] at hP
  obtain ⟨k1, hk1, ek1⟩ := x_idx g1.2.1 (by rw [← eec]; exact g1.2.2) (by omega)
  have hk18 : k1 < 60 := by omega
  refine lv_iload_n hx hb d_X_row_5 rfl (lv_at hl 2 rfl) ?_
  refine x_Sv ⟨hx, hb, hml, hown, hts⟩ (k_X_needAccount l hl9 D cA o _ M ac) (kS hts 1 aK_X_needAccount aM_X_154 aS_X_needAccount aN_X nm_X_needAccount rfl rfl ⟨(Nat.le_of_ble_eq_true rfl), (Nat.le_of_ble_eq_true rfl)⟩) hK hP hG hS rfl hl.1 rfl (Nat.le_of_ble_eq_true rfl) d_X_row_6 ⟨(Nat.le_of_ble_eq_true rfl), (Nat.le_of_ble_eq_true rfl)⟩ (hout _) hlocks (fun E h => Or.inl ⟨h.1, Or.inr h.2⟩) (Nat.le_of_ble_eq_true rfl) (Nat.le_of_ble_eq_true rfl) (fun M_2 H locs g2 hP hS => ?_)
  rw [g2.1] at hP
  refine lv_lload_n hx hb d_X_row_9 rfl (lv_at hl 3 rfl) ?_
  refine lv_ldc2 (v := -1000000000) hx hb hown (hts _ (al aL_X_157)) d_X_row_10 ?_
  refine W.lcmp hx hb d_X_row_13 ?_
  refine lv_if_lt (tgt := 25) hx hb d_X_row_14 (by decide) (fun c_3 => ?_) (fun c_3 => ?_)
  · rw [lg_cmp_lt] at c_3
    have q : ce < -1000000000 ∨ ¬ ce ≤ 1000000000 := Or.inl c_3
    obtain ⟨sa, hsa⟩ := hG.2.2.1 (161, "cents are not -1000000000 .. 1000000000") (by decide)
    exact x_throwS (cls := "java/lang/IllegalArgumentException") hx hb hl9 hown (hts _ (al aC_X_91)) (hts _ (al aN_IllegalArgumentException)) hsa (hat_X_95 hts hG) hot_X_95 (by decide) hG hK hP hS (hl.1.trans hml.symm) d_X_row_25 d_X_row_28 d_X_row_29 d_X_row_31 d_X_row_34 (hout _) (Nat.le_of_ble_eq_true rfl) (Nat.le_of_ble_eq_true rfl) (Nat.le_of_ble_eq_true rfl) (Nat.le_of_ble_eq_true rfl) hlocks (Or.inr (Or.inl ⟨rfl, by rw [← eec]; exact g1.2, g2.2, q⟩)) (Nat.le_of_ble_eq_true rfl) (Nat.le_of_ble_eq_true rfl)
  · rw [lg_cmp_lt] at c_3
    have q1 := c_3
    refine lv_lload_n hx hb d_X_row_17 rfl (lv_at hl 3 rfl) ?_
    refine lv_ldc2 (v := 1000000000) hx hb hown (hts _ (al aL_X_159)) d_X_row_18 ?_
    refine W.lcmp hx hb d_X_row_21 ?_
    refine lv_if_le (tgt := 35) hx hb d_X_row_22 (by decide) (fun c_4 => ?_) (fun c_4 => ?_)
    · rw [lg_cmp_le] at c_4
      have q2 := c_4
      refine lv_aload_n hx hb d_X_row_35 rfl (lv_at hl 0 rfl) ?_
      refine w_get (C := R_X) (T := F_X) (N := 5) (ci := 4) (v := .ref (o + 34)) hx hb hts inw_X hown hK hP 0 (by decide) SX_0 rfl 4 (by decide) (hts _ (al aF_X_36)) rfl d_X_row_36 ?_
      refine w_get (C := R_L) (T := F_L) (N := 5) (ci := 1) (v := .ref (o + 35)) hx hb hts inw_L hown hK hP 34 (by decide) SX_34 rfl 0 (by decide) (hts _ (al aF_X_163)) rfl d_X_row_39 ?_
      refine lv_iload_n hx hb d_X_row_42 rfl (lv_at hl 1 rfl) ?_
      refine w_topi ek1 ?_
      refine w_aald hx hb hK hP 35 4 (by decide) SX_35 rfl (k := k1) (by omega) (by decide) (if_pos (by omega)) d_X_row_43 ?_
      refine lv_astore (lv' := [(5, .ref (o + (37 + 3 * k1))), (0, .ref (o + 0)), (1, .int x), (2, .int ac), (3, .long ce)]) hx hb d_X_row_44 hl (by decide) rfl (fun ls hl => ?_)
      refine lv_aload hx hb d_X_row_46 (lv_at hl 0 rfl) ?_
      refine w_Vi ⟨hx, hb, hml, hown, hts⟩ (k_E_isClosed l D cA o _ M k1 hk18) (kV hts 0 aK_E_isClosed aM_X_167 aI_E_isClosed aV_E_isClosed aN_E nm_E_isClosed rfl rfl ⟨(Nat.le_of_ble_eq_true rfl), (Nat.le_of_ble_eq_true rfl)⟩) hK hP (by omega) (SX_e hk18) rfl rfl hl.1 rfl (Nat.le_of_ble_eq_true rfl) d_X_row_48 ⟨(Nat.le_of_ble_eq_true rfl), (Nat.le_of_ble_eq_true rfl)⟩ hS (fun q h => wA_le hS.1 h) (fun r_5 M_5 H locs hw_5 hP hzc hkc hS => ?_)
      rw [hw_5.1] at hP
      refine w_topi hw_5.2 ?_
      refine lv_if_ne (tgt := 64) hx hb d_X_row_51 (by decide) (fun c_6 => ?_) (fun c_6 => ?_)
      · have q4 : ¬ M.2.2 (37 + 3 * k1) 4 = 0 ∨ rc k1 = 6 := Or.inl (of_decide_eq_true (b2i_1 c_6))
        obtain ⟨sa, hsa⟩ := hG.2.2.1 (175, "the entry has 6 rows, or is closed") (by decide)
        exact x_throwS (cls := "java/lang/IllegalStateException") hx hb hl9 hown (hts _ (al aC_X_57)) (hts _ (al aN_IllegalStateException)) hsa (hat_X_61 hts hG) hot_X_61 (by decide) hG hK hP hS (hl.1.trans hml.symm) d_X_row_64 d_X_row_67 d_X_row_68 d_X_row_70 d_X_row_73 (hout _) (Nat.le_of_ble_eq_true rfl) (Nat.le_of_ble_eq_true rfl) (Nat.le_of_ble_eq_true rfl) (Nat.le_of_ble_eq_true rfl) hlocks (Or.inr (Or.inr ⟨rfl, g2.2, q1, q2, k1, hk1, ek1, q4⟩)) (Nat.le_of_ble_eq_true rfl) (Nat.le_of_ble_eq_true rfl)
      · have q3 : M.2.2 (37 + 3 * k1) 4 = 0 := Decidable.not_not.mp (of_decide_eq_false (b2i_0 c_6))
        refine lv_aload hx hb d_X_row_54 (lv_at hl 0 rfl) ?_
        refine w_get (C := R_E) (T := F_E) (N := 7) (ci := 0) (v := .int (M.2.2 (37 + 3 * k1) 2)) hx hb hts inw_E hown hK hP (37 + 3 * k1) (by omega) (SX_e hk18) rfl 2 (by decide) (hts _ (al aF_X_172)) rfl d_X_row_56 ?_
        refine w_topi ((hrc k1 hk18).2) ?_
        refine lv_bipush (v := 6) hx hb d_X_row_59 (by decide) ?_
        refine lv_icmp_lt (tgt := 74) hx hb d_X_row_61 (by decide) (fun c_7 => ?_) (fun c_7 => ?_)
        · have q5 : rc k1 < 6 := i_lt (b := 6) (by have := (hrc k1 hk18).1; omega) (by omega) c_7
          refine lv_aload hx hb d_X_row_74 (lv_at hl 0 rfl) ?_
          refine lv_iload_n hx hb d_X_row_76 rfl (lv_at hl 3 rfl) ?_
          refine lv_lload_n hx hb d_X_row_77 rfl (lv_at hl 4 rfl) ?_
          refine w_Vv ⟨hx, hb, hml, hown, hts⟩ (k_E_addRow l D cA o _ M k1 hk18 (rc k1) (hrc k1 hk18).1 (hrc k1 hk18).2 q5 ac ce) (kV hts 2 aK_E_addRow aM_X_177 aI_E_addRow aV_E_addRow aN_E nm_E_addRow rfl rfl ⟨(Nat.le_of_ble_eq_true rfl), (Nat.le_of_ble_eq_true rfl)⟩) hK hP (by omega) (SX_e hk18) rfl rfl hl.1 rfl (Nat.le_of_ble_eq_true rfl) d_X_row_78 ⟨(Nat.le_of_ble_eq_true rfl), (Nat.le_of_ble_eq_true rfl)⟩ hS (fun q h => wA_le hS.1 h) (fun M_8 H locs hw_8 hP hzc hkc hS => ?_)
          rw [hw_8] at hP
          refine lv_aload hx hb d_X_row_81 (lv_at hl 0 rfl) ?_
          refine w_get (C := R_E) (T := F_E) (N := 7) (ci := 0) (v := .int ((x_row M k1 (rc k1) ac ce).2.2 (37 + 3 * k1) 2)) hx hb hts inw_E hown hK hP (37 + 3 * k1) (by omega) (SX_e hk18) rfl 2 (by decide) (hts _ (al aF_X_172)) rfl d_X_row_83 ?_
          refine w_topi wF_s ?_
          refine vx_ret ?_
          refine W.widen (k := 3) (n := 18) (Nat.le_of_ble_eq_true rfl) (Nat.le_of_ble_eq_true rfl) ?_
          exact W.iret (v := nI (rc k1 + 1)) hx hb hr (fun tz hz9 hW9 => ⟨⟨nI (rc k1 + 1), (x_row M k1 (rc k1) ac ce), rfl, ⟨g2.2, q1, q2, k1, hk1, ek1, q3, q5, rfl, rfl⟩, by rw [hz9]; exact hP, va_K.moved hW9.alike hK⟩, hS.F hz9⟩) hS.2.2 d_X_row_86
        · have q4 : ¬ M.2.2 (37 + 3 * k1) 4 = 0 ∨ rc k1 = 6 := Or.inr (by have h1 := (hrc k1 hk18).1; have := i_nlt (b := 6) (by omega) (by omega) c_7; omega)
          obtain ⟨sa, hsa⟩ := hG.2.2.1 (175, "the entry has 6 rows, or is closed") (by decide)
          exact x_throwS (cls := "java/lang/IllegalStateException") hx hb hl9 hown (hts _ (al aC_X_57)) (hts _ (al aN_IllegalStateException)) hsa (hat_X_61 hts hG) hot_X_61 (by decide) hG hK hP hS (hl.1.trans hml.symm) d_X_row_64 d_X_row_67 d_X_row_68 d_X_row_70 d_X_row_73 (hout _) (Nat.le_of_ble_eq_true rfl) (Nat.le_of_ble_eq_true rfl) (Nat.le_of_ble_eq_true rfl) (Nat.le_of_ble_eq_true rfl) hlocks (Or.inr (Or.inr ⟨rfl, g2.2, q1, q2, k1, hk1, ek1, q4⟩)) (Nat.le_of_ble_eq_true rfl) (Nat.le_of_ble_eq_true rfl)
    · rw [lg_cmp_le] at c_4
      have q : ce < -1000000000 ∨ ¬ ce ≤ 1000000000 := Or.inr c_4
      obtain ⟨sa, hsa⟩ := hG.2.2.1 (161, "cents are not -1000000000 .. 1000000000") (by decide)
      exact x_throwS (cls := "java/lang/IllegalArgumentException") hx hb hl9 hown (hts _ (al aC_X_91)) (hts _ (al aN_IllegalArgumentException)) hsa (hat_X_95 hts hG) hot_X_95 (by decide) hG hK hP hS (hl.1.trans hml.symm) d_X_row_25 d_X_row_28 d_X_row_29 d_X_row_31 d_X_row_34 (hout _) (Nat.le_of_ble_eq_true rfl) (Nat.le_of_ble_eq_true rfl) (Nat.le_of_ble_eq_true rfl) (Nat.le_of_ble_eq_true rfl) hlocks (Or.inr (Or.inl ⟨rfl, by rw [← eec]; exact g1.2, g2.2, q⟩)) (Nat.le_of_ble_eq_true rfl) (Nat.le_of_ble_eq_true rfl)
set_option maxHeartbeats 4000000 in
set_option maxRecDepth 100000 in
/-- X_close -/
theorem k_X_close (l : Launch) (hl9 : l.stackTraces = false) (D : va_G) (cA : Nat → ClassId) (o sz : Nat) (M : wM) (ec : Nat) (hec : ec ≤ 60) (eec : M.2.2 34 2 = nI ec) (rc : Nat → Nat) (hrc : ∀ j, j < 60 → rc j ≤ 6 ∧ M.2.2 (37 + 3 * j) 2 = nI (rc j)) (ln : Nat) (eln : M.2.2 34 3 = nI ln) (hln : ∀ j, j < ec → M.2.2 (37 + 3 * j) 4 = 0 → ln < 60) (x : Int32) : vx_Met l y_X_close (wm y_X_close c_X_close 3 (some .int)) { frames := 7, cells := 2, slots := 12, locals := 103 } (va_Pc [.ref (o + 0), .int x] (xBx D cA o M sz)) (va_Qi (fun r M1 => ∃ k, k < ec ∧ x = nI k ∧ M.2.2 (37 + 3 * k) 4 = 0 ∧ ((r = 0 ∧ M1 = M ∧ (M.2.2 (37 + 3 * k) 3 / 30 ≤ M.2.2 34 4 ∨ ¬ (0 < rc k ∧ x_tot M k (rc k) = 0))) ∨ (r = nI (ln + 1) ∧ M1 = x_numbered M ln k ∧ ¬ M.2.2 (37 + 3 * k) 3 / 30 ≤ M.2.2 34 4 ∧ 0 < rc k ∧ x_tot M k (rc k) = 0))) (xQ D cA o) (xA o sz)) (xE D cA o M sz (fun E => (E = "java/lang/IndexOutOfBoundsException" ∧ xbad x (nI ec)) ∨ (E = "java/lang/IllegalStateException" ∧ ∃ k, k < ec ∧ x = nI k ∧ ¬ M.2.2 (37 + 3 * k) 4 = 0))) 2 12 (xA o sz) := by
  refine vx_ofW (cc := c_X_close) (maxL := 3) (ret := (some .int)) (by decide) rfl ?_
  intro p e s m args below meth c s₁ B hml hex hv
  obtain ⟨rfl, ⟨hsz, hP, hK⟩, hG⟩ := hv
  have hx := B.exec
  have hb := B.bytes
  have hr := B.returns
  have hts := atoms_spec (ws := wm y_X_close c_X_close 3 (some .int)) B.pre
  have hown : s.vm.findClass "ShopDesks" = some m.cls := findClass_of_methodNamed B.named
  have hlocks := B.notSynchronized
  subst hsz
  have hout : ∀ pc, ∀ x ∈ c.exceptionTable.toList, covers x pc = false := fun pc x hx => (hex x hx).elim
  have hS : va_S (xA o s.heap.size) s.heap s.heap [] := va_S.rf
  have hW : ∀ i, i < 217 → xA o s.heap.size (o + i) := fun i hi => wA_in hi
  have hl := lv_entry ([.ref (o + 0), .int x]) (n := 3) (Nat.le_of_ble_eq_true rfl)
  rw [lg_entry_eq]
  generalize (lg_sl ([.ref (o + 0), .int x]) ++ List.replicate (3 - (lg_sl ([.ref (o + 0), .int x])).length) Slot.unset).toArray = ls at hl ⊢
  have hl : lv_has ls 3 [(0, .ref (o + 0)), (1, .int x)] := hl
  refine lv_aload_n hx hb d_X_close_0 rfl (lv_at hl 0 rfl) ?_
  refine lv_iload_n hx hb d_X_close_1 rfl (lv_at hl 1 rfl) ?_
  refine x_Vv ⟨hx, hb, hml, hown, hts⟩ (k_X_needEntry l hl9 D cA o _ M x) (kV hts 1 aK_X_needEntry aM_X_151 aI_X_needEntry aV_X_needEntry aN_X nm_X_needEntry rfl rfl ⟨(Nat.le_of_ble_eq_true rfl), (Nat.le_of_ble_eq_true rfl)⟩) hK hP hG hS (by decide) SX_0 rfl rfl hl.1 rfl (Nat.le_of_ble_eq_true rfl) d_X_close_2 ⟨(Nat.le_of_ble_eq_true rfl), (Nat.le_of_ble_eq_true rfl)⟩ (hout _) hlocks (fun E h => Or.inl ⟨h.1, by rw [← eec]; exact h.2⟩) (Nat.le_of_ble_eq_true rfl) (Nat.le_of_ble_eq_true rfl) (fun M_1 H locs g1 hP hS => ?_)
  rw [g1.1] at hP
  obtain ⟨k1, hk1, ek1⟩ := x_idx g1.2.1 (by rw [← eec]; exact g1.2.2) (by omega)
  have hk18 : k1 < 60 := by omega
  refine lv_aload_n hx hb d_X_close_5 rfl (lv_at hl 0 rfl) ?_
  refine w_get (C := R_X) (T := F_X) (N := 5) (ci := 4) (v := .ref (o + 34)) hx hb hts inw_X hown hK hP 0 (by decide) SX_0 rfl 4 (by decide) (hts _ (al aF_X_36)) rfl d_X_close_6 ?_
  refine w_get (C := R_L) (T := F_L) (N := 5) (ci := 1) (v := .ref (o + 35)) hx hb hts inw_L hown hK hP 34 (by decide) SX_34 rfl 0 (by decide) (hts _ (al aF_X_163)) rfl d_X_close_9 ?_
  refine lv_iload_n hx hb d_X_close_12 rfl (lv_at hl 1 rfl) ?_
  refine w_topi ek1 ?_
  refine w_aald hx hb hK hP 35 4 (by decide) SX_35 rfl (k := k1) (by omega) (by decide) (if_pos (by omega)) d_X_close_13 ?_
  refine lv_astore_n (lv' := [(2, .ref (o + (37 + 3 * k1))), (0, .ref (o + 0)), (1, .int x)]) hx hb d_X_close_14 rfl hl (by decide) rfl (fun ls hl => ?_)
  refine lv_aload_n hx hb d_X_close_15 rfl (lv_at hl 0 rfl) ?_
  refine w_Vi ⟨hx, hb, hml, hown, hts⟩ (k_E_isClosed l D cA o _ M k1 hk18) (kV hts 0 aK_E_isClosed aM_X_167 aI_E_isClosed aV_E_isClosed aN_E nm_E_isClosed rfl rfl ⟨(Nat.le_of_ble_eq_true rfl), (Nat.le_of_ble_eq_true rfl)⟩) hK hP (by omega) (SX_e hk18) rfl rfl hl.1 rfl (Nat.le_of_ble_eq_true rfl) d_X_close_16 ⟨(Nat.le_of_ble_eq_true rfl), (Nat.le_of_ble_eq_true rfl)⟩ hS (fun q h => wA_le hS.1 h) (fun r_2 M_2 H locs hw_2 hP hzc hkc hS => ?_)
  rw [hw_2.1] at hP
  refine w_topi hw_2.2 ?_
  refine lv_if_eq (tgt := 32) hx hb d_X_close_19 (by decide) (fun c_3 => ?_) (fun c_3 => ?_)
  · have q3 : M.2.2 (37 + 3 * k1) 4 = 0 := Decidable.not_not.mp (of_decide_eq_false (b2i_0 c_3))
    refine lv_aload_n hx hb d_X_close_32 rfl (lv_at hl 1 rfl) ?_
    refine w_get (C := R_X) (T := F_X) (N := 5) (ci := 4) (v := .ref (o + 34)) hx hb hts inw_X hown hK hP 0 (by decide) SX_0 rfl 4 (by decide) (hts _ (al aF_X_36)) rfl d_X_close_33 ?_
    refine lv_aload_n hx hb d_X_close_36 rfl (lv_at hl 0 rfl) ?_
    refine w_get (C := R_E) (T := F_E) (N := 7) (ci := 0) (v := .int (M.2.2 (37 + 3 * k1) 3)) hx hb hts inw_E hown hK hP (37 + 3 * k1) (by omega) (SX_e hk18) rfl 3 (by decide) (hts _ (al aF_X_183)) rfl d_X_close_37 ?_
    refine w_Vi ⟨hx, hb, hml, hown, hts⟩ (k_L_isInClosedMonth l D cA o _ M (M.2.2 (37 + 3 * k1) 3)) (kV hts 1 aK_L_isInClosedMonth aM_X_186 aI_L_isInClosedMonth aV_L_isInClosedMonth aN_L nm_L_isInClosedMonth rfl rfl ⟨(Nat.le_of_ble_eq_true rfl), (Nat.le_of_ble_eq_true rfl)⟩) hK hP (by decide) SX_34 rfl rfl hl.1 rfl (Nat.le_of_ble_eq_true rfl) d_X_close_40 ⟨(Nat.le_of_ble_eq_true rfl), (Nat.le_of_ble_eq_true rfl)⟩ hS (fun q h => wA_le hS.1 h) (fun r_4 M_4 H locs hw_4 hP hzc hkc hS => ?_)
    rw [hw_4.1] at hP
    refine w_topi hw_4.2 ?_
    refine lv_if_ne (tgt := 53) hx hb d_X_close_43 (by decide) (fun c_5 => ?_) (fun c_5 => ?_)
    · have q4 := of_decide_eq_true (b2i_1 c_5)
      refine lv_iconst (v := 0) hx hb d_X_close_53 (by decide) ?_
      refine vx_ret ?_
      refine W.widen (k := 2) (n := 12) (Nat.le_of_ble_eq_true rfl) (Nat.le_of_ble_eq_true rfl) ?_
      exact W.iret (v := 0) hx hb hr (fun tz hz9 hW9 => ⟨⟨0, M, rfl, ⟨k1, hk1, ek1, q3, Or.inl ⟨rfl, rfl, Or.inl q4⟩⟩, by rw [hz9]; exact hP, va_K.moved hW9.alike hK⟩, hS.F hz9⟩) hS.2.2 d_X_close_54
    · have q4 := of_decide_eq_false (b2i_0 c_5)
      refine lv_aload_n hx hb d_X_close_46 rfl (lv_at hl 0 rfl) ?_
      refine w_Vi ⟨hx, hb, hml, hown, hts⟩ (k_E_isBalanced l D cA o _ M k1 hk18 (rc k1) (hrc k1 hk18).1 (hrc k1 hk18).2) (kV hts 0 aK_E_isBalanced aM_X_189 aI_E_isBalanced aV_E_isBalanced aN_E nm_E_isBalanced rfl rfl ⟨(Nat.le_of_ble_eq_true rfl), (Nat.le_of_ble_eq_true rfl)⟩) hK hP (by omega) (SX_e hk18) rfl rfl hl.1 rfl (Nat.le_of_ble_eq_true rfl) d_X_close_47 ⟨(Nat.le_of_ble_eq_true rfl), (Nat.le_of_ble_eq_true rfl)⟩ hS (fun q h => wA_le hS.1 h) (fun r_6 M_6 H locs hw_6 hP hzc hkc hS => ?_)
      rw [hw_6.1] at hP
      refine w_topi hw_6.2 ?_
      refine lv_if_ne (tgt := 55) hx hb d_X_close_50 (by decide) (fun c_7 => ?_) (fun c_7 => ?_)
      · have q5 := of_decide_eq_true (b2i_1 c_7)
        refine lv_aload_n hx hb d_X_close_55 rfl (lv_at hl 1 rfl) ?_
        refine w_get (C := R_X) (T := F_X) (N := 5) (ci := 4) (v := .ref (o + 34)) hx hb hts inw_X hown hK hP 0 (by decide) SX_0 rfl 4 (by decide) (hts _ (al aF_X_36)) rfl d_X_close_56 ?_
        refine lv_iload_n hx hb d_X_close_59 rfl (lv_at hl 2 rfl) ?_
        refine w_topi ek1 ?_
        refine w_Vi ⟨hx, hb, hml, hown, hts⟩ (k_L_giveNumber l D cA o _ M ln k1 (hln k1 hk1 q3) hk18 eln) (kV hts 1 aK_L_giveNumber aM_X_192 aI_L_giveNumber aV_L_giveNumber aN_L nm_L_giveNumber rfl rfl ⟨(Nat.le_of_ble_eq_true rfl), (Nat.le_of_ble_eq_true rfl)⟩) hK hP (by decide) SX_34 rfl rfl hl.1 rfl (Nat.le_of_ble_eq_true rfl) d_X_close_60 ⟨(Nat.le_of_ble_eq_true rfl), (Nat.le_of_ble_eq_true rfl)⟩ hS (fun q h => wA_le hS.1 h) (fun r_8 M_8 H locs hw_8 hP hzc hkc hS => ?_)
        rw [hw_8.1] at hP
        refine w_topi hw_8.2 ?_
        refine vx_ret ?_
        refine W.widen (k := 2) (n := 12) (Nat.le_of_ble_eq_true rfl) (Nat.le_of_ble_eq_true rfl) ?_
        exact W.iret (v := nI (ln + 1)) hx hb hr (fun tz hz9 hW9 => ⟨⟨nI (ln + 1), (x_numbered M ln k1), rfl, ⟨k1, hk1, ek1, q3, Or.inr ⟨rfl, rfl, q4, q5.1, q5.2⟩⟩, by rw [hz9]; exact hP, va_K.moved hW9.alike hK⟩, hS.F hz9⟩) hS.2.2 d_X_close_63
      · have q5 := of_decide_eq_false (b2i_0 c_7)
        refine lv_iconst (v := 0) hx hb d_X_close_53 (by decide) ?_
        refine vx_ret ?_
        refine W.widen (k := 2) (n := 12) (Nat.le_of_ble_eq_true rfl) (Nat.le_of_ble_eq_true rfl) ?_
        exact W.iret (v := 0) hx hb hr (fun tz hz9 hW9 => ⟨⟨0, M, rfl, ⟨k1, hk1, ek1, q3, Or.inl ⟨rfl, rfl, Or.inr q5⟩⟩, by rw [hz9]; exact hP, va_K.moved hW9.alike hK⟩, hS.F hz9⟩) hS.2.2 d_X_close_54
  · have q3 : ¬ M.2.2 (37 + 3 * k1) 4 = 0 := of_decide_eq_true (b2i_1 c_3)
    obtain ⟨sa, hsa⟩ := hG.2.2.1 (181, "the entry is closed") (by decide)
    exact x_throwS (cls := "java/lang/IllegalStateException") hx hb hl9 hown (hts _ (al aC_X_57)) (hts _ (al aN_IllegalStateException)) hsa (hat_X_61 hts hG) hot_X_61 (by decide) hG hK hP hS (hl.1.trans hml.symm) d_X_close_22 d_X_close_25 d_X_close_26 d_X_close_28 d_X_close_31 (hout _) (Nat.le_of_ble_eq_true rfl) (Nat.le_of_ble_eq_true rfl) (Nat.le_of_ble_eq_true rfl) (Nat.le_of_ble_eq_true rfl) hlocks (Or.inr ⟨rfl, k1, hk1, ek1, q3⟩) (Nat.le_of_ble_eq_true rfl) (Nat.le_of_ble_eq_true rfl)
set_option maxHeartbeats 4000000 in
set_option maxRecDepth 100000 in
/-- X_balance -/
theorem k_X_balance (l : Launch) (hl9 : l.stackTraces = false) (D : va_G) (cA : Nat → ClassId) (o sz : Nat) (M : wM) (ec : Nat) (hec : ec ≤ 60) (eec : M.2.2 34 2 = nI ec) (rc : Nat → Nat) (hrc : ∀ j, j < 60 → rc j ≤ 6 ∧ M.2.2 (37 + 3 * j) 2 = nI (rc j)) (ac day : Int32) : vx_Met l y_X_balance (wm y_X_balance c_X_balance 3 (some .long)) { frames := 7, cells := 1, slots := 6, locals := 102 } (va_Pc [.ref (o + 0), .int ac, .int day] (xBx D cA o M sz)) (va_Ql (fun r M1 => M1 = M ∧ xin ac 10 ∧ r = x_bal M rc ac day ec) (xQ D cA o) (xA o sz)) (xE D cA o M sz (fun E => E = "java/lang/IndexOutOfBoundsException" ∧ xbad ac 10)) 1 6 (xA o sz) := by
  refine vx_ofW (cc := c_X_balance) (maxL := 3) (ret := (some .long)) (by decide) rfl ?_
  intro p e s m args below meth c s₁ B hml hex hv
  obtain ⟨rfl, ⟨hsz, hP, hK⟩, hG⟩ := hv
  have hx := B.exec
  have hb := B.bytes
  have hr := B.returns
  have hts := atoms_spec (ws := wm y_X_balance c_X_balance 3 (some .long)) B.pre
  have hown : s.vm.findClass "ShopDesks" = some m.cls := findClass_of_methodNamed B.named
  have hlocks := B.notSynchronized
  subst hsz
  have hout : ∀ pc, ∀ x ∈ c.exceptionTable.toList, covers x pc = false := fun pc x hx => (hex x hx).elim
  have hS : va_S (xA o s.heap.size) s.heap s.heap [] := va_S.rf
  have hW : ∀ i, i < 217 → xA o s.heap.size (o + i) := fun i hi => wA_in hi
  have hl := lv_entry ([.ref (o + 0), .int ac, .int day]) (n := 3) (Nat.le_of_ble_eq_true rfl)
  rw [lg_entry_eq]
  generalize (lg_sl ([.ref (o + 0), .int ac, .int day]) ++ List.replicate (3 - (lg_sl ([.ref (o + 0), .int ac, .int day])).length) Slot.unset).toArray = ls at hl ⊢
  have hl : lv_has ls 3 [(0, .ref (o + 0)), (1, .int ac), (2, .int day)] := hl
  refine lv_iload_n hx hb d_X_balance_0 rfl (lv_at hl 1 rfl) ?_
  refine x_Sv ⟨hx, hb, hml, hown, hts⟩ (k_X_needAccount l hl9 D cA o _ M ac) (kS hts 1 aK_X_needAccount aM_X_154 aS_X_needAccount aN_X nm_X_needAccount rfl rfl ⟨(Nat.le_of_ble_eq_true rfl), (Nat.le_of_ble_eq_true rfl)⟩) hK hP hG hS rfl hl.1 rfl (Nat.le_of_ble_eq_true rfl) d_X_balance_1 ⟨(Nat.le_of_ble_eq_true rfl), (Nat.le_of_ble_eq_true rfl)⟩ (hout _) hlocks (fun E h => h) (Nat.le_of_ble_eq_true rfl) (Nat.le_of_ble_eq_true rfl) (fun M_1 H locs g1 hP hS => ?_)
  rw [g1.1] at hP
  refine lv_aload_n hx hb d_X_balance_4 rfl (lv_at hl 0 rfl) ?_
  refine w_get (C := R_X) (T := F_X) (N := 5) (ci := 4) (v := .ref (o + 34)) hx hb hts inw_X hown hK hP 0 (by decide) SX_0 rfl 4 (by decide) (hts _ (al aF_X_36)) rfl d_X_balance_5 ?_
  refine lv_iload_n hx hb d_X_balance_8 rfl (lv_at hl 1 rfl) ?_
  refine lv_iload_n hx hb d_X_balance_9 rfl (lv_at hl 2 rfl) ?_
  refine w_Vl ⟨hx, hb, hml, hown, hts⟩ (k_L_sumUpTo l D cA o _ M ec hec eec rc (fun j h => hrc j (by omega)) ac day) (kV hts 2 aK_L_sumUpTo aM_X_195 aI_L_sumUpTo aV_L_sumUpTo aN_L nm_L_sumUpTo rfl rfl ⟨(Nat.le_of_ble_eq_true rfl), (Nat.le_of_ble_eq_true rfl)⟩) hK hP (by decide) SX_34 rfl rfl hl.1 rfl (Nat.le_of_ble_eq_true rfl) d_X_balance_10 ⟨(Nat.le_of_ble_eq_true rfl), (Nat.le_of_ble_eq_true rfl)⟩ hS (fun q h => wA_le hS.1 h) (fun r_2 M_2 H locs hw_2 hP hzc hkc hS => ?_)
  rw [hw_2.1] at hP
  refine w_topl hw_2.2 ?_
  refine vx_ret ?_
  refine W.widen (k := 1) (n := 6) (Nat.le_of_ble_eq_true rfl) (Nat.le_of_ble_eq_true rfl) ?_
  exact W.lret (v := x_bal M rc ac day ec) hx hb hr (fun tz hz9 hW9 => ⟨⟨x_bal M rc ac day ec, M, rfl, ⟨rfl, g1.2, rfl⟩, by rw [hz9]; exact hP, va_K.moved hW9.alike hK⟩, hS.F hz9⟩) hS.2.2 d_X_balance_13
set_option maxHeartbeats 4000000 in
set_option maxRecDepth 100000 in
/-- X_reverse -/
theorem k_X_reverse (l : Launch) (hl9 : l.stackTraces = false) (D : va_G) (cA : Nat → ClassId) (o sz : Nat) (M : wM) (ec : Nat) (hec : ec ≤ 60) (eec : M.2.2 34 2 = nI ec) (rc : Nat → Nat) (hrc : ∀ j, j < 60 → rc j ≤ 6 ∧ M.2.2 (37 + 3 * j) 2 = nI (rc j)) (hfr : ec < 60 → rc ec = 0) (ln : Nat) (hln : ln ≤ ec) (eln : M.2.2 34 3 = nI ln) (en : Nat → Nat) (hen : ∀ m, 1 ≤ m → m ≤ ln → M.1 36 m = nI (en m) ∧ en m < ec) (x day : Int32) : vx_Met l y_X_reverse (wm y_X_reverse c_X_reverse 4 (some .int)) { frames := 7, cells := 3, slots := 18, locals := 102 } (va_Pc [.ref (o + 0), .int x, .int day] (xBx D cA o M sz)) (va_Qi (fun r M1 => xin day 3600 ∧ ∃ m, 1 ≤ m ∧ m ≤ ln ∧ x = nI m ∧ M.2.2 (37 + 3 * en m) 5 = 0 ∧ M.2.2 (37 + 3 * en m) 6 = 0 ∧ ec < 60 ∧ ((r = 0 ∧ M1 = M ∧ day / 30 ≤ M.2.2 34 4) ∨ (r = nI (ln + 1) ∧ M1 = x_reversed M ec (en m) (rc (en m)) ln day ∧ ¬ day / 30 ≤ M.2.2 34 4))) (xQ D cA o) (xA o sz)) (xE D cA o M sz (fun E => (E = "java/lang/IndexOutOfBoundsException" ∧ (x < 1 ∨ ¬ x ≤ nI ln)) ∨ (E = "java/lang/IllegalArgumentException" ∧ ¬ x < 1 ∧ x ≤ nI ln ∧ xbad day 3600) ∨ (E = "java/lang/IllegalStateException" ∧ xin day 3600 ∧ ∃ m, 1 ≤ m ∧ m ≤ ln ∧ x = nI m ∧ (¬ M.2.2 (37 + 3 * en m) 5 = 0 ∨ ¬ M.2.2 (37 + 3 * en m) 6 = 0 ∨ ec = 60)))) 3 18 (xA o sz) := by
  refine vx_ofW (cc := c_X_reverse) (maxL := 4) (ret := (some .int)) (by decide) rfl ?_
  intro p e s m args below meth c s₁ B hml hex hv
  obtain ⟨rfl, ⟨hsz, hP, hK⟩, hG⟩ := hv
  have hx := B.exec
  have hb := B.bytes
  have hr := B.returns
  have hts := atoms_spec (ws := wm y_X_reverse c_X_reverse 4 (some .int)) B.pre
  have hown : s.vm.findClass "ShopDesks" = some m.cls := findClass_of_methodNamed B.named
  have hlocks := B.notSynchronized
  subst hsz
  have hout : ∀ pc, ∀ x ∈ c.exceptionTable.toList, covers x pc = false := fun pc x hx => (hex x hx).elim
  have hS : va_S (xA o s.heap.size) s.heap s.heap [] := va_S.rf
  have hW : ∀ i, i < 217 → xA o s.heap.size (o + i) := fun i hi => wA_in hi
  have hl := lv_entry ([.ref (o + 0), .int x, .int day]) (n := 4) (Nat.le_of_ble_eq_true rfl)
  rw [lg_entry_eq]
  generalize (lg_sl ([.ref (o + 0), .int x, .int day]) ++ List.replicate (4 - (lg_sl ([.ref (o + 0), .int x, .int day])).length) Slot.unset).toArray = ls at hl ⊢
  have hl : lv_has ls 4 [(0, .ref (o + 0)), (1, .int x), (2, .int day)] := hl
  refine lv_iload_n hx hb d_X_reverse_0 rfl (lv_at hl 1 rfl) ?_
  refine lv_iconst (v := 1) hx hb d_X_reverse_1 (by decide) ?_
  refine lv_icmp_lt (tgt := 16) hx hb d_X_reverse_2 (by decide) (fun c_1 => ?_) (fun c_1 => ?_)
  · have q : x < 1 ∨ ¬ x ≤ nI ln := Or.inl c_1
    obtain ⟨sa, hsa⟩ := hG.2.2.1 (207, "there is no such number") (by decide)
    exact x_throwS (cls := "java/lang/IndexOutOfBoundsException") hx hb hl9 hown (hts _ (al aC_X_100)) (hts _ (al aN_IndexOutOfBoundsException)) hsa (hat_X_104 hts hG) hot_X_104 (by decide) hG hK hP hS (hl.1.trans hml.symm) d_X_reverse_16 d_X_reverse_19 d_X_reverse_20 d_X_reverse_22 d_X_reverse_25 (hout _) (Nat.le_of_ble_eq_true rfl) (Nat.le_of_ble_eq_true rfl) (Nat.le_of_ble_eq_true rfl) (Nat.le_of_ble_eq_true rfl) hlocks (Or.inl ⟨rfl, q⟩) (Nat.le_of_ble_eq_true rfl) (Nat.le_of_ble_eq_true rfl)
  · have q1 := c_1
    refine lv_iload_n hx hb d_X_reverse_5 rfl (lv_at hl 1 rfl) ?_
    refine lv_aload_n hx hb d_X_reverse_6 rfl (lv_at hl 0 rfl) ?_
    refine w_get (C := R_X) (T := F_X) (N := 5) (ci := 4) (v := .ref (o + 34)) hx hb hts inw_X hown hK hP 0 (by decide) SX_0 rfl 4 (by decide) (hts _ (al aF_X_36)) rfl d_X_reverse_7 ?_
    refine w_get (C := R_L) (T := F_L) (N := 5) (ci := 1) (v := .int (M.2.2 34 3)) hx hb hts inw_L hown hK hP 34 (by decide) SX_34 rfl 3 (by decide) (hts _ (al aF_X_204)) rfl d_X_reverse_10 ?_
    refine w_topi eln ?_
    refine lv_icmp_le (tgt := 26) hx hb d_X_reverse_13 (by decide) (fun c_2 => ?_) (fun c_2 => ?_)
    · have q2 := c_2
      obtain ⟨m1, hm1, hm2, em1⟩ := x_num q1 q2 (by omega)
      have hen9 := (hen m1 hm1 hm2).2
      have hen60 : en m1 < 60 := by omega
      refine lv_iload_n hx hb d_X_reverse_26 rfl (lv_at hl 2 rfl) ?_
      refine x_Sv ⟨hx, hb, hml, hown, hts⟩ (k_X_needDay l hl9 D cA o _ M day) (kS hts 1 aK_X_needDay aM_X_141 aS_X_needDay aN_X nm_X_needDay rfl rfl ⟨(Nat.le_of_ble_eq_true rfl), (Nat.le_of_ble_eq_true rfl)⟩) hK hP hG hS rfl hl.1 rfl (Nat.le_of_ble_eq_true rfl) d_X_reverse_27 ⟨(Nat.le_of_ble_eq_true rfl), (Nat.le_of_ble_eq_true rfl)⟩ (hout _) hlocks (fun E h => Or.inr (Or.inl ⟨h.1, q1, q2, h.2⟩)) (Nat.le_of_ble_eq_true rfl) (Nat.le_of_ble_eq_true rfl) (fun M_3 H locs g1 hP hS => ?_)
      rw [g1.1] at hP
      refine lv_aload_n hx hb d_X_reverse_30 rfl (lv_at hl 0 rfl) ?_
      refine w_get (C := R_X) (T := F_X) (N := 5) (ci := 4) (v := .ref (o + 34)) hx hb hts inw_X hown hK hP 0 (by decide) SX_0 rfl 4 (by decide) (hts _ (al aF_X_36)) rfl d_X_reverse_31 ?_
      refine w_get (C := R_L) (T := F_L) (N := 5) (ci := 1) (v := .ref (o + 35)) hx hb hts inw_L hown hK hP 34 (by decide) SX_34 rfl 0 (by decide) (hts _ (al aF_X_163)) rfl d_X_reverse_34 ?_
      refine lv_aload_n hx hb d_X_reverse_37 rfl (lv_at hl 0 rfl) ?_
      refine w_get (C := R_X) (T := F_X) (N := 5) (ci := 4) (v := .ref (o + 34)) hx hb hts inw_X hown hK hP 0 (by decide) SX_0 rfl 4 (by decide) (hts _ (al aF_X_36)) rfl d_X_reverse_38 ?_
      refine w_get (C := R_L) (T := F_L) (N := 5) (ci := 1) (v := .ref (o + 36)) hx hb hts inw_L hown hK hP 34 (by decide) SX_34 rfl 1 (by decide) (hts _ (al aF_X_209)) rfl d_X_reverse_41 ?_
      refine lv_iload_n hx hb d_X_reverse_44 rfl (lv_at hl 1 rfl) ?_
      refine w_topi em1 ?_
      refine w_iald hx hb hK hP 36 0 (by decide) SX_36 rfl (k := m1) (by omega) (by decide) d_X_reverse_45 ?_
      refine w_topi ((hen m1 hm1 hm2).1) ?_
      refine w_aald hx hb hK hP 35 4 (by decide) SX_35 rfl (k := (en m1)) (hen60) (by decide) (if_pos (hen60)) d_X_reverse_46 ?_
      refine lv_astore_n (lv' := [(3, .ref (o + (37 + 3 * (en m1)))), (0, .ref (o + 0)), (1, .int x), (2, .int day)]) hx hb d_X_reverse_47 rfl hl (by decide) rfl (fun ls hl => ?_)
      refine lv_aload_n hx hb d_X_reverse_48 rfl (lv_at hl 0 rfl) ?_
      refine w_get (C := R_E) (T := F_E) (N := 7) (ci := 0) (v := .int (M.2.2 (37 + 3 * (en m1)) 5)) hx hb hts inw_E hown hK hP (37 + 3 * (en m1)) (by omega) (SX_e hen60) rfl 5 (by decide) (hts _ (al aF_X_212)) rfl d_X_reverse_49 ?_
      refine lv_if_ne (tgt := 62) hx hb d_X_reverse_52 (by decide) (fun c_4 => ?_) (fun c_4 => ?_)
      · have q5 : ¬ M.2.2 (37 + 3 * en m1) 5 = 0 ∨ ¬ M.2.2 (37 + 3 * en m1) 6 = 0 ∨ ec = 60 := Or.inl c_4
        obtain ⟨sa, hsa⟩ := hG.2.2.1 (219, "it is reversed, or reverses") (by decide)
        exact x_throwS (cls := "java/lang/IllegalStateException") hx hb hl9 hown (hts _ (al aC_X_57)) (hts _ (al aN_IllegalStateException)) hsa (hat_X_61 hts hG) hot_X_61 (by decide) hG hK hP hS (hl.1.trans hml.symm) d_X_reverse_62 d_X_reverse_65 d_X_reverse_66 d_X_reverse_68 d_X_reverse_71 (hout _) (Nat.le_of_ble_eq_true rfl) (Nat.le_of_ble_eq_true rfl) (Nat.le_of_ble_eq_true rfl) (Nat.le_of_ble_eq_true rfl) hlocks (Or.inr (Or.inr ⟨rfl, g1.2, m1, hm1, hm2, em1, q5⟩)) (Nat.le_of_ble_eq_true rfl) (Nat.le_of_ble_eq_true rfl)
      · have q3 := c_4
        refine lv_aload_n hx hb d_X_reverse_55 rfl (lv_at hl 0 rfl) ?_
        refine w_get (C := R_E) (T := F_E) (N := 7) (ci := 0) (v := .int (M.2.2 (37 + 3 * (en m1)) 6)) hx hb hts inw_E hown hK hP (37 + 3 * (en m1)) (by omega) (SX_e hen60) rfl 6 (by decide) (hts _ (al aF_X_216)) rfl d_X_reverse_56 ?_
        refine lv_if_eq (tgt := 72) hx hb d_X_reverse_59 (by decide) (fun c_5 => ?_) (fun c_5 => ?_)
        · have q4 := c_5
          refine lv_aload_n hx hb d_X_reverse_72 rfl (lv_at hl 1 rfl) ?_
          refine x_Vv ⟨hx, hb, hml, hown, hts⟩ (k_X_needRoomForEntry l hl9 D cA o _ M ) (kV hts 0 aK_X_needRoomForEntry aM_X_144 aI_X_needRoomForEntry aV_X_needRoomForEntry aN_X nm_X_needRoomForEntry rfl rfl ⟨(Nat.le_of_ble_eq_true rfl), (Nat.le_of_ble_eq_true rfl)⟩) hK hP hG hS (by decide) SX_0 rfl rfl hl.1 rfl (Nat.le_of_ble_eq_true rfl) d_X_reverse_73 ⟨(Nat.le_of_ble_eq_true rfl), (Nat.le_of_ble_eq_true rfl)⟩ (hout _) hlocks (fun E h => Or.inr (Or.inr ⟨h.1, g1.2, m1, hm1, hm2, em1, Or.inr (Or.inr (by have q9 := h.2; rw [eec] at q9; have := i_nlt (b := 60) (by omega) (by omega) q9; omega))⟩)) (Nat.le_of_ble_eq_true rfl) (Nat.le_of_ble_eq_true rfl) (fun M_6 H locs gr hP hS => ?_)
          rw [gr.1] at hP
          have hec6 : ec < 60 := i_lt (b := 60) (by omega) (by omega) (by rw [← eec]; exact gr.2)
          refine lv_aload_n hx hb d_X_reverse_76 rfl (lv_at hl 1 rfl) ?_
          refine w_get (C := R_X) (T := F_X) (N := 5) (ci := 4) (v := .ref (o + 34)) hx hb hts inw_X hown hK hP 0 (by decide) SX_0 rfl 4 (by decide) (hts _ (al aF_X_36)) rfl d_X_reverse_77 ?_
          refine lv_iload_n hx hb d_X_reverse_80 rfl (lv_at hl 3 rfl) ?_
          refine w_Vi ⟨hx, hb, hml, hown, hts⟩ (k_L_isInClosedMonth l D cA o _ M day) (kV hts 1 aK_L_isInClosedMonth aM_X_186 aI_L_isInClosedMonth aV_L_isInClosedMonth aN_L nm_L_isInClosedMonth rfl rfl ⟨(Nat.le_of_ble_eq_true rfl), (Nat.le_of_ble_eq_true rfl)⟩) hK hP (by decide) SX_34 rfl rfl hl.1 rfl (Nat.le_of_ble_eq_true rfl) d_X_reverse_81 ⟨(Nat.le_of_ble_eq_true rfl), (Nat.le_of_ble_eq_true rfl)⟩ hS (fun q h => wA_le hS.1 h) (fun r_7 M_7 H locs hw_7 hP hzc hkc hS => ?_)
          rw [hw_7.1] at hP
          refine w_topi hw_7.2 ?_
          refine lv_if_eq (tgt := 89) hx hb d_X_reverse_84 (by decide) (fun c_8 => ?_) (fun c_8 => ?_)
          · have q6 := of_decide_eq_false (b2i_0 c_8)
            refine lv_aload_n hx hb d_X_reverse_89 rfl (lv_at hl 1 rfl) ?_
            refine w_get (C := R_X) (T := F_X) (N := 5) (ci := 4) (v := .ref (o + 34)) hx hb hts inw_X hown hK hP 0 (by decide) SX_0 rfl 4 (by decide) (hts _ (al aF_X_36)) rfl d_X_reverse_90 ?_
            refine lv_aload_n hx hb d_X_reverse_93 rfl (lv_at hl 0 rfl) ?_
            refine lv_iload_n hx hb d_X_reverse_94 rfl (lv_at hl 3 rfl) ?_
            refine w_Vi ⟨hx, hb, hml, hown, hts⟩ (k_L_addReversal l D cA o _ M ec (en m1) (rc (en m1)) ln hec6 hen60 (by omega) (hrc (en m1) hen60).1 (by omega) eec eln (hrc (en m1) hen60).2 (by rw [(hrc ec hec6).2, hfr hec6]) day) (kV hts 2 aK_L_addReversal aM_X_221 aI_L_addReversal aV_L_addReversal aN_L nm_L_addReversal rfl rfl ⟨(Nat.le_of_ble_eq_true rfl), (Nat.le_of_ble_eq_true rfl)⟩) hK hP (by decide) SX_34 rfl rfl hl.1 rfl (Nat.le_of_ble_eq_true rfl) d_X_reverse_95 ⟨(Nat.le_of_ble_eq_true rfl), (Nat.le_of_ble_eq_true rfl)⟩ hS (fun q h => wA_le hS.1 h) (fun r_9 M_9 H locs hw_9 hP hzc hkc hS => ?_)
            rw [hw_9.1] at hP
            refine w_topi hw_9.2 ?_
            refine vx_ret ?_
            refine W.widen (k := 3) (n := 18) (Nat.le_of_ble_eq_true rfl) (Nat.le_of_ble_eq_true rfl) ?_
            exact W.iret (v := nI (ln + 1)) hx hb hr (fun tz hz9 hW9 => ⟨⟨nI (ln + 1), (x_reversed M ec (en m1) (rc (en m1)) ln day), rfl, ⟨g1.2, m1, hm1, hm2, em1, q3, q4, hec6, Or.inr ⟨rfl, rfl, q6⟩⟩, by rw [hz9]; exact hP, va_K.moved hW9.alike hK⟩, hS.F hz9⟩) hS.2.2 d_X_reverse_98
          · have q6 := of_decide_eq_true (b2i_1 c_8)
            refine lv_iconst (v := 0) hx hb d_X_reverse_87 (by decide) ?_
            refine vx_ret ?_
            refine W.widen (k := 3) (n := 18) (Nat.le_of_ble_eq_true rfl) (Nat.le_of_ble_eq_true rfl) ?_
            exact W.iret (v := 0) hx hb hr (fun tz hz9 hW9 => ⟨⟨0, M, rfl, ⟨g1.2, m1, hm1, hm2, em1, q3, q4, hec6, Or.inl ⟨rfl, rfl, q6⟩⟩, by rw [hz9]; exact hP, va_K.moved hW9.alike hK⟩, hS.F hz9⟩) hS.2.2 d_X_reverse_88
        · have q5 : ¬ M.2.2 (37 + 3 * en m1) 5 = 0 ∨ ¬ M.2.2 (37 + 3 * en m1) 6 = 0 ∨ ec = 60 := Or.inr (Or.inl c_5)
          obtain ⟨sa, hsa⟩ := hG.2.2.1 (219, "it is reversed, or reverses") (by decide)
          exact x_throwS (cls := "java/lang/IllegalStateException") hx hb hl9 hown (hts _ (al aC_X_57)) (hts _ (al aN_IllegalStateException)) hsa (hat_X_61 hts hG) hot_X_61 (by decide) hG hK hP hS (hl.1.trans hml.symm) d_X_reverse_62 d_X_reverse_65 d_X_reverse_66 d_X_reverse_68 d_X_reverse_71 (hout _) (Nat.le_of_ble_eq_true rfl) (Nat.le_of_ble_eq_true rfl) (Nat.le_of_ble_eq_true rfl) (Nat.le_of_ble_eq_true rfl) hlocks (Or.inr (Or.inr ⟨rfl, g1.2, m1, hm1, hm2, em1, q5⟩)) (Nat.le_of_ble_eq_true rfl) (Nat.le_of_ble_eq_true rfl)
    · have q : x < 1 ∨ ¬ x ≤ nI ln := Or.inr c_2
      obtain ⟨sa, hsa⟩ := hG.2.2.1 (207, "there is no such number") (by decide)
      exact x_throwS (cls := "java/lang/IndexOutOfBoundsException") hx hb hl9 hown (hts _ (al aC_X_100)) (hts _ (al aN_IndexOutOfBoundsException)) hsa (hat_X_104 hts hG) hot_X_104 (by decide) hG hK hP hS (hl.1.trans hml.symm) d_X_reverse_16 d_X_reverse_19 d_X_reverse_20 d_X_reverse_22 d_X_reverse_25 (hout _) (Nat.le_of_ble_eq_true rfl) (Nat.le_of_ble_eq_true rfl) (Nat.le_of_ble_eq_true rfl) (Nat.le_of_ble_eq_true rfl) hlocks (Or.inl ⟨rfl, q⟩) (Nat.le_of_ble_eq_true rfl) (Nat.le_of_ble_eq_true rfl)

