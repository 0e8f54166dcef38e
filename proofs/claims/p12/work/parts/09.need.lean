/-! the need-methods: each throws, or gives nothing and changes nothing -/
set_option maxHeartbeats 4000000 in
set_option maxRecDepth 100000 in
/-- needTeller -/
theorem k_X_needTeller (l : Launch) (hl9 : l.stackTraces = false) (D : va_G) (cA : Nat → ClassId) (o sz : Nat) (M : wM) (x : Int32) : vx_Met l y_X_needTeller (wm y_X_needTeller c_X_needTeller 1 (none)) { frames := 6, cells := 1, slots := 6, locals := 82 } (va_Pc [.int x] (xBx D cA o M sz)) (va_Qv (fun M1 => M1 = M ∧ ¬ x < 0 ∧ x < 6) (xQ D cA o) (xA o sz)) (xE D cA o M sz (fun E => E = "java/lang/IndexOutOfBoundsException" ∧ (x < 0 ∨ ¬ x < 6))) 1 6 (xA o sz) := by
  refine vx_ofW (cc := c_X_needTeller) (maxL := 1) (ret := (none)) (by decide) rfl ?_
  intro p e s m args below meth c s₁ B hml hex hv
  obtain ⟨rfl, ⟨hsz, hP, hK⟩, hG⟩ := hv
  have hx := B.exec
  have hb := B.bytes
  have hr := B.returns
  have hts := atoms_spec (ws := wm y_X_needTeller c_X_needTeller 1 (none)) B.pre
  have hown : s.vm.findClass "ShopDesks" = some m.cls := findClass_of_methodNamed B.named
  have hlocks := B.notSynchronized
  subst hsz
  have hout : ∀ pc, ∀ x ∈ c.exceptionTable.toList, covers x pc = false := fun pc x hx => (hex x hx).elim
  have hS : va_S (xA o s.heap.size) s.heap s.heap [] := va_S.rf
  have hW : ∀ i, i < 217 → xA o s.heap.size (o + i) := fun i hi => wA_in hi
  have hl := lv_entry ([.int x]) (n := 1) (Nat.le_of_ble_eq_true rfl)
  rw [lg_entry_eq]
  generalize (lg_sl ([.int x]) ++ List.replicate (1 - (lg_sl ([.int x])).length) Slot.unset).toArray = ls at hl ⊢
  have hl : lv_has ls 1 [(0, .int x)] := hl
  refine lv_iload_n hx hb d_X_needTeller_0 rfl (lv_at hl 0 rfl) ?_
  refine lv_if_lt (tgt := 10) hx hb d_X_needTeller_1 (by decide) (fun c_1 => ?_) (fun c_1 => ?_)
  · have q : x < 0 ∨ ¬ x < 6 := Or.inl c_1
    obtain ⟨sa, hsa⟩ := hG.2.2.1 (225, "there is no such teller") (by decide)
    exact x_throwS (cls := "java/lang/IndexOutOfBoundsException") hx hb hl9 hown (hts _ (al aC_X_100)) (hts _ (al aN_IndexOutOfBoundsException)) hsa (hat_X_104 hts hG) hot_X_104 (by decide) hG hK hP hS (hl.1.trans hml.symm) d_X_needTeller_10 d_X_needTeller_13 d_X_needTeller_14 d_X_needTeller_16 d_X_needTeller_19 (hout _) (Nat.le_of_ble_eq_true rfl) (Nat.le_of_ble_eq_true rfl) (Nat.le_of_ble_eq_true rfl) (Nat.le_of_ble_eq_true rfl) hlocks (⟨rfl, q⟩) (Nat.le_of_ble_eq_true rfl) (Nat.le_of_ble_eq_true rfl)
  · have q1 := c_1
    refine lv_iload_n hx hb d_X_needTeller_4 rfl (lv_at hl 0 rfl) ?_
    refine lv_bipush (v := 6) hx hb d_X_needTeller_5 (by decide) ?_
    refine lv_icmp_lt (tgt := 20) hx hb d_X_needTeller_7 (by decide) (fun c_2 => ?_) (fun c_2 => ?_)
    · have q2 := c_2
      refine vx_ret ?_
      refine W.widen (k := 1) (n := 6) (Nat.le_of_ble_eq_true rfl) (Nat.le_of_ble_eq_true rfl) ?_
      exact W.vret hx hb hr (fun tz hz9 hW9 => ⟨⟨M, rfl, ⟨rfl, q1, q2⟩, by rw [hz9]; exact hP, va_K.moved hW9.alike hK⟩, hS.F hz9⟩) hS.2.2 d_X_needTeller_20
    · have q : x < 0 ∨ ¬ x < 6 := Or.inr c_2
      obtain ⟨sa, hsa⟩ := hG.2.2.1 (225, "there is no such teller") (by decide)
      exact x_throwS (cls := "java/lang/IndexOutOfBoundsException") hx hb hl9 hown (hts _ (al aC_X_100)) (hts _ (al aN_IndexOutOfBoundsException)) hsa (hat_X_104 hts hG) hot_X_104 (by decide) hG hK hP hS (hl.1.trans hml.symm) d_X_needTeller_10 d_X_needTeller_13 d_X_needTeller_14 d_X_needTeller_16 d_X_needTeller_19 (hout _) (Nat.le_of_ble_eq_true rfl) (Nat.le_of_ble_eq_true rfl) (Nat.le_of_ble_eq_true rfl) (Nat.le_of_ble_eq_true rfl) hlocks (⟨rfl, q⟩) (Nat.le_of_ble_eq_true rfl) (Nat.le_of_ble_eq_true rfl)
set_option maxHeartbeats 4000000 in
set_option maxRecDepth 100000 in
/-- needThing -/
theorem k_X_needThing (l : Launch) (hl9 : l.stackTraces = false) (D : va_G) (cA : Nat → ClassId) (o sz : Nat) (M : wM) (x : Int32) : vx_Met l y_X_needThing (wm y_X_needThing c_X_needThing 1 (none)) { frames := 6, cells := 1, slots := 6, locals := 82 } (va_Pc [.int x] (xBx D cA o M sz)) (va_Qv (fun M1 => M1 = M ∧ ¬ x < 0 ∧ x < 10) (xQ D cA o) (xA o sz)) (xE D cA o M sz (fun E => E = "java/lang/IndexOutOfBoundsException" ∧ (x < 0 ∨ ¬ x < 10))) 1 6 (xA o sz) := by
  refine vx_ofW (cc := c_X_needThing) (maxL := 1) (ret := (none)) (by decide) rfl ?_
  intro p e s m args below meth c s₁ B hml hex hv
  obtain ⟨rfl, ⟨hsz, hP, hK⟩, hG⟩ := hv
  have hx := B.exec
  have hb := B.bytes
  have hr := B.returns
  have hts := atoms_spec (ws := wm y_X_needThing c_X_needThing 1 (none)) B.pre
  have hown : s.vm.findClass "ShopDesks" = some m.cls := findClass_of_methodNamed B.named
  have hlocks := B.notSynchronized
  subst hsz
  have hout : ∀ pc, ∀ x ∈ c.exceptionTable.toList, covers x pc = false := fun pc x hx => (hex x hx).elim
  have hS : va_S (xA o s.heap.size) s.heap s.heap [] := va_S.rf
  have hW : ∀ i, i < 217 → xA o s.heap.size (o + i) := fun i hi => wA_in hi
  have hl := lv_entry ([.int x]) (n := 1) (Nat.le_of_ble_eq_true rfl)
  rw [lg_entry_eq]
  generalize (lg_sl ([.int x]) ++ List.replicate (1 - (lg_sl ([.int x])).length) Slot.unset).toArray = ls at hl ⊢
  have hl : lv_has ls 1 [(0, .int x)] := hl
  refine lv_iload_n hx hb d_X_needThing_0 rfl (lv_at hl 0 rfl) ?_
  refine lv_if_lt (tgt := 10) hx hb d_X_needThing_1 (by decide) (fun c_1 => ?_) (fun c_1 => ?_)
  · have q : x < 0 ∨ ¬ x < 10 := Or.inl c_1
    obtain ⟨sa, hsa⟩ := hG.2.2.1 (227, "there is no such thing") (by decide)
    exact x_throwS (cls := "java/lang/IndexOutOfBoundsException") hx hb hl9 hown (hts _ (al aC_X_100)) (hts _ (al aN_IndexOutOfBoundsException)) hsa (hat_X_104 hts hG) hot_X_104 (by decide) hG hK hP hS (hl.1.trans hml.symm) d_X_needThing_10 d_X_needThing_13 d_X_needThing_14 d_X_needThing_16 d_X_needThing_19 (hout _) (Nat.le_of_ble_eq_true rfl) (Nat.le_of_ble_eq_true rfl) (Nat.le_of_ble_eq_true rfl) (Nat.le_of_ble_eq_true rfl) hlocks (⟨rfl, q⟩) (Nat.le_of_ble_eq_true rfl) (Nat.le_of_ble_eq_true rfl)
  · have q1 := c_1
    refine lv_iload_n hx hb d_X_needThing_4 rfl (lv_at hl 0 rfl) ?_
    refine lv_bipush (v := 10) hx hb d_X_needThing_5 (by decide) ?_
    refine lv_icmp_lt (tgt := 20) hx hb d_X_needThing_7 (by decide) (fun c_2 => ?_) (fun c_2 => ?_)
    · have q2 := c_2
      refine vx_ret ?_
      refine W.widen (k := 1) (n := 6) (Nat.le_of_ble_eq_true rfl) (Nat.le_of_ble_eq_true rfl) ?_
      exact W.vret hx hb hr (fun tz hz9 hW9 => ⟨⟨M, rfl, ⟨rfl, q1, q2⟩, by rw [hz9]; exact hP, va_K.moved hW9.alike hK⟩, hS.F hz9⟩) hS.2.2 d_X_needThing_20
    · have q : x < 0 ∨ ¬ x < 10 := Or.inr c_2
      obtain ⟨sa, hsa⟩ := hG.2.2.1 (227, "there is no such thing") (by decide)
      exact x_throwS (cls := "java/lang/IndexOutOfBoundsException") hx hb hl9 hown (hts _ (al aC_X_100)) (hts _ (al aN_IndexOutOfBoundsException)) hsa (hat_X_104 hts hG) hot_X_104 (by decide) hG hK hP hS (hl.1.trans hml.symm) d_X_needThing_10 d_X_needThing_13 d_X_needThing_14 d_X_needThing_16 d_X_needThing_19 (hout _) (Nat.le_of_ble_eq_true rfl) (Nat.le_of_ble_eq_true rfl) (Nat.le_of_ble_eq_true rfl) (Nat.le_of_ble_eq_true rfl) hlocks (⟨rfl, q⟩) (Nat.le_of_ble_eq_true rfl) (Nat.le_of_ble_eq_true rfl)
set_option maxHeartbeats 4000000 in
set_option maxRecDepth 100000 in
/-- needKind -/
theorem k_X_needKind (l : Launch) (hl9 : l.stackTraces = false) (D : va_G) (cA : Nat → ClassId) (o sz : Nat) (M : wM) (x : Int32) : vx_Met l y_X_needKind (wm y_X_needKind c_X_needKind 1 (none)) { frames := 6, cells := 1, slots := 6, locals := 82 } (va_Pc [.int x] (xBx D cA o M sz)) (va_Qv (fun M1 => M1 = M ∧ ¬ x < 0 ∧ x < 4) (xQ D cA o) (xA o sz)) (xE D cA o M sz (fun E => E = "java/lang/IllegalArgumentException" ∧ (x < 0 ∨ ¬ x < 4))) 1 6 (xA o sz) := by
  refine vx_ofW (cc := c_X_needKind) (maxL := 1) (ret := (none)) (by decide) rfl ?_
  intro p e s m args below meth c s₁ B hml hex hv
  obtain ⟨rfl, ⟨hsz, hP, hK⟩, hG⟩ := hv
  have hx := B.exec
  have hb := B.bytes
  have hr := B.returns
  have hts := atoms_spec (ws := wm y_X_needKind c_X_needKind 1 (none)) B.pre
  have hown : s.vm.findClass "ShopDesks" = some m.cls := findClass_of_methodNamed B.named
  have hlocks := B.notSynchronized
  subst hsz
  have hout : ∀ pc, ∀ x ∈ c.exceptionTable.toList, covers x pc = false := fun pc x hx => (hex x hx).elim
  have hS : va_S (xA o s.heap.size) s.heap s.heap [] := va_S.rf
  have hW : ∀ i, i < 217 → xA o s.heap.size (o + i) := fun i hi => wA_in hi
  have hl := lv_entry ([.int x]) (n := 1) (Nat.le_of_ble_eq_true rfl)
  rw [lg_entry_eq]
  generalize (lg_sl ([.int x]) ++ List.replicate (1 - (lg_sl ([.int x])).length) Slot.unset).toArray = ls at hl ⊢
  have hl : lv_has ls 1 [(0, .int x)] := hl
  refine lv_iload_n hx hb d_X_needKind_0 rfl (lv_at hl 0 rfl) ?_
  refine lv_if_lt (tgt := 9) hx hb d_X_needKind_1 (by decide) (fun c_1 => ?_) (fun c_1 => ?_)
  · have q : x < 0 ∨ ¬ x < 4 := Or.inl c_1
    obtain ⟨sa, hsa⟩ := hG.2.2.1 (229, "there is no such kind") (by decide)
    exact x_throwS (cls := "java/lang/IllegalArgumentException") hx hb hl9 hown (hts _ (al aC_X_91)) (hts _ (al aN_IllegalArgumentException)) hsa (hat_X_95 hts hG) hot_X_95 (by decide) hG hK hP hS (hl.1.trans hml.symm) d_X_needKind_9 d_X_needKind_12 d_X_needKind_13 d_X_needKind_15 d_X_needKind_18 (hout _) (Nat.le_of_ble_eq_true rfl) (Nat.le_of_ble_eq_true rfl) (Nat.le_of_ble_eq_true rfl) (Nat.le_of_ble_eq_true rfl) hlocks (⟨rfl, q⟩) (Nat.le_of_ble_eq_true rfl) (Nat.le_of_ble_eq_true rfl)
  · have q1 := c_1
    refine lv_iload_n hx hb d_X_needKind_4 rfl (lv_at hl 0 rfl) ?_
    refine lv_iconst (v := 4) hx hb d_X_needKind_5 (by decide) ?_
    refine lv_icmp_lt (tgt := 19) hx hb d_X_needKind_6 (by decide) (fun c_2 => ?_) (fun c_2 => ?_)
    · have q2 := c_2
      refine vx_ret ?_
      refine W.widen (k := 1) (n := 6) (Nat.le_of_ble_eq_true rfl) (Nat.le_of_ble_eq_true rfl) ?_
      exact W.vret hx hb hr (fun tz hz9 hW9 => ⟨⟨M, rfl, ⟨rfl, q1, q2⟩, by rw [hz9]; exact hP, va_K.moved hW9.alike hK⟩, hS.F hz9⟩) hS.2.2 d_X_needKind_19
    · have q : x < 0 ∨ ¬ x < 4 := Or.inr c_2
      obtain ⟨sa, hsa⟩ := hG.2.2.1 (229, "there is no such kind") (by decide)
      exact x_throwS (cls := "java/lang/IllegalArgumentException") hx hb hl9 hown (hts _ (al aC_X_91)) (hts _ (al aN_IllegalArgumentException)) hsa (hat_X_95 hts hG) hot_X_95 (by decide) hG hK hP hS (hl.1.trans hml.symm) d_X_needKind_9 d_X_needKind_12 d_X_needKind_13 d_X_needKind_15 d_X_needKind_18 (hout _) (Nat.le_of_ble_eq_true rfl) (Nat.le_of_ble_eq_true rfl) (Nat.le_of_ble_eq_true rfl) (Nat.le_of_ble_eq_true rfl) hlocks (⟨rfl, q⟩) (Nat.le_of_ble_eq_true rfl) (Nat.le_of_ble_eq_true rfl)
set_option maxHeartbeats 4000000 in
set_option maxRecDepth 100000 in
/-- needPerson -/
theorem k_X_needPerson (l : Launch) (hl9 : l.stackTraces = false) (D : va_G) (cA : Nat → ClassId) (o sz : Nat) (M : wM) (x : Int32) : vx_Met l y_X_needPerson (wm y_X_needPerson c_X_needPerson 1 (none)) { frames := 6, cells := 1, slots := 6, locals := 82 } (va_Pc [.int x] (xBx D cA o M sz)) (va_Qv (fun M1 => M1 = M ∧ ¬ x < 0 ∧ x < 4) (xQ D cA o) (xA o sz)) (xE D cA o M sz (fun E => E = "java/lang/IndexOutOfBoundsException" ∧ (x < 0 ∨ ¬ x < 4))) 1 6 (xA o sz) := by
  refine vx_ofW (cc := c_X_needPerson) (maxL := 1) (ret := (none)) (by decide) rfl ?_
  intro p e s m args below meth c s₁ B hml hex hv
  obtain ⟨rfl, ⟨hsz, hP, hK⟩, hG⟩ := hv
  have hx := B.exec
  have hb := B.bytes
  have hr := B.returns
  have hts := atoms_spec (ws := wm y_X_needPerson c_X_needPerson 1 (none)) B.pre
  have hown : s.vm.findClass "ShopDesks" = some m.cls := findClass_of_methodNamed B.named
  have hlocks := B.notSynchronized
  subst hsz
  have hout : ∀ pc, ∀ x ∈ c.exceptionTable.toList, covers x pc = false := fun pc x hx => (hex x hx).elim
  have hS : va_S (xA o s.heap.size) s.heap s.heap [] := va_S.rf
  have hW : ∀ i, i < 217 → xA o s.heap.size (o + i) := fun i hi => wA_in hi
  have hl := lv_entry ([.int x]) (n := 1) (Nat.le_of_ble_eq_true rfl)
  rw [lg_entry_eq]
  generalize (lg_sl ([.int x]) ++ List.replicate (1 - (lg_sl ([.int x])).length) Slot.unset).toArray = ls at hl ⊢
  have hl : lv_has ls 1 [(0, .int x)] := hl
  refine lv_iload_n hx hb d_X_needPerson_0 rfl (lv_at hl 0 rfl) ?_
  refine lv_if_lt (tgt := 9) hx hb d_X_needPerson_1 (by decide) (fun c_1 => ?_) (fun c_1 => ?_)
  · have q : x < 0 ∨ ¬ x < 4 := Or.inl c_1
    obtain ⟨sa, hsa⟩ := hG.2.2.1 (231, "there is no such person") (by decide)
    exact x_throwS (cls := "java/lang/IndexOutOfBoundsException") hx hb hl9 hown (hts _ (al aC_X_100)) (hts _ (al aN_IndexOutOfBoundsException)) hsa (hat_X_104 hts hG) hot_X_104 (by decide) hG hK hP hS (hl.1.trans hml.symm) d_X_needPerson_9 d_X_needPerson_12 d_X_needPerson_13 d_X_needPerson_15 d_X_needPerson_18 (hout _) (Nat.le_of_ble_eq_true rfl) (Nat.le_of_ble_eq_true rfl) (Nat.le_of_ble_eq_true rfl) (Nat.le_of_ble_eq_true rfl) hlocks (⟨rfl, q⟩) (Nat.le_of_ble_eq_true rfl) (Nat.le_of_ble_eq_true rfl)
  · have q1 := c_1
    refine lv_iload_n hx hb d_X_needPerson_4 rfl (lv_at hl 0 rfl) ?_
    refine lv_iconst (v := 4) hx hb d_X_needPerson_5 (by decide) ?_
    refine lv_icmp_lt (tgt := 19) hx hb d_X_needPerson_6 (by decide) (fun c_2 => ?_) (fun c_2 => ?_)
    · have q2 := c_2
      refine vx_ret ?_
      refine W.widen (k := 1) (n := 6) (Nat.le_of_ble_eq_true rfl) (Nat.le_of_ble_eq_true rfl) ?_
      exact W.vret hx hb hr (fun tz hz9 hW9 => ⟨⟨M, rfl, ⟨rfl, q1, q2⟩, by rw [hz9]; exact hP, va_K.moved hW9.alike hK⟩, hS.F hz9⟩) hS.2.2 d_X_needPerson_19
    · have q : x < 0 ∨ ¬ x < 4 := Or.inr c_2
      obtain ⟨sa, hsa⟩ := hG.2.2.1 (231, "there is no such person") (by decide)
      exact x_throwS (cls := "java/lang/IndexOutOfBoundsException") hx hb hl9 hown (hts _ (al aC_X_100)) (hts _ (al aN_IndexOutOfBoundsException)) hsa (hat_X_104 hts hG) hot_X_104 (by decide) hG hK hP hS (hl.1.trans hml.symm) d_X_needPerson_9 d_X_needPerson_12 d_X_needPerson_13 d_X_needPerson_15 d_X_needPerson_18 (hout _) (Nat.le_of_ble_eq_true rfl) (Nat.le_of_ble_eq_true rfl) (Nat.le_of_ble_eq_true rfl) (Nat.le_of_ble_eq_true rfl) hlocks (⟨rfl, q⟩) (Nat.le_of_ble_eq_true rfl) (Nat.le_of_ble_eq_true rfl)
set_option maxHeartbeats 4000000 in
set_option maxRecDepth 100000 in
/-- needAccount -/
theorem k_X_needAccount (l : Launch) (hl9 : l.stackTraces = false) (D : va_G) (cA : Nat → ClassId) (o sz : Nat) (M : wM) (x : Int32) : vx_Met l y_X_needAccount (wm y_X_needAccount c_X_needAccount 1 (none)) { frames := 6, cells := 1, slots := 6, locals := 82 } (va_Pc [.int x] (xBx D cA o M sz)) (va_Qv (fun M1 => M1 = M ∧ ¬ x < 0 ∧ x < 10) (xQ D cA o) (xA o sz)) (xE D cA o M sz (fun E => E = "java/lang/IndexOutOfBoundsException" ∧ (x < 0 ∨ ¬ x < 10))) 1 6 (xA o sz) := by
  refine vx_ofW (cc := c_X_needAccount) (maxL := 1) (ret := (none)) (by decide) rfl ?_
  intro p e s m args below meth c s₁ B hml hex hv
  obtain ⟨rfl, ⟨hsz, hP, hK⟩, hG⟩ := hv
  have hx := B.exec
  have hb := B.bytes
  have hr := B.returns
  have hts := atoms_spec (ws := wm y_X_needAccount c_X_needAccount 1 (none)) B.pre
  have hown : s.vm.findClass "ShopDesks" = some m.cls := findClass_of_methodNamed B.named
  have hlocks := B.notSynchronized
  subst hsz
  have hout : ∀ pc, ∀ x ∈ c.exceptionTable.toList, covers x pc = false := fun pc x hx => (hex x hx).elim
  have hS : va_S (xA o s.heap.size) s.heap s.heap [] := va_S.rf
  have hW : ∀ i, i < 217 → xA o s.heap.size (o + i) := fun i hi => wA_in hi
  have hl := lv_entry ([.int x]) (n := 1) (Nat.le_of_ble_eq_true rfl)
  rw [lg_entry_eq]
  generalize (lg_sl ([.int x]) ++ List.replicate (1 - (lg_sl ([.int x])).length) Slot.unset).toArray = ls at hl ⊢
  have hl : lv_has ls 1 [(0, .int x)] := hl
  refine lv_iload_n hx hb d_X_needAccount_0 rfl (lv_at hl 0 rfl) ?_
  refine lv_if_lt (tgt := 10) hx hb d_X_needAccount_1 (by decide) (fun c_1 => ?_) (fun c_1 => ?_)
  · have q : x < 0 ∨ ¬ x < 10 := Or.inl c_1
    obtain ⟨sa, hsa⟩ := hG.2.2.1 (233, "there is no such account") (by decide)
    exact x_throwS (cls := "java/lang/IndexOutOfBoundsException") hx hb hl9 hown (hts _ (al aC_X_100)) (hts _ (al aN_IndexOutOfBoundsException)) hsa (hat_X_104 hts hG) hot_X_104 (by decide) hG hK hP hS (hl.1.trans hml.symm) d_X_needAccount_10 d_X_needAccount_13 d_X_needAccount_14 d_X_needAccount_16 d_X_needAccount_19 (hout _) (Nat.le_of_ble_eq_true rfl) (Nat.le_of_ble_eq_true rfl) (Nat.le_of_ble_eq_true rfl) (Nat.le_of_ble_eq_true rfl) hlocks (⟨rfl, q⟩) (Nat.le_of_ble_eq_true rfl) (Nat.le_of_ble_eq_true rfl)
  · have q1 := c_1
    refine lv_iload_n hx hb d_X_needAccount_4 rfl (lv_at hl 0 rfl) ?_
    refine lv_bipush (v := 10) hx hb d_X_needAccount_5 (by decide) ?_
    refine lv_icmp_lt (tgt := 20) hx hb d_X_needAccount_7 (by decide) (fun c_2 => ?_) (fun c_2 => ?_)
    · have q2 := c_2
      refine vx_ret ?_
      refine W.widen (k := 1) (n := 6) (Nat.le_of_ble_eq_true rfl) (Nat.le_of_ble_eq_true rfl) ?_
      exact W.vret hx hb hr (fun tz hz9 hW9 => ⟨⟨M, rfl, ⟨rfl, q1, q2⟩, by rw [hz9]; exact hP, va_K.moved hW9.alike hK⟩, hS.F hz9⟩) hS.2.2 d_X_needAccount_20
    · have q : x < 0 ∨ ¬ x < 10 := Or.inr c_2
      obtain ⟨sa, hsa⟩ := hG.2.2.1 (233, "there is no such account") (by decide)
      exact x_throwS (cls := "java/lang/IndexOutOfBoundsException") hx hb hl9 hown (hts _ (al aC_X_100)) (hts _ (al aN_IndexOutOfBoundsException)) hsa (hat_X_104 hts hG) hot_X_104 (by decide) hG hK hP hS (hl.1.trans hml.symm) d_X_needAccount_10 d_X_needAccount_13 d_X_needAccount_14 d_X_needAccount_16 d_X_needAccount_19 (hout _) (Nat.le_of_ble_eq_true rfl) (Nat.le_of_ble_eq_true rfl) (Nat.le_of_ble_eq_true rfl) (Nat.le_of_ble_eq_true rfl) hlocks (⟨rfl, q⟩) (Nat.le_of_ble_eq_true rfl) (Nat.le_of_ble_eq_true rfl)
set_option maxHeartbeats 4000000 in
set_option maxRecDepth 100000 in
/-- needDay -/
theorem k_X_needDay (l : Launch) (hl9 : l.stackTraces = false) (D : va_G) (cA : Nat → ClassId) (o sz : Nat) (M : wM) (x : Int32) : vx_Met l y_X_needDay (wm y_X_needDay c_X_needDay 1 (none)) { frames := 6, cells := 1, slots := 6, locals := 82 } (va_Pc [.int x] (xBx D cA o M sz)) (va_Qv (fun M1 => M1 = M ∧ ¬ x < 0 ∧ x < 3600) (xQ D cA o) (xA o sz)) (xE D cA o M sz (fun E => E = "java/lang/IllegalArgumentException" ∧ (x < 0 ∨ ¬ x < 3600))) 1 6 (xA o sz) := by
  refine vx_ofW (cc := c_X_needDay) (maxL := 1) (ret := (none)) (by decide) rfl ?_
  intro p e s m args below meth c s₁ B hml hex hv
  obtain ⟨rfl, ⟨hsz, hP, hK⟩, hG⟩ := hv
  have hx := B.exec
  have hb := B.bytes
  have hr := B.returns
  have hts := atoms_spec (ws := wm y_X_needDay c_X_needDay 1 (none)) B.pre
  have hown : s.vm.findClass "ShopDesks" = some m.cls := findClass_of_methodNamed B.named
  have hlocks := B.notSynchronized
  subst hsz
  have hout : ∀ pc, ∀ x ∈ c.exceptionTable.toList, covers x pc = false := fun pc x hx => (hex x hx).elim
  have hS : va_S (xA o s.heap.size) s.heap s.heap [] := va_S.rf
  have hW : ∀ i, i < 217 → xA o s.heap.size (o + i) := fun i hi => wA_in hi
  have hl := lv_entry ([.int x]) (n := 1) (Nat.le_of_ble_eq_true rfl)
  rw [lg_entry_eq]
  generalize (lg_sl ([.int x]) ++ List.replicate (1 - (lg_sl ([.int x])).length) Slot.unset).toArray = ls at hl ⊢
  have hl : lv_has ls 1 [(0, .int x)] := hl
  refine lv_iload_n hx hb d_X_needDay_0 rfl (lv_at hl 0 rfl) ?_
  refine lv_if_lt (tgt := 11) hx hb d_X_needDay_1 (by decide) (fun c_1 => ?_) (fun c_1 => ?_)
  · have q : x < 0 ∨ ¬ x < 3600 := Or.inl c_1
    obtain ⟨sa, hsa⟩ := hG.2.2.1 (235, "day is not 0 .. 3599") (by decide)
    exact x_throwS (cls := "java/lang/IllegalArgumentException") hx hb hl9 hown (hts _ (al aC_X_91)) (hts _ (al aN_IllegalArgumentException)) hsa (hat_X_95 hts hG) hot_X_95 (by decide) hG hK hP hS (hl.1.trans hml.symm) d_X_needDay_11 d_X_needDay_14 d_X_needDay_15 d_X_needDay_17 d_X_needDay_20 (hout _) (Nat.le_of_ble_eq_true rfl) (Nat.le_of_ble_eq_true rfl) (Nat.le_of_ble_eq_true rfl) (Nat.le_of_ble_eq_true rfl) hlocks (⟨rfl, q⟩) (Nat.le_of_ble_eq_true rfl) (Nat.le_of_ble_eq_true rfl)
  · have q1 := c_1
    refine lv_iload_n hx hb d_X_needDay_4 rfl (lv_at hl 0 rfl) ?_
    refine lv_sipush (v := 3600) hx hb d_X_needDay_5 (by decide) ?_
    refine lv_icmp_lt (tgt := 21) hx hb d_X_needDay_8 (by decide) (fun c_2 => ?_) (fun c_2 => ?_)
    · have q2 := c_2
      refine vx_ret ?_
      refine W.widen (k := 1) (n := 6) (Nat.le_of_ble_eq_true rfl) (Nat.le_of_ble_eq_true rfl) ?_
      exact W.vret hx hb hr (fun tz hz9 hW9 => ⟨⟨M, rfl, ⟨rfl, q1, q2⟩, by rw [hz9]; exact hP, va_K.moved hW9.alike hK⟩, hS.F hz9⟩) hS.2.2 d_X_needDay_21
    · have q : x < 0 ∨ ¬ x < 3600 := Or.inr c_2
      obtain ⟨sa, hsa⟩ := hG.2.2.1 (235, "day is not 0 .. 3599") (by decide)
      exact x_throwS (cls := "java/lang/IllegalArgumentException") hx hb hl9 hown (hts _ (al aC_X_91)) (hts _ (al aN_IllegalArgumentException)) hsa (hat_X_95 hts hG) hot_X_95 (by decide) hG hK hP hS (hl.1.trans hml.symm) d_X_needDay_11 d_X_needDay_14 d_X_needDay_15 d_X_needDay_17 d_X_needDay_20 (hout _) (Nat.le_of_ble_eq_true rfl) (Nat.le_of_ble_eq_true rfl) (Nat.le_of_ble_eq_true rfl) (Nat.le_of_ble_eq_true rfl) hlocks (⟨rfl, q⟩) (Nat.le_of_ble_eq_true rfl) (Nat.le_of_ble_eq_true rfl)
set_option maxHeartbeats 4000000 in
set_option maxRecDepth 100000 in
/-- needSet -/
theorem k_X_needSet (l : Launch) (hl9 : l.stackTraces = false) (D : va_G) (cA : Nat → ClassId) (o sz : Nat) (M : wM) (x : Int32) : vx_Met l y_X_needSet (wm y_X_needSet c_X_needSet 2 (none)) { frames := 6, cells := 1, slots := 6, locals := 82 } (va_Pc [.ref (o + 0), .int x] (xBx D cA o M sz)) (va_Qv (fun M1 => M1 = M ∧ ¬ x < 0 ∧ x < M.2.2 0 2) (xQ D cA o) (xA o sz)) (xE D cA o M sz (fun E => E = "java/lang/IndexOutOfBoundsException" ∧ (x < 0 ∨ ¬ x < M.2.2 0 2))) 1 6 (xA o sz) := by
  refine vx_ofW (cc := c_X_needSet) (maxL := 2) (ret := (none)) (by decide) rfl ?_
  intro p e s m args below meth c s₁ B hml hex hv
  obtain ⟨rfl, ⟨hsz, hP, hK⟩, hG⟩ := hv
  have hx := B.exec
  have hb := B.bytes
  have hr := B.returns
  have hts := atoms_spec (ws := wm y_X_needSet c_X_needSet 2 (none)) B.pre
  have hown : s.vm.findClass "ShopDesks" = some m.cls := findClass_of_methodNamed B.named
  have hlocks := B.notSynchronized
  subst hsz
  have hout : ∀ pc, ∀ x ∈ c.exceptionTable.toList, covers x pc = false := fun pc x hx => (hex x hx).elim
  have hS : va_S (xA o s.heap.size) s.heap s.heap [] := va_S.rf
  have hW : ∀ i, i < 217 → xA o s.heap.size (o + i) := fun i hi => wA_in hi
  have hl := lv_entry ([.ref (o + 0), .int x]) (n := 2) (Nat.le_of_ble_eq_true rfl)
  rw [lg_entry_eq]
  generalize (lg_sl ([.ref (o + 0), .int x]) ++ List.replicate (2 - (lg_sl ([.ref (o + 0), .int x])).length) Slot.unset).toArray = ls at hl ⊢
  have hl : lv_has ls 2 [(0, .ref (o + 0)), (1, .int x)] := hl
  refine lv_iload_n hx hb d_X_needSet_0 rfl (lv_at hl 1 rfl) ?_
  refine lv_if_lt (tgt := 12) hx hb d_X_needSet_1 (by decide) (fun c_1 => ?_) (fun c_1 => ?_)
  · have q : x < 0 ∨ ¬ x < M.2.2 0 2 := Or.inl c_1
    obtain ⟨sa, hsa⟩ := hG.2.2.1 (237, "there is no such set") (by decide)
    exact x_throwS (cls := "java/lang/IndexOutOfBoundsException") hx hb hl9 hown (hts _ (al aC_X_100)) (hts _ (al aN_IndexOutOfBoundsException)) hsa (hat_X_104 hts hG) hot_X_104 (by decide) hG hK hP hS (hl.1.trans hml.symm) d_X_needSet_12 d_X_needSet_15 d_X_needSet_16 d_X_needSet_18 d_X_needSet_21 (hout _) (Nat.le_of_ble_eq_true rfl) (Nat.le_of_ble_eq_true rfl) (Nat.le_of_ble_eq_true rfl) (Nat.le_of_ble_eq_true rfl) hlocks (⟨rfl, q⟩) (Nat.le_of_ble_eq_true rfl) (Nat.le_of_ble_eq_true rfl)
  · have q1 := c_1
    refine lv_iload_n hx hb d_X_needSet_4 rfl (lv_at hl 1 rfl) ?_
    refine lv_aload_n hx hb d_X_needSet_5 rfl (lv_at hl 0 rfl) ?_
    refine w_get (C := R_X) (T := F_X) (N := 5) (ci := 4) (v := .int (M.2.2 0 2)) hx hb hts inw_X hown hK hP 0 (by decide) SX_0 rfl 2 (by decide) (hts _ (al aF_X_25)) rfl d_X_needSet_6 ?_
    refine lv_icmp_lt (tgt := 22) hx hb d_X_needSet_9 (by decide) (fun c_2 => ?_) (fun c_2 => ?_)
    · have q2 := c_2
      refine vx_ret ?_
      refine W.widen (k := 1) (n := 6) (Nat.le_of_ble_eq_true rfl) (Nat.le_of_ble_eq_true rfl) ?_
      exact W.vret hx hb hr (fun tz hz9 hW9 => ⟨⟨M, rfl, ⟨rfl, q1, q2⟩, by rw [hz9]; exact hP, va_K.moved hW9.alike hK⟩, hS.F hz9⟩) hS.2.2 d_X_needSet_22
    · have q : x < 0 ∨ ¬ x < M.2.2 0 2 := Or.inr c_2
      obtain ⟨sa, hsa⟩ := hG.2.2.1 (237, "there is no such set") (by decide)
      exact x_throwS (cls := "java/lang/IndexOutOfBoundsException") hx hb hl9 hown (hts _ (al aC_X_100)) (hts _ (al aN_IndexOutOfBoundsException)) hsa (hat_X_104 hts hG) hot_X_104 (by decide) hG hK hP hS (hl.1.trans hml.symm) d_X_needSet_12 d_X_needSet_15 d_X_needSet_16 d_X_needSet_18 d_X_needSet_21 (hout _) (Nat.le_of_ble_eq_true rfl) (Nat.le_of_ble_eq_true rfl) (Nat.le_of_ble_eq_true rfl) (Nat.le_of_ble_eq_true rfl) hlocks (⟨rfl, q⟩) (Nat.le_of_ble_eq_true rfl) (Nat.le_of_ble_eq_true rfl)
set_option maxHeartbeats 4000000 in
set_option maxRecDepth 100000 in
/-- needEntry -/
theorem k_X_needEntry (l : Launch) (hl9 : l.stackTraces = false) (D : va_G) (cA : Nat → ClassId) (o sz : Nat) (M : wM) (x : Int32) : vx_Met l y_X_needEntry (wm y_X_needEntry c_X_needEntry 2 (none)) { frames := 6, cells := 1, slots := 6, locals := 82 } (va_Pc [.ref (o + 0), .int x] (xBx D cA o M sz)) (va_Qv (fun M1 => M1 = M ∧ ¬ x < 0 ∧ x < M.2.2 34 2) (xQ D cA o) (xA o sz)) (xE D cA o M sz (fun E => E = "java/lang/IndexOutOfBoundsException" ∧ (x < 0 ∨ ¬ x < M.2.2 34 2))) 1 6 (xA o sz) := by
  refine vx_ofW (cc := c_X_needEntry) (maxL := 2) (ret := (none)) (by decide) rfl ?_
  intro p e s m args below meth c s₁ B hml hex hv
  obtain ⟨rfl, ⟨hsz, hP, hK⟩, hG⟩ := hv
  have hx := B.exec
  have hb := B.bytes
  have hr := B.returns
  have hts := atoms_spec (ws := wm y_X_needEntry c_X_needEntry 2 (none)) B.pre
  have hown : s.vm.findClass "ShopDesks" = some m.cls := findClass_of_methodNamed B.named
  have hlocks := B.notSynchronized
  subst hsz
  have hout : ∀ pc, ∀ x ∈ c.exceptionTable.toList, covers x pc = false := fun pc x hx => (hex x hx).elim
  have hS : va_S (xA o s.heap.size) s.heap s.heap [] := va_S.rf
  have hW : ∀ i, i < 217 → xA o s.heap.size (o + i) := fun i hi => wA_in hi
  have hl := lv_entry ([.ref (o + 0), .int x]) (n := 2) (Nat.le_of_ble_eq_true rfl)
  rw [lg_entry_eq]
  generalize (lg_sl ([.ref (o + 0), .int x]) ++ List.replicate (2 - (lg_sl ([.ref (o + 0), .int x])).length) Slot.unset).toArray = ls at hl ⊢
  have hl : lv_has ls 2 [(0, .ref (o + 0)), (1, .int x)] := hl
  refine lv_iload_n hx hb d_X_needEntry_0 rfl (lv_at hl 1 rfl) ?_
  refine lv_if_lt (tgt := 15) hx hb d_X_needEntry_1 (by decide) (fun c_1 => ?_) (fun c_1 => ?_)
  · have q : x < 0 ∨ ¬ x < M.2.2 34 2 := Or.inl c_1
    obtain ⟨sa, hsa⟩ := hG.2.2.1 (242, "there is no such entry") (by decide)
    exact x_throwS (cls := "java/lang/IndexOutOfBoundsException") hx hb hl9 hown (hts _ (al aC_X_100)) (hts _ (al aN_IndexOutOfBoundsException)) hsa (hat_X_104 hts hG) hot_X_104 (by decide) hG hK hP hS (hl.1.trans hml.symm) d_X_needEntry_15 d_X_needEntry_18 d_X_needEntry_19 d_X_needEntry_21 d_X_needEntry_24 (hout _) (Nat.le_of_ble_eq_true rfl) (Nat.le_of_ble_eq_true rfl) (Nat.le_of_ble_eq_true rfl) (Nat.le_of_ble_eq_true rfl) hlocks (⟨rfl, q⟩) (Nat.le_of_ble_eq_true rfl) (Nat.le_of_ble_eq_true rfl)
  · have q1 := c_1
    refine lv_iload_n hx hb d_X_needEntry_4 rfl (lv_at hl 1 rfl) ?_
    refine lv_aload_n hx hb d_X_needEntry_5 rfl (lv_at hl 0 rfl) ?_
    refine w_get (C := R_X) (T := F_X) (N := 5) (ci := 4) (v := .ref (o + 34)) hx hb hts inw_X hown hK hP 0 (by decide) SX_0 rfl 4 (by decide) (hts _ (al aF_X_36)) rfl d_X_needEntry_6 ?_
    refine w_get (C := R_L) (T := F_L) (N := 5) (ci := 1) (v := .int (M.2.2 34 2)) hx hb hts inw_L hown hK hP 34 (by decide) SX_34 rfl 2 (by decide) (hts _ (al aF_X_239)) rfl d_X_needEntry_9 ?_
    refine lv_icmp_lt (tgt := 25) hx hb d_X_needEntry_12 (by decide) (fun c_2 => ?_) (fun c_2 => ?_)
    · have q2 := c_2
      refine vx_ret ?_
      refine W.widen (k := 1) (n := 6) (Nat.le_of_ble_eq_true rfl) (Nat.le_of_ble_eq_true rfl) ?_
      exact W.vret hx hb hr (fun tz hz9 hW9 => ⟨⟨M, rfl, ⟨rfl, q1, q2⟩, by rw [hz9]; exact hP, va_K.moved hW9.alike hK⟩, hS.F hz9⟩) hS.2.2 d_X_needEntry_25
    · have q : x < 0 ∨ ¬ x < M.2.2 34 2 := Or.inr c_2
      obtain ⟨sa, hsa⟩ := hG.2.2.1 (242, "there is no such entry") (by decide)
      exact x_throwS (cls := "java/lang/IndexOutOfBoundsException") hx hb hl9 hown (hts _ (al aC_X_100)) (hts _ (al aN_IndexOutOfBoundsException)) hsa (hat_X_104 hts hG) hot_X_104 (by decide) hG hK hP hS (hl.1.trans hml.symm) d_X_needEntry_15 d_X_needEntry_18 d_X_needEntry_19 d_X_needEntry_21 d_X_needEntry_24 (hout _) (Nat.le_of_ble_eq_true rfl) (Nat.le_of_ble_eq_true rfl) (Nat.le_of_ble_eq_true rfl) (Nat.le_of_ble_eq_true rfl) hlocks (⟨rfl, q⟩) (Nat.le_of_ble_eq_true rfl) (Nat.le_of_ble_eq_true rfl)
set_option maxHeartbeats 4000000 in
set_option maxRecDepth 100000 in
/-- needRoomForEntry -/
theorem k_X_needRoomForEntry (l : Launch) (hl9 : l.stackTraces = false) (D : va_G) (cA : Nat → ClassId) (o sz : Nat) (M : wM)  : vx_Met l y_X_needRoomForEntry (wm y_X_needRoomForEntry c_X_needRoomForEntry 1 (none)) { frames := 6, cells := 1, slots := 6, locals := 82 } (va_Pc [.ref (o + 0)] (xBx D cA o M sz)) (va_Qv (fun M1 => M1 = M ∧ M.2.2 34 2 < 60) (xQ D cA o) (xA o sz)) (xE D cA o M sz (fun E => E = "java/lang/IllegalStateException" ∧ ¬ M.2.2 34 2 < 60)) 1 6 (xA o sz) := by
  refine vx_ofW (cc := c_X_needRoomForEntry) (maxL := 1) (ret := (none)) (by decide) rfl ?_
  intro p e s m args below meth c s₁ B hml hex hv
  obtain ⟨rfl, ⟨hsz, hP, hK⟩, hG⟩ := hv
  have hx := B.exec
  have hb := B.bytes
  have hr := B.returns
  have hts := atoms_spec (ws := wm y_X_needRoomForEntry c_X_needRoomForEntry 1 (none)) B.pre
  have hown : s.vm.findClass "ShopDesks" = some m.cls := findClass_of_methodNamed B.named
  have hlocks := B.notSynchronized
  subst hsz
  have hout : ∀ pc, ∀ x ∈ c.exceptionTable.toList, covers x pc = false := fun pc x hx => (hex x hx).elim
  have hS : va_S (xA o s.heap.size) s.heap s.heap [] := va_S.rf
  have hW : ∀ i, i < 217 → xA o s.heap.size (o + i) := fun i hi => wA_in hi
  have hl := lv_entry ([.ref (o + 0)]) (n := 1) (Nat.le_of_ble_eq_true rfl)
  rw [lg_entry_eq]
  generalize (lg_sl ([.ref (o + 0)]) ++ List.replicate (1 - (lg_sl ([.ref (o + 0)])).length) Slot.unset).toArray = ls at hl ⊢
  have hl : lv_has ls 1 [(0, .ref (o + 0))] := hl
  refine lv_aload_n hx hb d_X_needRoomForEntry_0 rfl (lv_at hl 0 rfl) ?_
  refine w_get (C := R_X) (T := F_X) (N := 5) (ci := 4) (v := .ref (o + 34)) hx hb hts inw_X hown hK hP 0 (by decide) SX_0 rfl 4 (by decide) (hts _ (al aF_X_36)) rfl d_X_needRoomForEntry_1 ?_
  refine w_get (C := R_L) (T := F_L) (N := 5) (ci := 1) (v := .int (M.2.2 34 2)) hx hb hts inw_L hown hK hP 34 (by decide) SX_34 rfl 2 (by decide) (hts _ (al aF_X_239)) rfl d_X_needRoomForEntry_4 ?_
  refine lv_bipush (v := 60) hx hb d_X_needRoomForEntry_7 (by decide) ?_
  refine lv_icmp_lt (tgt := 22) hx hb d_X_needRoomForEntry_9 (by decide) (fun c_1 => ?_) (fun c_1 => ?_)
  · have q2 := c_1
    refine vx_ret ?_
    refine W.widen (k := 1) (n := 6) (Nat.le_of_ble_eq_true rfl) (Nat.le_of_ble_eq_true rfl) ?_
    exact W.vret hx hb hr (fun tz hz9 hW9 => ⟨⟨M, rfl, ⟨rfl, q2⟩, by rw [hz9]; exact hP, va_K.moved hW9.alike hK⟩, hS.F hz9⟩) hS.2.2 d_X_needRoomForEntry_22
  · have q := c_1
    obtain ⟨sa, hsa⟩ := hG.2.2.1 (244, "there are 60 entries") (by decide)
    exact x_throwS (cls := "java/lang/IllegalStateException") hx hb hl9 hown (hts _ (al aC_X_57)) (hts _ (al aN_IllegalStateException)) hsa (hat_X_61 hts hG) hot_X_61 (by decide) hG hK hP hS (hl.1.trans hml.symm) d_X_needRoomForEntry_12 d_X_needRoomForEntry_15 d_X_needRoomForEntry_16 d_X_needRoomForEntry_18 d_X_needRoomForEntry_21 (hout _) (Nat.le_of_ble_eq_true rfl) (Nat.le_of_ble_eq_true rfl) (Nat.le_of_ble_eq_true rfl) (Nat.le_of_ble_eq_true rfl) hlocks (⟨rfl, q⟩) (Nat.le_of_ble_eq_true rfl) (Nat.le_of_ble_eq_true rfl)

