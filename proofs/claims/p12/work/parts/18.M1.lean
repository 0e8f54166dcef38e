/-! the reference: what its helpers say -/
def y_hold (M : wM) (t : Nat) (th kd : Int32) (tm : Int64) : Bool := decide (M.1 3 t = th ∧ M.1 4 t = kd ∧ M.2.1 6 t ≤ tm)
def y_later (M : wM) (a b : Nat) : Bool := if M.2.1 6 a = M.2.1 6 b then (if M.1 1 a = M.1 1 b then decide (M.2.1 2 b < M.2.1 2 a) else decide (M.1 1 b < M.1 1 a)) else decide (M.2.1 6 b < M.2.1 6 a)
def y_pick (M : wM) (q : Option Nat) (t : Nat) : Nat := match q with
  | none => t
  | some a => if y_later M a t = true then a else t
theorem y_idx (c s k : Nat) : nI c * nI s + nI k = nI (c * s + k) := by rw [pk_mul, nI_add]
theorem x_opt_lt {q : Option Nat} (hq : ∀ u, q = some u → u < 300) (h : x_opt q < 0) : q = none := by
  cases q with
  | none => rfl
  | some u => exact absurd h (nI_pos (by have := hq u rfl; omega))
theorem x_opt_nlt {q : Option Nat} (h : ¬ x_opt q < 0) : ∃ u, q = some u := by
  cases q with
  | none => exact absurd (by decide) h
  | some u => exact ⟨u, rfl⟩
set_option maxHeartbeats 4000000 in
set_option maxRecDepth 100000 in
/-- M_thrown -/
theorem k_M_thrown (l : Launch) (D : va_G) (cA : Nat → ClassId) (o sz : Nat) (M : wM)  : Met l y_M_thrown (wm y_M_thrown c_M_thrown 1 (some .int)) { frames := 0, cells := 0, slots := 0, locals := 0 } (va_Pc [.ref (o + 0)] (mB D cA o M sz)) (va_Qi (fun r M1 => M1 = M ∧ r = M.2.2 0 0) (mQ D cA o) (mA o sz)) 0 0 (mA o sz) := by
  refine Met.ofW (cc := c_M_thrown) (maxL := 1) (ret := (some .int)) (by decide) rfl ?_
  intro p e s m args below meth c s₁ B hml hv
  obtain ⟨rfl, hsz, hP, hK⟩ := hv
  have hx := B.exec
  have hb := B.bytes
  have hr := B.returns
  have hts := atoms_spec (ws := wm y_M_thrown c_M_thrown 1 (some .int)) B.pre
  have hown : s.vm.findClass "ShopDesksModel" = some m.cls := findClass_of_methodNamed B.named
  have hlocks := B.notSynchronized
  subst hsz
  have hS : va_S (mA o s.heap.size) s.heap s.heap [] := va_S.rf
  have hW : ∀ i, i < 17 → mA o s.heap.size (o + i) := fun i hi => wA_in hi
  have hl := lv_entry ([.ref (o + 0)]) (n := 1) (Nat.le_of_ble_eq_true rfl)
  rw [lg_entry_eq]
  generalize (lg_sl ([.ref (o + 0)]) ++ List.replicate (1 - (lg_sl ([.ref (o + 0)])).length) Slot.unset).toArray = ls at hl ⊢
  have hl : lv_has ls 1 [(0, .ref (o + 0))] := hl
  refine lv_aload_n hx hb d_M_thrown_0 rfl (lv_at hl 0 rfl) ?_
  refine w_get (C := R_M) (T := F_M) (N := 22) (ci := 5) (v := .int (M.2.2 0 0)) hx hb hts inw_M hown hK hP 0 (by decide) SM_0 rfl 0 (by decide) (hts _ (al aF_M_64)) rfl d_M_thrown_1 ?_
  exact W.iret (v := M.2.2 0 0) hx hb hr (fun tz hz9 hW9 => ⟨⟨M.2.2 0 0, M, rfl, ⟨rfl, rfl⟩, by rw [hz9]; exact hP, va_K.moved hW9.alike hK⟩, hS.F hz9⟩) hS.2.2 d_M_thrown_4
set_option maxHeartbeats 4000000 in
set_option maxRecDepth 100000 in
/-- M_isIn -/
theorem k_M_isIn (l : Launch) (D : va_G) (cA : Nat → ClassId) (o sz : Nat) (M : wM) (v lo hi : Int64) : Met l y_M_isIn (wm y_M_isIn c_M_isIn 6 (some .boolean)) { frames := 0, cells := 0, slots := 0, locals := 0 } (va_Pc [.long v, .long lo, .long hi] (mB D cA o M sz)) (va_Qi (fun r M1 => M1 = M ∧ r = b2i (decide (lo ≤ v ∧ v ≤ hi))) (mQ D cA o) (mA o sz)) 0 0 (mA o sz) := by
  refine Met.ofW (cc := c_M_isIn) (maxL := 6) (ret := (some .boolean)) (by decide) rfl ?_
  intro p e s m args below meth c s₁ B hml hv
  obtain ⟨rfl, hsz, hP, hK⟩ := hv
  have hx := B.exec
  have hb := B.bytes
  have hr := B.returns
  have hts := atoms_spec (ws := wm y_M_isIn c_M_isIn 6 (some .boolean)) B.pre
  have hown : s.vm.findClass "ShopDesksModel" = some m.cls := findClass_of_methodNamed B.named
  have hlocks := B.notSynchronized
  subst hsz
  have hS : va_S (mA o s.heap.size) s.heap s.heap [] := va_S.rf
  have hW : ∀ i, i < 17 → mA o s.heap.size (o + i) := fun i hi => wA_in hi
  have hl := lv_entry ([.long v, .long lo, .long hi]) (n := 6) (Nat.le_of_ble_eq_true rfl)
  rw [lg_entry_eq]
  generalize (lg_sl ([.long v, .long lo, .long hi]) ++ List.replicate (6 - (lg_sl ([.long v, .long lo, .long hi])).length) Slot.unset).toArray = ls at hl ⊢
  have hl : lv_has ls 6 [(0, .long v), (2, .long lo), (4, .long hi)] := hl
  refine lv_lload_n hx hb d_M_isIn_0 rfl (lv_at hl 0 rfl) ?_
  refine lv_lload_n hx hb d_M_isIn_1 rfl (lv_at hl 1 rfl) ?_
  refine W.lcmp hx hb d_M_isIn_2 ?_
  refine lv_if_lt (tgt := 17) hx hb d_M_isIn_3 (by decide) (fun c_1 => ?_) (fun c_1 => ?_)
  · rw [lg_cmp_lt] at c_1
    have q := c_1
    refine lv_iconst (v := 0) hx hb d_M_isIn_17 (by decide) ?_
    exact W.zret (v := 0) hx hb hr rfl (fun tz hz9 hW9 => ⟨⟨0, M, rfl, ⟨rfl, (b2i_f (fun h => absurd h.1 (Int64.not_le.mpr q))).symm⟩, by rw [hz9]; exact hP, va_K.moved hW9.alike hK⟩, hS.F hz9⟩) hS.2.2 d_M_isIn_18
  · rw [lg_cmp_lt] at c_1
    have q1 := c_1
    refine lv_lload_n hx hb d_M_isIn_6 rfl (lv_at hl 0 rfl) ?_
    refine lv_lload hx hb d_M_isIn_7 (lv_at hl 2 rfl) ?_
    refine W.lcmp hx hb d_M_isIn_9 ?_
    refine lv_if_gt (tgt := 17) hx hb d_M_isIn_10 (by decide) (fun c_2 => ?_) (fun c_2 => ?_)
    · rw [lg_cmp_gt] at c_2
      have q := c_2
      refine lv_iconst (v := 0) hx hb d_M_isIn_17 (by decide) ?_
      exact W.zret (v := 0) hx hb hr rfl (fun tz hz9 hW9 => ⟨⟨0, M, rfl, ⟨rfl, (b2i_f (fun h => absurd h.2 (Int64.not_le.mpr q))).symm⟩, by rw [hz9]; exact hP, va_K.moved hW9.alike hK⟩, hS.F hz9⟩) hS.2.2 d_M_isIn_18
    · rw [lg_cmp_gt] at c_2
      have q2 := c_2
      refine lv_iconst (v := 1) hx hb d_M_isIn_13 (by decide) ?_
      refine lv_goto (tgt := 18) hx hb d_M_isIn_14 (by decide) ?_
      exact W.zret (v := 1) hx hb hr rfl (fun tz hz9 hW9 => ⟨⟨1, M, rfl, ⟨rfl, (b2i_t ⟨Int64.not_lt.mp q1, Int64.not_lt.mp q2⟩).symm⟩, by rw [hz9]; exact hP, va_K.moved hW9.alike hK⟩, hS.F hz9⟩) hS.2.2 d_M_isIn_18
set_option maxHeartbeats 4000000 in
set_option maxRecDepth 100000 in
/-- M_isKind -/
theorem k_M_isKind (l : Launch) (D : va_G) (cA : Nat → ClassId) (o sz : Nat) (M : wM) (x : Int32) : Met l y_M_isKind (wm y_M_isKind c_M_isKind 1 (some .boolean)) { frames := 0, cells := 0, slots := 0, locals := 0 } (va_Pc [.int x] (mB D cA o M sz)) (va_Qi (fun r M1 => M1 = M ∧ r = b2i (decide (¬ x < 0 ∧ x ≤ 3))) (mQ D cA o) (mA o sz)) 0 0 (mA o sz) := by
  refine Met.ofW (cc := c_M_isKind) (maxL := 1) (ret := (some .boolean)) (by decide) rfl ?_
  intro p e s m args below meth c s₁ B hml hv
  obtain ⟨rfl, hsz, hP, hK⟩ := hv
  have hx := B.exec
  have hb := B.bytes
  have hr := B.returns
  have hts := atoms_spec (ws := wm y_M_isKind c_M_isKind 1 (some .boolean)) B.pre
  have hown : s.vm.findClass "ShopDesksModel" = some m.cls := findClass_of_methodNamed B.named
  have hlocks := B.notSynchronized
  subst hsz
  have hS : va_S (mA o s.heap.size) s.heap s.heap [] := va_S.rf
  have hW : ∀ i, i < 17 → mA o s.heap.size (o + i) := fun i hi => wA_in hi
  have hl := lv_entry ([.int x]) (n := 1) (Nat.le_of_ble_eq_true rfl)
  rw [lg_entry_eq]
  generalize (lg_sl ([.int x]) ++ List.replicate (1 - (lg_sl ([.int x])).length) Slot.unset).toArray = ls at hl ⊢
  have hl : lv_has ls 1 [(0, .int x)] := hl
  refine lv_iload_n hx hb d_M_isKind_0 rfl (lv_at hl 0 rfl) ?_
  refine lv_if_lt (tgt := 13) hx hb d_M_isKind_1 (by decide) (fun c_1 => ?_) (fun c_1 => ?_)
  · have q := c_1
    refine lv_iconst (v := 0) hx hb d_M_isKind_13 (by decide) ?_
    exact W.zret (v := 0) hx hb hr rfl (fun tz hz9 hW9 => ⟨⟨0, M, rfl, ⟨rfl, (b2i_f (fun h => h.1 q)).symm⟩, by rw [hz9]; exact hP, va_K.moved hW9.alike hK⟩, hS.F hz9⟩) hS.2.2 d_M_isKind_14
  · have q1 := c_1
    refine lv_iload_n hx hb d_M_isKind_4 rfl (lv_at hl 0 rfl) ?_
    refine lv_iconst (v := 3) hx hb d_M_isKind_5 (by decide) ?_
    refine lv_icmp_gt (tgt := 13) hx hb d_M_isKind_6 (by decide) (fun c_2 => ?_) (fun c_2 => ?_)
    · have q := c_2
      refine lv_iconst (v := 0) hx hb d_M_isKind_13 (by decide) ?_
      exact W.zret (v := 0) hx hb hr rfl (fun tz hz9 hW9 => ⟨⟨0, M, rfl, ⟨rfl, (b2i_f (fun h => absurd h.2 (Int32.not_le.mpr q))).symm⟩, by rw [hz9]; exact hP, va_K.moved hW9.alike hK⟩, hS.F hz9⟩) hS.2.2 d_M_isKind_14
    · have q2 := c_2
      refine lv_iconst (v := 1) hx hb d_M_isKind_9 (by decide) ?_
      refine lv_goto (tgt := 14) hx hb d_M_isKind_10 (by decide) ?_
      exact W.zret (v := 1) hx hb hr rfl (fun tz hz9 hW9 => ⟨⟨1, M, rfl, ⟨rfl, (b2i_t ⟨q1, Int32.not_lt.mp q2⟩).symm⟩, by rw [hz9]; exact hP, va_K.moved hW9.alike hK⟩, hS.F hz9⟩) hS.2.2 d_M_isKind_14
set_option maxHeartbeats 4000000 in
set_option maxRecDepth 100000 in
/-- M_isSet -/
theorem k_M_isSet (l : Launch) (D : va_G) (cA : Nat → ClassId) (o sz : Nat) (M : wM) (x : Int32) : Met l y_M_isSet (wm y_M_isSet c_M_isSet 2 (some .boolean)) { frames := 0, cells := 0, slots := 0, locals := 0 } (va_Pc [.ref (o + 0), .int x] (mB D cA o M sz)) (va_Qi (fun r M1 => M1 = M ∧ r = b2i (decide (¬ x < 0 ∧ x < M.2.2 0 8))) (mQ D cA o) (mA o sz)) 0 0 (mA o sz) := by
  refine Met.ofW (cc := c_M_isSet) (maxL := 2) (ret := (some .boolean)) (by decide) rfl ?_
  intro p e s m args below meth c s₁ B hml hv
  obtain ⟨rfl, hsz, hP, hK⟩ := hv
  have hx := B.exec
  have hb := B.bytes
  have hr := B.returns
  have hts := atoms_spec (ws := wm y_M_isSet c_M_isSet 2 (some .boolean)) B.pre
  have hown : s.vm.findClass "ShopDesksModel" = some m.cls := findClass_of_methodNamed B.named
  have hlocks := B.notSynchronized
  subst hsz
  have hS : va_S (mA o s.heap.size) s.heap s.heap [] := va_S.rf
  have hW : ∀ i, i < 17 → mA o s.heap.size (o + i) := fun i hi => wA_in hi
  have hl := lv_entry ([.ref (o + 0), .int x]) (n := 2) (Nat.le_of_ble_eq_true rfl)
  rw [lg_entry_eq]
  generalize (lg_sl ([.ref (o + 0), .int x]) ++ List.replicate (2 - (lg_sl ([.ref (o + 0), .int x])).length) Slot.unset).toArray = ls at hl ⊢
  have hl : lv_has ls 2 [(0, .ref (o + 0)), (1, .int x)] := hl
  refine lv_iload_n hx hb d_M_isSet_0 rfl (lv_at hl 1 rfl) ?_
  refine lv_if_lt (tgt := 16) hx hb d_M_isSet_1 (by decide) (fun c_1 => ?_) (fun c_1 => ?_)
  · have q := c_1
    refine lv_iconst (v := 0) hx hb d_M_isSet_16 (by decide) ?_
    exact W.zret (v := 0) hx hb hr rfl (fun tz hz9 hW9 => ⟨⟨0, M, rfl, ⟨rfl, (b2i_f (fun h => h.1 q)).symm⟩, by rw [hz9]; exact hP, va_K.moved hW9.alike hK⟩, hS.F hz9⟩) hS.2.2 d_M_isSet_17
  · have q1 := c_1
    refine lv_iload_n hx hb d_M_isSet_4 rfl (lv_at hl 1 rfl) ?_
    refine lv_aload_n hx hb d_M_isSet_5 rfl (lv_at hl 0 rfl) ?_
    refine w_get (C := R_M) (T := F_M) (N := 22) (ci := 5) (v := .int (M.2.2 0 8)) hx hb hts inw_M hown hK hP 0 (by decide) SM_0 rfl 8 (by decide) (hts _ (al aF_M_86)) rfl d_M_isSet_6 ?_
    refine lv_icmp_ge (tgt := 16) hx hb d_M_isSet_9 (by decide) (fun c_2 => ?_) (fun c_2 => ?_)
    · have q := c_2
      refine lv_iconst (v := 0) hx hb d_M_isSet_16 (by decide) ?_
      exact W.zret (v := 0) hx hb hr rfl (fun tz hz9 hW9 => ⟨⟨0, M, rfl, ⟨rfl, (b2i_f (fun h => absurd h.2 (Int32.not_lt.mpr q))).symm⟩, by rw [hz9]; exact hP, va_K.moved hW9.alike hK⟩, hS.F hz9⟩) hS.2.2 d_M_isSet_17
    · have q2 := c_2
      refine lv_iconst (v := 1) hx hb d_M_isSet_12 (by decide) ?_
      refine lv_goto (tgt := 17) hx hb d_M_isSet_13 (by decide) ?_
      exact W.zret (v := 1) hx hb hr rfl (fun tz hz9 hW9 => ⟨⟨1, M, rfl, ⟨rfl, (b2i_t ⟨q1, Int32.not_le.mp q2⟩).symm⟩, by rw [hz9]; exact hP, va_K.moved hW9.alike hK⟩, hS.F hz9⟩) hS.2.2 d_M_isSet_17
set_option maxHeartbeats 4000000 in
set_option maxRecDepth 100000 in
/-- M_isEntry -/
theorem k_M_isEntry (l : Launch) (D : va_G) (cA : Nat → ClassId) (o sz : Nat) (M : wM) (x : Int32) : Met l y_M_isEntry (wm y_M_isEntry c_M_isEntry 2 (some .boolean)) { frames := 0, cells := 0, slots := 0, locals := 0 } (va_Pc [.ref (o + 0), .int x] (mB D cA o M sz)) (va_Qi (fun r M1 => M1 = M ∧ r = b2i (decide (¬ x < 0 ∧ x < M.2.2 0 13))) (mQ D cA o) (mA o sz)) 0 0 (mA o sz) := by
  refine Met.ofW (cc := c_M_isEntry) (maxL := 2) (ret := (some .boolean)) (by decide) rfl ?_
  intro p e s m args below meth c s₁ B hml hv
  obtain ⟨rfl, hsz, hP, hK⟩ := hv
  have hx := B.exec
  have hb := B.bytes
  have hr := B.returns
  have hts := atoms_spec (ws := wm y_M_isEntry c_M_isEntry 2 (some .boolean)) B.pre
  have hown : s.vm.findClass "ShopDesksModel" = some m.cls := findClass_of_methodNamed B.named
  have hlocks := B.notSynchronized
  subst hsz
  have hS : va_S (mA o s.heap.size) s.heap s.heap [] := va_S.rf
  have hW : ∀ i, i < 17 → mA o s.heap.size (o + i) := fun i hi => wA_in hi
  have hl := lv_entry ([.ref (o + 0), .int x]) (n := 2) (Nat.le_of_ble_eq_true rfl)
  rw [lg_entry_eq]
  generalize (lg_sl ([.ref (o + 0), .int x]) ++ List.replicate (2 - (lg_sl ([.ref (o + 0), .int x])).length) Slot.unset).toArray = ls at hl ⊢
  have hl : lv_has ls 2 [(0, .ref (o + 0)), (1, .int x)] := hl
  refine lv_iload_n hx hb d_M_isEntry_0 rfl (lv_at hl 1 rfl) ?_
  refine lv_if_lt (tgt := 16) hx hb d_M_isEntry_1 (by decide) (fun c_1 => ?_) (fun c_1 => ?_)
  · have q := c_1
    refine lv_iconst (v := 0) hx hb d_M_isEntry_16 (by decide) ?_
    exact W.zret (v := 0) hx hb hr rfl (fun tz hz9 hW9 => ⟨⟨0, M, rfl, ⟨rfl, (b2i_f (fun h => h.1 q)).symm⟩, by rw [hz9]; exact hP, va_K.moved hW9.alike hK⟩, hS.F hz9⟩) hS.2.2 d_M_isEntry_17
  · have q1 := c_1
    refine lv_iload_n hx hb d_M_isEntry_4 rfl (lv_at hl 1 rfl) ?_
    refine lv_aload_n hx hb d_M_isEntry_5 rfl (lv_at hl 0 rfl) ?_
    refine w_get (C := R_M) (T := F_M) (N := 22) (ci := 5) (v := .int (M.2.2 0 13)) hx hb hts inw_M hown hK hP 0 (by decide) SM_0 rfl 13 (by decide) (hts _ (al aF_M_138)) rfl d_M_isEntry_6 ?_
    refine lv_icmp_ge (tgt := 16) hx hb d_M_isEntry_9 (by decide) (fun c_2 => ?_) (fun c_2 => ?_)
    · have q := c_2
      refine lv_iconst (v := 0) hx hb d_M_isEntry_16 (by decide) ?_
      exact W.zret (v := 0) hx hb hr rfl (fun tz hz9 hW9 => ⟨⟨0, M, rfl, ⟨rfl, (b2i_f (fun h => absurd h.2 (Int32.not_lt.mpr q))).symm⟩, by rw [hz9]; exact hP, va_K.moved hW9.alike hK⟩, hS.F hz9⟩) hS.2.2 d_M_isEntry_17
    · have q2 := c_2
      refine lv_iconst (v := 1) hx hb d_M_isEntry_12 (by decide) ?_
      refine lv_goto (tgt := 17) hx hb d_M_isEntry_13 (by decide) ?_
      exact W.zret (v := 1) hx hb hr rfl (fun tz hz9 hW9 => ⟨⟨1, M, rfl, ⟨rfl, (b2i_t ⟨q1, Int32.not_le.mp q2⟩).symm⟩, by rw [hz9]; exact hP, va_K.moved hW9.alike hK⟩, hS.F hz9⟩) hS.2.2 d_M_isEntry_17
set_option maxHeartbeats 4000000 in
set_option maxRecDepth 100000 in
/-- M_isAfter -/
theorem k_M_isAfter (l : Launch) (D : va_G) (cA : Nat → ClassId) (o sz : Nat) (M : wM) (a b : Int64) : Met l y_M_isAfter (wm y_M_isAfter c_M_isAfter 4 (some .boolean)) { frames := 0, cells := 0, slots := 0, locals := 0 } (va_Pc [.long a, .long b] (mB D cA o M sz)) (va_Qi (fun r M1 => M1 = M ∧ r = b2i (decide (b < a))) (mQ D cA o) (mA o sz)) 0 0 (mA o sz) := by
  refine Met.ofW (cc := c_M_isAfter) (maxL := 4) (ret := (some .boolean)) (by decide) rfl ?_
  intro p e s m args below meth c s₁ B hml hv
  obtain ⟨rfl, hsz, hP, hK⟩ := hv
  have hx := B.exec
  have hb := B.bytes
  have hr := B.returns
  have hts := atoms_spec (ws := wm y_M_isAfter c_M_isAfter 4 (some .boolean)) B.pre
  have hown : s.vm.findClass "ShopDesksModel" = some m.cls := findClass_of_methodNamed B.named
  have hlocks := B.notSynchronized
  subst hsz
  have hS : va_S (mA o s.heap.size) s.heap s.heap [] := va_S.rf
  have hW : ∀ i, i < 17 → mA o s.heap.size (o + i) := fun i hi => wA_in hi
  have hl := lv_entry ([.long a, .long b]) (n := 4) (Nat.le_of_ble_eq_true rfl)
  rw [lg_entry_eq]
  generalize (lg_sl ([.long a, .long b]) ++ List.replicate (4 - (lg_sl ([.long a, .long b])).length) Slot.unset).toArray = ls at hl ⊢
  have hl : lv_has ls 4 [(0, .long a), (2, .long b)] := hl
  refine lv_lload_n hx hb d_M_isAfter_0 rfl (lv_at hl 0 rfl) ?_
  refine lv_lload_n hx hb d_M_isAfter_1 rfl (lv_at hl 1 rfl) ?_
  refine W.lcmp hx hb d_M_isAfter_2 ?_
  refine lv_if_le (tgt := 10) hx hb d_M_isAfter_3 (by decide) (fun c_1 => ?_) (fun c_1 => ?_)
  · rw [lg_cmp_le] at c_1
    have q := c_1
    refine lv_iconst (v := 0) hx hb d_M_isAfter_10 (by decide) ?_
    exact W.zret (v := 0) hx hb hr rfl (fun tz hz9 hW9 => ⟨⟨0, M, rfl, ⟨rfl, (b2i_f (Int64.not_lt.mpr q)).symm⟩, by rw [hz9]; exact hP, va_K.moved hW9.alike hK⟩, hS.F hz9⟩) hS.2.2 d_M_isAfter_11
  · rw [lg_cmp_le] at c_1
    have q := c_1
    refine lv_iconst (v := 1) hx hb d_M_isAfter_6 (by decide) ?_
    refine lv_goto (tgt := 11) hx hb d_M_isAfter_7 (by decide) ?_
    exact W.zret (v := 1) hx hb hr rfl (fun tz hz9 hW9 => ⟨⟨1, M, rfl, ⟨rfl, (b2i_t (Int64.not_le.mp q)).symm⟩, by rw [hz9]; exact hP, va_K.moved hW9.alike hK⟩, hS.F hz9⟩) hS.2.2 d_M_isAfter_11
set_option maxHeartbeats 4000000 in
set_option maxRecDepth 100000 in
/-- M_end -/
theorem k_M_end (l : Launch) (D : va_G) (cA : Nat → ClassId) (o sz : Nat) (M : wM)  : Met l y_M_end (wm y_M_end c_M_end 0 (some .long)) { frames := 0, cells := 0, slots := 0, locals := 0 } (va_Pc [] (mB D cA o M sz)) (va_Ql (fun r M1 => M1 = M ∧ r = 9223372036854775807) (mQ D cA o) (mA o sz)) 0 0 (mA o sz) := by
  refine Met.ofW (cc := c_M_end) (maxL := 0) (ret := (some .long)) (by decide) rfl ?_
  intro p e s m args below meth c s₁ B hml hv
  obtain ⟨rfl, hsz, hP, hK⟩ := hv
  have hx := B.exec
  have hb := B.bytes
  have hr := B.returns
  have hts := atoms_spec (ws := wm y_M_end c_M_end 0 (some .long)) B.pre
  have hown : s.vm.findClass "ShopDesksModel" = some m.cls := findClass_of_methodNamed B.named
  have hlocks := B.notSynchronized
  subst hsz
  have hS : va_S (mA o s.heap.size) s.heap s.heap [] := va_S.rf
  have hW : ∀ i, i < 17 → mA o s.heap.size (o + i) := fun i hi => wA_in hi
  have hl := lv_entry ([]) (n := 0) (Nat.le_of_ble_eq_true rfl)
  rw [lg_entry_eq]
  generalize (lg_sl ([]) ++ List.replicate (0 - (lg_sl ([])).length) Slot.unset).toArray = ls at hl ⊢
  have hl : lv_has ls 0 [] := hl
  refine lv_ldc2 (v := 9223372036854775807) hx hb hown (hts _ (al aL_M_126)) d_M_end_0 ?_
  exact W.lret (v := 9223372036854775807) hx hb hr (fun tz hz9 hW9 => ⟨⟨9223372036854775807, M, rfl, ⟨rfl, rfl⟩, by rw [hz9]; exact hP, va_K.moved hW9.alike hK⟩, hS.F hz9⟩) hS.2.2 d_M_end_3
set_option maxHeartbeats 4000000 in
set_option maxRecDepth 100000 in
/-- M_find -/
theorem k_M_find (l : Launch) (D : va_G) (cA : Nat → ClassId) (o sz : Nat) (M : wM) (n : Nat) (hn : n ≤ 300) (en : M.2.2 0 1 = nI n) (t : Int32) (nu : Int64) : Met l y_M_find (wm y_M_find c_M_find 5 (some .int)) { frames := 0, cells := 0, slots := 0, locals := 0 } (va_Pc [.ref (o + 0), .int t, .long nu] (mB D cA o M sz)) (va_Qi (fun r M1 => M1 = M ∧ ((∃ j, j < n ∧ (M.2.1 2 j = nu ∧ M.1 1 j = t) ∧ r = nI j) ∨ (r = -1 ∧ ∀ j, j < n → ¬ (M.2.1 2 j = nu ∧ M.1 1 j = t)))) (mQ D cA o) (mA o sz)) 0 0 (mA o sz) := by
  refine Met.ofW (cc := c_M_find) (maxL := 5) (ret := (some .int)) (by decide) rfl ?_
  intro p e s m args below meth c s₁ B hml hv
  obtain ⟨rfl, hsz, hP, hK⟩ := hv
  have hx := B.exec
  have hb := B.bytes
  have hr := B.returns
  have hts := atoms_spec (ws := wm y_M_find c_M_find 5 (some .int)) B.pre
  have hown : s.vm.findClass "ShopDesksModel" = some m.cls := findClass_of_methodNamed B.named
  have hlocks := B.notSynchronized
  subst hsz
  have hS : va_S (mA o s.heap.size) s.heap s.heap [] := va_S.rf
  have hW : ∀ i, i < 17 → mA o s.heap.size (o + i) := fun i hi => wA_in hi
  have hl := lv_entry ([.ref (o + 0), .int t, .long nu]) (n := 5) (Nat.le_of_ble_eq_true rfl)
  rw [lg_entry_eq]
  generalize (lg_sl ([.ref (o + 0), .int t, .long nu]) ++ List.replicate (5 - (lg_sl ([.ref (o + 0), .int t, .long nu])).length) Slot.unset).toArray = ls at hl ⊢
  have hl : lv_has ls 5 [(0, .ref (o + 0)), (1, .int t), (2, .long nu)] := hl
  refine lv_iconst (v := 0) hx hb d_M_find_0 (by decide) ?_
  refine lv_istore (lv' := [(4, .int 0), (0, .ref (o + 0)), (1, .int t), (2, .long nu)]) hx hb d_M_find_1 hl (by decide) rfl (fun ls hl => ?_)
  have lp3 : ∀ (fuel : Nat) (k : Nat), n - k < fuel → (k ≤ n) → (∀ j, j < k → ¬ (M.2.1 2 j = nu ∧ M.1 1 j = t)) → ∀ (ls : Array Slot), lv_has ls 5 [(0, .ref (o + 0)), (1, .int t), (2, .long nu), (4, .int (nI k))] → W p l e (headSpec (wm y_M_find c_M_find 5 (some .int)) { frames := 0, cells := 0, slots := 0, locals := 0 }).room s m ([.ref (o + 0), .int t, .long nu] : List Value).toArray below meth c s.heap [] 0 0 (MQ below (va_Qi (fun r M1 => M1 = M ∧ ((∃ j, j < n ∧ (M.2.1 2 j = nu ∧ M.1 1 j = t) ∧ r = nI j) ∨ (r = -1 ∧ ∀ j, j < n → ¬ (M.2.1 2 j = nu ∧ M.1 1 j = t)))) (mQ D cA o) (mA o s.heap.size)) ([.ref (o + 0), .int t, .long nu] : List Value).toArray s 0 0 (mA o s.heap.size)) (F0 m 3 ls []) := by
    intro fuel
    induction fuel with
    | zero => intro k hfu; exact absurd hfu (Nat.not_lt_zero _)
    | succ fuel ih =>
      intro k hfu hk hno ls hl
      refine lv_iload hx hb d_M_find_3 (lv_at hl 3 rfl) ?_
      refine lv_aload_n hx hb d_M_find_5 rfl (lv_at hl 0 rfl) ?_
      refine w_get (C := R_M) (T := F_M) (N := 22) (ci := 5) (v := .int (M.2.2 0 1)) hx hb hts inw_M hown hK hP 0 (by decide) SM_0 rfl 1 (by decide) (hts _ (al aF_M_67)) rfl d_M_find_6 ?_
      refine w_topi en ?_
      refine lv_icmp_ge (tgt := 44) hx hb d_M_find_9 (by decide) (fun c_1 => ?_) (fun c_1 => ?_)
      · have hkn : n ≤ k := i_le (by omega) (by omega) c_1
        refine lv_iconst (v := -1) hx hb d_M_find_44 (by decide) ?_
        exact W.iret (v := (-1)) hx hb hr (fun tz hz9 hW9 => ⟨⟨(-1), M, rfl, ⟨rfl, Or.inr ⟨rfl, fun j hj => hno j (by omega)⟩⟩, by rw [hz9]; exact hP, va_K.moved hW9.alike hK⟩, hS.F hz9⟩) hS.2.2 d_M_find_45
      · have hkn : k < n := i_nle (by omega) (by omega) c_1
        refine lv_aload_n hx hb d_M_find_12 rfl (lv_at hl 0 rfl) ?_
        refine w_get (C := R_M) (T := F_M) (N := 22) (ci := 5) (v := .ref (o + 1)) hx hb hts inw_M hown hK hP 0 (by decide) SM_0 rfl 2 (by decide) (hts _ (al aF_M_7)) rfl d_M_find_13 ?_
        refine lv_iload hx hb d_M_find_16 (lv_at hl 3 rfl) ?_
        refine w_iald hx hb hK hP 1 0 (by decide) SM_1 rfl (k := k) (by omega) (by decide) d_M_find_18 ?_
        refine lv_iload_n hx hb d_M_find_19 rfl (lv_at hl 1 rfl) ?_
        refine lv_icmp_ne (tgt := 38) hx hb d_M_find_20 (by decide) (fun c_2 => ?_) (fun c_2 => ?_)
        · have hne : ¬ (M.2.1 2 k = nu ∧ M.1 1 k = t) := fun h => c_2 h.2
          refine lv_iinc (v := nI (k + 1)) (lv' := [(4, .int (nI (k + 1))), (0, .ref (o + 0)), (1, .int t), (2, .long nu)]) hx hb d_M_find_38 hl (k := 3) rfl (w_inc k) (by decide) rfl (fun ls hl => ?_)
          refine lv_goto (tgt := 3) hx hb d_M_find_41 (by decide) ?_
          exact ih (k + 1) (by omega) hkn (lt_s hno hne) ls (lv_sub hl [1, 2, 3, 0] rfl)
        · have h20 := c_2
          refine lv_aload_n hx hb d_M_find_23 rfl (lv_at hl 0 rfl) ?_
          refine w_get (C := R_M) (T := F_M) (N := 22) (ci := 5) (v := .ref (o + 2)) hx hb hts inw_M hown hK hP 0 (by decide) SM_0 rfl 3 (by decide) (hts _ (al aF_M_13)) rfl d_M_find_24 ?_
          refine lv_iload hx hb d_M_find_27 (lv_at hl 3 rfl) ?_
          refine w_lald hx hb hK hP 2 1 (by decide) SM_2 rfl (k := k) (by omega) (by decide) d_M_find_29 ?_
          refine lv_lload_n hx hb d_M_find_30 rfl (lv_at hl 2 rfl) ?_
          refine W.lcmp hx hb d_M_find_31 ?_
          refine lv_if_ne (tgt := 38) hx hb d_M_find_32 (by decide) (fun c_3 => ?_) (fun c_3 => ?_)
          · rw [lg_cmp_eq] at c_3
            have hne : ¬ (M.2.1 2 k = nu ∧ M.1 1 k = t) := fun h => c_3 h.1
            refine lv_iinc (v := nI (k + 1)) (lv' := [(4, .int (nI (k + 1))), (0, .ref (o + 0)), (1, .int t), (2, .long nu)]) hx hb d_M_find_38 hl (k := 3) rfl (w_inc k) (by decide) rfl (fun ls hl => ?_)
            refine lv_goto (tgt := 3) hx hb d_M_find_41 (by decide) ?_
            exact ih (k + 1) (by omega) hkn (lt_s hno hne) ls (lv_sub hl [1, 2, 3, 0] rfl)
          · rw [lg_cmp_eq] at c_3
            have h32 := c_3
            refine lv_iload hx hb d_M_find_35 (lv_at hl 3 rfl) ?_
            exact W.iret (v := nI k) hx hb hr (fun tz hz9 hW9 => ⟨⟨nI k, M, rfl, ⟨rfl, Or.inl ⟨k, hkn, ⟨h32, h20⟩, rfl⟩⟩, by rw [hz9]; exact hP, va_K.moved hW9.alike hK⟩, hS.F hz9⟩) hS.2.2 d_M_find_37
  exact lp3 ((n - 0) + 1) 0 (Nat.lt_succ_self _) (Nat.zero_le _) (fun j h => absurd h (Nat.not_lt_zero _)) ls (lv_sub hl [1, 2, 3, 0] rfl)
set_option maxHeartbeats 4000000 in
set_option maxRecDepth 100000 in
/-- M_speaks -/
theorem k_M_speaks (l : Launch) (D : va_G) (cA : Nat → ClassId) (o sz : Nat) (M : wM) (t : Nat) (ht : t < 300) (th kd : Int32) (tm : Int64) : Met l y_M_speaks (wm y_M_speaks c_M_speaks 6 (some .boolean)) { frames := 0, cells := 0, slots := 0, locals := 0 } (va_Pc [.ref (o + 0), .int (nI t), .int th, .int kd, .long tm] (mB D cA o M sz)) (va_Qi (fun r M1 => M1 = M ∧ r = b2i (y_hold M t th kd tm)) (mQ D cA o) (mA o sz)) 0 0 (mA o sz) := by
  refine Met.ofW (cc := c_M_speaks) (maxL := 6) (ret := (some .boolean)) (by decide) rfl ?_
  intro p e s m args below meth c s₁ B hml hv
  obtain ⟨rfl, hsz, hP, hK⟩ := hv
  have hx := B.exec
  have hb := B.bytes
  have hr := B.returns
  have hts := atoms_spec (ws := wm y_M_speaks c_M_speaks 6 (some .boolean)) B.pre
  have hown : s.vm.findClass "ShopDesksModel" = some m.cls := findClass_of_methodNamed B.named
  have hlocks := B.notSynchronized
  subst hsz
  have hS : va_S (mA o s.heap.size) s.heap s.heap [] := va_S.rf
  have hW : ∀ i, i < 17 → mA o s.heap.size (o + i) := fun i hi => wA_in hi
  have hl := lv_entry ([.ref (o + 0), .int (nI t), .int th, .int kd, .long tm]) (n := 6) (Nat.le_of_ble_eq_true rfl)
  rw [lg_entry_eq]
  generalize (lg_sl ([.ref (o + 0), .int (nI t), .int th, .int kd, .long tm]) ++ List.replicate (6 - (lg_sl ([.ref (o + 0), .int (nI t), .int th, .int kd, .long tm])).length) Slot.unset).toArray = ls at hl ⊢
  have hl : lv_has ls 6 [(0, .ref (o + 0)), (1, .int (nI t)), (2, .int th), (3, .int kd), (4, .long tm)] := hl
  refine lv_aload_n hx hb d_M_speaks_0 rfl (lv_at hl 0 rfl) ?_
  refine w_get (C := R_M) (T := F_M) (N := 22) (ci := 5) (v := .ref (o + 3)) hx hb hts inw_M hown hK hP 0 (by decide) SM_0 rfl 4 (by decide) (hts _ (al aF_M_17)) rfl d_M_speaks_1 ?_
  refine lv_iload_n hx hb d_M_speaks_4 rfl (lv_at hl 1 rfl) ?_
  refine w_iald hx hb hK hP 3 0 (by decide) SM_3 rfl (k := t) (by omega) (by decide) d_M_speaks_5 ?_
  refine lv_iload_n hx hb d_M_speaks_6 rfl (lv_at hl 2 rfl) ?_
  refine lv_icmp_ne (tgt := 36) hx hb d_M_speaks_7 (by decide) (fun c_1 => ?_) (fun c_1 => ?_)
  · have hq := c_1
    refine lv_iconst (v := 0) hx hb d_M_speaks_36 (by decide) ?_
    exact W.zret (v := 0) hx hb hr rfl (fun tz hz9 hW9 => ⟨⟨0, M, rfl, ⟨rfl, (b2i_f (fun h => hq h.1)).symm⟩, by rw [hz9]; exact hP, va_K.moved hW9.alike hK⟩, hS.F hz9⟩) hS.2.2 d_M_speaks_37
  · have q1 := c_1
    refine lv_aload_n hx hb d_M_speaks_10 rfl (lv_at hl 0 rfl) ?_
    refine w_get (C := R_M) (T := F_M) (N := 22) (ci := 5) (v := .ref (o + 4)) hx hb hts inw_M hown hK hP 0 (by decide) SM_0 rfl 5 (by decide) (hts _ (al aF_M_20)) rfl d_M_speaks_11 ?_
    refine lv_iload_n hx hb d_M_speaks_14 rfl (lv_at hl 1 rfl) ?_
    refine w_iald hx hb hK hP 4 0 (by decide) SM_4 rfl (k := t) (by omega) (by decide) d_M_speaks_15 ?_
    refine lv_iload_n hx hb d_M_speaks_16 rfl (lv_at hl 3 rfl) ?_
    refine lv_icmp_ne (tgt := 36) hx hb d_M_speaks_17 (by decide) (fun c_2 => ?_) (fun c_2 => ?_)
    · have hq := c_2
      refine lv_iconst (v := 0) hx hb d_M_speaks_36 (by decide) ?_
      exact W.zret (v := 0) hx hb hr rfl (fun tz hz9 hW9 => ⟨⟨0, M, rfl, ⟨rfl, (b2i_f (fun h => hq h.2.1)).symm⟩, by rw [hz9]; exact hP, va_K.moved hW9.alike hK⟩, hS.F hz9⟩) hS.2.2 d_M_speaks_37
    · have q2 := c_2
      refine lv_aload_n hx hb d_M_speaks_20 rfl (lv_at hl 0 rfl) ?_
      refine w_get (C := R_M) (T := F_M) (N := 22) (ci := 5) (v := .ref (o + 6)) hx hb hts inw_M hown hK hP 0 (by decide) SM_0 rfl 7 (by decide) (hts _ (al aF_M_26)) rfl d_M_speaks_21 ?_
      refine lv_iload_n hx hb d_M_speaks_24 rfl (lv_at hl 1 rfl) ?_
      refine w_lald hx hb hK hP 6 1 (by decide) SM_6 rfl (k := t) (by omega) (by decide) d_M_speaks_25 ?_
      refine lv_lload hx hb d_M_speaks_26 (lv_at hl 4 rfl) ?_
      refine W.lcmp hx hb d_M_speaks_28 ?_
      refine lv_if_gt (tgt := 36) hx hb d_M_speaks_29 (by decide) (fun c_3 => ?_) (fun c_3 => ?_)
      · rw [lg_cmp_gt] at c_3
        have hq := c_3
        refine lv_iconst (v := 0) hx hb d_M_speaks_36 (by decide) ?_
        exact W.zret (v := 0) hx hb hr rfl (fun tz hz9 hW9 => ⟨⟨0, M, rfl, ⟨rfl, (b2i_f (fun h => absurd h.2.2 (Int64.not_le.mpr hq))).symm⟩, by rw [hz9]; exact hP, va_K.moved hW9.alike hK⟩, hS.F hz9⟩) hS.2.2 d_M_speaks_37
      · rw [lg_cmp_gt] at c_3
        have q3 := c_3
        refine lv_iconst (v := 1) hx hb d_M_speaks_32 (by decide) ?_
        refine lv_goto (tgt := 37) hx hb d_M_speaks_33 (by decide) ?_
        exact W.zret (v := 1) hx hb hr rfl (fun tz hz9 hW9 => ⟨⟨1, M, rfl, ⟨rfl, (b2i_t ⟨q1, q2, Int64.not_lt.mp q3⟩).symm⟩, by rw [hz9]; exact hP, va_K.moved hW9.alike hK⟩, hS.F hz9⟩) hS.2.2 d_M_speaks_37
set_option maxHeartbeats 4000000 in
set_option maxRecDepth 100000 in
/-- M_later -/
theorem k_M_later (l : Launch) (D : va_G) (cA : Nat → ClassId) (o sz : Nat) (M : wM) (q : Option Nat) (hq : ∀ u, q = some u → u < 300) (t : Nat) (ht : t < 300) : Met l y_M_later (wm y_M_later c_M_later 3 (some .int)) { frames := 1, cells := 0, slots := 0, locals := 23 } (va_Pc [.ref (o + 0), .int (x_opt q), .int (nI t)] (mB D cA o M sz)) (va_Qi (fun r M1 => M1 = M ∧ r = nI (y_pick M q t)) (mQ D cA o) (mA o sz)) 0 0 (mA o sz) := by
  refine Met.ofW (cc := c_M_later) (maxL := 3) (ret := (some .int)) (by decide) rfl ?_
  intro p e s m args below meth c s₁ B hml hv
  obtain ⟨rfl, hsz, hP, hK⟩ := hv
  have hx := B.exec
  have hb := B.bytes
  have hr := B.returns
  have hts := atoms_spec (ws := wm y_M_later c_M_later 3 (some .int)) B.pre
  have hown : s.vm.findClass "ShopDesksModel" = some m.cls := findClass_of_methodNamed B.named
  have hlocks := B.notSynchronized
  subst hsz
  have hS : va_S (mA o s.heap.size) s.heap s.heap [] := va_S.rf
  have hW : ∀ i, i < 17 → mA o s.heap.size (o + i) := fun i hi => wA_in hi
  have hl := lv_entry ([.ref (o + 0), .int (x_opt q), .int (nI t)]) (n := 3) (Nat.le_of_ble_eq_true rfl)
  rw [lg_entry_eq]
  generalize (lg_sl ([.ref (o + 0), .int (x_opt q), .int (nI t)]) ++ List.replicate (3 - (lg_sl ([.ref (o + 0), .int (x_opt q), .int (nI t)])).length) Slot.unset).toArray = ls at hl ⊢
  have hl : lv_has ls 3 [(0, .ref (o + 0)), (1, .int (x_opt q)), (2, .int (nI t))] := hl
  refine lv_iload_n hx hb d_M_later_0 rfl (lv_at hl 1 rfl) ?_
  refine lv_if_lt (tgt := 8) hx hb d_M_later_1 (by decide) (fun c_1 => ?_) (fun c_1 => ?_)
  · have hn := x_opt_lt hq c_1
    refine lv_iload_n hx hb d_M_later_8 rfl (lv_at hl 1 rfl) ?_
    refine lv_if_ge (tgt := 16) hx hb d_M_later_9 (by decide) (fun c_2 => ?_) (fun c_2 => ?_)
    · exact absurd c_2 (by rw [hn]; decide)
    · have hl9 := c_2
      refine lv_iload_n hx hb d_M_later_12 rfl (lv_at hl 2 rfl) ?_
      refine lv_goto (tgt := 17) hx hb d_M_later_13 (by decide) ?_
      exact W.iret (v := nI t) hx hb hr (fun tz hz9 hW9 => ⟨⟨nI t, M, rfl, ⟨rfl, by rw [hn]; rfl⟩, by rw [hz9]; exact hP, va_K.moved hW9.alike hK⟩, hS.F hz9⟩) hS.2.2 d_M_later_17
  · obtain ⟨u, hu⟩ := x_opt_nlt c_1
    have hu3 := hq u hu
    have hux : x_opt q = nI u := by rw [hu]; rfl
    refine lv_iload_n hx hb d_M_later_4 rfl (lv_at hl 2 rfl) ?_
    refine lv_if_ge (tgt := 18) hx hb d_M_later_5 (by decide) (fun c_3 => ?_) (fun c_3 => ?_)
    · refine lv_aload_n hx hb d_M_later_18 rfl (lv_at hl 0 rfl) ?_
      refine w_get (C := R_M) (T := F_M) (N := 22) (ci := 5) (v := .ref (o + 6)) hx hb hts inw_M hown hK hP 0 (by decide) SM_0 rfl 7 (by decide) (hts _ (al aF_M_26)) rfl d_M_later_19 ?_
      refine lv_iload_n hx hb d_M_later_22 rfl (lv_at hl 1 rfl) ?_
      refine w_topi hux ?_
      refine w_lald hx hb hK hP 6 1 (by decide) SM_6 rfl (k := u) (by omega) (by decide) d_M_later_23 ?_
      refine lv_aload_n hx hb d_M_later_24 rfl (lv_at hl 0 rfl) ?_
      refine w_get (C := R_M) (T := F_M) (N := 22) (ci := 5) (v := .ref (o + 6)) hx hb hts inw_M hown hK hP 0 (by decide) SM_0 rfl 7 (by decide) (hts _ (al aF_M_26)) rfl d_M_later_25 ?_
      refine lv_iload_n hx hb d_M_later_28 rfl (lv_at hl 2 rfl) ?_
      refine w_lald hx hb hK hP 6 1 (by decide) SM_6 rfl (k := t) (by omega) (by decide) d_M_later_29 ?_
      refine W.lcmp hx hb d_M_later_30 ?_
      refine lv_if_eq (tgt := 58) hx hb d_M_later_31 (by decide) (fun c_4 => ?_) (fun c_4 => ?_)
      · rw [lg_cmp_eq] at c_4
        have q1 := c_4
        refine lv_aload_n hx hb d_M_later_58 rfl (lv_at hl 0 rfl) ?_
        refine w_get (C := R_M) (T := F_M) (N := 22) (ci := 5) (v := .ref (o + 1)) hx hb hts inw_M hown hK hP 0 (by decide) SM_0 rfl 2 (by decide) (hts _ (al aF_M_7)) rfl d_M_later_59 ?_
        refine lv_iload_n hx hb d_M_later_62 rfl (lv_at hl 1 rfl) ?_
        refine w_topi hux ?_
        refine w_iald hx hb hK hP 1 0 (by decide) SM_1 rfl (k := u) (by omega) (by decide) d_M_later_63 ?_
        refine lv_aload_n hx hb d_M_later_64 rfl (lv_at hl 0 rfl) ?_
        refine w_get (C := R_M) (T := F_M) (N := 22) (ci := 5) (v := .ref (o + 1)) hx hb hts inw_M hown hK hP 0 (by decide) SM_0 rfl 2 (by decide) (hts _ (al aF_M_7)) rfl d_M_later_65 ?_
        refine lv_iload_n hx hb d_M_later_68 rfl (lv_at hl 2 rfl) ?_
        refine w_iald hx hb hK hP 1 0 (by decide) SM_1 rfl (k := t) (by omega) (by decide) d_M_later_69 ?_
        refine lv_icmp_eq (tgt := 94) hx hb d_M_later_70 (by decide) (fun c_5 => ?_) (fun c_5 => ?_)
        · have q3 := c_5
          refine lv_aload_n hx hb d_M_later_94 rfl (lv_at hl 0 rfl) ?_
          refine w_get (C := R_M) (T := F_M) (N := 22) (ci := 5) (v := .ref (o + 2)) hx hb hts inw_M hown hK hP 0 (by decide) SM_0 rfl 3 (by decide) (hts _ (al aF_M_13)) rfl d_M_later_95 ?_
          refine lv_iload_n hx hb d_M_later_98 rfl (lv_at hl 1 rfl) ?_
          refine w_topi hux ?_
          refine w_lald hx hb hK hP 2 1 (by decide) SM_2 rfl (k := u) (by omega) (by decide) d_M_later_99 ?_
          refine lv_aload_n hx hb d_M_later_100 rfl (lv_at hl 0 rfl) ?_
          refine w_get (C := R_M) (T := F_M) (N := 22) (ci := 5) (v := .ref (o + 2)) hx hb hts inw_M hown hK hP 0 (by decide) SM_0 rfl 3 (by decide) (hts _ (al aF_M_13)) rfl d_M_later_101 ?_
          refine lv_iload_n hx hb d_M_later_104 rfl (lv_at hl 2 rfl) ?_
          refine w_lald hx hb hK hP 2 1 (by decide) SM_2 rfl (k := t) (by omega) (by decide) d_M_later_105 ?_
          refine w_Si ⟨hx, hb, hml, hown, hts⟩ (k_M_isAfter l D cA o _ M (M.2.1 2 u) (M.2.1 2 t)) (kS hts 2 aK_M_isAfter aM_M_100 aS_M_isAfter aN_M nm_M_isAfter rfl rfl ⟨(Nat.le_of_ble_eq_true rfl), (Nat.le_of_ble_eq_true rfl)⟩) hK hP rfl hl.1 rfl (Nat.le_of_ble_eq_true rfl) d_M_later_106 ⟨(Nat.le_of_ble_eq_true rfl), (Nat.le_of_ble_eq_true rfl)⟩ hS (fun q h => wA_le hS.1 h) (fun r_6 M_6 H locs hw_6 hP hzc hkc hS => ?_)
          rw [hw_6.1] at hP
          refine w_topi hw_6.2 ?_
          refine lv_if_eq (tgt := 116) hx hb d_M_later_109 (by decide) (fun c_7 => ?_) (fun c_7 => ?_)
          · have q5 := of_decide_eq_false (b2i_0 c_7)
            refine lv_iload_n hx hb d_M_later_116 rfl (lv_at hl 2 rfl) ?_
            exact W.iret (v := nI t) hx hb hr (fun tz hz9 hW9 => ⟨⟨nI t, M, rfl, ⟨rfl, by rw [hu]; simp [y_pick, y_later, q1, q3, q5]⟩, by rw [hz9]; exact hP, va_K.moved hW9.alike hK⟩, hS.F hz9⟩) hS.2.2 d_M_later_117
          · have q5 := of_decide_eq_true (b2i_1 c_7)
            refine lv_iload_n hx hb d_M_later_112 rfl (lv_at hl 1 rfl) ?_
            refine w_topi hux ?_
            refine lv_goto (tgt := 117) hx hb d_M_later_113 (by decide) ?_
            exact W.iret (v := nI u) hx hb hr (fun tz hz9 hW9 => ⟨⟨nI u, M, rfl, ⟨rfl, by rw [hu]; simp [y_pick, y_later, q1, q3, q5]⟩, by rw [hz9]; exact hP, va_K.moved hW9.alike hK⟩, hS.F hz9⟩) hS.2.2 d_M_later_117
        · have q3 := c_5
          refine lv_aload_n hx hb d_M_later_73 rfl (lv_at hl 0 rfl) ?_
          refine w_get (C := R_M) (T := F_M) (N := 22) (ci := 5) (v := .ref (o + 1)) hx hb hts inw_M hown hK hP 0 (by decide) SM_0 rfl 2 (by decide) (hts _ (al aF_M_7)) rfl d_M_later_74 ?_
          refine lv_iload_n hx hb d_M_later_77 rfl (lv_at hl 1 rfl) ?_
          refine w_topi hux ?_
          refine w_iald hx hb hK hP 1 0 (by decide) SM_1 rfl (k := u) (by omega) (by decide) d_M_later_78 ?_
          refine lv_aload_n hx hb d_M_later_79 rfl (lv_at hl 0 rfl) ?_
          refine w_get (C := R_M) (T := F_M) (N := 22) (ci := 5) (v := .ref (o + 1)) hx hb hts inw_M hown hK hP 0 (by decide) SM_0 rfl 2 (by decide) (hts _ (al aF_M_7)) rfl d_M_later_80 ?_
          refine lv_iload_n hx hb d_M_later_83 rfl (lv_at hl 2 rfl) ?_
          refine w_iald hx hb hK hP 1 0 (by decide) SM_1 rfl (k := t) (by omega) (by decide) d_M_later_84 ?_
          refine lv_icmp_le (tgt := 92) hx hb d_M_later_85 (by decide) (fun c_8 => ?_) (fun c_8 => ?_)
          · have q4 := c_8
            refine lv_iload_n hx hb d_M_later_92 rfl (lv_at hl 2 rfl) ?_
            exact W.iret (v := nI t) hx hb hr (fun tz hz9 hW9 => ⟨⟨nI t, M, rfl, ⟨rfl, by rw [hu]; simp [y_pick, y_later, q1, q3, Int32.not_lt.mpr q4]⟩, by rw [hz9]; exact hP, va_K.moved hW9.alike hK⟩, hS.F hz9⟩) hS.2.2 d_M_later_93
          · have q4 := c_8
            refine lv_iload_n hx hb d_M_later_88 rfl (lv_at hl 1 rfl) ?_
            refine w_topi hux ?_
            refine lv_goto (tgt := 93) hx hb d_M_later_89 (by decide) ?_
            exact W.iret (v := nI u) hx hb hr (fun tz hz9 hW9 => ⟨⟨nI u, M, rfl, ⟨rfl, by rw [hu]; simp [y_pick, y_later, q1, q3, Int32.not_le.mp q4]⟩, by rw [hz9]; exact hP, va_K.moved hW9.alike hK⟩, hS.F hz9⟩) hS.2.2 d_M_later_93
      · rw [lg_cmp_eq] at c_4
        have q1 := c_4
        refine lv_aload_n hx hb d_M_later_34 rfl (lv_at hl 0 rfl) ?_
        refine w_get (C := R_M) (T := F_M) (N := 22) (ci := 5) (v := .ref (o + 6)) hx hb hts inw_M hown hK hP 0 (by decide) SM_0 rfl 7 (by decide) (hts _ (al aF_M_26)) rfl d_M_later_35 ?_
        refine lv_iload_n hx hb d_M_later_38 rfl (lv_at hl 1 rfl) ?_
        refine w_topi hux ?_
        refine w_lald hx hb hK hP 6 1 (by decide) SM_6 rfl (k := u) (by omega) (by decide) d_M_later_39 ?_
        refine lv_aload_n hx hb d_M_later_40 rfl (lv_at hl 0 rfl) ?_
        refine w_get (C := R_M) (T := F_M) (N := 22) (ci := 5) (v := .ref (o + 6)) hx hb hts inw_M hown hK hP 0 (by decide) SM_0 rfl 7 (by decide) (hts _ (al aF_M_26)) rfl d_M_later_41 ?_
        refine lv_iload_n hx hb d_M_later_44 rfl (lv_at hl 2 rfl) ?_
        refine w_lald hx hb hK hP 6 1 (by decide) SM_6 rfl (k := t) (by omega) (by decide) d_M_later_45 ?_
        refine w_Si ⟨hx, hb, hml, hown, hts⟩ (k_M_isAfter l D cA o _ M (M.2.1 6 u) (M.2.1 6 t)) (kS hts 2 aK_M_isAfter aM_M_100 aS_M_isAfter aN_M nm_M_isAfter rfl rfl ⟨(Nat.le_of_ble_eq_true rfl), (Nat.le_of_ble_eq_true rfl)⟩) hK hP rfl hl.1 rfl (Nat.le_of_ble_eq_true rfl) d_M_later_46 ⟨(Nat.le_of_ble_eq_true rfl), (Nat.le_of_ble_eq_true rfl)⟩ hS (fun q h => wA_le hS.1 h) (fun r_9 M_9 H locs hw_9 hP hzc hkc hS => ?_)
        rw [hw_9.1] at hP
        refine w_topi hw_9.2 ?_
        refine lv_if_eq (tgt := 56) hx hb d_M_later_49 (by decide) (fun c_10 => ?_) (fun c_10 => ?_)
        · have q2 := of_decide_eq_false (b2i_0 c_10)
          refine lv_iload_n hx hb d_M_later_56 rfl (lv_at hl 2 rfl) ?_
          exact W.iret (v := nI t) hx hb hr (fun tz hz9 hW9 => ⟨⟨nI t, M, rfl, ⟨rfl, by rw [hu]; simp [y_pick, y_later, q1, q2]⟩, by rw [hz9]; exact hP, va_K.moved hW9.alike hK⟩, hS.F hz9⟩) hS.2.2 d_M_later_57
        · have q2 := of_decide_eq_true (b2i_1 c_10)
          refine lv_iload_n hx hb d_M_later_52 rfl (lv_at hl 1 rfl) ?_
          refine w_topi hux ?_
          refine lv_goto (tgt := 57) hx hb d_M_later_53 (by decide) ?_
          exact W.iret (v := nI u) hx hb hr (fun tz hz9 hW9 => ⟨⟨nI u, M, rfl, ⟨rfl, by rw [hu]; simp [y_pick, y_later, q1, q2]⟩, by rw [hz9]; exact hP, va_K.moved hW9.alike hK⟩, hS.F hz9⟩) hS.2.2 d_M_later_57
    · exact absurd (nI_pos' (by omega)) c_3

