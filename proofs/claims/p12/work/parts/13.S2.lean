/-! sets: the same, and joined; a reversal -/
def x_add (M : wM) (si z t : Nat) : wM := wF (wI (wI M (9 + 3 * si + 1) z (nI t)) (9 + 3 * si + 2) t 1) (9 + 3 * si) 3 (nI (z + 1))
def x_join (M : wM) (si : Nat) (od : Nat → Nat) (z : Nat) : Nat → wM × Nat
  | 0 => (M, z)
  | k + 1 => if (x_join M si od z k).1.1 (9 + 3 * si + 2) (od k) = 0 then (x_add (x_join M si od z k).1 si (x_join M si od z k).2 (od k), (x_join M si od z k).2 + 1) else x_join M si od z k
def x_jM (M : wM) (si : Nat) (od : Nat → Nat) (z k : Nat) : wM := (x_join M si od z k).1
def x_jZ (M : wM) (si : Nat) (od : Nat → Nat) (z k : Nat) : Nat := (x_join M si od z k).2
theorem x_jM_t {M : wM} {si : Nat} {od : Nat → Nat} {z k : Nat} (h : (x_jM M si od z k).1 (9 + 3 * si + 2) (od k) = 0) : x_jM M si od z (k + 1) = x_add (x_jM M si od z k) si (x_jZ M si od z k) (od k) := by
  have h' : (x_join M si od z k).1.1 (9 + 3 * si + 2) (od k) = 0 := h
  simp only [x_jM, x_jZ]
  rw [x_join, if_pos h']
theorem x_jZ_t {M : wM} {si : Nat} {od : Nat → Nat} {z k : Nat} (h : (x_jM M si od z k).1 (9 + 3 * si + 2) (od k) = 0) : x_jZ M si od z (k + 1) = x_jZ M si od z k + 1 := by
  have h' : (x_join M si od z k).1.1 (9 + 3 * si + 2) (od k) = 0 := h
  simp only [x_jM, x_jZ]
  rw [x_join, if_pos h']
theorem x_jM_f {M : wM} {si : Nat} {od : Nat → Nat} {z k : Nat} (h : ¬ (x_jM M si od z k).1 (9 + 3 * si + 2) (od k) = 0) : x_jM M si od z (k + 1) = x_jM M si od z k := by
  have h' : ¬ (x_join M si od z k).1.1 (9 + 3 * si + 2) (od k) = 0 := h
  simp only [x_jM, x_jZ]
  rw [x_join, if_neg h']
theorem x_jZ_f {M : wM} {si : Nat} {od : Nat → Nat} {z k : Nat} (h : ¬ (x_jM M si od z k).1 (9 + 3 * si + 2) (od k) = 0) : x_jZ M si od z (k + 1) = x_jZ M si od z k := by
  have h' : ¬ (x_join M si od z k).1.1 (9 + 3 * si + 2) (od k) = 0 := h
  simp only [x_jM, x_jZ]
  rw [x_join, if_neg h']
theorem x_turn_34 {M : wM} {ej ek : Nat} (k : Nat) : (x_turn M ej ek k).2.2 34 = M.2.2 34 := by
  induction k with
  | zero => rfl
  | succ k ih => exact (up2_o _ _ _ _ (by omega)).trans ih
def x_opened (M : wM) (ec : Nat) (day : Int32) : wM := wF (wF M (37 + 3 * ec) 3 day) 34 2 (nI (ec + 1))
def x_numbered (M : wM) (ln ej : Nat) : wM := wI (wF (wF M 34 3 (nI (ln + 1))) (37 + 3 * ej) 4 (nI (ln + 1))) 36 (ln + 1) (nI ej)
def x_reversed (M : wM) (ec ek rc ln : Nat) (day : Int32) : wM := x_numbered (wF (wF (x_turn (x_opened M ec day) ec ek rc) (37 + 3 * ec) 6 1) (37 + 3 * ek) 5 1) ln ec
set_option maxHeartbeats 4000000 in
set_option maxRecDepth 100000 in
/-- S_hasSameAs -/
theorem k_S_hasSameAs (l : Launch) (D : va_G) (cA : Nat → ClassId) (o sz : Nat) (M : wM) (si ti : Nat) (hs : si < 8) (ht9 : ti < 8) (od : Nat → Nat) (z z2 : Nat) (hz : z ≤ 300) (hz2 : z2 ≤ 300) (ez : M.2.2 (9 + 3 * si) 3 = nI z) (ez2 : M.2.2 (9 + 3 * ti) 3 = nI z2) (hod : ∀ j, j < z → M.1 (9 + 3 * si + 1) j = nI (od j) ∧ od j < 300) : Met l y_S_hasSameAs (wm y_S_hasSameAs c_S_hasSameAs 3 (some .boolean)) { frames := 0, cells := 0, slots := 0, locals := 0 } (va_Pc [.ref (o + (9 + 3 * si)), .ref (o + (9 + 3 * ti))] (xB D cA o M sz)) (va_Qi (fun r M1 => M1 = M ∧ r = b2i (decide (z = z2 ∧ ∀ j, j < z → ¬ M.1 (9 + 3 * ti + 2) (od j) = 0))) (xQ D cA o) (xA o sz)) 0 0 (xA o sz) := by
  refine Met.ofW (cc := c_S_hasSameAs) (maxL := 3) (ret := (some .boolean)) (by decide) rfl ?_
  intro p e s m args below meth c s₁ B hml hv
  obtain ⟨rfl, hsz, hP, hK⟩ := hv
  have hx := B.exec
  have hb := B.bytes
  have hr := B.returns
  have hts := atoms_spec (ws := wm y_S_hasSameAs c_S_hasSameAs 3 (some .boolean)) B.pre
  have hown : s.vm.findClass "ShopDesks$TellingSet" = some m.cls := findClass_of_methodNamed B.named
  have hlocks := B.notSynchronized
  subst hsz
  have hS : va_S (xA o s.heap.size) s.heap s.heap [] := va_S.rf
  have hW : ∀ i, i < 217 → xA o s.heap.size (o + i) := fun i hi => wA_in hi
  have hl := lv_entry ([.ref (o + (9 + 3 * si)), .ref (o + (9 + 3 * ti))]) (n := 3) (Nat.le_of_ble_eq_true rfl)
  rw [lg_entry_eq]
  generalize (lg_sl ([.ref (o + (9 + 3 * si)), .ref (o + (9 + 3 * ti))]) ++ List.replicate (3 - (lg_sl ([.ref (o + (9 + 3 * si)), .ref (o + (9 + 3 * ti))])).length) Slot.unset).toArray = ls at hl ⊢
  have hl : lv_has ls 3 [(0, .ref (o + (9 + 3 * si))), (1, .ref (o + (9 + 3 * ti)))] := hl
  refine lv_aload_n hx hb d_S_hasSameAs_0 rfl (lv_at hl 0 rfl) ?_
  refine w_get (C := R_S) (T := F_S) (N := 5) (ci := 2) (v := .int (M.2.2 (9 + 3 * si) 3)) hx hb hts inw_S hown hK hP (9 + 3 * si) (by omega) (SX_s hs) rfl 3 (by decide) (hts _ (al aF_S_19)) rfl d_S_hasSameAs_1 ?_
  refine w_topi ez ?_
  refine lv_aload_n hx hb d_S_hasSameAs_4 rfl (lv_at hl 1 rfl) ?_
  refine w_get (C := R_S) (T := F_S) (N := 5) (ci := 2) (v := .int (M.2.2 (9 + 3 * ti) 3)) hx hb hts inw_S hown hK hP (9 + 3 * ti) (by omega) (SX_s ht9) rfl 3 (by decide) (hts _ (al aF_S_19)) rfl d_S_hasSameAs_5 ?_
  refine w_topi ez2 ?_
  refine lv_icmp_eq (tgt := 13) hx hb d_S_hasSameAs_8 (by decide) (fun c_1 => ?_) (fun c_1 => ?_)
  · have hzz : z = z2 := (nI_eq (by omega) (by omega)).mp c_1
    refine lv_iconst (v := 0) hx hb d_S_hasSameAs_13 (by decide) ?_
    refine lv_istore_n (lv' := [(2, .int 0), (0, .ref (o + (9 + 3 * si))), (1, .ref (o + (9 + 3 * ti)))]) hx hb d_S_hasSameAs_14 rfl hl (by decide) rfl (fun ls hl => ?_)
    have lp15 : ∀ (fuel : Nat) (k : Nat), z - k < fuel → (k ≤ z) → (∀ j, j < k → ¬ M.1 (9 + 3 * ti + 2) (od j) = 0) → ∀ (ls : Array Slot), lv_has ls 3 [(0, .ref (o + (9 + 3 * si))), (1, .ref (o + (9 + 3 * ti))), (2, .int (nI k))] → W p l e (headSpec (wm y_S_hasSameAs c_S_hasSameAs 3 (some .boolean)) { frames := 0, cells := 0, slots := 0, locals := 0 }).room s m ([.ref (o + (9 + 3 * si)), .ref (o + (9 + 3 * ti))] : List Value).toArray below meth c s.heap [] 0 0 (MQ below (va_Qi (fun r M1 => M1 = M ∧ r = b2i (decide (z = z2 ∧ ∀ j, j < z → ¬ M.1 (9 + 3 * ti + 2) (od j) = 0))) (xQ D cA o) (xA o s.heap.size)) ([.ref (o + (9 + 3 * si)), .ref (o + (9 + 3 * ti))] : List Value).toArray s 0 0 (xA o s.heap.size)) (F0 m 15 ls []) := by
      intro fuel
      induction fuel with
      | zero => intro k hfu; exact absurd hfu (Nat.not_lt_zero _)
      | succ fuel ih =>
        intro k hfu hkn hno ls hl
        refine lv_iload_n hx hb d_S_hasSameAs_15 rfl (lv_at hl 2 rfl) ?_
        refine lv_aload_n hx hb d_S_hasSameAs_16 rfl (lv_at hl 0 rfl) ?_
        refine w_get (C := R_S) (T := F_S) (N := 5) (ci := 2) (v := .int (M.2.2 (9 + 3 * si) 3)) hx hb hts inw_S hown hK hP (9 + 3 * si) (by omega) (SX_s hs) rfl 3 (by decide) (hts _ (al aF_S_19)) rfl d_S_hasSameAs_17 ?_
        refine w_topi ez ?_
        refine lv_icmp_ge (tgt := 45) hx hb d_S_hasSameAs_20 (by decide) (fun c_2 => ?_) (fun c_2 => ?_)
        · have hkz : z ≤ k := i_le (by omega) (by omega) c_2
          refine lv_iconst (v := 1) hx hb d_S_hasSameAs_45 (by decide) ?_
          exact W.zret (v := 1) hx hb hr rfl (fun tz hz9 hW9 => ⟨⟨1, M, rfl, ⟨rfl, (b2i_t ⟨hzz, fun j hj => hno j (by omega)⟩).symm⟩, by rw [hz9]; exact hP, va_K.moved hW9.alike hK⟩, hS.F hz9⟩) hS.2.2 d_S_hasSameAs_46
        · have hkz : k < z := i_nle (by omega) (by omega) c_2
          refine lv_aload_n hx hb d_S_hasSameAs_23 rfl (lv_at hl 1 rfl) ?_
          refine w_get (C := R_S) (T := F_S) (N := 5) (ci := 2) (v := .ref (o + (9 + 3 * ti + 2))) hx hb hts inw_S hown hK hP (9 + 3 * ti) (by omega) (SX_s ht9) rfl 2 (by decide) (hts _ (al aF_S_15)) rfl d_S_hasSameAs_24 ?_
          refine lv_aload_n hx hb d_S_hasSameAs_27 rfl (lv_at hl 0 rfl) ?_
          refine w_get (C := R_S) (T := F_S) (N := 5) (ci := 2) (v := .ref (o + (9 + 3 * si + 1))) hx hb hts inw_S hown hK hP (9 + 3 * si) (by omega) (SX_s hs) rfl 1 (by decide) (hts _ (al aF_S_9)) rfl d_S_hasSameAs_28 ?_
          refine lv_iload_n hx hb d_S_hasSameAs_31 rfl (lv_at hl 2 rfl) ?_
          refine w_iald hx hb hK hP (9 + 3 * si + 1) 0 (by omega) (SX_so hs) rfl (k := k) (by omega) (by decide) d_S_hasSameAs_32 ?_
          refine w_topi ((hod k hkz).1) ?_
          refine w_zald hx hb hK hP (9 + 3 * ti + 2) 2 (by omega) (SX_si ht9) rfl (k := (od k)) ((hod k hkz).2) (by decide) d_S_hasSameAs_33 ?_
          refine lv_if_ne (tgt := 39) hx hb d_S_hasSameAs_34 (by decide) (fun c_3 => ?_) (fun c_3 => ?_)
          · have q := c_3
            refine lv_iinc (v := nI (k + 1)) (lv' := [(2, .int (nI (k + 1))), (0, .ref (o + (9 + 3 * si))), (1, .ref (o + (9 + 3 * ti)))]) hx hb d_S_hasSameAs_39 hl (k := 2) rfl (w_inc k) (by decide) rfl (fun ls hl => ?_)
            refine lv_goto (tgt := 15) hx hb d_S_hasSameAs_42 (by decide) ?_
            exact ih (k + 1) (by omega) hkz (lt_s hno q) ls (lv_sub hl [1, 2, 0] rfl)
          · have q := c_3
            refine lv_iconst (v := 0) hx hb d_S_hasSameAs_37 (by decide) ?_
            exact W.zret (v := 0) hx hb hr rfl (fun tz hz9 hW9 => ⟨⟨0, M, rfl, ⟨rfl, (b2i_f (fun h => h.2 k hkz q)).symm⟩, by rw [hz9]; exact hP, va_K.moved hW9.alike hK⟩, hS.F hz9⟩) hS.2.2 d_S_hasSameAs_38
    exact lp15 ((z - 0) + 1) 0 (Nat.lt_succ_self _) (Nat.zero_le _) (fun j h => absurd h (Nat.not_lt_zero _)) ls (lv_sub hl [1, 2, 0] rfl)
  · have hzz : ¬ z = z2 := fun h => c_1 (by rw [h])
    refine lv_iconst (v := 0) hx hb d_S_hasSameAs_11 (by decide) ?_
    exact W.zret (v := 0) hx hb hr rfl (fun tz hz9 hW9 => ⟨⟨0, M, rfl, ⟨rfl, (b2i_f (fun h => hzz h.1)).symm⟩, by rw [hz9]; exact hP, va_K.moved hW9.alike hK⟩, hS.F hz9⟩) hS.2.2 d_S_hasSameAs_12
set_option maxHeartbeats 4000000 in
set_option maxRecDepth 100000 in
/-- S_takeMissing -/
theorem k_S_takeMissing (l : Launch) (D : va_G) (cA : Nat → ClassId) (o sz : Nat) (M : wM) (si ti : Nat) (hs : si < 8) (ht9 : ti < 8) (od : Nat → Nat) (z z2 : Nat) (hz : z ≤ 300) (hz2 : z2 ≤ 300) (ez : M.2.2 (9 + 3 * si) 3 = nI z) (hod3 : ∀ j, j < z2 → od j < 300)
    (hj1 : ∀ k, k ≤ z2 → (x_jM M si od z k).2.2 (9 + 3 * ti) 3 = nI z2 ∧ (∀ j, j < z2 → (x_jM M si od z k).1 (9 + 3 * ti + 1) j = nI (od j)) ∧ (x_jM M si od z k).2.2 (9 + 3 * si) 3 = nI (x_jZ M si od z k))
    (hj4 : ∀ k, k < z2 → (x_jM M si od z k).1 (9 + 3 * si + 2) (od k) = 0 → x_jZ M si od z k < 300) : Met l y_S_takeMissing (wm y_S_takeMissing c_S_takeMissing 5 (some .int)) { frames := 0, cells := 0, slots := 0, locals := 0 } (va_Pc [.ref (o + (9 + 3 * si)), .ref (o + (9 + 3 * ti))] (xB D cA o M sz)) (va_Qi (fun r M1 => M1 = x_jM M si od z z2 ∧ r = nI (x_jZ M si od z z2) - nI z) (xQ D cA o) (xA o sz)) 0 0 (xA o sz) := by
  refine Met.ofW (cc := c_S_takeMissing) (maxL := 5) (ret := (some .int)) (by decide) rfl ?_
  intro p e s m args below meth c s₁ B hml hv
  obtain ⟨rfl, hsz, hP, hK⟩ := hv
  have hx := B.exec
  have hb := B.bytes
  have hr := B.returns
  have hts := atoms_spec (ws := wm y_S_takeMissing c_S_takeMissing 5 (some .int)) B.pre
  have hown : s.vm.findClass "ShopDesks$TellingSet" = some m.cls := findClass_of_methodNamed B.named
  have hlocks := B.notSynchronized
  subst hsz
  have hS : va_S (xA o s.heap.size) s.heap s.heap [] := va_S.rf
  have hW : ∀ i, i < 217 → xA o s.heap.size (o + i) := fun i hi => wA_in hi
  have hl := lv_entry ([.ref (o + (9 + 3 * si)), .ref (o + (9 + 3 * ti))]) (n := 5) (Nat.le_of_ble_eq_true rfl)
  rw [lg_entry_eq]
  generalize (lg_sl ([.ref (o + (9 + 3 * si)), .ref (o + (9 + 3 * ti))]) ++ List.replicate (5 - (lg_sl ([.ref (o + (9 + 3 * si)), .ref (o + (9 + 3 * ti))])).length) Slot.unset).toArray = ls at hl ⊢
  have hl : lv_has ls 5 [(0, .ref (o + (9 + 3 * si))), (1, .ref (o + (9 + 3 * ti)))] := hl
  refine lv_aload_n hx hb d_S_takeMissing_0 rfl (lv_at hl 0 rfl) ?_
  refine w_get (C := R_S) (T := F_S) (N := 5) (ci := 2) (v := .int (M.2.2 (9 + 3 * si) 3)) hx hb hts inw_S hown hK hP (9 + 3 * si) (by omega) (SX_s hs) rfl 3 (by decide) (hts _ (al aF_S_19)) rfl d_S_takeMissing_1 ?_
  refine w_topi ez ?_
  refine lv_istore_n (lv' := [(2, .int (nI z)), (0, .ref (o + (9 + 3 * si))), (1, .ref (o + (9 + 3 * ti)))]) hx hb d_S_takeMissing_4 rfl hl (by decide) rfl (fun ls hl => ?_)
  refine lv_iconst (v := 0) hx hb d_S_takeMissing_5 (by decide) ?_
  refine lv_istore_n (lv' := [(3, .int 0), (2, .int (nI z)), (0, .ref (o + (9 + 3 * si))), (1, .ref (o + (9 + 3 * ti)))]) hx hb d_S_takeMissing_6 rfl hl (by decide) rfl (fun ls hl => ?_)
  have lp7 : ∀ (fuel : Nat) (k : Nat), z2 - k < fuel → (k ≤ z2) → ∀ (H : Heap) (locs : List Loc), wP D cls_ (SX o cA) o 217 (x_jM M si od z k) H → va_S (xA o s.heap.size) s.heap H locs → ∀ (ls : Array Slot), lv_has ls 5 [(0, .ref (o + (9 + 3 * si))), (1, .ref (o + (9 + 3 * ti))), (2, .int (nI z)), (3, .int (nI k))] → W p l e (headSpec (wm y_S_takeMissing c_S_takeMissing 5 (some .int)) { frames := 0, cells := 0, slots := 0, locals := 0 }).room s m ([.ref (o + (9 + 3 * si)), .ref (o + (9 + 3 * ti))] : List Value).toArray below meth c H locs 0 0 (MQ below (va_Qi (fun r M1 => M1 = x_jM M si od z z2 ∧ r = nI (x_jZ M si od z z2) - nI z) (xQ D cA o) (xA o s.heap.size)) ([.ref (o + (9 + 3 * si)), .ref (o + (9 + 3 * ti))] : List Value).toArray s 0 0 (xA o s.heap.size)) (F0 m 7 ls []) := by
    intro fuel
    induction fuel with
    | zero => intro k hfu; exact absurd hfu (Nat.not_lt_zero _)
    | succ fuel ih =>
      intro k hfu hkn H locs hP hS ls hl
      refine lv_iload_n hx hb d_S_takeMissing_7 rfl (lv_at hl 3 rfl) ?_
      refine lv_aload_n hx hb d_S_takeMissing_8 rfl (lv_at hl 1 rfl) ?_
      refine w_get (C := R_S) (T := F_S) (N := 5) (ci := 2) (v := .int ((x_jM M si od z k).2.2 (9 + 3 * ti) 3)) hx hb hts inw_S hown hK hP (9 + 3 * ti) (by omega) (SX_s ht9) rfl 3 (by decide) (hts _ (al aF_S_19)) rfl d_S_takeMissing_9 ?_
      refine w_topi ((hj1 k hkn).1) ?_
      refine lv_icmp_ge (tgt := 68) hx hb d_S_takeMissing_12 (by decide) (fun c_1 => ?_) (fun c_1 => ?_)
      · have hkz : z2 ≤ k := i_le (by omega) (by omega) c_1
        refine lv_aload_n hx hb d_S_takeMissing_68 rfl (lv_at hl 0 rfl) ?_
        refine w_get (C := R_S) (T := F_S) (N := 5) (ci := 2) (v := .int ((x_jM M si od z k).2.2 (9 + 3 * si) 3)) hx hb hts inw_S hown hK hP (9 + 3 * si) (by omega) (SX_s hs) rfl 3 (by decide) (hts _ (al aF_S_19)) rfl d_S_takeMissing_69 ?_
        refine w_topi ((hj1 k hkn).2.2) ?_
        refine lv_iload_n hx hb d_S_takeMissing_72 rfl (lv_at hl 2 rfl) ?_
        refine lv_isub hx hb d_S_takeMissing_73 ?_
        exact W.iret (v := (nI (x_jZ M si od z k)) - (nI z)) hx hb hr (fun tz hz9 hW9 => ⟨⟨(nI (x_jZ M si od z k)) - (nI z), (x_jM M si od z k), rfl, ⟨by rw [show k = z2 by omega], by rw [show k = z2 by omega]⟩, by rw [hz9]; exact hP, va_K.moved hW9.alike hK⟩, hS.F hz9⟩) hS.2.2 d_S_takeMissing_74
      · have hkz : k < z2 := i_nle (by omega) (by omega) c_1
        refine lv_aload_n hx hb d_S_takeMissing_15 rfl (lv_at hl 1 rfl) ?_
        refine w_get (C := R_S) (T := F_S) (N := 5) (ci := 2) (v := .ref (o + (9 + 3 * ti + 1))) hx hb hts inw_S hown hK hP (9 + 3 * ti) (by omega) (SX_s ht9) rfl 1 (by decide) (hts _ (al aF_S_9)) rfl d_S_takeMissing_16 ?_
        refine lv_iload_n hx hb d_S_takeMissing_19 rfl (lv_at hl 3 rfl) ?_
        refine w_iald hx hb hK hP (9 + 3 * ti + 1) 0 (by omega) (SX_so ht9) rfl (k := k) (by omega) (by decide) d_S_takeMissing_20 ?_
        refine w_topi ((hj1 k hkn).2.1 k hkz) ?_
        refine lv_istore (lv' := [(4, .int (nI (od k))), (0, .ref (o + (9 + 3 * si))), (1, .ref (o + (9 + 3 * ti))), (2, .int (nI z)), (3, .int (nI k))]) hx hb d_S_takeMissing_21 hl (by decide) rfl (fun ls hl => ?_)
        refine lv_aload_n hx hb d_S_takeMissing_23 rfl (lv_at hl 1 rfl) ?_
        refine w_get (C := R_S) (T := F_S) (N := 5) (ci := 2) (v := .ref (o + (9 + 3 * si + 2))) hx hb hts inw_S hown hK hP (9 + 3 * si) (by omega) (SX_s hs) rfl 2 (by decide) (hts _ (al aF_S_15)) rfl d_S_takeMissing_24 ?_
        refine lv_iload hx hb d_S_takeMissing_27 (lv_at hl 0 rfl) ?_
        refine w_zald hx hb hK hP (9 + 3 * si + 2) 2 (by omega) (SX_si hs) rfl (k := (od k)) (hod3 k hkz) (by decide) d_S_takeMissing_29 ?_
        refine lv_if_ne (tgt := 62) hx hb d_S_takeMissing_30 (by decide) (fun c_2 => ?_) (fun c_2 => ?_)
        · have q := c_2
          refine lv_iinc (v := nI (k + 1)) (lv' := [(3, .int (nI (k + 1))), (4, .int (nI (od k))), (0, .ref (o + (9 + 3 * si))), (1, .ref (o + (9 + 3 * ti))), (2, .int (nI z))]) hx hb d_S_takeMissing_62 hl (k := 4) rfl (w_inc k) (by decide) rfl (fun ls hl => ?_)
          refine lv_goto (tgt := 7) hx hb d_S_takeMissing_65 (by decide) ?_
          rw [← x_jM_f q] at hP
          exact ih (k + 1) (by omega) hkz _ _ hP hS ls (lv_sub hl [2, 3, 4, 0] rfl)
        · have q := c_2
          refine lv_aload_n hx hb d_S_takeMissing_33 rfl (lv_at hl 1 rfl) ?_
          refine w_get (C := R_S) (T := F_S) (N := 5) (ci := 2) (v := .ref (o + (9 + 3 * si + 1))) hx hb hts inw_S hown hK hP (9 + 3 * si) (by omega) (SX_s hs) rfl 1 (by decide) (hts _ (al aF_S_9)) rfl d_S_takeMissing_34 ?_
          refine lv_aload_n hx hb d_S_takeMissing_37 rfl (lv_at hl 1 rfl) ?_
          refine w_get (C := R_S) (T := F_S) (N := 5) (ci := 2) (v := .int ((x_jM M si od z k).2.2 (9 + 3 * si) 3)) hx hb hts inw_S hown hK hP (9 + 3 * si) (by omega) (SX_s hs) rfl 3 (by decide) (hts _ (al aF_S_19)) rfl d_S_takeMissing_38 ?_
          refine w_topi ((hj1 k hkn).2.2) ?_
          refine lv_iload hx hb d_S_takeMissing_41 (lv_at hl 0 rfl) ?_
          refine w_iast hx hb hK hP hW hS (9 + 3 * si + 1) 0 (by omega) (fun _ => (SX_so hs)) rfl (k := (x_jZ M si od z k)) (hj4 k hkz q) (by decide) d_S_takeMissing_43 (fun H locs hP hS => ?_)
          refine lv_aload_n hx hb d_S_takeMissing_44 rfl (lv_at hl 1 rfl) ?_
          refine w_get (C := R_S) (T := F_S) (N := 5) (ci := 2) (v := .ref (o + (9 + 3 * si + 2))) hx hb hts inw_S hown hK hP (9 + 3 * si) (by omega) (SX_s hs) rfl 2 (by decide) (hts _ (al aF_S_15)) rfl d_S_takeMissing_45 ?_
          refine lv_iload hx hb d_S_takeMissing_48 (lv_at hl 0 rfl) ?_
          refine lv_iconst (v := 1) hx hb d_S_takeMissing_50 (by decide) ?_
          refine w_zast hx hb hK hP hW hS (9 + 3 * si + 2) 2 (by omega) (fun _ => (SX_si hs)) rfl (by decide) (k := (od k)) (hod3 k hkz) (by decide) d_S_takeMissing_51 (fun H locs hP hS => ?_)
          refine lv_aload_n hx hb d_S_takeMissing_52 rfl (lv_at hl 1 rfl) ?_
          refine lv_dup hx hb d_S_takeMissing_53 rfl ?_
          refine w_get (C := R_S) (T := F_S) (N := 5) (ci := 2) (v := .int ((x_jM M si od z k).2.2 (9 + 3 * si) 3)) hx hb hts inw_S hown hK hP (9 + 3 * si) (by omega) (SX_s hs) rfl 3 (by decide) (hts _ (al aF_S_19)) rfl d_S_takeMissing_54 ?_
          refine w_topi ((hj1 k hkn).2.2) ?_
          refine lv_iconst (v := 1) hx hb d_S_takeMissing_57 (by decide) ?_
          refine lv_iadd hx hb d_S_takeMissing_58 ?_
          refine w_topi ((nI_succ _).symm) ?_
          refine w_put (C := R_S) (T := F_S) (N := 5) (ci := 2) (x := nI (x_jZ M si od z k + 1)) hx hb hts inw_S ft_S ft_S_ok fn_S hown hK hP hW hS (9 + 3 * si) (by omega) (SX_s hs) rfl 3 (by decide) (hts _ (al aF_S_19)) rfl rfl rfl (Nat.le_of_ble_eq_true rfl) (by rw [wF_r]; exact (SX_s hs).trans rfl) d_S_takeMissing_59 (fun H locs hP hS => ?_)
          refine lv_iinc (v := nI (k + 1)) (lv' := [(3, .int (nI (k + 1))), (4, .int (nI (od k))), (0, .ref (o + (9 + 3 * si))), (1, .ref (o + (9 + 3 * ti))), (2, .int (nI z))]) hx hb d_S_takeMissing_62 hl (k := 4) rfl (w_inc k) (by decide) rfl (fun ls hl => ?_)
          refine lv_goto (tgt := 7) hx hb d_S_takeMissing_65 (by decide) ?_
          have hP : wP D cls_ (SX o cA) o 217 (x_jM M si od z (k + 1)) H := by rw [x_jM_t q]; exact hP
          exact ih (k + 1) (by omega) hkz _ _ hP hS ls (lv_sub hl [2, 3, 4, 0] rfl)
  exact lp7 ((z2 - 0) + 1) 0 (Nat.lt_succ_self _) (Nat.zero_le _) _ _ hP hS ls (lv_sub hl [2, 3, 1, 0] rfl)
set_option maxHeartbeats 4000000 in
set_option maxRecDepth 100000 in
/-- L_addReversal -/
theorem k_L_addReversal (l : Launch) (D : va_G) (cA : Nat → ClassId) (o sz : Nat) (M : wM) (ec ek rc ln : Nat) (hec : ec < 60) (hk9 : ek < 60) (hne : ec ≠ ek) (hrc : rc ≤ 6) (hln : ln < 60) (eec : M.2.2 34 2 = nI ec) (eln : M.2.2 34 3 = nI ln) (erc : M.2.2 (37 + 3 * ek) 2 = nI rc) (e0 : M.2.2 (37 + 3 * ec) 2 = nI 0) (day : Int32) : Met l y_L_addReversal (wm y_L_addReversal c_L_addReversal 4 (some .int)) { frames := 2, cells := 0, slots := 0, locals := 45 } (va_Pc [.ref (o + 34), .ref (o + (37 + 3 * ek)), .int day] (xB D cA o M sz)) (va_Qi (fun r M1 => M1 = x_reversed M ec ek rc ln day ∧ r = nI (ln + 1)) (xQ D cA o) (xA o sz)) 0 0 (xA o sz) := by
  refine Met.ofW (cc := c_L_addReversal) (maxL := 4) (ret := (some .int)) (by decide) rfl ?_
  intro p e s m args below meth c s₁ B hml hv
  obtain ⟨rfl, hsz, hP, hK⟩ := hv
  have hx := B.exec
  have hb := B.bytes
  have hr := B.returns
  have hts := atoms_spec (ws := wm y_L_addReversal c_L_addReversal 4 (some .int)) B.pre
  have hown : s.vm.findClass "ShopDesks$Ledger" = some m.cls := findClass_of_methodNamed B.named
  have hlocks := B.notSynchronized
  subst hsz
  have hS : va_S (xA o s.heap.size) s.heap s.heap [] := va_S.rf
  have hW : ∀ i, i < 217 → xA o s.heap.size (o + i) := fun i hi => wA_in hi
  have hl := lv_entry ([.ref (o + 34), .ref (o + (37 + 3 * ek)), .int day]) (n := 4) (Nat.le_of_ble_eq_true rfl)
  rw [lg_entry_eq]
  generalize (lg_sl ([.ref (o + 34), .ref (o + (37 + 3 * ek)), .int day]) ++ List.replicate (4 - (lg_sl ([.ref (o + 34), .ref (o + (37 + 3 * ek)), .int day])).length) Slot.unset).toArray = ls at hl ⊢
  have hl : lv_has ls 4 [(0, .ref (o + 34)), (1, .ref (o + (37 + 3 * ek))), (2, .int day)] := hl
  refine lv_aload_n hx hb d_L_addReversal_0 rfl (lv_at hl 0 rfl) ?_
  refine lv_iload_n hx hb d_L_addReversal_1 rfl (lv_at hl 2 rfl) ?_
  refine w_Vi ⟨hx, hb, hml, hown, hts⟩ (k_L_openEntry l D cA o _ M ec hec eec day) (kV hts 1 aK_L_openEntry aM_L_38 aI_L_openEntry aV_L_openEntry aN_L nm_L_openEntry rfl rfl ⟨(Nat.le_of_ble_eq_true rfl), (Nat.le_of_ble_eq_true rfl)⟩) hK hP (by decide) SX_34 rfl rfl hl.1 rfl (Nat.le_of_ble_eq_true rfl) d_L_addReversal_2 ⟨(Nat.le_of_ble_eq_true rfl), (Nat.le_of_ble_eq_true rfl)⟩ hS (fun q h => wA_le hS.1 h) (fun r_1 M_1 H locs hw_1 hP hzc hkc hS => ?_)
  rw [hw_1.1] at hP
  refine w_topi hw_1.2 ?_
  refine lv_istore_n (lv' := [(3, .int (nI ec)), (0, .ref (o + 34)), (1, .ref (o + (37 + 3 * ek))), (2, .int day)]) hx hb d_L_addReversal_5 rfl hl (by decide) rfl (fun ls hl => ?_)
  refine lv_aload_n hx hb d_L_addReversal_6 rfl (lv_at hl 1 rfl) ?_
  refine w_get (C := R_L) (T := F_L) (N := 5) (ci := 1) (v := .ref (o + 35)) hx hb hts inw_L hown hK hP 34 (by decide) SX_34 rfl 0 (by decide) (hts _ (al aF_L_11)) rfl d_L_addReversal_7 ?_
  refine lv_iload_n hx hb d_L_addReversal_10 rfl (lv_at hl 0 rfl) ?_
  refine w_aald hx hb hK hP 35 4 (by decide) SX_35 rfl (k := ec) (by omega) (by decide) (if_pos (by omega)) d_L_addReversal_11 ?_
  refine lv_aload_n hx hb d_L_addReversal_12 rfl (lv_at hl 2 rfl) ?_
  refine w_Vv ⟨hx, hb, hml, hown, hts⟩ (k_E_takeTurnedRound l D cA o _ (x_opened M ec day) ec hec ek hk9 hne rc hrc ((wF_ne (by omega)).trans ((wF_ne (by omega)).trans erc)) ((wF_ne (by omega)).trans ((wF_k (by decide)).trans e0))) (kV hts 1 aK_E_takeTurnedRound aM_L_42 aI_E_takeTurnedRound aV_E_takeTurnedRound aN_E nm_E_takeTurnedRound rfl rfl ⟨(Nat.le_of_ble_eq_true rfl), (Nat.le_of_ble_eq_true rfl)⟩) hK hP (by omega) (SX_e hec) rfl rfl hl.1 rfl (Nat.le_of_ble_eq_true rfl) d_L_addReversal_13 ⟨(Nat.le_of_ble_eq_true rfl), (Nat.le_of_ble_eq_true rfl)⟩ hS (fun q h => wA_le hS.1 h) (fun M_2 H locs hw_2 hP hzc hkc hS => ?_)
  rw [hw_2] at hP
  refine lv_aload_n hx hb d_L_addReversal_16 rfl (lv_at hl 1 rfl) ?_
  refine w_get (C := R_L) (T := F_L) (N := 5) (ci := 1) (v := .ref (o + 35)) hx hb hts inw_L hown hK hP 34 (by decide) SX_34 rfl 0 (by decide) (hts _ (al aF_L_11)) rfl d_L_addReversal_17 ?_
  refine lv_iload_n hx hb d_L_addReversal_20 rfl (lv_at hl 0 rfl) ?_
  refine w_aald hx hb hK hP 35 4 (by decide) SX_35 rfl (k := ec) (by omega) (by decide) (if_pos (by omega)) d_L_addReversal_21 ?_
  refine lv_iconst (v := 1) hx hb d_L_addReversal_22 (by decide) ?_
  refine w_put (C := R_E) (T := F_E) (N := 7) (ci := 0) (x := 1) hx hb hts inw_E ft_E ft_E_ok fn_E hown hK hP hW hS (37 + 3 * ec) (by omega) (SX_e hec) rfl 6 (by decide) (hts _ (al aF_L_46)) rfl rfl rfl (Nat.le_of_ble_eq_true rfl) (by rw [wF_r]; exact (SX_e hec).trans rfl) d_L_addReversal_23 (fun H locs hP hS => ?_)
  refine lv_aload_n hx hb d_L_addReversal_26 rfl (lv_at hl 2 rfl) ?_
  refine lv_iconst (v := 1) hx hb d_L_addReversal_27 (by decide) ?_
  refine w_put (C := R_E) (T := F_E) (N := 7) (ci := 0) (x := 1) hx hb hts inw_E ft_E ft_E_ok fn_E hown hK hP hW hS (37 + 3 * ek) (by omega) (SX_e hk9) rfl 5 (by decide) (hts _ (al aF_L_50)) rfl rfl rfl (Nat.le_of_ble_eq_true rfl) (by rw [wF_r]; exact (SX_e hk9).trans rfl) d_L_addReversal_28 (fun H locs hP hS => ?_)
  refine lv_aload_n hx hb d_L_addReversal_31 rfl (lv_at hl 1 rfl) ?_
  refine lv_iload_n hx hb d_L_addReversal_32 rfl (lv_at hl 0 rfl) ?_
  refine w_Vi ⟨hx, hb, hml, hown, hts⟩ (k_L_giveNumber l D cA o _ (wF (wF (x_turn (x_opened M ec day) ec ek rc) (37 + 3 * ec) 6 1) (37 + 3 * ek) 5 1) ln ec hln hec ((wF_ne (by omega)).trans ((wF_ne (by omega)).trans ((congrFun (x_turn_34 rc) 3).trans ((wF_k (by decide)).trans ((wF_ne (by omega)).trans eln)))))) (kV hts 1 aK_L_giveNumber aM_L_53 aI_L_giveNumber aV_L_giveNumber aN_L nm_L_giveNumber rfl rfl ⟨(Nat.le_of_ble_eq_true rfl), (Nat.le_of_ble_eq_true rfl)⟩) hK hP (by decide) SX_34 rfl rfl hl.1 rfl (Nat.le_of_ble_eq_true rfl) d_L_addReversal_33 ⟨(Nat.le_of_ble_eq_true rfl), (Nat.le_of_ble_eq_true rfl)⟩ hS (fun q h => wA_le hS.1 h) (fun r_3 M_3 H locs hw_3 hP hzc hkc hS => ?_)
  rw [hw_3.1] at hP
  refine w_topi hw_3.2 ?_
  exact W.iret (v := nI (ln + 1)) hx hb hr (fun tz hz9 hW9 => ⟨⟨nI (ln + 1), (x_reversed M ec ek rc ln day), rfl, ⟨rfl, rfl⟩, by rw [hz9]; exact hP, va_K.moved hW9.alike hK⟩, hS.F hz9⟩) hS.2.2 d_L_addReversal_36

