/-! the reference's own methods: what is known, seen, equal; since; close -/
def ySets (M : wM) (z : Nat → Nat) (od : Nat → Nat → Nat) : Prop := ∀ s, s < 8 → z s ≤ 300 ∧ M.1 7 s = nI (z s) ∧ ∀ j, j < z s → M.1 8 (300 * s + j) = nI (od s j) ∧ od s j < 300
def y_all (od1 : Nat → Nat) (z1 : Nat) (od2 : Nat → Nat) : Nat → Bool
  | 0 => true
  | k + 1 => y_all od1 z1 od2 k && y_has od1 (od2 k) z1
theorem y_all_mono {od1 : Nat → Nat} {z1 : Nat} {od2 : Nat → Nat} {k : Nat} (h : y_all od1 z1 od2 k = false) : ∀ f, k ≤ f → y_all od1 z1 od2 f = false := by
  intro f
  induction f with
  | zero => intro hk; rw [show k = 0 by omega] at h; exact h
  | succ f ih =>
    intro hk
    by_cases e : k = f + 1
    · rw [← e]; exact h
    · rw [y_all, ih (by omega)]; rfl
def y_tot (M : wM) (ej : Nat) : Nat → Int64
  | 0 => 0
  | k + 1 => y_tot M ej k + M.2.1 14 (6 * ej + k)
set_option maxHeartbeats 4000000 in
set_option maxRecDepth 100000 in
/-- M_at -/
theorem k_M_at (l : Launch) (D : va_G) (cA : Nat → ClassId) (o sz : Nat) (M : wM) (sc : Nat) (hsc : sc ≤ 8) (esc : M.2.2 0 8 = nI sc) (z : Nat → Nat) (od : Nat → Nat → Nat) (hse : ySets M z od) (x th kd : Int32) (tm : Int64) : Met l y_M_at (wm y_M_at c_M_at 6 (some .long)) { frames := 5, cells := 0, slots := 0, locals := 133 } (va_Pc [.ref (o + 0), .int x, .int th, .int kd, .long tm] (mB D cA o M sz)) (va_Ql (fun r M1 => (M1 = (wF M 0 0 1) ∧ ¬ (xin x (nI sc) ∧ xin th 10)) ∨ (M1 = (wF M 0 0 2) ∧ xin x (nI sc) ∧ xin th 10 ∧ ¬ xin kd 4) ∨ (M1 = (wF M 0 0 0) ∧ xin th 10 ∧ xin kd 4 ∧ ∃ k, k < sc ∧ x = nI k ∧ r = y_known (wF M 0 0 0) (od k) th kd tm (z k))) (mQ D cA o) (mA o sz)) 0 0 (mA o sz) := by
  refine Met.ofW (cc := c_M_at) (maxL := 6) (ret := (some .long)) (by decide) rfl ?_
  intro p e s m args below meth c s₁ B hml hv
  obtain ⟨rfl, hsz, hP, hK⟩ := hv
  have hx := B.exec
  have hb := B.bytes
  have hr := B.returns
  have hts := atoms_spec (ws := wm y_M_at c_M_at 6 (some .long)) B.pre
  have hown : s.vm.findClass "ShopDesksModel" = some m.cls := findClass_of_methodNamed B.named
  have hlocks := B.notSynchronized
  subst hsz
  have hS : va_S (mA o s.heap.size) s.heap s.heap [] := va_S.rf
  have hW : ∀ i, i < 17 → mA o s.heap.size (o + i) := fun i hi => wA_in hi
  have hl := lv_entry ([.ref (o + 0), .int x, .int th, .int kd, .long tm]) (n := 6) (Nat.le_of_ble_eq_true rfl)
  rw [lg_entry_eq]
  generalize (lg_sl ([.ref (o + 0), .int x, .int th, .int kd, .long tm]) ++ List.replicate (6 - (lg_sl ([.ref (o + 0), .int x, .int th, .int kd, .long tm])).length) Slot.unset).toArray = ls at hl ⊢
  have hl : lv_has ls 6 [(0, .ref (o + 0)), (1, .int x), (2, .int th), (3, .int kd), (4, .long tm)] := hl
  refine lv_aload_n hx hb d_M_at_0 rfl (lv_at hl 0 rfl) ?_
  refine lv_aload_n hx hb d_M_at_1 rfl (lv_at hl 0 rfl) ?_
  refine lv_iload_n hx hb d_M_at_2 rfl (lv_at hl 1 rfl) ?_
  refine w_Vi ⟨hx, hb, hml, hown, hts⟩ (k_M_isSet l D cA o _ M x) (kV hts 1 aK_M_isSet aM_M_89 aI_M_isSet aV_M_isSet aN_M nm_M_isSet rfl rfl ⟨(Nat.le_of_ble_eq_true rfl), (Nat.le_of_ble_eq_true rfl)⟩) hK hP (by decide) SM_0 rfl rfl hl.1 rfl (Nat.le_of_ble_eq_true rfl) d_M_at_3 ⟨(Nat.le_of_ble_eq_true rfl), (Nat.le_of_ble_eq_true rfl)⟩ hS (fun q h => wA_le hS.1 h) (fun r_1 M_1 H locs hw_1 hP hzc hkc hS => ?_)
  rw [hw_1.1] at hP
  refine w_topi hw_1.2 ?_
  refine lv_if_eq (tgt := 21) hx hb d_M_at_6 (by decide) (fun c_2 => ?_) (fun c_2 => ?_)
  · have q1 : ¬ xin x (nI sc) := by rw [← esc]; exact b2i_F c_2
    refine lv_iconst (v := 1) hx hb d_M_at_21 (by decide) ?_
    refine lv_goto (tgt := 37) hx hb d_M_at_22 (by decide) ?_
    refine w_put (C := R_M) (T := F_M) (N := 22) (ci := 5) (x := 1) hx hb hts inw_M ft_M ft_M_ok fn_M hown hK hP hW hS 0 (by decide) SM_0 rfl 0 (by decide) (hts _ (al aF_M_64)) rfl rfl rfl (Nat.le_of_ble_eq_true rfl) (by rw [wF_r]; exact SM_0.trans rfl) d_M_at_37 (fun H locs hP hS => ?_)
    refine lv_aload_n hx hb d_M_at_40 rfl (lv_at hl 0 rfl) ?_
    refine w_get (C := R_M) (T := F_M) (N := 22) (ci := 5) (v := .int 1) hx hb hts inw_M hown hK hP 0 (by decide) SM_0 rfl 0 (by decide) (hts _ (al aF_M_64)) rfl d_M_at_41 ?_
    refine lv_if_le (tgt := 51) hx hb d_M_at_44 (by decide) (fun c_3 => ?_) (fun c_3 => ?_)
    · exact absurd c_3 (by decide)
    · refine lv_lconst (v := 0) hx hb d_M_at_47 (by decide) ?_
      refine lv_goto (tgt := 66) hx hb d_M_at_48 (by decide) ?_
      exact W.lret (v := 0) hx hb hr (fun tz hz9 hW9 => ⟨⟨0, (wF M 0 0 1), rfl, Or.inl ⟨rfl, fun h => q1 h.1⟩, by rw [hz9]; exact hP, va_K.moved hW9.alike hK⟩, hS.F hz9⟩) hS.2.2 d_M_at_66
  · have q1 : xin x (nI sc) := by rw [← esc]; exact b2i_T c_2
    obtain ⟨k1, hk1, ek1⟩ := x_idx q1.1 q1.2 (by omega)
    have hk18 : k1 < 8 := by omega
    refine lv_iload_n hx hb d_M_at_9 rfl (lv_at hl 2 rfl) ?_
    refine lv_i2l hx hb d_M_at_10 rfl ?_
    refine lv_lconst (v := 0) hx hb d_M_at_11 (by decide) ?_
    refine lv_ldc2 (v := 9) hx hb hown (hts _ (al aL_M_76)) d_M_at_12 ?_
    refine w_Si ⟨hx, hb, hml, hown, hts⟩ (k_M_isIn l D cA o _ M (th.toInt64) 0 9) (kS hts 3 aK_M_isIn aM_M_72 aS_M_isIn aN_M nm_M_isIn rfl rfl ⟨(Nat.le_of_ble_eq_true rfl), (Nat.le_of_ble_eq_true rfl)⟩) hK hP rfl hl.1 rfl (Nat.le_of_ble_eq_true rfl) d_M_at_15 ⟨(Nat.le_of_ble_eq_true rfl), (Nat.le_of_ble_eq_true rfl)⟩ hS (fun q h => wA_le hS.1 h) (fun r_4 M_4 H locs hw_4 hP hzc hkc hS => ?_)
    rw [hw_4.1] at hP
    refine w_topi hw_4.2 ?_
    refine lv_if_ne (tgt := 25) hx hb d_M_at_18 (by decide) (fun c_5 => ?_) (fun c_5 => ?_)
    · have q2 : xin th (nI (9 + 1)) := (y_in 9 (by omega)).mp (b2i_T c_5)
      refine lv_iload_n hx hb d_M_at_25 rfl (lv_at hl 3 rfl) ?_
      refine w_Si ⟨hx, hb, hml, hown, hts⟩ (k_M_isKind l D cA o _ M kd) (kS hts 1 aK_M_isKind aM_M_78 aS_M_isKind aN_M nm_M_isKind rfl rfl ⟨(Nat.le_of_ble_eq_true rfl), (Nat.le_of_ble_eq_true rfl)⟩) hK hP rfl hl.1 rfl (Nat.le_of_ble_eq_true rfl) d_M_at_26 ⟨(Nat.le_of_ble_eq_true rfl), (Nat.le_of_ble_eq_true rfl)⟩ hS (fun q h => wA_le hS.1 h) (fun r_6 M_6 H locs hw_6 hP hzc hkc hS => ?_)
      rw [hw_6.1] at hP
      refine w_topi hw_6.2 ?_
      refine lv_if_eq (tgt := 36) hx hb d_M_at_29 (by decide) (fun c_7 => ?_) (fun c_7 => ?_)
      · have q3 : ¬ xin kd 4 := fun h => b2i_F c_7 (y_kd.mpr h)
        refine lv_iconst (v := 2) hx hb d_M_at_36 (by decide) ?_
        refine w_put (C := R_M) (T := F_M) (N := 22) (ci := 5) (x := 2) hx hb hts inw_M ft_M ft_M_ok fn_M hown hK hP hW hS 0 (by decide) SM_0 rfl 0 (by decide) (hts _ (al aF_M_64)) rfl rfl rfl (Nat.le_of_ble_eq_true rfl) (by rw [wF_r]; exact SM_0.trans rfl) d_M_at_37 (fun H locs hP hS => ?_)
        refine lv_aload_n hx hb d_M_at_40 rfl (lv_at hl 0 rfl) ?_
        refine w_get (C := R_M) (T := F_M) (N := 22) (ci := 5) (v := .int 2) hx hb hts inw_M hown hK hP 0 (by decide) SM_0 rfl 0 (by decide) (hts _ (al aF_M_64)) rfl d_M_at_41 ?_
        refine lv_if_le (tgt := 51) hx hb d_M_at_44 (by decide) (fun c_8 => ?_) (fun c_8 => ?_)
        · exact absurd c_8 (by decide)
        · refine lv_lconst (v := 0) hx hb d_M_at_47 (by decide) ?_
          refine lv_goto (tgt := 66) hx hb d_M_at_48 (by decide) ?_
          exact W.lret (v := 0) hx hb hr (fun tz hz9 hW9 => ⟨⟨0, (wF M 0 0 2), rfl, Or.inr (Or.inl ⟨rfl, q1, q2, q3⟩), by rw [hz9]; exact hP, va_K.moved hW9.alike hK⟩, hS.F hz9⟩) hS.2.2 d_M_at_66
      · have q3 : xin kd 4 := y_kd.mp (b2i_T c_7)
        refine lv_iconst (v := 0) hx hb d_M_at_32 (by decide) ?_
        refine lv_goto (tgt := 37) hx hb d_M_at_33 (by decide) ?_
        refine w_put (C := R_M) (T := F_M) (N := 22) (ci := 5) (x := 0) hx hb hts inw_M ft_M ft_M_ok fn_M hown hK hP hW hS 0 (by decide) SM_0 rfl 0 (by decide) (hts _ (al aF_M_64)) rfl rfl rfl (Nat.le_of_ble_eq_true rfl) (by rw [wF_r]; exact SM_0.trans rfl) d_M_at_37 (fun H locs hP hS => ?_)
        refine lv_aload_n hx hb d_M_at_40 rfl (lv_at hl 0 rfl) ?_
        refine w_get (C := R_M) (T := F_M) (N := 22) (ci := 5) (v := .int 0) hx hb hts inw_M hown hK hP 0 (by decide) SM_0 rfl 0 (by decide) (hts _ (al aF_M_64)) rfl d_M_at_41 ?_
        refine lv_if_le (tgt := 51) hx hb d_M_at_44 (by decide) (fun c_9 => ?_) (fun c_9 => ?_)
        · refine lv_aload_n hx hb d_M_at_51 rfl (lv_at hl 0 rfl) ?_
          refine lv_iload_n hx hb d_M_at_52 rfl (lv_at hl 1 rfl) ?_
          refine w_topi ek1 ?_
          refine lv_aload_n hx hb d_M_at_53 rfl (lv_at hl 0 rfl) ?_
          refine w_get (C := R_M) (T := F_M) (N := 22) (ci := 5) (v := .ref (o + 7)) hx hb hts inw_M hown hK hP 0 (by decide) SM_0 rfl 9 (by decide) (hts _ (al aF_M_29)) rfl d_M_at_54 ?_
          refine lv_iload_n hx hb d_M_at_57 rfl (lv_at hl 1 rfl) ?_
          refine w_topi ek1 ?_
          refine w_iald hx hb hK hP 7 0 (by decide) SM_7 rfl (k := k1) (by omega) (by decide) d_M_at_58 ?_
          refine w_topi ((hse k1 hk18).2.1) ?_
          refine lv_iload_n hx hb d_M_at_59 rfl (lv_at hl 2 rfl) ?_
          refine lv_iload_n hx hb d_M_at_60 rfl (lv_at hl 3 rfl) ?_
          refine lv_lload hx hb d_M_at_61 (lv_at hl 4 rfl) ?_
          refine w_Vl ⟨hx, hb, hml, hown, hts⟩ (k_M_known l D cA o _ (wF M 0 0 0) k1 hk18 (od k1) (z k1) (hse k1 hk18).1 (hse k1 hk18).2.2 th kd tm) (kV hts 5 aK_M_known aM_M_122 aI_M_known aV_M_known aN_M nm_M_known rfl rfl ⟨(Nat.le_of_ble_eq_true rfl), (Nat.le_of_ble_eq_true rfl)⟩) hK hP (by decide) SM_0 rfl rfl hl.1 rfl (Nat.le_of_ble_eq_true rfl) d_M_at_63 ⟨(Nat.le_of_ble_eq_true rfl), (Nat.le_of_ble_eq_true rfl)⟩ hS (fun q h => wA_le hS.1 h) (fun r_10 M_10 H locs hw_10 hP hzc hkc hS => ?_)
          rw [hw_10.1] at hP
          refine w_topl hw_10.2 ?_
          exact W.lret (v := y_known (wF M 0 0 0) (od k1) th kd tm (z k1)) hx hb hr (fun tz hz9 hW9 => ⟨⟨y_known (wF M 0 0 0) (od k1) th kd tm (z k1), (wF M 0 0 0), rfl, Or.inr (Or.inr ⟨rfl, q2, q3, k1, hk1, ek1, rfl⟩), by rw [hz9]; exact hP, va_K.moved hW9.alike hK⟩, hS.F hz9⟩) hS.2.2 d_M_at_66
        · exact absurd (by decide) c_9
    · have q2 : ¬ xin th (nI (9 + 1)) := fun h => b2i_F c_5 ((y_in 9 (by omega)).mpr h)
      refine lv_iconst (v := 1) hx hb d_M_at_21 (by decide) ?_
      refine lv_goto (tgt := 37) hx hb d_M_at_22 (by decide) ?_
      refine w_put (C := R_M) (T := F_M) (N := 22) (ci := 5) (x := 1) hx hb hts inw_M ft_M ft_M_ok fn_M hown hK hP hW hS 0 (by decide) SM_0 rfl 0 (by decide) (hts _ (al aF_M_64)) rfl rfl rfl (Nat.le_of_ble_eq_true rfl) (by rw [wF_r]; exact SM_0.trans rfl) d_M_at_37 (fun H locs hP hS => ?_)
      refine lv_aload_n hx hb d_M_at_40 rfl (lv_at hl 0 rfl) ?_
      refine w_get (C := R_M) (T := F_M) (N := 22) (ci := 5) (v := .int 1) hx hb hts inw_M hown hK hP 0 (by decide) SM_0 rfl 0 (by decide) (hts _ (al aF_M_64)) rfl d_M_at_41 ?_
      refine lv_if_le (tgt := 51) hx hb d_M_at_44 (by decide) (fun c_11 => ?_) (fun c_11 => ?_)
      · exact absurd c_11 (by decide)
      · refine lv_lconst (v := 0) hx hb d_M_at_47 (by decide) ?_
        refine lv_goto (tgt := 66) hx hb d_M_at_48 (by decide) ?_
        exact W.lret (v := 0) hx hb hr (fun tz hz9 hW9 => ⟨⟨0, (wF M 0 0 1), rfl, Or.inl ⟨rfl, fun h => q2 h.2⟩, by rw [hz9]; exact hP, va_K.moved hW9.alike hK⟩, hS.F hz9⟩) hS.2.2 d_M_at_66
set_option maxHeartbeats 4000000 in
set_option maxRecDepth 100000 in
/-- M_seen -/
theorem k_M_seen (l : Launch) (D : va_G) (cA : Nat → ClassId) (o sz : Nat) (M : wM) (sc : Nat) (hsc : sc ≤ 8) (esc : M.2.2 0 8 = nI sc) (z : Nat → Nat) (od : Nat → Nat → Nat) (hse : ySets M z od) (bs : Nat → Nat) (hbs : ∀ s, s < 8 → bs s ≤ z s ∧ (M.1 9 s < 0 → bs s = z s) ∧ (¬ M.1 9 s < 0 → M.1 9 s = nI (bs s))) (x y th kd : Int32) : Met l y_M_seen (wm y_M_seen c_M_seen 5 (some .long)) { frames := 5, cells := 0, slots := 0, locals := 133 } (va_Pc [.ref (o + 0), .int x, .int y, .int th, .int kd] (mB D cA o M sz)) (va_Ql (fun r M1 => (M1 = (wF M 0 0 1) ∧ ¬ (xin x 4 ∧ xin y (nI sc) ∧ xin th 10)) ∨ (M1 = (wF M 0 0 2) ∧ xin x 4 ∧ xin y (nI sc) ∧ xin th 10 ∧ ¬ xin kd 4) ∨ (xin y (nI sc) ∧ xin th 10 ∧ ∃ a b, a < 4 ∧ b < 4 ∧ x = nI a ∧ kd = nI b ∧ ((M1 = (wF M 0 0 3) ∧ M.1 10 (4 * a + b) = 0) ∨ (M1 = (wF M 0 0 0) ∧ ¬ M.1 10 (4 * a + b) = 0 ∧ ∃ k, k < sc ∧ y = nI k ∧ r = y_known (wF M 0 0 0) (od k) th kd 9223372036854775807 (bs k))))) (mQ D cA o) (mA o sz)) 0 0 (mA o sz) := by
  refine Met.ofW (cc := c_M_seen) (maxL := 5) (ret := (some .long)) (by decide) rfl ?_
  intro p e s m args below meth c s₁ B hml hv
  obtain ⟨rfl, hsz, hP, hK⟩ := hv
  have hx := B.exec
  have hb := B.bytes
  have hr := B.returns
  have hts := atoms_spec (ws := wm y_M_seen c_M_seen 5 (some .long)) B.pre
  have hown : s.vm.findClass "ShopDesksModel" = some m.cls := findClass_of_methodNamed B.named
  have hlocks := B.notSynchronized
  subst hsz
  have hS : va_S (mA o s.heap.size) s.heap s.heap [] := va_S.rf
  have hW : ∀ i, i < 17 → mA o s.heap.size (o + i) := fun i hi => wA_in hi
  have hl := lv_entry ([.ref (o + 0), .int x, .int y, .int th, .int kd]) (n := 5) (Nat.le_of_ble_eq_true rfl)
  rw [lg_entry_eq]
  generalize (lg_sl ([.ref (o + 0), .int x, .int y, .int th, .int kd]) ++ List.replicate (5 - (lg_sl ([.ref (o + 0), .int x, .int y, .int th, .int kd])).length) Slot.unset).toArray = ls at hl ⊢
  have hl : lv_has ls 5 [(0, .ref (o + 0)), (1, .int x), (2, .int y), (3, .int th), (4, .int kd)] := hl
  refine lv_aload_n hx hb d_M_seen_0 rfl (lv_at hl 0 rfl) ?_
  refine lv_iload_n hx hb d_M_seen_1 rfl (lv_at hl 1 rfl) ?_
  refine lv_i2l hx hb d_M_seen_2 rfl ?_
  refine lv_lconst (v := 0) hx hb d_M_seen_3 (by decide) ?_
  refine lv_ldc2 (v := 3) hx hb hown (hts _ (al aL_M_134)) d_M_seen_4 ?_
  refine w_Si ⟨hx, hb, hml, hown, hts⟩ (k_M_isIn l D cA o _ M (x.toInt64) 0 3) (kS hts 3 aK_M_isIn aM_M_72 aS_M_isIn aN_M nm_M_isIn rfl rfl ⟨(Nat.le_of_ble_eq_true rfl), (Nat.le_of_ble_eq_true rfl)⟩) hK hP rfl hl.1 rfl (Nat.le_of_ble_eq_true rfl) d_M_seen_7 ⟨(Nat.le_of_ble_eq_true rfl), (Nat.le_of_ble_eq_true rfl)⟩ hS (fun q h => wA_le hS.1 h) (fun r_1 M_1 H locs hw_1 hP hzc hkc hS => ?_)
  rw [hw_1.1] at hP
  refine w_topi hw_1.2 ?_
  refine lv_if_eq (tgt := 33) hx hb d_M_seen_10 (by decide) (fun c_2 => ?_) (fun c_2 => ?_)
  · have q1 : ¬ xin x (nI (3 + 1)) := fun h => b2i_F c_2 ((y_in 3 (by omega)).mpr h)
    refine lv_iconst (v := 1) hx hb d_M_seen_33 (by decide) ?_
    refine lv_goto (tgt := 68) hx hb d_M_seen_34 (by decide) ?_
    refine w_put (C := R_M) (T := F_M) (N := 22) (ci := 5) (x := 1) hx hb hts inw_M ft_M ft_M_ok fn_M hown hK hP hW hS 0 (by decide) SM_0 rfl 0 (by decide) (hts _ (al aF_M_64)) rfl rfl rfl (Nat.le_of_ble_eq_true rfl) (by rw [wF_r]; exact SM_0.trans rfl) d_M_seen_68 (fun H locs hP hS => ?_)
    refine lv_aload_n hx hb d_M_seen_71 rfl (lv_at hl 0 rfl) ?_
    refine w_get (C := R_M) (T := F_M) (N := 22) (ci := 5) (v := .int 1) hx hb hts inw_M hown hK hP 0 (by decide) SM_0 rfl 0 (by decide) (hts _ (al aF_M_64)) rfl d_M_seen_72 ?_
    refine lv_if_le (tgt := 82) hx hb d_M_seen_75 (by decide) (fun c_3 => ?_) (fun c_3 => ?_)
    · exact absurd c_3 (by decide)
    · refine lv_lconst (v := 0) hx hb d_M_seen_78 (by decide) ?_
      refine lv_goto (tgt := 117) hx hb d_M_seen_79 (by decide) ?_
      exact W.lret (v := 0) hx hb hr (fun tz hz9 hW9 => ⟨⟨0, (wF M 0 0 1), rfl, Or.inl ⟨rfl, fun h => q1 h.1⟩, by rw [hz9]; exact hP, va_K.moved hW9.alike hK⟩, hS.F hz9⟩) hS.2.2 d_M_seen_117
  · have q1 : xin x (nI (3 + 1)) := (y_in 3 (by omega)).mp (b2i_T c_2)
    obtain ⟨a1, ha1, ea1⟩ := x_idx (n := 4) q1.1 q1.2 (by omega)
    refine lv_aload_n hx hb d_M_seen_13 rfl (lv_at hl 0 rfl) ?_
    refine lv_iload_n hx hb d_M_seen_14 rfl (lv_at hl 2 rfl) ?_
    refine w_Vi ⟨hx, hb, hml, hown, hts⟩ (k_M_isSet l D cA o _ M y) (kV hts 1 aK_M_isSet aM_M_89 aI_M_isSet aV_M_isSet aN_M nm_M_isSet rfl rfl ⟨(Nat.le_of_ble_eq_true rfl), (Nat.le_of_ble_eq_true rfl)⟩) hK hP (by decide) SM_0 rfl rfl hl.1 rfl (Nat.le_of_ble_eq_true rfl) d_M_seen_15 ⟨(Nat.le_of_ble_eq_true rfl), (Nat.le_of_ble_eq_true rfl)⟩ hS (fun q h => wA_le hS.1 h) (fun r_4 M_4 H locs hw_4 hP hzc hkc hS => ?_)
    rw [hw_4.1] at hP
    refine w_topi hw_4.2 ?_
    refine lv_if_eq (tgt := 33) hx hb d_M_seen_18 (by decide) (fun c_5 => ?_) (fun c_5 => ?_)
    · have q2 : ¬ xin y (nI sc) := by rw [← esc]; exact b2i_F c_5
      refine lv_iconst (v := 1) hx hb d_M_seen_33 (by decide) ?_
      refine lv_goto (tgt := 68) hx hb d_M_seen_34 (by decide) ?_
      refine w_put (C := R_M) (T := F_M) (N := 22) (ci := 5) (x := 1) hx hb hts inw_M ft_M ft_M_ok fn_M hown hK hP hW hS 0 (by decide) SM_0 rfl 0 (by decide) (hts _ (al aF_M_64)) rfl rfl rfl (Nat.le_of_ble_eq_true rfl) (by rw [wF_r]; exact SM_0.trans rfl) d_M_seen_68 (fun H locs hP hS => ?_)
      refine lv_aload_n hx hb d_M_seen_71 rfl (lv_at hl 0 rfl) ?_
      refine w_get (C := R_M) (T := F_M) (N := 22) (ci := 5) (v := .int 1) hx hb hts inw_M hown hK hP 0 (by decide) SM_0 rfl 0 (by decide) (hts _ (al aF_M_64)) rfl d_M_seen_72 ?_
      refine lv_if_le (tgt := 82) hx hb d_M_seen_75 (by decide) (fun c_6 => ?_) (fun c_6 => ?_)
      · exact absurd c_6 (by decide)
      · refine lv_lconst (v := 0) hx hb d_M_seen_78 (by decide) ?_
        refine lv_goto (tgt := 117) hx hb d_M_seen_79 (by decide) ?_
        exact W.lret (v := 0) hx hb hr (fun tz hz9 hW9 => ⟨⟨0, (wF M 0 0 1), rfl, Or.inl ⟨rfl, fun h => q2 h.2.1⟩, by rw [hz9]; exact hP, va_K.moved hW9.alike hK⟩, hS.F hz9⟩) hS.2.2 d_M_seen_117
    · have q2 : xin y (nI sc) := by rw [← esc]; exact b2i_T c_5
      obtain ⟨k1, hk1, ek1⟩ := x_idx q2.1 q2.2 (by omega)
      have hk18 : k1 < 8 := by omega
      refine lv_iload_n hx hb d_M_seen_21 rfl (lv_at hl 3 rfl) ?_
      refine lv_i2l hx hb d_M_seen_22 rfl ?_
      refine lv_lconst (v := 0) hx hb d_M_seen_23 (by decide) ?_
      refine lv_ldc2 (v := 9) hx hb hown (hts _ (al aL_M_76)) d_M_seen_24 ?_
      refine w_Si ⟨hx, hb, hml, hown, hts⟩ (k_M_isIn l D cA o _ M (th.toInt64) 0 9) (kS hts 3 aK_M_isIn aM_M_72 aS_M_isIn aN_M nm_M_isIn rfl rfl ⟨(Nat.le_of_ble_eq_true rfl), (Nat.le_of_ble_eq_true rfl)⟩) hK hP rfl hl.1 rfl (Nat.le_of_ble_eq_true rfl) d_M_seen_27 ⟨(Nat.le_of_ble_eq_true rfl), (Nat.le_of_ble_eq_true rfl)⟩ hS (fun q h => wA_le hS.1 h) (fun r_7 M_7 H locs hw_7 hP hzc hkc hS => ?_)
      rw [hw_7.1] at hP
      refine w_topi hw_7.2 ?_
      refine lv_if_ne (tgt := 37) hx hb d_M_seen_30 (by decide) (fun c_8 => ?_) (fun c_8 => ?_)
      · have q3 : xin th (nI (9 + 1)) := (y_in 9 (by omega)).mp (b2i_T c_8)
        refine lv_iload hx hb d_M_seen_37 (lv_at hl 4 rfl) ?_
        refine w_Si ⟨hx, hb, hml, hown, hts⟩ (k_M_isKind l D cA o _ M kd) (kS hts 1 aK_M_isKind aM_M_78 aS_M_isKind aN_M nm_M_isKind rfl rfl ⟨(Nat.le_of_ble_eq_true rfl), (Nat.le_of_ble_eq_true rfl)⟩) hK hP rfl hl.1 rfl (Nat.le_of_ble_eq_true rfl) d_M_seen_39 ⟨(Nat.le_of_ble_eq_true rfl), (Nat.le_of_ble_eq_true rfl)⟩ hS (fun q h => wA_le hS.1 h) (fun r_9 M_9 H locs hw_9 hP hzc hkc hS => ?_)
        rw [hw_9.1] at hP
        refine w_topi hw_9.2 ?_
        refine lv_if_ne (tgt := 49) hx hb d_M_seen_42 (by decide) (fun c_10 => ?_) (fun c_10 => ?_)
        · have q4 : xin kd 4 := y_kd.mp (b2i_T c_10)
          obtain ⟨b1, hb1, eb1⟩ := x_idx (n := 4) q4.1 q4.2 (by omega)
          refine lv_aload_n hx hb d_M_seen_49 rfl (lv_at hl 0 rfl) ?_
          refine w_get (C := R_M) (T := F_M) (N := 22) (ci := 5) (v := .ref (o + 10)) hx hb hts inw_M hown hK hP 0 (by decide) SM_0 rfl 12 (by decide) (hts _ (al aF_M_38)) rfl d_M_seen_50 ?_
          refine lv_iconst (v := 4) hx hb d_M_seen_53 (by decide) ?_
          refine lv_iload_n hx hb d_M_seen_54 rfl (lv_at hl 1 rfl) ?_
          refine w_topi ea1 ?_
          refine lv_imul hx hb d_M_seen_55 ?_
          refine lv_iload hx hb d_M_seen_56 (lv_at hl 4 rfl) ?_
          refine w_topi eb1 ?_
          refine lv_iadd hx hb d_M_seen_58 ?_
          refine w_topi (y_idx 4 a1 b1) ?_
          refine w_zald hx hb hK hP 10 2 (by decide) SM_10 rfl (k := (4 * a1 + b1)) (by omega) (by decide) d_M_seen_59 ?_
          refine lv_if_eq (tgt := 67) hx hb d_M_seen_60 (by decide) (fun c_11 => ?_) (fun c_11 => ?_)
          · have q5 := c_11
            refine lv_iconst (v := 3) hx hb d_M_seen_67 (by decide) ?_
            refine w_put (C := R_M) (T := F_M) (N := 22) (ci := 5) (x := 3) hx hb hts inw_M ft_M ft_M_ok fn_M hown hK hP hW hS 0 (by decide) SM_0 rfl 0 (by decide) (hts _ (al aF_M_64)) rfl rfl rfl (Nat.le_of_ble_eq_true rfl) (by rw [wF_r]; exact SM_0.trans rfl) d_M_seen_68 (fun H locs hP hS => ?_)
            refine lv_aload_n hx hb d_M_seen_71 rfl (lv_at hl 0 rfl) ?_
            refine w_get (C := R_M) (T := F_M) (N := 22) (ci := 5) (v := .int 3) hx hb hts inw_M hown hK hP 0 (by decide) SM_0 rfl 0 (by decide) (hts _ (al aF_M_64)) rfl d_M_seen_72 ?_
            refine lv_if_le (tgt := 82) hx hb d_M_seen_75 (by decide) (fun c_12 => ?_) (fun c_12 => ?_)
            · exact absurd c_12 (by decide)
            · refine lv_lconst (v := 0) hx hb d_M_seen_78 (by decide) ?_
              refine lv_goto (tgt := 117) hx hb d_M_seen_79 (by decide) ?_
              exact W.lret (v := 0) hx hb hr (fun tz hz9 hW9 => ⟨⟨0, (wF M 0 0 3), rfl, Or.inr (Or.inr ⟨q2, q3, a1, b1, ha1, hb1, ea1, eb1, Or.inl ⟨rfl, q5⟩⟩), by rw [hz9]; exact hP, va_K.moved hW9.alike hK⟩, hS.F hz9⟩) hS.2.2 d_M_seen_117
          · have q5 := c_11
            refine lv_iconst (v := 0) hx hb d_M_seen_63 (by decide) ?_
            refine lv_goto (tgt := 68) hx hb d_M_seen_64 (by decide) ?_
            refine w_put (C := R_M) (T := F_M) (N := 22) (ci := 5) (x := 0) hx hb hts inw_M ft_M ft_M_ok fn_M hown hK hP hW hS 0 (by decide) SM_0 rfl 0 (by decide) (hts _ (al aF_M_64)) rfl rfl rfl (Nat.le_of_ble_eq_true rfl) (by rw [wF_r]; exact SM_0.trans rfl) d_M_seen_68 (fun H locs hP hS => ?_)
            refine lv_aload_n hx hb d_M_seen_71 rfl (lv_at hl 0 rfl) ?_
            refine w_get (C := R_M) (T := F_M) (N := 22) (ci := 5) (v := .int 0) hx hb hts inw_M hown hK hP 0 (by decide) SM_0 rfl 0 (by decide) (hts _ (al aF_M_64)) rfl d_M_seen_72 ?_
            refine lv_if_le (tgt := 82) hx hb d_M_seen_75 (by decide) (fun c_13 => ?_) (fun c_13 => ?_)
            · refine lv_aload_n hx hb d_M_seen_82 rfl (lv_at hl 0 rfl) ?_
              refine lv_iload_n hx hb d_M_seen_83 rfl (lv_at hl 2 rfl) ?_
              refine w_topi ek1 ?_
              refine lv_aload_n hx hb d_M_seen_84 rfl (lv_at hl 0 rfl) ?_
              refine w_get (C := R_M) (T := F_M) (N := 22) (ci := 5) (v := .ref (o + 9)) hx hb hts inw_M hown hK hP 0 (by decide) SM_0 rfl 11 (by decide) (hts _ (al aF_M_35)) rfl d_M_seen_85 ?_
              refine lv_iload_n hx hb d_M_seen_88 rfl (lv_at hl 2 rfl) ?_
              refine w_topi ek1 ?_
              refine w_iald hx hb hK hP 9 0 (by decide) SM_9 rfl (k := k1) (by omega) (by decide) d_M_seen_89 ?_
              refine lv_if_lt (tgt := 102) hx hb d_M_seen_90 (by decide) (fun c_14 => ?_) (fun c_14 => ?_)
              · have q6 := (hbs k1 hk18).2.1 c_14
                refine lv_aload_n hx hb d_M_seen_102 rfl (lv_at hl 0 rfl) ?_
                refine w_get (C := R_M) (T := F_M) (N := 22) (ci := 5) (v := .ref (o + 7)) hx hb hts inw_M hown hK hP 0 (by decide) SM_0 rfl 9 (by decide) (hts _ (al aF_M_29)) rfl d_M_seen_103 ?_
                refine lv_iload_n hx hb d_M_seen_106 rfl (lv_at hl 2 rfl) ?_
                refine w_topi ek1 ?_
                refine w_iald hx hb hK hP 7 0 (by decide) SM_7 rfl (k := k1) (by omega) (by decide) d_M_seen_107 ?_
                refine w_topi ((hse k1 hk18).2.1) ?_
                refine w_topi (show nI (z k1) = nI (bs k1) by rw [q6]) ?_
                refine lv_iload_n hx hb d_M_seen_108 rfl (lv_at hl 3 rfl) ?_
                refine lv_iload hx hb d_M_seen_109 (lv_at hl 4 rfl) ?_
                refine w_topi eb1 ?_
                refine w_Sl ⟨hx, hb, hml, hown, hts⟩ (k_M_end l D cA o _ (wF M 0 0 0) ) (kS hts 0 aK_M_end aM_M_128 aS_M_end aN_M nm_M_end rfl rfl ⟨(Nat.le_of_ble_eq_true rfl), (Nat.le_of_ble_eq_true rfl)⟩) hK hP rfl hl.1 rfl (Nat.le_of_ble_eq_true rfl) d_M_seen_111 ⟨(Nat.le_of_ble_eq_true rfl), (Nat.le_of_ble_eq_true rfl)⟩ hS (fun q h => wA_le hS.1 h) (fun r_15 M_15 H locs hw_15 hP hzc hkc hS => ?_)
                rw [hw_15.1] at hP
                refine w_topl hw_15.2 ?_
                refine w_Vl ⟨hx, hb, hml, hown, hts⟩ (k_M_known l D cA o _ (wF M 0 0 0) k1 hk18 (od k1) (bs k1) (Nat.le_trans (hbs k1 hk18).1 (hse k1 hk18).1) (fun j h => (hse k1 hk18).2.2 j (Nat.lt_of_lt_of_le h (hbs k1 hk18).1)) th (nI b1) 9223372036854775807) (kV hts 5 aK_M_known aM_M_122 aI_M_known aV_M_known aN_M nm_M_known rfl rfl ⟨(Nat.le_of_ble_eq_true rfl), (Nat.le_of_ble_eq_true rfl)⟩) hK hP (by decide) SM_0 rfl rfl hl.1 rfl (Nat.le_of_ble_eq_true rfl) d_M_seen_114 ⟨(Nat.le_of_ble_eq_true rfl), (Nat.le_of_ble_eq_true rfl)⟩ hS (fun q h => wA_le hS.1 h) (fun r_16 M_16 H locs hw_16 hP hzc hkc hS => ?_)
                rw [hw_16.1] at hP
                refine w_topl hw_16.2 ?_
                exact W.lret (v := y_known (wF M 0 0 0) (od k1) th (nI b1) 9223372036854775807 (bs k1)) hx hb hr (fun tz hz9 hW9 => ⟨⟨y_known (wF M 0 0 0) (od k1) th (nI b1) 9223372036854775807 (bs k1), (wF M 0 0 0), rfl, Or.inr (Or.inr ⟨q2, q3, a1, b1, ha1, hb1, ea1, eb1, Or.inr ⟨rfl, q5, k1, hk1, ek1, by rw [eb1]⟩⟩), by rw [hz9]; exact hP, va_K.moved hW9.alike hK⟩, hS.F hz9⟩) hS.2.2 d_M_seen_117
              · have q6 := (hbs k1 hk18).2.2 c_14
                refine lv_aload_n hx hb d_M_seen_93 rfl (lv_at hl 0 rfl) ?_
                refine w_get (C := R_M) (T := F_M) (N := 22) (ci := 5) (v := .ref (o + 9)) hx hb hts inw_M hown hK hP 0 (by decide) SM_0 rfl 11 (by decide) (hts _ (al aF_M_35)) rfl d_M_seen_94 ?_
                refine lv_iload_n hx hb d_M_seen_97 rfl (lv_at hl 2 rfl) ?_
                refine w_topi ek1 ?_
                refine w_iald hx hb hK hP 9 0 (by decide) SM_9 rfl (k := k1) (by omega) (by decide) d_M_seen_98 ?_
                refine lv_goto (tgt := 108) hx hb d_M_seen_99 (by decide) ?_
                refine w_topi (show M.1 9 k1 = nI (bs k1) by exact q6) ?_
                refine lv_iload_n hx hb d_M_seen_108 rfl (lv_at hl 3 rfl) ?_
                refine lv_iload hx hb d_M_seen_109 (lv_at hl 4 rfl) ?_
                refine w_topi eb1 ?_
                refine w_Sl ⟨hx, hb, hml, hown, hts⟩ (k_M_end l D cA o _ (wF M 0 0 0) ) (kS hts 0 aK_M_end aM_M_128 aS_M_end aN_M nm_M_end rfl rfl ⟨(Nat.le_of_ble_eq_true rfl), (Nat.le_of_ble_eq_true rfl)⟩) hK hP rfl hl.1 rfl (Nat.le_of_ble_eq_true rfl) d_M_seen_111 ⟨(Nat.le_of_ble_eq_true rfl), (Nat.le_of_ble_eq_true rfl)⟩ hS (fun q h => wA_le hS.1 h) (fun r_17 M_17 H locs hw_17 hP hzc hkc hS => ?_)
                rw [hw_17.1] at hP
                refine w_topl hw_17.2 ?_
                refine w_Vl ⟨hx, hb, hml, hown, hts⟩ (k_M_known l D cA o _ (wF M 0 0 0) k1 hk18 (od k1) (bs k1) (Nat.le_trans (hbs k1 hk18).1 (hse k1 hk18).1) (fun j h => (hse k1 hk18).2.2 j (Nat.lt_of_lt_of_le h (hbs k1 hk18).1)) th (nI b1) 9223372036854775807) (kV hts 5 aK_M_known aM_M_122 aI_M_known aV_M_known aN_M nm_M_known rfl rfl ⟨(Nat.le_of_ble_eq_true rfl), (Nat.le_of_ble_eq_true rfl)⟩) hK hP (by decide) SM_0 rfl rfl hl.1 rfl (Nat.le_of_ble_eq_true rfl) d_M_seen_114 ⟨(Nat.le_of_ble_eq_true rfl), (Nat.le_of_ble_eq_true rfl)⟩ hS (fun q h => wA_le hS.1 h) (fun r_18 M_18 H locs hw_18 hP hzc hkc hS => ?_)
                rw [hw_18.1] at hP
                refine w_topl hw_18.2 ?_
                exact W.lret (v := y_known (wF M 0 0 0) (od k1) th (nI b1) 9223372036854775807 (bs k1)) hx hb hr (fun tz hz9 hW9 => ⟨⟨y_known (wF M 0 0 0) (od k1) th (nI b1) 9223372036854775807 (bs k1), (wF M 0 0 0), rfl, Or.inr (Or.inr ⟨q2, q3, a1, b1, ha1, hb1, ea1, eb1, Or.inr ⟨rfl, q5, k1, hk1, ek1, by rw [eb1]⟩⟩), by rw [hz9]; exact hP, va_K.moved hW9.alike hK⟩, hS.F hz9⟩) hS.2.2 d_M_seen_117
            · exact absurd (by decide) c_13
        · have q4 : ¬ xin kd 4 := fun h => b2i_F c_10 (y_kd.mpr h)
          refine lv_iconst (v := 2) hx hb d_M_seen_45 (by decide) ?_
          refine lv_goto (tgt := 68) hx hb d_M_seen_46 (by decide) ?_
          refine w_put (C := R_M) (T := F_M) (N := 22) (ci := 5) (x := 2) hx hb hts inw_M ft_M ft_M_ok fn_M hown hK hP hW hS 0 (by decide) SM_0 rfl 0 (by decide) (hts _ (al aF_M_64)) rfl rfl rfl (Nat.le_of_ble_eq_true rfl) (by rw [wF_r]; exact SM_0.trans rfl) d_M_seen_68 (fun H locs hP hS => ?_)
          refine lv_aload_n hx hb d_M_seen_71 rfl (lv_at hl 0 rfl) ?_
          refine w_get (C := R_M) (T := F_M) (N := 22) (ci := 5) (v := .int 2) hx hb hts inw_M hown hK hP 0 (by decide) SM_0 rfl 0 (by decide) (hts _ (al aF_M_64)) rfl d_M_seen_72 ?_
          refine lv_if_le (tgt := 82) hx hb d_M_seen_75 (by decide) (fun c_19 => ?_) (fun c_19 => ?_)
          · exact absurd c_19 (by decide)
          · refine lv_lconst (v := 0) hx hb d_M_seen_78 (by decide) ?_
            refine lv_goto (tgt := 117) hx hb d_M_seen_79 (by decide) ?_
            exact W.lret (v := 0) hx hb hr (fun tz hz9 hW9 => ⟨⟨0, (wF M 0 0 2), rfl, Or.inr (Or.inl ⟨rfl, q1, q2, q3, q4⟩), by rw [hz9]; exact hP, va_K.moved hW9.alike hK⟩, hS.F hz9⟩) hS.2.2 d_M_seen_117
      · have q3 : ¬ xin th (nI (9 + 1)) := fun h => b2i_F c_8 ((y_in 9 (by omega)).mpr h)
        refine lv_iconst (v := 1) hx hb d_M_seen_33 (by decide) ?_
        refine lv_goto (tgt := 68) hx hb d_M_seen_34 (by decide) ?_
        refine w_put (C := R_M) (T := F_M) (N := 22) (ci := 5) (x := 1) hx hb hts inw_M ft_M ft_M_ok fn_M hown hK hP hW hS 0 (by decide) SM_0 rfl 0 (by decide) (hts _ (al aF_M_64)) rfl rfl rfl (Nat.le_of_ble_eq_true rfl) (by rw [wF_r]; exact SM_0.trans rfl) d_M_seen_68 (fun H locs hP hS => ?_)
        refine lv_aload_n hx hb d_M_seen_71 rfl (lv_at hl 0 rfl) ?_
        refine w_get (C := R_M) (T := F_M) (N := 22) (ci := 5) (v := .int 1) hx hb hts inw_M hown hK hP 0 (by decide) SM_0 rfl 0 (by decide) (hts _ (al aF_M_64)) rfl d_M_seen_72 ?_
        refine lv_if_le (tgt := 82) hx hb d_M_seen_75 (by decide) (fun c_20 => ?_) (fun c_20 => ?_)
        · exact absurd c_20 (by decide)
        · refine lv_lconst (v := 0) hx hb d_M_seen_78 (by decide) ?_
          refine lv_goto (tgt := 117) hx hb d_M_seen_79 (by decide) ?_
          exact W.lret (v := 0) hx hb hr (fun tz hz9 hW9 => ⟨⟨0, (wF M 0 0 1), rfl, Or.inl ⟨rfl, fun h => q3 h.2.2⟩, by rw [hz9]; exact hP, va_K.moved hW9.alike hK⟩, hS.F hz9⟩) hS.2.2 d_M_seen_117
set_option maxHeartbeats 4000000 in
set_option maxRecDepth 100000 in
/-- M_equal -/
theorem k_M_equal (l : Launch) (D : va_G) (cA : Nat → ClassId) (o sz : Nat) (M : wM) (sc : Nat) (hsc : sc ≤ 8) (esc : M.2.2 0 8 = nI sc) (z : Nat → Nat) (od : Nat → Nat → Nat) (hse : ySets M z od) (x y : Int32) : Met l y_M_equal (wm y_M_equal c_M_equal 5 (some .boolean)) { frames := 1, cells := 0, slots := 0, locals := 24 } (va_Pc [.ref (o + 0), .int x, .int y] (mB D cA o M sz)) (va_Qi (fun r M1 => (r = 0 ∧ M1 = (wF M 0 0 1) ∧ ¬ (xin x (nI sc) ∧ xin y (nI sc))) ∨ (M1 = (wF M 0 0 0) ∧ ∃ k1 k2, k1 < sc ∧ k2 < sc ∧ x = nI k1 ∧ y = nI k2 ∧ r = b2i (decide (z k1 = z k2) && y_all (od k1) (z k1) (od k2) (z k2)))) (mQ D cA o) (mA o sz)) 0 0 (mA o sz) := by
  refine Met.ofW (cc := c_M_equal) (maxL := 5) (ret := (some .boolean)) (by decide) rfl ?_
  intro p e s m args below meth c s₁ B hml hv
  obtain ⟨rfl, hsz, hP, hK⟩ := hv
  have hx := B.exec
  have hb := B.bytes
  have hr := B.returns
  have hts := atoms_spec (ws := wm y_M_equal c_M_equal 5 (some .boolean)) B.pre
  have hown : s.vm.findClass "ShopDesksModel" = some m.cls := findClass_of_methodNamed B.named
  have hlocks := B.notSynchronized
  subst hsz
  have hS : va_S (mA o s.heap.size) s.heap s.heap [] := va_S.rf
  have hW : ∀ i, i < 17 → mA o s.heap.size (o + i) := fun i hi => wA_in hi
  have hl := lv_entry ([.ref (o + 0), .int x, .int y]) (n := 5) (Nat.le_of_ble_eq_true rfl)
  rw [lg_entry_eq]
  generalize (lg_sl ([.ref (o + 0), .int x, .int y]) ++ List.replicate (5 - (lg_sl ([.ref (o + 0), .int x, .int y])).length) Slot.unset).toArray = ls at hl ⊢
  have hl : lv_has ls 5 [(0, .ref (o + 0)), (1, .int x), (2, .int y)] := hl
  refine lv_aload_n hx hb d_M_equal_0 rfl (lv_at hl 0 rfl) ?_
  refine lv_aload_n hx hb d_M_equal_1 rfl (lv_at hl 0 rfl) ?_
  refine lv_iload_n hx hb d_M_equal_2 rfl (lv_at hl 1 rfl) ?_
  refine w_Vi ⟨hx, hb, hml, hown, hts⟩ (k_M_isSet l D cA o _ M x) (kV hts 1 aK_M_isSet aM_M_89 aI_M_isSet aV_M_isSet aN_M nm_M_isSet rfl rfl ⟨(Nat.le_of_ble_eq_true rfl), (Nat.le_of_ble_eq_true rfl)⟩) hK hP (by decide) SM_0 rfl rfl hl.1 rfl (Nat.le_of_ble_eq_true rfl) d_M_equal_3 ⟨(Nat.le_of_ble_eq_true rfl), (Nat.le_of_ble_eq_true rfl)⟩ hS (fun q h => wA_le hS.1 h) (fun r_1 M_1 H locs hw_1 hP hzc hkc hS => ?_)
  rw [hw_1.1] at hP
  refine w_topi hw_1.2 ?_
  refine lv_if_eq (tgt := 21) hx hb d_M_equal_6 (by decide) (fun c_2 => ?_) (fun c_2 => ?_)
  · have q1 : ¬ xin x (nI sc) := by rw [← esc]; exact b2i_F c_2
    refine lv_iconst (v := 1) hx hb d_M_equal_21 (by decide) ?_
    refine w_put (C := R_M) (T := F_M) (N := 22) (ci := 5) (x := 1) hx hb hts inw_M ft_M ft_M_ok fn_M hown hK hP hW hS 0 (by decide) SM_0 rfl 0 (by decide) (hts _ (al aF_M_64)) rfl rfl rfl (Nat.le_of_ble_eq_true rfl) (by rw [wF_r]; exact SM_0.trans rfl) d_M_equal_22 (fun H locs hP hS => ?_)
    refine lv_aload_n hx hb d_M_equal_25 rfl (lv_at hl 0 rfl) ?_
    refine w_get (C := R_M) (T := F_M) (N := 22) (ci := 5) (v := .int 1) hx hb hts inw_M hown hK hP 0 (by decide) SM_0 rfl 0 (by decide) (hts _ (al aF_M_64)) rfl d_M_equal_26 ?_
    refine lv_if_ne (tgt := 51) hx hb d_M_equal_29 (by decide) (fun c_3 => ?_) (fun c_3 => ?_)
    · refine lv_iconst (v := 0) hx hb d_M_equal_51 (by decide) ?_
      refine lv_istore_n (lv' := [(3, .int 0), (0, .ref (o + 0)), (1, .int x), (2, .int y)]) hx hb d_M_equal_52 rfl hl (by decide) rfl (fun ls hl => ?_)
      refine lv_iconst (v := 0) hx hb d_M_equal_53 (by decide) ?_
      refine lv_istore (lv' := [(4, .int 0), (3, .int 0), (0, .ref (o + 0)), (1, .int x), (2, .int y)]) hx hb d_M_equal_54 hl (by decide) rfl (fun ls hl => ?_)
      refine lv_iload_n hx hb d_M_equal_56 rfl (lv_at hl 1 rfl) ?_
      refine lv_if_eq (tgt := 96) hx hb d_M_equal_57 (by decide) (fun c_4 => ?_) (fun c_4 => ?_)
      · refine lv_iload_n hx hb d_M_equal_96 rfl (lv_at hl 1 rfl) ?_
        exact W.zret (v := 0) hx hb hr (by first | rfl | exact b2i_nar _) (fun tz hz9 hW9 => ⟨⟨0, (wF M 0 0 1), rfl, Or.inl ⟨rfl, rfl, fun h => q1 h.1⟩, by rw [hz9]; exact hP, va_K.moved hW9.alike hK⟩, hS.F hz9⟩) hS.2.2 d_M_equal_97
      · exact absurd (by decide) c_4
    · exact absurd c_3 (by decide)
  · have q1 : xin x (nI sc) := by rw [← esc]; exact b2i_T c_2
    obtain ⟨k1, hk1, ek1⟩ := x_idx q1.1 q1.2 (by omega)
    have hk18 : k1 < 8 := by omega
    refine lv_aload_n hx hb d_M_equal_9 rfl (lv_at hl 0 rfl) ?_
    refine lv_iload_n hx hb d_M_equal_10 rfl (lv_at hl 2 rfl) ?_
    refine w_Vi ⟨hx, hb, hml, hown, hts⟩ (k_M_isSet l D cA o _ M y) (kV hts 1 aK_M_isSet aM_M_89 aI_M_isSet aV_M_isSet aN_M nm_M_isSet rfl rfl ⟨(Nat.le_of_ble_eq_true rfl), (Nat.le_of_ble_eq_true rfl)⟩) hK hP (by decide) SM_0 rfl rfl hl.1 rfl (Nat.le_of_ble_eq_true rfl) d_M_equal_11 ⟨(Nat.le_of_ble_eq_true rfl), (Nat.le_of_ble_eq_true rfl)⟩ hS (fun q h => wA_le hS.1 h) (fun r_5 M_5 H locs hw_5 hP hzc hkc hS => ?_)
    rw [hw_5.1] at hP
    refine w_topi hw_5.2 ?_
    refine lv_if_eq (tgt := 21) hx hb d_M_equal_14 (by decide) (fun c_6 => ?_) (fun c_6 => ?_)
    · have q2 : ¬ xin y (nI sc) := by rw [← esc]; exact b2i_F c_6
      refine lv_iconst (v := 1) hx hb d_M_equal_21 (by decide) ?_
      refine w_put (C := R_M) (T := F_M) (N := 22) (ci := 5) (x := 1) hx hb hts inw_M ft_M ft_M_ok fn_M hown hK hP hW hS 0 (by decide) SM_0 rfl 0 (by decide) (hts _ (al aF_M_64)) rfl rfl rfl (Nat.le_of_ble_eq_true rfl) (by rw [wF_r]; exact SM_0.trans rfl) d_M_equal_22 (fun H locs hP hS => ?_)
      refine lv_aload_n hx hb d_M_equal_25 rfl (lv_at hl 0 rfl) ?_
      refine w_get (C := R_M) (T := F_M) (N := 22) (ci := 5) (v := .int 1) hx hb hts inw_M hown hK hP 0 (by decide) SM_0 rfl 0 (by decide) (hts _ (al aF_M_64)) rfl d_M_equal_26 ?_
      refine lv_if_ne (tgt := 51) hx hb d_M_equal_29 (by decide) (fun c_7 => ?_) (fun c_7 => ?_)
      · refine lv_iconst (v := 0) hx hb d_M_equal_51 (by decide) ?_
        refine lv_istore_n (lv' := [(3, .int 0), (0, .ref (o + 0)), (1, .int x), (2, .int y)]) hx hb d_M_equal_52 rfl hl (by decide) rfl (fun ls hl => ?_)
        refine lv_iconst (v := 0) hx hb d_M_equal_53 (by decide) ?_
        refine lv_istore (lv' := [(4, .int 0), (3, .int 0), (0, .ref (o + 0)), (1, .int x), (2, .int y)]) hx hb d_M_equal_54 hl (by decide) rfl (fun ls hl => ?_)
        refine lv_iload_n hx hb d_M_equal_56 rfl (lv_at hl 1 rfl) ?_
        refine lv_if_eq (tgt := 96) hx hb d_M_equal_57 (by decide) (fun c_8 => ?_) (fun c_8 => ?_)
        · refine lv_iload_n hx hb d_M_equal_96 rfl (lv_at hl 1 rfl) ?_
          exact W.zret (v := 0) hx hb hr (by first | rfl | exact b2i_nar _) (fun tz hz9 hW9 => ⟨⟨0, (wF M 0 0 1), rfl, Or.inl ⟨rfl, rfl, fun h => q2 h.2⟩, by rw [hz9]; exact hP, va_K.moved hW9.alike hK⟩, hS.F hz9⟩) hS.2.2 d_M_equal_97
        · exact absurd (by decide) c_8
      · exact absurd c_7 (by decide)
    · have q2 : xin y (nI sc) := by rw [← esc]; exact b2i_T c_6
      obtain ⟨k2, hk2, ek2⟩ := x_idx q2.1 q2.2 (by omega)
      have hk28 : k2 < 8 := by omega
      have hz1 := (hse k1 hk18).1
      have hz2 := (hse k2 hk28).1
      refine lv_iconst (v := 0) hx hb d_M_equal_17 (by decide) ?_
      refine lv_goto (tgt := 22) hx hb d_M_equal_18 (by decide) ?_
      refine w_put (C := R_M) (T := F_M) (N := 22) (ci := 5) (x := 0) hx hb hts inw_M ft_M ft_M_ok fn_M hown hK hP hW hS 0 (by decide) SM_0 rfl 0 (by decide) (hts _ (al aF_M_64)) rfl rfl rfl (Nat.le_of_ble_eq_true rfl) (by rw [wF_r]; exact SM_0.trans rfl) d_M_equal_22 (fun H locs hP hS => ?_)
      refine lv_aload_n hx hb d_M_equal_25 rfl (lv_at hl 0 rfl) ?_
      refine w_get (C := R_M) (T := F_M) (N := 22) (ci := 5) (v := .int 0) hx hb hts inw_M hown hK hP 0 (by decide) SM_0 rfl 0 (by decide) (hts _ (al aF_M_64)) rfl d_M_equal_26 ?_
      refine lv_if_ne (tgt := 51) hx hb d_M_equal_29 (by decide) (fun c_9 => ?_) (fun c_9 => ?_)
      · exact absurd (by decide) c_9
      · refine lv_aload_n hx hb d_M_equal_32 rfl (lv_at hl 0 rfl) ?_
        refine w_get (C := R_M) (T := F_M) (N := 22) (ci := 5) (v := .ref (o + 7)) hx hb hts inw_M hown hK hP 0 (by decide) SM_0 rfl 9 (by decide) (hts _ (al aF_M_29)) rfl d_M_equal_33 ?_
        refine lv_iload_n hx hb d_M_equal_36 rfl (lv_at hl 1 rfl) ?_
        refine w_topi ek1 ?_
        refine w_iald hx hb hK hP 7 0 (by decide) SM_7 rfl (k := k1) (by omega) (by decide) d_M_equal_37 ?_
        refine w_topi ((hse k1 hk18).2.1) ?_
        refine lv_aload_n hx hb d_M_equal_38 rfl (lv_at hl 0 rfl) ?_
        refine w_get (C := R_M) (T := F_M) (N := 22) (ci := 5) (v := .ref (o + 7)) hx hb hts inw_M hown hK hP 0 (by decide) SM_0 rfl 9 (by decide) (hts _ (al aF_M_29)) rfl d_M_equal_39 ?_
        refine lv_iload_n hx hb d_M_equal_42 rfl (lv_at hl 2 rfl) ?_
        refine w_topi ek2 ?_
        refine w_iald hx hb hK hP 7 0 (by decide) SM_7 rfl (k := k2) (by omega) (by decide) d_M_equal_43 ?_
        refine w_topi ((hse k2 hk28).2.1) ?_
        refine lv_icmp_ne (tgt := 51) hx hb d_M_equal_44 (by decide) (fun c_10 => ?_) (fun c_10 => ?_)
        · have hzz : ¬ z k1 = z k2 := fun e => c_10 (by rw [e])
          refine lv_iconst (v := 0) hx hb d_M_equal_51 (by decide) ?_
          refine lv_istore_n (lv' := [(3, .int 0), (0, .ref (o + 0)), (1, .int x), (2, .int y)]) hx hb d_M_equal_52 rfl hl (by decide) rfl (fun ls hl => ?_)
          refine lv_iconst (v := 0) hx hb d_M_equal_53 (by decide) ?_
          refine lv_istore (lv' := [(4, .int 0), (3, .int 0), (0, .ref (o + 0)), (1, .int x), (2, .int y)]) hx hb d_M_equal_54 hl (by decide) rfl (fun ls hl => ?_)
          refine lv_iload_n hx hb d_M_equal_56 rfl (lv_at hl 1 rfl) ?_
          refine lv_if_eq (tgt := 96) hx hb d_M_equal_57 (by decide) (fun c_11 => ?_) (fun c_11 => ?_)
          · refine lv_iload_n hx hb d_M_equal_96 rfl (lv_at hl 1 rfl) ?_
            exact W.zret (v := 0) hx hb hr (by first | rfl | exact b2i_nar _) (fun tz hz9 hW9 => ⟨⟨0, (wF M 0 0 0), rfl, Or.inr ⟨rfl, k1, k2, hk1, hk2, ek1, ek2, by rw [decide_eq_false hzz]; rfl⟩, by rw [hz9]; exact hP, va_K.moved hW9.alike hK⟩, hS.F hz9⟩) hS.2.2 d_M_equal_97
          · exact absurd (by decide) c_11
        · have hzz : z k1 = z k2 := (nI_eq (by omega) (by omega)).mp c_10
          refine lv_iconst (v := 1) hx hb d_M_equal_47 (by decide) ?_
          refine lv_goto (tgt := 52) hx hb d_M_equal_48 (by decide) ?_
          refine lv_istore_n (lv' := [(3, .int 1), (0, .ref (o + 0)), (1, .int x), (2, .int y)]) hx hb d_M_equal_52 rfl hl (by decide) rfl (fun ls hl => ?_)
          refine lv_iconst (v := 0) hx hb d_M_equal_53 (by decide) ?_
          refine lv_istore (lv' := [(4, .int 0), (3, .int 1), (0, .ref (o + 0)), (1, .int x), (2, .int y)]) hx hb d_M_equal_54 hl (by decide) rfl (fun ls hl => ?_)
          have lp56 : ∀ (fuel : Nat) (k : Nat) (bb : Bool), z k2 - k < fuel → (k ≤ z k2) → (bb = y_all (od k1) (z k1) (od k2) k) → ∀ (H : Heap) (locs : List Loc), wP D cls_ (SM o cA) o 17 (wF M 0 0 0) H → va_S (mA o s.heap.size) s.heap H locs → ∀ (ls : Array Slot), lv_has ls 5 [(0, .ref (o + 0)), (1, .int x), (2, .int y), (3, .int (b2i bb)), (4, .int (nI k))] → W p l e (headSpec (wm y_M_equal c_M_equal 5 (some .boolean)) { frames := 1, cells := 0, slots := 0, locals := 24 }).room s m ([.ref (o + 0), .int x, .int y] : List Value).toArray below meth c H locs 0 0 (MQ below (va_Qi (fun r M1 => (r = 0 ∧ M1 = (wF M 0 0 1) ∧ ¬ (xin x (nI sc) ∧ xin y (nI sc))) ∨ (M1 = (wF M 0 0 0) ∧ ∃ k1 k2, k1 < sc ∧ k2 < sc ∧ x = nI k1 ∧ y = nI k2 ∧ r = b2i (decide (z k1 = z k2) && y_all (od k1) (z k1) (od k2) (z k2)))) (mQ D cA o) (mA o s.heap.size)) ([.ref (o + 0), .int x, .int y] : List Value).toArray s 0 0 (mA o s.heap.size)) (F0 m 56 ls []) := by
            intro fuel
            induction fuel with
            | zero => intro k bb hfu; exact absurd hfu (Nat.not_lt_zero _)
            | succ fuel ih =>
              intro k bb hfu hk hbb H locs hP hS ls hl
              refine lv_iload_n hx hb d_M_equal_56 rfl (lv_at hl 3 rfl) ?_
              refine lv_if_eq (tgt := 96) hx hb d_M_equal_57 (by decide) (fun c_12 => ?_) (fun c_12 => ?_)
              · have hbt := b2i_0 c_12
                refine lv_iload_n hx hb d_M_equal_96 rfl (lv_at hl 3 rfl) ?_
                exact W.zret (v := b2i bb) hx hb hr (by first | rfl | exact b2i_nar _) (fun tz hz9 hW9 => ⟨⟨b2i bb, (wF M 0 0 0), rfl, Or.inr ⟨rfl, k1, k2, hk1, hk2, ek1, ek2, by rw [decide_eq_true hzz, y_all_mono (hbb.symm.trans hbt) _ hk, hbt]; rfl⟩, by rw [hz9]; exact hP, va_K.moved hW9.alike hK⟩, hS.F hz9⟩) hS.2.2 d_M_equal_97
              · have hbt := b2i_1 c_12
                refine lv_iload hx hb d_M_equal_60 (lv_at hl 4 rfl) ?_
                refine lv_aload_n hx hb d_M_equal_62 rfl (lv_at hl 0 rfl) ?_
                refine w_get (C := R_M) (T := F_M) (N := 22) (ci := 5) (v := .ref (o + 7)) hx hb hts inw_M hown hK hP 0 (by decide) SM_0 rfl 9 (by decide) (hts _ (al aF_M_29)) rfl d_M_equal_63 ?_
                refine lv_iload_n hx hb d_M_equal_66 rfl (lv_at hl 2 rfl) ?_
                refine w_topi ek2 ?_
                refine w_iald hx hb hK hP 7 0 (by decide) SM_7 rfl (k := k2) (by omega) (by decide) d_M_equal_67 ?_
                refine w_topi ((hse k2 hk28).2.1) ?_
                refine lv_icmp_ge (tgt := 96) hx hb d_M_equal_68 (by decide) (fun c_13 => ?_) (fun c_13 => ?_)
                · have hkz : z k2 ≤ k := i_le (by omega) (by omega) c_13
                  refine lv_iload_n hx hb d_M_equal_96 rfl (lv_at hl 3 rfl) ?_
                  exact W.zret (v := b2i bb) hx hb hr (by first | rfl | exact b2i_nar _) (fun tz hz9 hW9 => ⟨⟨b2i bb, (wF M 0 0 0), rfl, Or.inr ⟨rfl, k1, k2, hk1, hk2, ek1, ek2, by rw [decide_eq_true hzz, hbb, show k = z k2 by omega]; rfl⟩, by rw [hz9]; exact hP, va_K.moved hW9.alike hK⟩, hS.F hz9⟩) hS.2.2 d_M_equal_97
                · have hkz : k < z k2 := i_nle (by omega) (by omega) c_13
                  refine lv_aload_n hx hb d_M_equal_71 rfl (lv_at hl 0 rfl) ?_
                  refine lv_iload_n hx hb d_M_equal_72 rfl (lv_at hl 1 rfl) ?_
                  refine w_topi ek1 ?_
                  refine lv_aload_n hx hb d_M_equal_73 rfl (lv_at hl 0 rfl) ?_
                  refine w_get (C := R_M) (T := F_M) (N := 22) (ci := 5) (v := .ref (o + 8)) hx hb hts inw_M hown hK hP 0 (by decide) SM_0 rfl 10 (by decide) (hts _ (al aF_M_32)) rfl d_M_equal_74 ?_
                  refine lv_sipush (v := 300) hx hb d_M_equal_77 (by decide) ?_
                  refine lv_iload_n hx hb d_M_equal_80 rfl (lv_at hl 2 rfl) ?_
                  refine w_topi ek2 ?_
                  refine lv_imul hx hb d_M_equal_81 ?_
                  refine lv_iload hx hb d_M_equal_82 (lv_at hl 4 rfl) ?_
                  refine lv_iadd hx hb d_M_equal_84 ?_
                  refine w_topi (y_idx 300 k2 k) ?_
                  refine w_iald hx hb hK hP 8 0 (by decide) SM_8 rfl (k := (300 * k2 + k)) (by omega) (by decide) d_M_equal_85 ?_
                  refine w_topi (((hse k2 hk28).2.2 k hkz).1) ?_
                  refine w_Vi ⟨hx, hb, hml, hown, hts⟩ (k_M_has l D cA o _ (wF M 0 0 0) k1 hk18 (od k1) (z k1) hz1 (hse k1 hk18).2.1 (hse k1 hk18).2.2 (od k2 k) ((hse k2 hk28).2.2 k hkz).2) (kV hts 2 aK_M_has aM_M_92 aI_M_has aV_M_has aN_M nm_M_has rfl rfl ⟨(Nat.le_of_ble_eq_true rfl), (Nat.le_of_ble_eq_true rfl)⟩) hK hP (by decide) SM_0 rfl rfl hl.1 rfl (Nat.le_of_ble_eq_true rfl) d_M_equal_86 ⟨(Nat.le_of_ble_eq_true rfl), (Nat.le_of_ble_eq_true rfl)⟩ hS (fun q h => wA_le hS.1 h) (fun r_14 M_14 H locs hw_14 hP hzc hkc hS => ?_)
                  rw [hw_14.1] at hP
                  refine w_topi hw_14.2 ?_
                  refine lv_istore_n (lv' := [(3, .int (b2i (y_has (od k1) (od k2 k) (z k1)))), (0, .ref (o + 0)), (1, .int x), (2, .int y), (4, .int (nI k))]) hx hb d_M_equal_89 rfl hl (by decide) rfl (fun ls hl => ?_)
                  refine lv_iinc (v := nI (k + 1)) (lv' := [(4, .int (nI (k + 1))), (3, .int (b2i (y_has (od k1) (od k2 k) (z k1)))), (0, .ref (o + 0)), (1, .int x), (2, .int y)]) hx hb d_M_equal_90 hl (k := 4) rfl (w_inc k) (by decide) rfl (fun ls hl => ?_)
                  refine lv_goto (tgt := 56) hx hb d_M_equal_93 (by decide) ?_
                  exact ih (k + 1) (y_has (od k1) (od k2 k) (z k1)) (by omega) hkz (by rw [y_all, ← hbb, hbt]; rfl) _ _ hP hS ls (lv_sub hl [2, 3, 4, 1, 0] rfl)
          exact lp56 ((z k2 - 0) + 1) 0 true (Nat.lt_succ_self _) (Nat.zero_le _) rfl _ _ hP hS ls (lv_sub hl [2, 3, 4, 1, 0] rfl)
set_option maxHeartbeats 4000000 in
set_option maxRecDepth 100000 in
/-- M_close -/
theorem k_M_close (l : Launch) (D : va_G) (cA : Nat → ClassId) (o sz : Nat) (M : wM) (ec : Nat) (hec : ec ≤ 60) (eec : M.2.2 0 13 = nI ec) (rc : Nat → Nat) (hrc : ∀ j, j < 60 → rc j ≤ 6 ∧ M.1 12 j = nI (rc j)) (ln : Nat) (eln : M.2.2 0 20 = nI ln) (x : Int32) : Met l y_M_close (wm y_M_close c_M_close 5 (some .int)) { frames := 1, cells := 0, slots := 0, locals := 21 } (va_Pc [.ref (o + 0), .int x] (mB D cA o M sz)) (va_Qi (fun r M1 => (r = 0 ∧ M1 = (wF M 0 0 1) ∧ ¬ xin x (nI ec)) ∨ (∃ k, k < ec ∧ x = nI k ∧ ((r = 0 ∧ M1 = (wF M 0 0 2) ∧ 0 < M.1 15 k) ∨ (¬ 0 < M.1 15 k ∧ ((r = 0 ∧ M1 = (wF M 0 0 0) ∧ (rc k = 0 ∨ ¬ y_tot M k (rc k) = 0 ∨ M.1 11 k / 30 ≤ M.2.2 0 21)) ∨ (r = nI (ln + 1) ∧ M1 = wI (wF (wF M 0 0 0) 0 20 (nI (ln + 1))) 15 k (nI (ln + 1)) ∧ 0 < rc k ∧ y_tot M k (rc k) = 0 ∧ ¬ M.1 11 k / 30 ≤ M.2.2 0 21)))))) (mQ D cA o) (mA o sz)) 0 0 (mA o sz) := by
  refine Met.ofW (cc := c_M_close) (maxL := 5) (ret := (some .int)) (by decide) rfl ?_
  intro p e s m args below meth c s₁ B hml hv
  obtain ⟨rfl, hsz, hP, hK⟩ := hv
  have hx := B.exec
  have hb := B.bytes
  have hr := B.returns
  have hts := atoms_spec (ws := wm y_M_close c_M_close 5 (some .int)) B.pre
  have hown : s.vm.findClass "ShopDesksModel" = some m.cls := findClass_of_methodNamed B.named
  have hlocks := B.notSynchronized
  subst hsz
  have hS : va_S (mA o s.heap.size) s.heap s.heap [] := va_S.rf
  have hW : ∀ i, i < 17 → mA o s.heap.size (o + i) := fun i hi => wA_in hi
  have hl := lv_entry ([.ref (o + 0), .int x]) (n := 5) (Nat.le_of_ble_eq_true rfl)
  rw [lg_entry_eq]
  generalize (lg_sl ([.ref (o + 0), .int x]) ++ List.replicate (5 - (lg_sl ([.ref (o + 0), .int x])).length) Slot.unset).toArray = ls at hl ⊢
  have hl : lv_has ls 5 [(0, .ref (o + 0)), (1, .int x)] := hl
  refine lv_aload_n hx hb d_M_close_0 rfl (lv_at hl 0 rfl) ?_
  refine lv_aload_n hx hb d_M_close_1 rfl (lv_at hl 0 rfl) ?_
  refine lv_iload_n hx hb d_M_close_2 rfl (lv_at hl 1 rfl) ?_
  refine w_Vi ⟨hx, hb, hml, hown, hts⟩ (k_M_isEntry l D cA o _ M x) (kV hts 1 aK_M_isEntry aM_M_145 aI_M_isEntry aV_M_isEntry aN_M nm_M_isEntry rfl rfl ⟨(Nat.le_of_ble_eq_true rfl), (Nat.le_of_ble_eq_true rfl)⟩) hK hP (by decide) SM_0 rfl rfl hl.1 rfl (Nat.le_of_ble_eq_true rfl) d_M_close_3 ⟨(Nat.le_of_ble_eq_true rfl), (Nat.le_of_ble_eq_true rfl)⟩ hS (fun q h => wA_le hS.1 h) (fun r_1 M_1 H locs hw_1 hP hzc hkc hS => ?_)
  rw [hw_1.1] at hP
  refine w_topi hw_1.2 ?_
  refine lv_if_ne (tgt := 13) hx hb d_M_close_6 (by decide) (fun c_2 => ?_) (fun c_2 => ?_)
  · have q1 : xin x (nI ec) := by rw [← eec]; exact b2i_T c_2
    obtain ⟨k1, hk1, ek1⟩ := x_idx q1.1 q1.2 (by omega)
    have hk18 : k1 < 60 := by omega
    have hr6 := (hrc k1 hk18).1
    refine lv_aload_n hx hb d_M_close_13 rfl (lv_at hl 0 rfl) ?_
    refine w_get (C := R_M) (T := F_M) (N := 22) (ci := 5) (v := .ref (o + 15)) hx hb hts inw_M hown hK hP 0 (by decide) SM_0 rfl 18 (by decide) (hts _ (al aF_M_54)) rfl d_M_close_14 ?_
    refine lv_iload_n hx hb d_M_close_17 rfl (lv_at hl 1 rfl) ?_
    refine w_topi ek1 ?_
    refine w_iald hx hb hK hP 15 0 (by decide) SM_15 rfl (k := k1) (by omega) (by decide) d_M_close_18 ?_
    refine lv_if_le (tgt := 26) hx hb d_M_close_19 (by decide) (fun c_3 => ?_) (fun c_3 => ?_)
    · have q2 : ¬ 0 < M.1 15 k1 := Int32.not_lt.mpr c_3
      refine lv_iconst (v := 0) hx hb d_M_close_26 (by decide) ?_
      refine w_put (C := R_M) (T := F_M) (N := 22) (ci := 5) (x := 0) hx hb hts inw_M ft_M ft_M_ok fn_M hown hK hP hW hS 0 (by decide) SM_0 rfl 0 (by decide) (hts _ (al aF_M_64)) rfl rfl rfl (Nat.le_of_ble_eq_true rfl) (by rw [wF_r]; exact SM_0.trans rfl) d_M_close_27 (fun H locs hP hS => ?_)
      refine lv_aload_n hx hb d_M_close_30 rfl (lv_at hl 0 rfl) ?_
      refine w_get (C := R_M) (T := F_M) (N := 22) (ci := 5) (v := .int 0) hx hb hts inw_M hown hK hP 0 (by decide) SM_0 rfl 0 (by decide) (hts _ (al aF_M_64)) rfl d_M_close_31 ?_
      refine lv_if_le (tgt := 39) hx hb d_M_close_34 (by decide) (fun c_4 => ?_) (fun c_4 => ?_)
      · refine lv_lconst (v := 0) hx hb d_M_close_39 (by decide) ?_
        refine lv_lstore_n (lv' := [(2, .long 0), (0, .ref (o + 0)), (1, .int x)]) hx hb d_M_close_40 rfl hl (by decide) rfl (fun ls hl => ?_)
        refine lv_iconst (v := 0) hx hb d_M_close_41 (by decide) ?_
        refine lv_istore (lv' := [(4, .int 0), (2, .long 0), (0, .ref (o + 0)), (1, .int x)]) hx hb d_M_close_42 hl (by decide) rfl (fun ls hl => ?_)
        have lp44 : ∀ (fuel : Nat) (k : Nat) (sm : Int64), rc k1 - k < fuel → (k ≤ rc k1) → (sm = y_tot M k1 k) → ∀ (H : Heap) (locs : List Loc), wP D cls_ (SM o cA) o 17 (wF M 0 0 0) H → va_S (mA o s.heap.size) s.heap H locs → ∀ (ls : Array Slot), lv_has ls 5 [(0, .ref (o + 0)), (1, .int x), (2, .long sm), (4, .int (nI k))] → W p l e (headSpec (wm y_M_close c_M_close 5 (some .int)) { frames := 1, cells := 0, slots := 0, locals := 21 }).room s m ([.ref (o + 0), .int x] : List Value).toArray below meth c H locs 0 0 (MQ below (va_Qi (fun r M1 => (r = 0 ∧ M1 = (wF M 0 0 1) ∧ ¬ xin x (nI ec)) ∨ (∃ k, k < ec ∧ x = nI k ∧ ((r = 0 ∧ M1 = (wF M 0 0 2) ∧ 0 < M.1 15 k) ∨ (¬ 0 < M.1 15 k ∧ ((r = 0 ∧ M1 = (wF M 0 0 0) ∧ (rc k = 0 ∨ ¬ y_tot M k (rc k) = 0 ∨ M.1 11 k / 30 ≤ M.2.2 0 21)) ∨ (r = nI (ln + 1) ∧ M1 = wI (wF (wF M 0 0 0) 0 20 (nI (ln + 1))) 15 k (nI (ln + 1)) ∧ 0 < rc k ∧ y_tot M k (rc k) = 0 ∧ ¬ M.1 11 k / 30 ≤ M.2.2 0 21)))))) (mQ D cA o) (mA o s.heap.size)) ([.ref (o + 0), .int x] : List Value).toArray s 0 0 (mA o s.heap.size)) (F0 m 44 ls []) := by
          intro fuel
          induction fuel with
          | zero => intro k sm hfu; exact absurd hfu (Nat.not_lt_zero _)
          | succ fuel ih =>
            intro k sm hfu hkn hsm H locs hP hS ls hl
            refine lv_iload hx hb d_M_close_44 (lv_at hl 3 rfl) ?_
            refine lv_aload_n hx hb d_M_close_46 rfl (lv_at hl 0 rfl) ?_
            refine w_get (C := R_M) (T := F_M) (N := 22) (ci := 5) (v := .ref (o + 12)) hx hb hts inw_M hown hK hP 0 (by decide) SM_0 rfl 15 (by decide) (hts _ (al aF_M_45)) rfl d_M_close_47 ?_
            refine lv_iload_n hx hb d_M_close_50 rfl (lv_at hl 1 rfl) ?_
            refine w_topi ek1 ?_
            refine w_iald hx hb hK hP 12 0 (by decide) SM_12 rfl (k := k1) (by omega) (by decide) d_M_close_51 ?_
            refine w_topi ((hrc k1 hk18).2) ?_
            refine lv_icmp_ge (tgt := 76) hx hb d_M_close_52 (by decide) (fun c_5 => ?_) (fun c_5 => ?_)
            · have hkr : rc k1 ≤ k := i_le (by omega) (by omega) c_5
              have hs9 : sm = y_tot M k1 (rc k1) := by rw [hsm, show k = rc k1 by omega]
              refine lv_aload_n hx hb d_M_close_76 rfl (lv_at hl 0 rfl) ?_
              refine w_get (C := R_M) (T := F_M) (N := 22) (ci := 5) (v := .ref (o + 12)) hx hb hts inw_M hown hK hP 0 (by decide) SM_0 rfl 15 (by decide) (hts _ (al aF_M_45)) rfl d_M_close_77 ?_
              refine lv_iload_n hx hb d_M_close_80 rfl (lv_at hl 1 rfl) ?_
              refine w_topi ek1 ?_
              refine w_iald hx hb hK hP 12 0 (by decide) SM_12 rfl (k := k1) (by omega) (by decide) d_M_close_81 ?_
              refine w_topi ((hrc k1 hk18).2) ?_
              refine lv_if_eq (tgt := 107) hx hb d_M_close_82 (by decide) (fun c_6 => ?_) (fun c_6 => ?_)
              · have q3 : rc k1 = 0 := (nI_eq (b := 0) (by omega) (by omega)).mp c_6
                refine lv_iconst (v := 0) hx hb d_M_close_107 (by decide) ?_
                exact W.iret (v := 0) hx hb hr (fun tz hz9 hW9 => ⟨⟨0, (wF M 0 0 0), rfl, Or.inr ⟨k1, hk1, ek1, Or.inr ⟨q2, Or.inl ⟨rfl, rfl, Or.inl q3⟩⟩⟩, by rw [hz9]; exact hP, va_K.moved hW9.alike hK⟩, hS.F hz9⟩) hS.2.2 d_M_close_108
              · have q3 : 0 < rc k1 := Nat.pos_of_ne_zero (fun e => c_6 (by rw [e]; rfl))
                refine lv_lload_n hx hb d_M_close_85 rfl (lv_at hl 2 rfl) ?_
                refine lv_lconst (v := 0) hx hb d_M_close_86 (by decide) ?_
                refine W.lcmp hx hb d_M_close_87 ?_
                refine lv_if_ne (tgt := 107) hx hb d_M_close_88 (by decide) (fun c_7 => ?_) (fun c_7 => ?_)
                · rw [lg_cmp_eq] at c_7
                  have q4 := c_7
                  refine lv_iconst (v := 0) hx hb d_M_close_107 (by decide) ?_
                  exact W.iret (v := 0) hx hb hr (fun tz hz9 hW9 => ⟨⟨0, (wF M 0 0 0), rfl, Or.inr ⟨k1, hk1, ek1, Or.inr ⟨q2, Or.inl ⟨rfl, rfl, Or.inr (Or.inl (by rw [← hs9]; exact q4))⟩⟩⟩, by rw [hz9]; exact hP, va_K.moved hW9.alike hK⟩, hS.F hz9⟩) hS.2.2 d_M_close_108
                · rw [lg_cmp_eq] at c_7
                  have q4 := c_7
                  refine lv_aload_n hx hb d_M_close_91 rfl (lv_at hl 0 rfl) ?_
                  refine w_get (C := R_M) (T := F_M) (N := 22) (ci := 5) (v := .ref (o + 11)) hx hb hts inw_M hown hK hP 0 (by decide) SM_0 rfl 14 (by decide) (hts _ (al aF_M_42)) rfl d_M_close_92 ?_
                  refine lv_iload_n hx hb d_M_close_95 rfl (lv_at hl 1 rfl) ?_
                  refine w_topi ek1 ?_
                  refine w_iald hx hb hK hP 11 0 (by decide) SM_11 rfl (k := k1) (by omega) (by decide) d_M_close_96 ?_
                  refine lv_bipush (v := 30) hx hb d_M_close_97 (by decide) ?_
                  refine lv_idiv hx hb d_M_close_99 (by decide) ?_
                  refine lv_aload_n hx hb d_M_close_100 rfl (lv_at hl 0 rfl) ?_
                  refine w_get (C := R_M) (T := F_M) (N := 22) (ci := 5) (v := .int (M.2.2 0 21)) hx hb hts inw_M hown hK hP 0 (by decide) SM_0 rfl 21 (by decide) (hts _ (al aF_M_60)) rfl d_M_close_101 ?_
                  refine lv_icmp_gt (tgt := 109) hx hb d_M_close_104 (by decide) (fun c_8 => ?_) (fun c_8 => ?_)
                  · have q5 : ¬ M.1 11 k1 / 30 ≤ M.2.2 0 21 := Int32.not_le.mpr c_8
                    refine lv_aload_n hx hb d_M_close_109 rfl (lv_at hl 0 rfl) ?_
                    refine lv_iload_n hx hb d_M_close_110 rfl (lv_at hl 1 rfl) ?_
                    refine w_topi ek1 ?_
                    refine w_Vv ⟨hx, hb, hml, hown, hts⟩ (k_M_closeNow l D cA o _ (wF M 0 0 0) ln k1 hk18 eln) (kV hts 1 aK_M_closeNow aM_M_159 aI_M_closeNow aV_M_closeNow aN_M nm_M_closeNow rfl rfl ⟨(Nat.le_of_ble_eq_true rfl), (Nat.le_of_ble_eq_true rfl)⟩) hK hP (by decide) SM_0 rfl rfl hl.1 rfl (Nat.le_of_ble_eq_true rfl) d_M_close_111 ⟨(Nat.le_of_ble_eq_true rfl), (Nat.le_of_ble_eq_true rfl)⟩ hS (fun q h => wA_le hS.1 h) (fun M_9 H locs hw_9 hP hzc hkc hS => ?_)
                    rw [hw_9] at hP
                    refine lv_aload_n hx hb d_M_close_114 rfl (lv_at hl 0 rfl) ?_
                    refine w_get (C := R_M) (T := F_M) (N := 22) (ci := 5) (v := .int ((wI (wF (wF M 0 0 0) 0 20 (nI (ln + 1))) 15 k1 (nI (ln + 1))).2.2 0 20)) hx hb hts inw_M hown hK hP 0 (by decide) SM_0 rfl 20 (by decide) (hts _ (al aF_M_156)) rfl d_M_close_115 ?_
                    refine w_topi (wI_toF.trans wF_s) ?_
                    exact W.iret (v := nI (ln + 1)) hx hb hr (fun tz hz9 hW9 => ⟨⟨nI (ln + 1), (wI (wF (wF M 0 0 0) 0 20 (nI (ln + 1))) 15 k1 (nI (ln + 1))), rfl, Or.inr ⟨k1, hk1, ek1, Or.inr ⟨q2, Or.inr ⟨rfl, rfl, q3, by rw [← hs9]; exact q4, q5⟩⟩⟩, by rw [hz9]; exact hP, va_K.moved hW9.alike hK⟩, hS.F hz9⟩) hS.2.2 d_M_close_118
                  · have q5 : M.1 11 k1 / 30 ≤ M.2.2 0 21 := Int32.not_lt.mp c_8
                    refine lv_iconst (v := 0) hx hb d_M_close_107 (by decide) ?_
                    exact W.iret (v := 0) hx hb hr (fun tz hz9 hW9 => ⟨⟨0, (wF M 0 0 0), rfl, Or.inr ⟨k1, hk1, ek1, Or.inr ⟨q2, Or.inl ⟨rfl, rfl, Or.inr (Or.inr q5)⟩⟩⟩, by rw [hz9]; exact hP, va_K.moved hW9.alike hK⟩, hS.F hz9⟩) hS.2.2 d_M_close_108
            · have hkr : k < rc k1 := i_nle (by omega) (by omega) c_5
              refine lv_lload_n hx hb d_M_close_55 rfl (lv_at hl 2 rfl) ?_
              refine lv_aload_n hx hb d_M_close_56 rfl (lv_at hl 0 rfl) ?_
              refine w_get (C := R_M) (T := F_M) (N := 22) (ci := 5) (v := .ref (o + 14)) hx hb hts inw_M hown hK hP 0 (by decide) SM_0 rfl 17 (by decide) (hts _ (al aF_M_51)) rfl d_M_close_57 ?_
              refine lv_bipush (v := 6) hx hb d_M_close_60 (by decide) ?_
              refine lv_iload_n hx hb d_M_close_62 rfl (lv_at hl 1 rfl) ?_
              refine w_topi ek1 ?_
              refine lv_imul hx hb d_M_close_63 ?_
              refine lv_iload hx hb d_M_close_64 (lv_at hl 3 rfl) ?_
              refine lv_iadd hx hb d_M_close_66 ?_
              refine w_topi (y_idx 6 k1 k) ?_
              refine w_lald hx hb hK hP 14 1 (by decide) SM_14 rfl (k := (6 * k1 + k)) (by omega) (by decide) d_M_close_67 ?_
              refine lv_ladd hx hb d_M_close_68 ?_
              refine lv_lstore_n (lv' := [(2, .long (sm + (M.2.1 14 (6 * k1 + k)))), (0, .ref (o + 0)), (1, .int x), (4, .int (nI k))]) hx hb d_M_close_69 rfl hl (by decide) rfl (fun ls hl => ?_)
              refine lv_iinc (v := nI (k + 1)) (lv' := [(4, .int (nI (k + 1))), (2, .long (sm + (M.2.1 14 (6 * k1 + k)))), (0, .ref (o + 0)), (1, .int x)]) hx hb d_M_close_70 hl (k := 3) rfl (w_inc k) (by decide) rfl (fun ls hl => ?_)
              refine lv_goto (tgt := 44) hx hb d_M_close_73 (by decide) ?_
              exact ih (k + 1) (sm + (M.2.1 14 (6 * k1 + k))) (by omega) hkr (by rw [hsm]; rfl) _ _ hP hS ls (lv_sub hl [2, 3, 1, 0] rfl)
        exact lp44 ((rc k1 - 0) + 1) 0 0 (Nat.lt_succ_self _) (Nat.zero_le _) rfl _ _ hP hS ls (lv_sub hl [2, 3, 1, 0] rfl)
      · exact absurd (by decide) c_4
    · have q2 : 0 < M.1 15 k1 := Int32.not_le.mp c_3
      refine lv_iconst (v := 2) hx hb d_M_close_22 (by decide) ?_
      refine lv_goto (tgt := 27) hx hb d_M_close_23 (by decide) ?_
      refine w_put (C := R_M) (T := F_M) (N := 22) (ci := 5) (x := 2) hx hb hts inw_M ft_M ft_M_ok fn_M hown hK hP hW hS 0 (by decide) SM_0 rfl 0 (by decide) (hts _ (al aF_M_64)) rfl rfl rfl (Nat.le_of_ble_eq_true rfl) (by rw [wF_r]; exact SM_0.trans rfl) d_M_close_27 (fun H locs hP hS => ?_)
      refine lv_aload_n hx hb d_M_close_30 rfl (lv_at hl 0 rfl) ?_
      refine w_get (C := R_M) (T := F_M) (N := 22) (ci := 5) (v := .int 2) hx hb hts inw_M hown hK hP 0 (by decide) SM_0 rfl 0 (by decide) (hts _ (al aF_M_64)) rfl d_M_close_31 ?_
      refine lv_if_le (tgt := 39) hx hb d_M_close_34 (by decide) (fun c_10 => ?_) (fun c_10 => ?_)
      · exact absurd c_10 (by decide)
      · refine lv_iconst (v := 0) hx hb d_M_close_37 (by decide) ?_
        exact W.iret (v := 0) hx hb hr (fun tz hz9 hW9 => ⟨⟨0, (wF M 0 0 2), rfl, Or.inr ⟨k1, hk1, ek1, Or.inl ⟨rfl, rfl, q2⟩⟩, by rw [hz9]; exact hP, va_K.moved hW9.alike hK⟩, hS.F hz9⟩) hS.2.2 d_M_close_38
  · have q1 : ¬ xin x (nI ec) := by rw [← eec]; exact b2i_F c_2
    refine lv_iconst (v := 1) hx hb d_M_close_9 (by decide) ?_
    refine lv_goto (tgt := 27) hx hb d_M_close_10 (by decide) ?_
    refine w_put (C := R_M) (T := F_M) (N := 22) (ci := 5) (x := 1) hx hb hts inw_M ft_M ft_M_ok fn_M hown hK hP hW hS 0 (by decide) SM_0 rfl 0 (by decide) (hts _ (al aF_M_64)) rfl rfl rfl (Nat.le_of_ble_eq_true rfl) (by rw [wF_r]; exact SM_0.trans rfl) d_M_close_27 (fun H locs hP hS => ?_)
    refine lv_aload_n hx hb d_M_close_30 rfl (lv_at hl 0 rfl) ?_
    refine w_get (C := R_M) (T := F_M) (N := 22) (ci := 5) (v := .int 1) hx hb hts inw_M hown hK hP 0 (by decide) SM_0 rfl 0 (by decide) (hts _ (al aF_M_64)) rfl d_M_close_31 ?_
    refine lv_if_le (tgt := 39) hx hb d_M_close_34 (by decide) (fun c_11 => ?_) (fun c_11 => ?_)
    · exact absurd c_11 (by decide)
    · refine lv_iconst (v := 0) hx hb d_M_close_37 (by decide) ?_
      exact W.iret (v := 0) hx hb hr (fun tz hz9 hW9 => ⟨⟨0, (wF M 0 0 1), rfl, Or.inl ⟨rfl, rfl, q1⟩, by rw [hz9]; exact hP, va_K.moved hW9.alike hK⟩, hS.F hz9⟩) hS.2.2 d_M_close_38

