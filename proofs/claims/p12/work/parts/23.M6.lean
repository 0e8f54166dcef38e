/-! the reference: join, reverse, set -/
def y_addm (M : wM) (si z t : Nat) : wM := wI (wI M 8 (300 * si + z) (nI t)) 7 si (nI (z + 1))
def y_join (M : wM) (si : Nat) (oa : Nat → Nat) (z : Nat) (ob : Nat → Nat) : Nat → wM × (Nat → Nat) × Nat
  | 0 => (M, oa, z)
  | k + 1 => if y_has (y_join M si oa z ob k).2.1 (ob k) (y_join M si oa z ob k).2.2 = true then y_join M si oa z ob k else (y_addm (y_join M si oa z ob k).1 si (y_join M si oa z ob k).2.2 (ob k), (fun j => if j = (y_join M si oa z ob k).2.2 then ob k else (y_join M si oa z ob k).2.1 j), (y_join M si oa z ob k).2.2 + 1)
def y_jM (M : wM) (si : Nat) (oa : Nat → Nat) (z : Nat) (ob : Nat → Nat) (k : Nat) : wM := (y_join M si oa z ob k).1
def y_jO (M : wM) (si : Nat) (oa : Nat → Nat) (z : Nat) (ob : Nat → Nat) (k : Nat) : Nat → Nat := (y_join M si oa z ob k).2.1
def y_jZ (M : wM) (si : Nat) (oa : Nat → Nat) (z : Nat) (ob : Nat → Nat) (k : Nat) : Nat := (y_join M si oa z ob k).2.2
theorem y_join_t {M : wM} {si : Nat} {oa : Nat → Nat} {z : Nat} {ob : Nat → Nat} {k : Nat} (h : y_has (y_jO M si oa z ob k) (ob k) (y_jZ M si oa z ob k) = true) : y_join M si oa z ob (k + 1) = y_join M si oa z ob k := by
  have h' : y_has (y_join M si oa z ob k).2.1 (ob k) (y_join M si oa z ob k).2.2 = true := h
  rw [y_join, if_pos h']
theorem y_join_f {M : wM} {si : Nat} {oa : Nat → Nat} {z : Nat} {ob : Nat → Nat} {k : Nat} (h : y_has (y_jO M si oa z ob k) (ob k) (y_jZ M si oa z ob k) = false) : y_join M si oa z ob (k + 1) = (y_addm (y_jM M si oa z ob k) si (y_jZ M si oa z ob k) (ob k), (fun j => if j = y_jZ M si oa z ob k then ob k else y_jO M si oa z ob k j), y_jZ M si oa z ob k + 1) := by
  have h' : ¬ y_has (y_join M si oa z ob k).2.1 (ob k) (y_join M si oa z ob k).2.2 = true := by
    intro e; have : y_has (y_jO M si oa z ob k) (ob k) (y_jZ M si oa z ob k) = true := e
    rw [h] at this; cases this
  rw [y_join, if_neg h']; rfl
theorem y_jM_F {M : wM} {si : Nat} {oa : Nat → Nat} {z : Nat} {ob : Nat → Nat} (k : Nat) : (y_jM M si oa z ob k).2 = M.2 := by
  induction k with
  | zero => rfl
  | succ k ih =>
    cases h : y_has (y_jO M si oa z ob k) (ob k) (y_jZ M si oa z ob k) with
    | true => unfold y_jM; rw [y_join_t h]; exact ih
    | false => unfold y_jM; rw [y_join_f h]; exact ih
def yJoinOk (M : wM) (si ti : Nat) (oa : Nat → Nat) (z : Nat) (ob : Nat → Nat) (z2 : Nat) : Prop := (∀ k, k ≤ z2 → (y_jM M si oa z ob k).1 7 ti = nI z2 ∧ (∀ j, j < z2 → (y_jM M si oa z ob k).1 8 (300 * ti + j) = nI (ob j) ∧ ob j < 300) ∧ (y_jM M si oa z ob k).1 7 si = nI (y_jZ M si oa z ob k) ∧ y_jZ M si oa z ob k ≤ 300 ∧ ∀ j, j < y_jZ M si oa z ob k → (y_jM M si oa z ob k).1 8 (300 * si + j) = nI (y_jO M si oa z ob k j) ∧ y_jO M si oa z ob k j < 300) ∧ ∀ k, k < z2 → y_has (y_jO M si oa z ob k) (ob k) (y_jZ M si oa z ob k) = false → y_jZ M si oa z ob k < 300
def y_row (M : wM) (ej rc : Nat) (ac : Int32) (ce : Int64) : wM := wI (wL (wI M 13 (6 * ej + rc) ac) 14 (6 * ej + rc) ce) 12 ej (nI (rc + 1))
def y_turn (M : wM) (ej ek : Nat) : Nat → wM
  | 0 => M
  | k + 1 => y_row (y_turn M ej ek k) ej k (M.1 13 (6 * ek + k)) (-(M.2.1 14 (6 * ek + k)))
theorem y_turn_s {M : wM} {ej ek : Nat} (hne : ej ≠ ek) : ∀ k, k ≤ 6 → (∀ a, a ≠ 12 → a ≠ 13 → (y_turn M ej ek k).1 a = M.1 a) ∧ (∀ a, a ≠ 14 → (y_turn M ej ek k).2.1 a = M.2.1 a) ∧ (y_turn M ej ek k).2.2 = M.2.2 ∧ (∀ j, j < 6 → (y_turn M ej ek k).1 13 (6 * ek + j) = M.1 13 (6 * ek + j) ∧ (y_turn M ej ek k).2.1 14 (6 * ek + j) = M.2.1 14 (6 * ek + j)) ∧ (∀ j, j ≠ ej → (y_turn M ej ek k).1 12 j = M.1 12 j) ∧ (M.1 12 ej = nI 0 → (y_turn M ej ek k).1 12 ej = nI k) := by
  intro k
  induction k with
  | zero => exact fun _ => ⟨fun _ _ _ => rfl, fun _ _ => rfl, rfl, fun _ _ => ⟨rfl, rfl⟩, fun _ _ => rfl, fun h => h⟩
  | succ k ih =>
    intro hk
    obtain ⟨h1, h2, h3, h4, h5, h6⟩ := ih (by omega)
    have e : y_turn M ej ek (k + 1) = wI (wL (wI (y_turn M ej ek k) 13 (6 * ej + k) (M.1 13 (6 * ek + k))) 14 (6 * ej + k) (-(M.2.1 14 (6 * ek + k)))) 12 ej (nI (k + 1)) := rfl
    rw [e]
    refine ⟨fun a a1 a2 => ?_, fun a a1 => ?_, h3, fun j hj => ⟨?_, ?_⟩, fun j hj => ?_, fun _ => ?_⟩
    · exact (up2_o _ _ _ _ a1).trans ((up2_o _ _ _ _ a2).trans (h1 a a1 a2))
    · exact (up2_o _ _ _ _ a1).trans (h2 a a1)
    · exact (wI_ne (by decide)).trans (wL_toI.trans ((wI_k (by omega)).trans (h4 j hj).1))
    · exact wI_toL.trans ((wL_k (by omega)).trans (wI_toL.trans (h4 j hj).2))
    · exact (wI_k hj).trans (wL_toI.trans ((wI_ne (by decide)).trans (h5 j hj)))
    · exact wI_s
def y_opened (M : wM) (ec : Nat) (day : Int32) : wM := wF (wI M 11 ec day) 0 13 (nI (ec + 1))
def y_marked (M : wM) (ec ek : Nat) : wM := wI (wI M 16 ek 1) 16 ec 1
def y_numbered (M : wM) (ln ej : Nat) : wM := wI (wF M 0 20 (nI (ln + 1))) 15 ej (nI (ln + 1))
def y_reversed (M : wM) (ec ek rc ln : Nat) (day : Int32) : wM := y_numbered (y_marked (y_turn (y_opened (wF (wF M 0 0 0) 0 0 0) ec day) ec ek rc) ec ek) ln ec
/-- set si of N has what x_tk says of the first k tellings; all else is B's -/
def yTaken (B N : wM) (si : Nat) (tl : Int32) (k : Nat) : Prop := (∀ a, a ≠ 7 → a ≠ 8 → N.1 a = B.1 a) ∧ N.2.1 = B.2.1 ∧ N.2.2 = B.2.2 ∧ (∀ j, j ≠ si → N.1 7 j = B.1 7 j) ∧ (∀ i, i < 300 * si → N.1 8 i = B.1 8 i) ∧ N.1 7 si = nI (x_tk (B.1 1) (B.2.1 2) tl k).2 ∧ ∀ j, j < (x_tk (B.1 1) (B.2.1 2) tl k).2 → N.1 8 (300 * si + j) = nI ((x_tk (B.1 1) (B.2.1 2) tl k).1 j)
theorem yTaken_0 {B : wM} {si : Nat} {tl : Int32} (h : B.1 7 si = nI 0) : yTaken B B si tl 0 := ⟨fun _ _ _ => rfl, rfl, rfl, fun _ _ => rfl, fun _ _ => rfl, h, fun j hj => absurd hj (Nat.not_lt_zero _)⟩
theorem yTaken_f {B N : wM} {si k : Nat} {tl : Int32} (h : yTaken B N si tl k) (e : ¬ B.1 1 k = tl) : yTaken B N si tl (k + 1) := by
  obtain ⟨h1, h2, h3, h4, h5, h6, h7⟩ := h
  exact ⟨h1, h2, h3, h4, h5, by rw [x_tk_f e]; exact h6, by rw [x_tk_f e]; exact h7⟩
theorem yTaken_t {B P N : wM} {si k pp : Nat} {tl : Int32} (h : yTaken B P si tl k) (e : B.1 1 k = tl) (hpp : pp ≤ (x_tk (B.1 1) (B.2.1 2) tl k).2) (n1 : ∀ a, a ≠ 8 → N.1 a = P.1 a) (n2 : N.2.1 = P.2.1) (n3 : N.2.2 = P.2.2) (n4 : ∀ i, i < 300 * si → N.1 8 i = P.1 8 i) (n5 : ∀ j, j < pp → N.1 8 (300 * si + j) = nI ((x_tk (B.1 1) (B.2.1 2) tl k).1 j)) (n6 : ∀ j, pp < j → j < (x_tk (B.1 1) (B.2.1 2) tl k).2 + 1 → N.1 8 (300 * si + j) = nI ((x_tk (B.1 1) (B.2.1 2) tl k).1 (j - 1))) (n7 : x_place (B.2.1 2) (x_tk (B.1 1) (B.2.1 2) tl k).1 k pp = x_place (B.2.1 2) (x_tk (B.1 1) (B.2.1 2) tl k).1 k (x_tk (B.1 1) (B.2.1 2) tl k).2) (n8 : x_place (B.2.1 2) (x_tk (B.1 1) (B.2.1 2) tl k).1 k pp = pp) :
    yTaken B (wI (wI N 8 (300 * si + pp) (nI k)) 7 si (nI ((x_tk (B.1 1) (B.2.1 2) tl k).2 + 1))) si tl (k + 1) := by
  obtain ⟨h1, h2, h3, h4, h5, h6, h7⟩ := h
  refine ⟨fun a a1 a2 => (up2_o _ _ _ _ a1).trans ((up2_o _ _ _ _ a2).trans ((n1 a a2).trans (h1 a a1 a2))), n2.trans h2, n3.trans h3, fun j hj => (wI_k hj).trans ((wI_ne (by decide)).trans ((congrFun (n1 7 (by decide)) j).trans (h4 j hj))), fun i hi => (wI_ne (by decide)).trans ((wI_k (by omega)).trans ((n4 i hi).trans (h5 i hi))), ?_, ?_⟩
  · rw [x_tk_t e]; exact wI_s
  · rw [x_tk_t e]
    intro j hj
    have hj' : j < (x_tk (B.1 1) (B.2.1 2) tl k).2 + 1 := hj
    show (wI (wI N 8 (300 * si + pp) (nI k)) 7 si _).1 8 (300 * si + j) = nI (x_oins _ _ _ j)
    rw [wI_ne (by decide), ← n7, n8]
    unfold x_oins
    by_cases q : j = pp
    · subst q; rw [wI_s, if_neg (by omega), if_pos rfl]
    · rw [wI_k (by omega)]
      by_cases q2 : j < pp
      · rw [if_pos q2]; exact n5 j q2
      · rw [if_neg q2, if_neg q]; exact n6 j (by omega) hj'
set_option maxHeartbeats 4000000 in
set_option maxRecDepth 100000 in
/-- M_join -/
theorem k_M_join (l : Launch) (D : va_G) (cA : Nat → ClassId) (o sz : Nat) (M : wM) (sc : Nat) (hsc : sc ≤ 8) (esc : M.2.2 0 8 = nI sc) (z : Nat → Nat) (od : Nat → Nat → Nat) (hse : ySets M z od) (hjo : ∀ s t, s < 8 → t < 8 → yJoinOk (wF M 0 0 0) s t (od s) (z s) (od t) (z t)) (x y : Int32) : Met l y_M_join (wm y_M_join c_M_join 5 (some .int)) { frames := 1, cells := 0, slots := 0, locals := 24 } (va_Pc [.ref (o + 0), .int x, .int y] (mB D cA o M sz)) (va_Qi (fun r M1 => (M1 = (wF M 0 0 1) ∧ ¬ (xin x (nI sc) ∧ xin y (nI sc))) ∨ (∃ k1 k2, k1 < sc ∧ k2 < sc ∧ x = nI k1 ∧ y = nI k2 ∧ M1 = y_jM (wF M 0 0 0) k1 (od k1) (z k1) (od k2) (z k2) ∧ nI (z k1) + r = nI (y_jZ (wF M 0 0 0) k1 (od k1) (z k1) (od k2) (z k2)))) (mQ D cA o) (mA o sz)) 0 0 (mA o sz) := by
  refine Met.ofW (cc := c_M_join) (maxL := 5) (ret := (some .int)) (by decide) rfl ?_
  intro p e s m args below meth c s₁ B hml hv
  obtain ⟨rfl, hsz, hP, hK⟩ := hv
  have hx := B.exec
  have hb := B.bytes
  have hr := B.returns
  have hts := atoms_spec (ws := wm y_M_join c_M_join 5 (some .int)) B.pre
  have hown : s.vm.findClass "ShopDesksModel" = some m.cls := findClass_of_methodNamed B.named
  have hlocks := B.notSynchronized
  subst hsz
  have hS : va_S (mA o s.heap.size) s.heap s.heap [] := va_S.rf
  have hW : ∀ i, i < 17 → mA o s.heap.size (o + i) := fun i hi => wA_in hi
  have hl := lv_entry ([.ref (o + 0), .int x, .int y]) (n := 5) (Nat.le_of_ble_eq_true rfl)
  rw [lg_entry_eq]
  generalize (lg_sl ([.ref (o + 0), .int x, .int y]) ++ List.replicate (5 - (lg_sl ([.ref (o + 0), .int x, .int y])).length) Slot.unset).toArray = ls at hl ⊢
  have hl : lv_has ls 5 [(0, .ref (o + 0)), (1, .int x), (2, .int y)] := hl
  refine lv_aload_n hx hb d_M_join_0 rfl (lv_at hl 0 rfl) ?_
  refine lv_aload_n hx hb d_M_join_1 rfl (lv_at hl 0 rfl) ?_
  refine lv_iload_n hx hb d_M_join_2 rfl (lv_at hl 1 rfl) ?_
  refine w_Vi ⟨hx, hb, hml, hown, hts⟩ (k_M_isSet l D cA o _ M x) (kV hts 1 aK_M_isSet aM_M_89 aI_M_isSet aV_M_isSet aN_M nm_M_isSet rfl rfl ⟨(Nat.le_of_ble_eq_true rfl), (Nat.le_of_ble_eq_true rfl)⟩) hK hP (by decide) SM_0 rfl rfl hl.1 rfl (Nat.le_of_ble_eq_true rfl) d_M_join_3 ⟨(Nat.le_of_ble_eq_true rfl), (Nat.le_of_ble_eq_true rfl)⟩ hS (fun q h => wA_le hS.1 h) (fun r_1 M_1 H locs hw_1 hP hzc hkc hS => ?_)
  rw [hw_1.1] at hP
  refine w_topi hw_1.2 ?_
  refine lv_if_eq (tgt := 21) hx hb d_M_join_6 (by decide) (fun c_2 => ?_) (fun c_2 => ?_)
  · have q1 : ¬ xin x (nI sc) := by rw [← esc]; exact b2i_F c_2
    refine lv_iconst (v := 1) hx hb d_M_join_21 (by decide) ?_
    refine w_put (C := R_M) (T := F_M) (N := 22) (ci := 5) (x := 1) hx hb hts inw_M ft_M ft_M_ok fn_M hown hK hP hW hS 0 (by decide) SM_0 rfl 0 (by decide) (hts _ (al aF_M_64)) rfl rfl rfl (Nat.le_of_ble_eq_true rfl) (by rw [wF_r]; exact SM_0.trans rfl) d_M_join_22 (fun H locs hP hS => ?_)
    refine lv_iconst (v := 0) hx hb d_M_join_25 (by decide) ?_
    refine lv_istore_n (lv' := [(3, .int 0), (0, .ref (o + 0)), (1, .int x), (2, .int y)]) hx hb d_M_join_26 rfl hl (by decide) rfl (fun ls hl => ?_)
    refine lv_iconst (v := 0) hx hb d_M_join_27 (by decide) ?_
    refine lv_istore (lv' := [(4, .int 0), (3, .int 0), (0, .ref (o + 0)), (1, .int x), (2, .int y)]) hx hb d_M_join_28 hl (by decide) rfl (fun ls hl => ?_)
    refine lv_aload_n hx hb d_M_join_30 rfl (lv_at hl 2 rfl) ?_
    refine w_get (C := R_M) (T := F_M) (N := 22) (ci := 5) (v := .int 1) hx hb hts inw_M hown hK hP 0 (by decide) SM_0 rfl 0 (by decide) (hts _ (al aF_M_64)) rfl d_M_join_31 ?_
    refine lv_if_ne (tgt := 96) hx hb d_M_join_34 (by decide) (fun c_3 => ?_) (fun c_3 => ?_)
    · refine lv_iload_n hx hb d_M_join_96 rfl (lv_at hl 1 rfl) ?_
      exact W.iret (v := 0) hx hb hr (fun tz hz9 hW9 => ⟨⟨0, (wF M 0 0 1), rfl, Or.inl ⟨rfl, fun h => q1 h.1⟩, by rw [hz9]; exact hP, va_K.moved hW9.alike hK⟩, hS.F hz9⟩) hS.2.2 d_M_join_97
    · exact absurd c_3 (by decide)
  · have q1 : xin x (nI sc) := by rw [← esc]; exact b2i_T c_2
    obtain ⟨k1, hk1, ek1⟩ := x_idx q1.1 q1.2 (by omega)
    have hk18 : k1 < 8 := by omega
    refine lv_aload_n hx hb d_M_join_9 rfl (lv_at hl 0 rfl) ?_
    refine lv_iload_n hx hb d_M_join_10 rfl (lv_at hl 2 rfl) ?_
    refine w_Vi ⟨hx, hb, hml, hown, hts⟩ (k_M_isSet l D cA o _ M y) (kV hts 1 aK_M_isSet aM_M_89 aI_M_isSet aV_M_isSet aN_M nm_M_isSet rfl rfl ⟨(Nat.le_of_ble_eq_true rfl), (Nat.le_of_ble_eq_true rfl)⟩) hK hP (by decide) SM_0 rfl rfl hl.1 rfl (Nat.le_of_ble_eq_true rfl) d_M_join_11 ⟨(Nat.le_of_ble_eq_true rfl), (Nat.le_of_ble_eq_true rfl)⟩ hS (fun q h => wA_le hS.1 h) (fun r_4 M_4 H locs hw_4 hP hzc hkc hS => ?_)
    rw [hw_4.1] at hP
    refine w_topi hw_4.2 ?_
    refine lv_if_eq (tgt := 21) hx hb d_M_join_14 (by decide) (fun c_5 => ?_) (fun c_5 => ?_)
    · have q2 : ¬ xin y (nI sc) := by rw [← esc]; exact b2i_F c_5
      refine lv_iconst (v := 1) hx hb d_M_join_21 (by decide) ?_
      refine w_put (C := R_M) (T := F_M) (N := 22) (ci := 5) (x := 1) hx hb hts inw_M ft_M ft_M_ok fn_M hown hK hP hW hS 0 (by decide) SM_0 rfl 0 (by decide) (hts _ (al aF_M_64)) rfl rfl rfl (Nat.le_of_ble_eq_true rfl) (by rw [wF_r]; exact SM_0.trans rfl) d_M_join_22 (fun H locs hP hS => ?_)
      refine lv_iconst (v := 0) hx hb d_M_join_25 (by decide) ?_
      refine lv_istore_n (lv' := [(3, .int 0), (0, .ref (o + 0)), (1, .int x), (2, .int y)]) hx hb d_M_join_26 rfl hl (by decide) rfl (fun ls hl => ?_)
      refine lv_iconst (v := 0) hx hb d_M_join_27 (by decide) ?_
      refine lv_istore (lv' := [(4, .int 0), (3, .int 0), (0, .ref (o + 0)), (1, .int x), (2, .int y)]) hx hb d_M_join_28 hl (by decide) rfl (fun ls hl => ?_)
      refine lv_aload_n hx hb d_M_join_30 rfl (lv_at hl 2 rfl) ?_
      refine w_get (C := R_M) (T := F_M) (N := 22) (ci := 5) (v := .int 1) hx hb hts inw_M hown hK hP 0 (by decide) SM_0 rfl 0 (by decide) (hts _ (al aF_M_64)) rfl d_M_join_31 ?_
      refine lv_if_ne (tgt := 96) hx hb d_M_join_34 (by decide) (fun c_6 => ?_) (fun c_6 => ?_)
      · refine lv_iload_n hx hb d_M_join_96 rfl (lv_at hl 1 rfl) ?_
        exact W.iret (v := 0) hx hb hr (fun tz hz9 hW9 => ⟨⟨0, (wF M 0 0 1), rfl, Or.inl ⟨rfl, fun h => q2 h.2⟩, by rw [hz9]; exact hP, va_K.moved hW9.alike hK⟩, hS.F hz9⟩) hS.2.2 d_M_join_97
      · exact absurd c_6 (by decide)
    · have q2 : xin y (nI sc) := by rw [← esc]; exact b2i_T c_5
      obtain ⟨k2, hk2, ek2⟩ := x_idx q2.1 q2.2 (by omega)
      have hk28 : k2 < 8 := by omega
      have hz2 := (hse k2 hk28).1
      obtain ⟨hj1, hj4⟩ := hjo k1 k2 hk18 hk28
      refine lv_iconst (v := 0) hx hb d_M_join_17 (by decide) ?_
      refine lv_goto (tgt := 22) hx hb d_M_join_18 (by decide) ?_
      refine w_put (C := R_M) (T := F_M) (N := 22) (ci := 5) (x := 0) hx hb hts inw_M ft_M ft_M_ok fn_M hown hK hP hW hS 0 (by decide) SM_0 rfl 0 (by decide) (hts _ (al aF_M_64)) rfl rfl rfl (Nat.le_of_ble_eq_true rfl) (by rw [wF_r]; exact SM_0.trans rfl) d_M_join_22 (fun H locs hP hS => ?_)
      refine lv_iconst (v := 0) hx hb d_M_join_25 (by decide) ?_
      refine lv_istore_n (lv' := [(3, .int 0), (0, .ref (o + 0)), (1, .int x), (2, .int y)]) hx hb d_M_join_26 rfl hl (by decide) rfl (fun ls hl => ?_)
      refine lv_iconst (v := 0) hx hb d_M_join_27 (by decide) ?_
      refine lv_istore (lv' := [(4, .int 0), (3, .int 0), (0, .ref (o + 0)), (1, .int x), (2, .int y)]) hx hb d_M_join_28 hl (by decide) rfl (fun ls hl => ?_)
      have lp30 : ∀ (fuel : Nat) (k : Nat) (nv : Int32), z k2 - k < fuel → (k ≤ z k2) → (nI (z k1) + nv = nI (y_jZ (wF M 0 0 0) k1 (od k1) (z k1) (od k2) k)) → ∀ (H : Heap) (locs : List Loc), wP D cls_ (SM o cA) o 17 (y_jM (wF M 0 0 0) k1 (od k1) (z k1) (od k2) k) H → va_S (mA o s.heap.size) s.heap H locs → ∀ (ls : Array Slot), lv_has ls 5 [(0, .ref (o + 0)), (1, .int x), (2, .int y), (3, .int nv), (4, .int (nI k))] → W p l e (headSpec (wm y_M_join c_M_join 5 (some .int)) { frames := 1, cells := 0, slots := 0, locals := 24 }).room s m ([.ref (o + 0), .int x, .int y] : List Value).toArray below meth c H locs 0 0 (MQ below (va_Qi (fun r M1 => (M1 = (wF M 0 0 1) ∧ ¬ (xin x (nI sc) ∧ xin y (nI sc))) ∨ (∃ k1 k2, k1 < sc ∧ k2 < sc ∧ x = nI k1 ∧ y = nI k2 ∧ M1 = y_jM (wF M 0 0 0) k1 (od k1) (z k1) (od k2) (z k2) ∧ nI (z k1) + r = nI (y_jZ (wF M 0 0 0) k1 (od k1) (z k1) (od k2) (z k2)))) (mQ D cA o) (mA o s.heap.size)) ([.ref (o + 0), .int x, .int y] : List Value).toArray s 0 0 (mA o s.heap.size)) (F0 m 30 ls []) := by
        intro fuel
        induction fuel with
        | zero => intro k nv hfu; exact absurd hfu (Nat.not_lt_zero _)
        | succ fuel ih =>
          intro k nv hfu hkn hnv H locs hP hS ls hl
          refine lv_aload_n hx hb d_M_join_30 rfl (lv_at hl 0 rfl) ?_
          refine w_get (C := R_M) (T := F_M) (N := 22) (ci := 5) (v := .int ((y_jM (wF M 0 0 0) k1 (od k1) (z k1) (od k2) k).2.2 0 0)) hx hb hts inw_M hown hK hP 0 (by decide) SM_0 rfl 0 (by decide) (hts _ (al aF_M_64)) rfl d_M_join_31 ?_
          refine w_topi ((congrFun (congrFun (congrArg Prod.snd (y_jM_F k)) 0) 0).trans wF_s) ?_
          refine lv_if_ne (tgt := 96) hx hb d_M_join_34 (by decide) (fun c_7 => ?_) (fun c_7 => ?_)
          · exact absurd (by decide) c_7
          · refine lv_iload hx hb d_M_join_37 (lv_at hl 4 rfl) ?_
            refine lv_aload_n hx hb d_M_join_39 rfl (lv_at hl 0 rfl) ?_
            refine w_get (C := R_M) (T := F_M) (N := 22) (ci := 5) (v := .ref (o + 7)) hx hb hts inw_M hown hK hP 0 (by decide) SM_0 rfl 9 (by decide) (hts _ (al aF_M_29)) rfl d_M_join_40 ?_
            refine lv_iload_n hx hb d_M_join_43 rfl (lv_at hl 2 rfl) ?_
            refine w_topi ek2 ?_
            refine w_iald hx hb hK hP 7 0 (by decide) SM_7 rfl (k := k2) (by omega) (by decide) d_M_join_44 ?_
            refine w_topi ((hj1 k hkn).1) ?_
            refine lv_icmp_ge (tgt := 96) hx hb d_M_join_45 (by decide) (fun c_8 => ?_) (fun c_8 => ?_)
            · have hkz : z k2 ≤ k := i_le (by omega) (by omega) c_8
              refine lv_iload_n hx hb d_M_join_96 rfl (lv_at hl 3 rfl) ?_
              exact W.iret (v := nv) hx hb hr (fun tz hz9 hW9 => ⟨⟨nv, (y_jM (wF M 0 0 0) k1 (od k1) (z k1) (od k2) k), rfl, Or.inr ⟨k1, k2, hk1, hk2, ek1, ek2, by rw [show k = z k2 by omega], by rw [hnv, show k = z k2 by omega]⟩, by rw [hz9]; exact hP, va_K.moved hW9.alike hK⟩, hS.F hz9⟩) hS.2.2 d_M_join_97
            · have hkz : k < z k2 := i_nle (by omega) (by omega) c_8
              refine lv_aload_n hx hb d_M_join_48 rfl (lv_at hl 0 rfl) ?_
              refine lv_iload_n hx hb d_M_join_49 rfl (lv_at hl 1 rfl) ?_
              refine w_topi ek1 ?_
              refine lv_aload_n hx hb d_M_join_50 rfl (lv_at hl 0 rfl) ?_
              refine w_get (C := R_M) (T := F_M) (N := 22) (ci := 5) (v := .ref (o + 8)) hx hb hts inw_M hown hK hP 0 (by decide) SM_0 rfl 10 (by decide) (hts _ (al aF_M_32)) rfl d_M_join_51 ?_
              refine lv_sipush (v := 300) hx hb d_M_join_54 (by decide) ?_
              refine lv_iload_n hx hb d_M_join_57 rfl (lv_at hl 2 rfl) ?_
              refine w_topi ek2 ?_
              refine lv_imul hx hb d_M_join_58 ?_
              refine lv_iload hx hb d_M_join_59 (lv_at hl 4 rfl) ?_
              refine lv_iadd hx hb d_M_join_61 ?_
              refine w_topi (y_idx 300 k2 k) ?_
              refine w_iald hx hb hK hP 8 0 (by decide) SM_8 rfl (k := (300 * k2 + k)) (by omega) (by decide) d_M_join_62 ?_
              refine w_topi (((hj1 k hkn).2.1 k hkz).1) ?_
              refine w_Vi ⟨hx, hb, hml, hown, hts⟩ (k_M_has l D cA o _ (y_jM (wF M 0 0 0) k1 (od k1) (z k1) (od k2) k) k1 hk18 (y_jO (wF M 0 0 0) k1 (od k1) (z k1) (od k2) k) (y_jZ (wF M 0 0 0) k1 (od k1) (z k1) (od k2) k) (hj1 k hkn).2.2.2.1 (hj1 k hkn).2.2.1 (hj1 k hkn).2.2.2.2 (od k2 k) ((hj1 k hkn).2.1 k hkz).2) (kV hts 2 aK_M_has aM_M_92 aI_M_has aV_M_has aN_M nm_M_has rfl rfl ⟨(Nat.le_of_ble_eq_true rfl), (Nat.le_of_ble_eq_true rfl)⟩) hK hP (by decide) SM_0 rfl rfl hl.1 rfl (Nat.le_of_ble_eq_true rfl) d_M_join_63 ⟨(Nat.le_of_ble_eq_true rfl), (Nat.le_of_ble_eq_true rfl)⟩ hS (fun q h => wA_le hS.1 h) (fun r_9 M_9 H locs hw_9 hP hzc hkc hS => ?_)
              rw [hw_9.1] at hP
              refine w_topi hw_9.2 ?_
              refine lv_if_ne (tgt := 90) hx hb d_M_join_66 (by decide) (fun c_10 => ?_) (fun c_10 => ?_)
              · have hh := b2i_1 c_10
                refine lv_iinc (v := nI (k + 1)) (lv' := [(4, .int (nI (k + 1))), (0, .ref (o + 0)), (1, .int x), (2, .int y), (3, .int nv)]) hx hb d_M_join_90 hl (k := 4) rfl (w_inc k) (by decide) rfl (fun ls hl => ?_)
                refine lv_goto (tgt := 30) hx hb d_M_join_93 (by decide) ?_
                have hP : wP D cls_ (SM o cA) o 17 (y_jM (wF M 0 0 0) k1 (od k1) (z k1) (od k2) (k + 1)) H := by unfold y_jM; rw [y_join_t hh]; exact hP
                exact ih (k + 1) nv (by omega) hkz (by unfold y_jZ; rw [y_join_t hh]; exact hnv) _ _ hP hS ls (lv_sub hl [1, 2, 3, 4, 0] rfl)
              · have hh := b2i_0 c_10
                refine lv_aload_n hx hb d_M_join_69 rfl (lv_at hl 0 rfl) ?_
                refine lv_iload_n hx hb d_M_join_70 rfl (lv_at hl 1 rfl) ?_
                refine w_topi ek1 ?_
                refine lv_aload_n hx hb d_M_join_71 rfl (lv_at hl 0 rfl) ?_
                refine w_get (C := R_M) (T := F_M) (N := 22) (ci := 5) (v := .ref (o + 8)) hx hb hts inw_M hown hK hP 0 (by decide) SM_0 rfl 10 (by decide) (hts _ (al aF_M_32)) rfl d_M_join_72 ?_
                refine lv_sipush (v := 300) hx hb d_M_join_75 (by decide) ?_
                refine lv_iload_n hx hb d_M_join_78 rfl (lv_at hl 2 rfl) ?_
                refine w_topi ek2 ?_
                refine lv_imul hx hb d_M_join_79 ?_
                refine lv_iload hx hb d_M_join_80 (lv_at hl 4 rfl) ?_
                refine lv_iadd hx hb d_M_join_82 ?_
                refine w_topi (y_idx 300 k2 k) ?_
                refine w_iald hx hb hK hP 8 0 (by decide) SM_8 rfl (k := (300 * k2 + k)) (by omega) (by decide) d_M_join_83 ?_
                refine w_topi (((hj1 k hkn).2.1 k hkz).1) ?_
                refine w_Vv ⟨hx, hb, hml, hown, hts⟩ (k_M_add l D cA o _ (y_jM (wF M 0 0 0) k1 (od k1) (z k1) (od k2) k) k1 hk18 (y_jZ (wF M 0 0 0) k1 (od k1) (z k1) (od k2) k) (hj1 k hkn).2.2.2.1 (hj1 k hkn).2.2.1 (hj4 k hkz hh) (od k2 k)) (kV hts 2 aK_M_add aM_M_96 aI_M_add aV_M_add aN_M nm_M_add rfl rfl ⟨(Nat.le_of_ble_eq_true rfl), (Nat.le_of_ble_eq_true rfl)⟩) hK hP (by decide) SM_0 rfl rfl hl.1 rfl (Nat.le_of_ble_eq_true rfl) d_M_join_84 ⟨(Nat.le_of_ble_eq_true rfl), (Nat.le_of_ble_eq_true rfl)⟩ hS (fun q h => wA_le hS.1 h) (fun M_11 H locs hw_11 hP hzc hkc hS => ?_)
                rw [hw_11] at hP
                refine lv_iinc (v := nv + 1) (lv' := [(3, .int (nv + 1)), (0, .ref (o + 0)), (1, .int x), (2, .int y), (4, .int (nI k))]) hx hb d_M_join_87 hl (k := 3) rfl (rfl) (by decide) rfl (fun ls hl => ?_)
                refine lv_iinc (v := nI (k + 1)) (lv' := [(4, .int (nI (k + 1))), (3, .int (nv + 1)), (0, .ref (o + 0)), (1, .int x), (2, .int y)]) hx hb d_M_join_90 hl (k := 4) rfl (w_inc k) (by decide) rfl (fun ls hl => ?_)
                refine lv_goto (tgt := 30) hx hb d_M_join_93 (by decide) ?_
                have hP : wP D cls_ (SM o cA) o 17 (y_jM (wF M 0 0 0) k1 (od k1) (z k1) (od k2) (k + 1)) H := by unfold y_jM; rw [y_join_f hh]; exact hP
                exact ih (k + 1) (nv + 1) (by omega) hkz (by unfold y_jZ; rw [y_join_f hh, ← Int32.add_assoc, hnv]; exact (nI_succ _).symm) _ _ hP hS ls (lv_sub hl [2, 3, 4, 1, 0] rfl)
      exact lp30 ((z k2 - 0) + 1) 0 0 (Nat.lt_succ_self _) (Nat.zero_le _) (Int32.add_zero _) _ _ hP hS ls (lv_sub hl [2, 3, 4, 1, 0] rfl)
set_option maxHeartbeats 4000000 in
set_option maxRecDepth 100000 in
/-- M_reverse -/
theorem k_M_reverse (l : Launch) (D : va_G) (cA : Nat → ClassId) (o sz : Nat) (M : wM) (ec : Nat) (hec : ec ≤ 60) (eec : M.2.2 0 13 = nI ec) (rc : Nat → Nat) (hrc : ∀ j, j < 60 → rc j ≤ 6 ∧ M.1 12 j = nI (rc j)) (hfr : ec < 60 → rc ec = 0) (ln : Nat) (hln : ln ≤ ec) (eln : M.2.2 0 20 = nI ln) (en : Nat → Nat) (hen : ∀ m, 1 ≤ m → m ≤ ln → en m < ec ∧ M.1 15 (en m) = nI m ∧ ∀ j, j < en m → ¬ M.1 15 j = nI m) (x day : Int32) : Met l y_M_reverse (wm y_M_reverse c_M_reverse 6 (some .int)) { frames := 1, cells := 0, slots := 0, locals := 25 } (va_Pc [.ref (o + 0), .int x, .int day] (mB D cA o M sz)) (va_Qi (fun r M1 => (M1 = (wF M 0 0 1) ∧ (x < 1 ∨ ¬ x ≤ nI ln)) ∨ (M1 = (wF M 0 0 2) ∧ ¬ x < 1 ∧ x ≤ nI ln ∧ ¬ xin day 3600) ∨ (xin day 3600 ∧ ∃ m, 1 ≤ m ∧ m ≤ ln ∧ x = nI m ∧ ((M1 = wF (wF M 0 0 0) 0 0 3 ∧ (¬ M.1 16 (en m) = 0 ∨ ec = 60)) ∨ (M.1 16 (en m) = 0 ∧ ec < 60 ∧ ((r = 0 ∧ M1 = wF (wF M 0 0 0) 0 0 0 ∧ day / 30 ≤ M.2.2 0 21) ∨ (r = nI (ln + 1) ∧ M1 = y_reversed M ec (en m) (rc (en m)) ln day ∧ ¬ day / 30 ≤ M.2.2 0 21)))))) (mQ D cA o) (mA o sz)) 0 0 (mA o sz) := by
  refine Met.ofW (cc := c_M_reverse) (maxL := 6) (ret := (some .int)) (by decide) rfl ?_
  intro p e s m args below meth c s₁ B hml hv
  obtain ⟨rfl, hsz, hP, hK⟩ := hv
  have hx := B.exec
  have hb := B.bytes
  have hr := B.returns
  have hts := atoms_spec (ws := wm y_M_reverse c_M_reverse 6 (some .int)) B.pre
  have hown : s.vm.findClass "ShopDesksModel" = some m.cls := findClass_of_methodNamed B.named
  have hlocks := B.notSynchronized
  subst hsz
  have hS : va_S (mA o s.heap.size) s.heap s.heap [] := va_S.rf
  have hW : ∀ i, i < 17 → mA o s.heap.size (o + i) := fun i hi => wA_in hi
  have hl := lv_entry ([.ref (o + 0), .int x, .int day]) (n := 6) (Nat.le_of_ble_eq_true rfl)
  rw [lg_entry_eq]
  generalize (lg_sl ([.ref (o + 0), .int x, .int day]) ++ List.replicate (6 - (lg_sl ([.ref (o + 0), .int x, .int day])).length) Slot.unset).toArray = ls at hl ⊢
  have hl : lv_has ls 6 [(0, .ref (o + 0)), (1, .int x), (2, .int day)] := hl
  refine lv_aload_n hx hb d_M_reverse_0 rfl (lv_at hl 0 rfl) ?_
  refine lv_iload_n hx hb d_M_reverse_1 rfl (lv_at hl 1 rfl) ?_
  refine lv_iconst (v := 1) hx hb d_M_reverse_2 (by decide) ?_
  refine lv_icmp_lt (tgt := 14) hx hb d_M_reverse_3 (by decide) (fun c_1 => ?_) (fun c_1 => ?_)
  · have q : x < 1 ∨ ¬ x ≤ nI ln := Or.inl c_1
    refine lv_iconst (v := 1) hx hb d_M_reverse_14 (by decide) ?_
    refine lv_goto (tgt := 35) hx hb d_M_reverse_15 (by decide) ?_
    refine w_put (C := R_M) (T := F_M) (N := 22) (ci := 5) (x := 1) hx hb hts inw_M ft_M ft_M_ok fn_M hown hK hP hW hS 0 (by decide) SM_0 rfl 0 (by decide) (hts _ (al aF_M_64)) rfl rfl rfl (Nat.le_of_ble_eq_true rfl) (by rw [wF_r]; exact SM_0.trans rfl) d_M_reverse_35 (fun H locs hP hS => ?_)
    refine lv_aload_n hx hb d_M_reverse_38 rfl (lv_at hl 0 rfl) ?_
    refine w_get (C := R_M) (T := F_M) (N := 22) (ci := 5) (v := .int 1) hx hb hts inw_M hown hK hP 0 (by decide) SM_0 rfl 0 (by decide) (hts _ (al aF_M_64)) rfl d_M_reverse_39 ?_
    refine lv_if_le (tgt := 47) hx hb d_M_reverse_42 (by decide) (fun c_2 => ?_) (fun c_2 => ?_)
    · exact absurd c_2 (by decide)
    · refine lv_iconst (v := 0) hx hb d_M_reverse_45 (by decide) ?_
      exact W.iret (v := 0) hx hb hr (fun tz hz9 hW9 => ⟨⟨0, (wF M 0 0 1), rfl, Or.inl ⟨rfl, q⟩, by rw [hz9]; exact hP, va_K.moved hW9.alike hK⟩, hS.F hz9⟩) hS.2.2 d_M_reverse_46
  · have q1 := c_1
    refine lv_iload_n hx hb d_M_reverse_6 rfl (lv_at hl 1 rfl) ?_
    refine lv_aload_n hx hb d_M_reverse_7 rfl (lv_at hl 0 rfl) ?_
    refine w_get (C := R_M) (T := F_M) (N := 22) (ci := 5) (v := .int (M.2.2 0 20)) hx hb hts inw_M hown hK hP 0 (by decide) SM_0 rfl 20 (by decide) (hts _ (al aF_M_156)) rfl d_M_reverse_8 ?_
    refine w_topi eln ?_
    refine lv_icmp_le (tgt := 18) hx hb d_M_reverse_11 (by decide) (fun c_3 => ?_) (fun c_3 => ?_)
    · have q2 := c_3
      obtain ⟨m1, hm1, hm2, em1⟩ := x_num q1 q2 (by omega)
      obtain ⟨hen9, hen1, hen2⟩ := hen m1 hm1 hm2
      have hen60 : en m1 < 60 := by omega
      refine lv_iload_n hx hb d_M_reverse_18 rfl (lv_at hl 2 rfl) ?_
      refine lv_i2l hx hb d_M_reverse_19 rfl ?_
      refine lv_lconst (v := 0) hx hb d_M_reverse_20 (by decide) ?_
      refine lv_ldc2 (v := 3599) hx hb hown (hts _ (al aL_M_136)) d_M_reverse_21 ?_
      refine w_Si ⟨hx, hb, hml, hown, hts⟩ (k_M_isIn l D cA o _ M (day.toInt64) 0 3599) (kS hts 3 aK_M_isIn aM_M_72 aS_M_isIn aN_M nm_M_isIn rfl rfl ⟨(Nat.le_of_ble_eq_true rfl), (Nat.le_of_ble_eq_true rfl)⟩) hK hP rfl hl.1 rfl (Nat.le_of_ble_eq_true rfl) d_M_reverse_24 ⟨(Nat.le_of_ble_eq_true rfl), (Nat.le_of_ble_eq_true rfl)⟩ hS (fun q h => wA_le hS.1 h) (fun r_4 M_4 H locs hw_4 hP hzc hkc hS => ?_)
      rw [hw_4.1] at hP
      refine w_topi hw_4.2 ?_
      refine lv_if_eq (tgt := 34) hx hb d_M_reverse_27 (by decide) (fun c_5 => ?_) (fun c_5 => ?_)
      · have q3 : ¬ xin day (nI (3599 + 1)) := fun h => b2i_F c_5 ((y_in 3599 (by omega)).mpr h)
        refine lv_iconst (v := 2) hx hb d_M_reverse_34 (by decide) ?_
        refine w_put (C := R_M) (T := F_M) (N := 22) (ci := 5) (x := 2) hx hb hts inw_M ft_M ft_M_ok fn_M hown hK hP hW hS 0 (by decide) SM_0 rfl 0 (by decide) (hts _ (al aF_M_64)) rfl rfl rfl (Nat.le_of_ble_eq_true rfl) (by rw [wF_r]; exact SM_0.trans rfl) d_M_reverse_35 (fun H locs hP hS => ?_)
        refine lv_aload_n hx hb d_M_reverse_38 rfl (lv_at hl 0 rfl) ?_
        refine w_get (C := R_M) (T := F_M) (N := 22) (ci := 5) (v := .int 2) hx hb hts inw_M hown hK hP 0 (by decide) SM_0 rfl 0 (by decide) (hts _ (al aF_M_64)) rfl d_M_reverse_39 ?_
        refine lv_if_le (tgt := 47) hx hb d_M_reverse_42 (by decide) (fun c_6 => ?_) (fun c_6 => ?_)
        · exact absurd c_6 (by decide)
        · refine lv_iconst (v := 0) hx hb d_M_reverse_45 (by decide) ?_
          exact W.iret (v := 0) hx hb hr (fun tz hz9 hW9 => ⟨⟨0, (wF M 0 0 2), rfl, Or.inr (Or.inl ⟨rfl, q1, q2, q3⟩), by rw [hz9]; exact hP, va_K.moved hW9.alike hK⟩, hS.F hz9⟩) hS.2.2 d_M_reverse_46
      · have q3 : xin day (nI (3599 + 1)) := (y_in 3599 (by omega)).mp (b2i_T c_5)
        refine lv_iconst (v := 0) hx hb d_M_reverse_30 (by decide) ?_
        refine lv_goto (tgt := 35) hx hb d_M_reverse_31 (by decide) ?_
        refine w_put (C := R_M) (T := F_M) (N := 22) (ci := 5) (x := 0) hx hb hts inw_M ft_M ft_M_ok fn_M hown hK hP hW hS 0 (by decide) SM_0 rfl 0 (by decide) (hts _ (al aF_M_64)) rfl rfl rfl (Nat.le_of_ble_eq_true rfl) (by rw [wF_r]; exact SM_0.trans rfl) d_M_reverse_35 (fun H locs hP hS => ?_)
        refine lv_aload_n hx hb d_M_reverse_38 rfl (lv_at hl 0 rfl) ?_
        refine w_get (C := R_M) (T := F_M) (N := 22) (ci := 5) (v := .int 0) hx hb hts inw_M hown hK hP 0 (by decide) SM_0 rfl 0 (by decide) (hts _ (al aF_M_64)) rfl d_M_reverse_39 ?_
        refine lv_if_le (tgt := 47) hx hb d_M_reverse_42 (by decide) (fun c_7 => ?_) (fun c_7 => ?_)
        · refine lv_iconst (v := 0) hx hb d_M_reverse_47 (by decide) ?_
          refine lv_istore_n (lv' := [(3, .int 0), (0, .ref (o + 0)), (1, .int x), (2, .int day)]) hx hb d_M_reverse_48 rfl hl (by decide) rfl (fun ls hl => ?_)
          have lp49 : ∀ (fuel : Nat) (j : Nat), en m1 - j < fuel → (j ≤ en m1) → ∀ (H : Heap) (locs : List Loc), wP D cls_ (SM o cA) o 17 (wF M 0 0 0) H → va_S (mA o s.heap.size) s.heap H locs → ∀ (ls : Array Slot), lv_has ls 6 [(0, .ref (o + 0)), (1, .int x), (2, .int day), (3, .int (nI j))] → W p l e (headSpec (wm y_M_reverse c_M_reverse 6 (some .int)) { frames := 1, cells := 0, slots := 0, locals := 25 }).room s m ([.ref (o + 0), .int x, .int day] : List Value).toArray below meth c H locs 0 0 (MQ below (va_Qi (fun r M1 => (M1 = (wF M 0 0 1) ∧ (x < 1 ∨ ¬ x ≤ nI ln)) ∨ (M1 = (wF M 0 0 2) ∧ ¬ x < 1 ∧ x ≤ nI ln ∧ ¬ xin day 3600) ∨ (xin day 3600 ∧ ∃ m, 1 ≤ m ∧ m ≤ ln ∧ x = nI m ∧ ((M1 = wF (wF M 0 0 0) 0 0 3 ∧ (¬ M.1 16 (en m) = 0 ∨ ec = 60)) ∨ (M.1 16 (en m) = 0 ∧ ec < 60 ∧ ((r = 0 ∧ M1 = wF (wF M 0 0 0) 0 0 0 ∧ day / 30 ≤ M.2.2 0 21) ∨ (r = nI (ln + 1) ∧ M1 = y_reversed M ec (en m) (rc (en m)) ln day ∧ ¬ day / 30 ≤ M.2.2 0 21)))))) (mQ D cA o) (mA o s.heap.size)) ([.ref (o + 0), .int x, .int day] : List Value).toArray s 0 0 (mA o s.heap.size)) (F0 m 49 ls []) := by
            intro fuel
            induction fuel with
            | zero => intro j hfu; exact absurd hfu (Nat.not_lt_zero _)
            | succ fuel ih =>
              intro j hfu hj H locs hP hS ls hl
              refine lv_aload_n hx hb d_M_reverse_49 rfl (lv_at hl 0 rfl) ?_
              refine w_get (C := R_M) (T := F_M) (N := 22) (ci := 5) (v := .ref (o + 15)) hx hb hts inw_M hown hK hP 0 (by decide) SM_0 rfl 18 (by decide) (hts _ (al aF_M_54)) rfl d_M_reverse_50 ?_
              refine lv_iload_n hx hb d_M_reverse_53 rfl (lv_at hl 3 rfl) ?_
              refine w_iald hx hb hK hP 15 0 (by decide) SM_15 rfl (k := j) (by omega) (by decide) d_M_reverse_54 ?_
              refine lv_iload_n hx hb d_M_reverse_55 rfl (lv_at hl 1 rfl) ?_
              refine w_topi em1 ?_
              refine lv_icmp_eq (tgt := 65) hx hb d_M_reverse_56 (by decide) (fun c_8 => ?_) (fun c_8 => ?_)
              · have hj9 : j = en m1 := Nat.le_antisymm hj (Nat.not_lt.mp (fun h => hen2 j h c_8))
                subst hj9
                refine lv_aload_n hx hb d_M_reverse_65 rfl (lv_at hl 0 rfl) ?_
                refine lv_aload_n hx hb d_M_reverse_66 rfl (lv_at hl 0 rfl) ?_
                refine w_get (C := R_M) (T := F_M) (N := 22) (ci := 5) (v := .ref (o + 16)) hx hb hts inw_M hown hK hP 0 (by decide) SM_0 rfl 19 (by decide) (hts _ (al aF_M_57)) rfl d_M_reverse_67 ?_
                refine lv_iload_n hx hb d_M_reverse_70 rfl (lv_at hl 3 rfl) ?_
                refine w_zald hx hb hK hP 16 2 (by decide) SM_16 rfl (k := (en m1)) (by omega) (by decide) d_M_reverse_71 ?_
                refine lv_if_ne (tgt := 84) hx hb d_M_reverse_72 (by decide) (fun c_9 => ?_) (fun c_9 => ?_)
                · have q5 : ¬ M.1 16 (en m1) = 0 ∨ ec = 60 := Or.inl c_9
                  refine lv_iconst (v := 3) hx hb d_M_reverse_84 (by decide) ?_
                  refine lv_goto (tgt := 89) hx hb d_M_reverse_85 (by decide) ?_
                  refine w_put (C := R_M) (T := F_M) (N := 22) (ci := 5) (x := 3) hx hb hts inw_M ft_M ft_M_ok fn_M hown hK hP hW hS 0 (by decide) SM_0 rfl 0 (by decide) (hts _ (al aF_M_64)) rfl rfl rfl (Nat.le_of_ble_eq_true rfl) (by rw [wF_r]; exact SM_0.trans rfl) d_M_reverse_89 (fun H locs hP hS => ?_)
                  refine lv_aload_n hx hb d_M_reverse_92 rfl (lv_at hl 0 rfl) ?_
                  refine w_get (C := R_M) (T := F_M) (N := 22) (ci := 5) (v := .int 3) hx hb hts inw_M hown hK hP 0 (by decide) SM_0 rfl 0 (by decide) (hts _ (al aF_M_64)) rfl d_M_reverse_93 ?_
                  refine lv_if_gt (tgt := 110) hx hb d_M_reverse_96 (by decide) (fun c_10 => ?_) (fun c_10 => ?_)
                  · refine lv_iconst (v := 0) hx hb d_M_reverse_110 (by decide) ?_
                    exact W.iret (v := 0) hx hb hr (fun tz hz9 hW9 => ⟨⟨0, (wF (wF M 0 0 0) 0 0 3), rfl, Or.inr (Or.inr ⟨q3, m1, hm1, hm2, em1, Or.inl ⟨rfl, q5⟩⟩), by rw [hz9]; exact hP, va_K.moved hW9.alike hK⟩, hS.F hz9⟩) hS.2.2 d_M_reverse_111
                  · exact absurd (by decide) c_10
                · have q4 := c_9
                  refine lv_aload_n hx hb d_M_reverse_75 rfl (lv_at hl 0 rfl) ?_
                  refine w_get (C := R_M) (T := F_M) (N := 22) (ci := 5) (v := .int (M.2.2 0 13)) hx hb hts inw_M hown hK hP 0 (by decide) SM_0 rfl 13 (by decide) (hts _ (al aF_M_138)) rfl d_M_reverse_76 ?_
                  refine w_topi eec ?_
                  refine lv_bipush (v := 60) hx hb d_M_reverse_79 (by decide) ?_
                  refine lv_icmp_ne (tgt := 88) hx hb d_M_reverse_81 (by decide) (fun c_11 => ?_) (fun c_11 => ?_)
                  · have q6 : ec < 60 := Nat.lt_of_le_of_ne hec (fun e => c_11 (by rw [e]; rfl))
                    have hne : ec ≠ en m1 := by omega
                    have hr6 := (hrc (en m1) hen60).1
                    have hr0 : M.1 12 ec = nI 0 := by rw [(hrc ec q6).2, hfr q6]
                    refine lv_iconst (v := 0) hx hb d_M_reverse_88 (by decide) ?_
                    refine w_put (C := R_M) (T := F_M) (N := 22) (ci := 5) (x := 0) hx hb hts inw_M ft_M ft_M_ok fn_M hown hK hP hW hS 0 (by decide) SM_0 rfl 0 (by decide) (hts _ (al aF_M_64)) rfl rfl rfl (Nat.le_of_ble_eq_true rfl) (by rw [wF_r]; exact SM_0.trans rfl) d_M_reverse_89 (fun H locs hP hS => ?_)
                    refine lv_aload_n hx hb d_M_reverse_92 rfl (lv_at hl 0 rfl) ?_
                    refine w_get (C := R_M) (T := F_M) (N := 22) (ci := 5) (v := .int 0) hx hb hts inw_M hown hK hP 0 (by decide) SM_0 rfl 0 (by decide) (hts _ (al aF_M_64)) rfl d_M_reverse_93 ?_
                    refine lv_if_gt (tgt := 110) hx hb d_M_reverse_96 (by decide) (fun c_12 => ?_) (fun c_12 => ?_)
                    · exact absurd c_12 (by decide)
                    · refine lv_iload_n hx hb d_M_reverse_99 rfl (lv_at hl 2 rfl) ?_
                      refine lv_bipush (v := 30) hx hb d_M_reverse_100 (by decide) ?_
                      refine lv_idiv hx hb d_M_reverse_102 (by decide) ?_
                      refine lv_aload_n hx hb d_M_reverse_103 rfl (lv_at hl 0 rfl) ?_
                      refine w_get (C := R_M) (T := F_M) (N := 22) (ci := 5) (v := .int (M.2.2 0 21)) hx hb hts inw_M hown hK hP 0 (by decide) SM_0 rfl 21 (by decide) (hts _ (al aF_M_60)) rfl d_M_reverse_104 ?_
                      refine lv_icmp_gt (tgt := 112) hx hb d_M_reverse_107 (by decide) (fun c_13 => ?_) (fun c_13 => ?_)
                      · have q7 : ¬ day / 30 ≤ M.2.2 0 21 := Int32.not_le.mpr c_13
                        refine lv_aload_n hx hb d_M_reverse_112 rfl (lv_at hl 0 rfl) ?_
                        refine lv_iload_n hx hb d_M_reverse_113 rfl (lv_at hl 2 rfl) ?_
                        refine w_Vi ⟨hx, hb, hml, hown, hts⟩ (k_M_open l D cA o _ (wF (wF M 0 0 0) 0 0 0) ec q6 ((wF_k (by decide)).trans ((wF_k (by decide)).trans eec)) day) (kV hts 1 aK_M_open aM_M_141 aI_M_open aV_M_open aN_M nm_M_open rfl rfl ⟨(Nat.le_of_ble_eq_true rfl), (Nat.le_of_ble_eq_true rfl)⟩) hK hP (by decide) SM_0 rfl rfl hl.1 rfl (Nat.le_of_ble_eq_true rfl) d_M_reverse_114 ⟨(Nat.le_of_ble_eq_true rfl), (Nat.le_of_ble_eq_true rfl)⟩ hS (fun q h => wA_le hS.1 h) (fun r_14 M_14 H locs hw_14 hP hzc hkc hS => ?_)
                        rw [hw_14.1] at hP
                        refine w_topi hw_14.2 ?_
                        refine lv_istore (lv' := [(4, .int (nI ec)), (0, .ref (o + 0)), (1, .int x), (2, .int day), (3, .int (nI (en m1)))]) hx hb d_M_reverse_117 hl (by decide) rfl (fun ls hl => ?_)
                        refine lv_bipush (v := 6) hx hb d_M_reverse_119 (by decide) ?_
                        refine lv_iload_n hx hb d_M_reverse_121 rfl (lv_at hl 4 rfl) ?_
                        refine lv_imul hx hb d_M_reverse_122 ?_
                        refine w_topi (pk_mul 6 (en m1)) ?_
                        refine lv_istore (lv' := [(5, .int (nI (6 * en m1))), (4, .int (nI ec)), (0, .ref (o + 0)), (1, .int x), (2, .int day), (3, .int (nI (en m1)))]) hx hb d_M_reverse_123 hl (by decide) rfl (fun ls hl => ?_)
                        have lp125 : ∀ (fuel : Nat) (k : Nat), rc (en m1) - k < fuel → (k ≤ rc (en m1)) → ∀ (H : Heap) (locs : List Loc), wP D cls_ (SM o cA) o 17 (y_turn (y_opened (wF (wF M 0 0 0) 0 0 0) ec day) ec (en m1) k) H → va_S (mA o s.heap.size) s.heap H locs → ∀ (ls : Array Slot), lv_has ls 6 [(0, .ref (o + 0)), (1, .int x), (2, .int day), (3, .int (nI (en m1))), (4, .int (nI ec)), (5, .int (nI (6 * en m1 + k)))] → W p l e (headSpec (wm y_M_reverse c_M_reverse 6 (some .int)) { frames := 1, cells := 0, slots := 0, locals := 25 }).room s m ([.ref (o + 0), .int x, .int day] : List Value).toArray below meth c H locs 0 0 (MQ below (va_Qi (fun r M1 => (M1 = (wF M 0 0 1) ∧ (x < 1 ∨ ¬ x ≤ nI ln)) ∨ (M1 = (wF M 0 0 2) ∧ ¬ x < 1 ∧ x ≤ nI ln ∧ ¬ xin day 3600) ∨ (xin day 3600 ∧ ∃ m, 1 ≤ m ∧ m ≤ ln ∧ x = nI m ∧ ((M1 = wF (wF M 0 0 0) 0 0 3 ∧ (¬ M.1 16 (en m) = 0 ∨ ec = 60)) ∨ (M.1 16 (en m) = 0 ∧ ec < 60 ∧ ((r = 0 ∧ M1 = wF (wF M 0 0 0) 0 0 0 ∧ day / 30 ≤ M.2.2 0 21) ∨ (r = nI (ln + 1) ∧ M1 = y_reversed M ec (en m) (rc (en m)) ln day ∧ ¬ day / 30 ≤ M.2.2 0 21)))))) (mQ D cA o) (mA o s.heap.size)) ([.ref (o + 0), .int x, .int day] : List Value).toArray s 0 0 (mA o s.heap.size)) (F0 m 125 ls []) := by
                          intro fuel
                          induction fuel with
                          | zero => intro k hfu; exact absurd hfu (Nat.not_lt_zero _)
                          | succ fuel ih =>
                            intro k hfu hk H locs hP hS ls hl
                            refine lv_iload hx hb d_M_reverse_125 (lv_at hl 5 rfl) ?_
                            refine lv_bipush (v := 6) hx hb d_M_reverse_127 (by decide) ?_
                            refine lv_iload_n hx hb d_M_reverse_129 rfl (lv_at hl 3 rfl) ?_
                            refine lv_imul hx hb d_M_reverse_130 ?_
                            refine w_topi (pk_mul 6 (en m1)) ?_
                            refine lv_aload_n hx hb d_M_reverse_131 rfl (lv_at hl 0 rfl) ?_
                            refine w_get (C := R_M) (T := F_M) (N := 22) (ci := 5) (v := .ref (o + 12)) hx hb hts inw_M hown hK hP 0 (by decide) SM_0 rfl 15 (by decide) (hts _ (al aF_M_45)) rfl d_M_reverse_132 ?_
                            refine lv_iload_n hx hb d_M_reverse_135 rfl (lv_at hl 3 rfl) ?_
                            refine w_iald hx hb hK hP 12 0 (by decide) SM_12 rfl (k := (en m1)) (by omega) (by decide) d_M_reverse_136 ?_
                            refine w_topi (((y_turn_s (M := y_opened (wF (wF M 0 0 0) 0 0 0) ec day) hne k (by omega)).2.2.2.2.1 (en m1) (Ne.symm hne)).trans (hrc (en m1) hen60).2) ?_
                            refine lv_iadd hx hb d_M_reverse_137 ?_
                            refine w_topi (nI_add _ _) ?_
                            refine lv_icmp_ge (tgt := 168) hx hb d_M_reverse_138 (by decide) (fun c_15 => ?_) (fun c_15 => ?_)
                            · have hk9 : rc (en m1) ≤ k := by have := i_le (by omega) (by omega) c_15; omega
                              obtain rfl : k = rc (en m1) := by omega
                              refine lv_aload_n hx hb d_M_reverse_168 rfl (lv_at hl 0 rfl) ?_
                              refine w_get (C := R_M) (T := F_M) (N := 22) (ci := 5) (v := .ref (o + 16)) hx hb hts inw_M hown hK hP 0 (by decide) SM_0 rfl 19 (by decide) (hts _ (al aF_M_57)) rfl d_M_reverse_169 ?_
                              refine lv_iload_n hx hb d_M_reverse_172 rfl (lv_at hl 3 rfl) ?_
                              refine lv_iconst (v := 1) hx hb d_M_reverse_173 (by decide) ?_
                              refine w_zast hx hb hK hP hW hS 16 2 (by decide) (fun _ => SM_16) rfl (by decide) (k := (en m1)) (by omega) (by decide) d_M_reverse_174 (fun H locs hP hS => ?_)
                              refine lv_aload_n hx hb d_M_reverse_175 rfl (lv_at hl 0 rfl) ?_
                              refine w_get (C := R_M) (T := F_M) (N := 22) (ci := 5) (v := .ref (o + 16)) hx hb hts inw_M hown hK hP 0 (by decide) SM_0 rfl 19 (by decide) (hts _ (al aF_M_57)) rfl d_M_reverse_176 ?_
                              refine lv_iload hx hb d_M_reverse_179 (lv_at hl 4 rfl) ?_
                              refine lv_iconst (v := 1) hx hb d_M_reverse_181 (by decide) ?_
                              refine w_zast hx hb hK hP hW hS 16 2 (by decide) (fun _ => SM_16) rfl (by decide) (k := ec) (by omega) (by decide) d_M_reverse_182 (fun H locs hP hS => ?_)
                              refine lv_aload_n hx hb d_M_reverse_183 rfl (lv_at hl 0 rfl) ?_
                              refine lv_iload hx hb d_M_reverse_184 (lv_at hl 4 rfl) ?_
                              refine w_Vv ⟨hx, hb, hml, hown, hts⟩ (k_M_closeNow l D cA o _ (wI (wI (y_turn (y_opened (wF (wF M 0 0 0) 0 0 0) ec day) ec (en m1) (rc (en m1))) 16 (en m1) 1) 16 ec 1) ln ec q6 ((congrFun (congrFun (y_turn_s (M := y_opened (wF (wF M 0 0 0) 0 0 0) ec day) hne (rc (en m1)) hr6).2.2.1 0) 20).trans eln)) (kV hts 1 aK_M_closeNow aM_M_159 aI_M_closeNow aV_M_closeNow aN_M nm_M_closeNow rfl rfl ⟨(Nat.le_of_ble_eq_true rfl), (Nat.le_of_ble_eq_true rfl)⟩) hK hP (by decide) SM_0 rfl rfl hl.1 rfl (Nat.le_of_ble_eq_true rfl) d_M_reverse_186 ⟨(Nat.le_of_ble_eq_true rfl), (Nat.le_of_ble_eq_true rfl)⟩ hS (fun q h => wA_le hS.1 h) (fun M_16 H locs hw_16 hP hzc hkc hS => ?_)
                              rw [hw_16] at hP
                              refine lv_aload_n hx hb d_M_reverse_189 rfl (lv_at hl 0 rfl) ?_
                              refine w_get (C := R_M) (T := F_M) (N := 22) (ci := 5) (v := .int ((y_reversed M ec (en m1) (rc (en m1)) ln day).2.2 0 20)) hx hb hts inw_M hown hK hP 0 (by decide) SM_0 rfl 20 (by decide) (hts _ (al aF_M_156)) rfl d_M_reverse_190 ?_
                              refine w_topi (wI_toF.trans wF_s) ?_
                              exact W.iret (v := nI (ln + 1)) hx hb hr (fun tz hz9 hW9 => ⟨⟨nI (ln + 1), (y_reversed M ec (en m1) (rc (en m1)) ln day), rfl, Or.inr (Or.inr ⟨q3, m1, hm1, hm2, em1, Or.inr ⟨q4, q6, Or.inr ⟨rfl, rfl, q7⟩⟩⟩), by rw [hz9]; exact hP, va_K.moved hW9.alike hK⟩, hS.F hz9⟩) hS.2.2 d_M_reverse_193
                            · have hk9 : k < rc (en m1) := by have := i_nle (by omega) (by omega) c_15; omega
                              refine lv_aload_n hx hb d_M_reverse_141 rfl (lv_at hl 0 rfl) ?_
                              refine lv_iload hx hb d_M_reverse_142 (lv_at hl 4 rfl) ?_
                              refine lv_aload_n hx hb d_M_reverse_144 rfl (lv_at hl 0 rfl) ?_
                              refine w_get (C := R_M) (T := F_M) (N := 22) (ci := 5) (v := .ref (o + 13)) hx hb hts inw_M hown hK hP 0 (by decide) SM_0 rfl 16 (by decide) (hts _ (al aF_M_48)) rfl d_M_reverse_145 ?_
                              refine lv_iload hx hb d_M_reverse_148 (lv_at hl 5 rfl) ?_
                              refine w_iald hx hb hK hP 13 0 (by decide) SM_13 rfl (k := (6 * en m1 + k)) (by omega) (by decide) d_M_reverse_150 ?_
                              refine w_topi (((y_turn_s (M := y_opened (wF (wF M 0 0 0) 0 0 0) ec day) hne k (by omega)).2.2.2.1 k (by omega)).1) ?_
                              refine lv_aload_n hx hb d_M_reverse_151 rfl (lv_at hl 0 rfl) ?_
                              refine w_get (C := R_M) (T := F_M) (N := 22) (ci := 5) (v := .ref (o + 14)) hx hb hts inw_M hown hK hP 0 (by decide) SM_0 rfl 17 (by decide) (hts _ (al aF_M_51)) rfl d_M_reverse_152 ?_
                              refine lv_iload hx hb d_M_reverse_155 (lv_at hl 5 rfl) ?_
                              refine w_lald hx hb hK hP 14 1 (by decide) SM_14 rfl (k := (6 * en m1 + k)) (by omega) (by decide) d_M_reverse_157 ?_
                              refine w_topl (((y_turn_s (M := y_opened (wF (wF M 0 0 0) 0 0 0) ec day) hne k (by omega)).2.2.2.1 k (by omega)).2) ?_
                              refine lv_lneg hx hb d_M_reverse_158 ?_
                              refine w_Vv ⟨hx, hb, hml, hown, hts⟩ (k_M_addRow l D cA o _ (y_turn (y_opened (wF (wF M 0 0 0) 0 0 0) ec day) ec (en m1) k) ec q6 k (by omega) ((y_turn_s (M := y_opened (wF (wF M 0 0 0) 0 0 0) ec day) hne k (by omega)).2.2.2.2.2 hr0) ((y_opened (wF (wF M 0 0 0) 0 0 0) ec day).1 13 (6 * en m1 + k)) (-((y_opened (wF (wF M 0 0 0) 0 0 0) ec day).2.1 14 (6 * en m1 + k)))) (kV hts 3 aK_M_addRow aM_M_152 aI_M_addRow aV_M_addRow aN_M nm_M_addRow rfl rfl ⟨(Nat.le_of_ble_eq_true rfl), (Nat.le_of_ble_eq_true rfl)⟩) hK hP (by decide) SM_0 rfl rfl hl.1 rfl (Nat.le_of_ble_eq_true rfl) d_M_reverse_159 ⟨(Nat.le_of_ble_eq_true rfl), (Nat.le_of_ble_eq_true rfl)⟩ hS (fun q h => wA_le hS.1 h) (fun M_17 H locs hw_17 hP hzc hkc hS => ?_)
                              rw [hw_17] at hP
                              refine lv_iinc (v := nI ((6 * en m1 + k) + 1)) (lv' := [(5, .int (nI ((6 * en m1 + k) + 1))), (0, .ref (o + 0)), (1, .int x), (2, .int day), (3, .int (nI (en m1))), (4, .int (nI ec))]) hx hb d_M_reverse_162 hl (k := 5) rfl (w_inc (6 * en m1 + k)) (by decide) rfl (fun ls hl => ?_)
                              refine lv_goto (tgt := 125) hx hb d_M_reverse_165 (by decide) ?_
                              exact ih (k + 1) (by omega) hk9 _ _ hP hS ls (lv_sub hl [1, 2, 3, 4, 5, 0] rfl)
                        exact lp125 ((rc (en m1) - 0) + 1) 0 (Nat.lt_succ_self _) (Nat.zero_le _) _ _ hP hS ls (lv_sub hl [2, 3, 4, 5, 1, 0] rfl)
                      · have q7 : day / 30 ≤ M.2.2 0 21 := Int32.not_lt.mp c_13
                        refine lv_iconst (v := 0) hx hb d_M_reverse_110 (by decide) ?_
                        exact W.iret (v := 0) hx hb hr (fun tz hz9 hW9 => ⟨⟨0, (wF (wF M 0 0 0) 0 0 0), rfl, Or.inr (Or.inr ⟨q3, m1, hm1, hm2, em1, Or.inr ⟨q4, q6, Or.inl ⟨rfl, rfl, q7⟩⟩⟩), by rw [hz9]; exact hP, va_K.moved hW9.alike hK⟩, hS.F hz9⟩) hS.2.2 d_M_reverse_111
                  · have q5 : ¬ M.1 16 (en m1) = 0 ∨ ec = 60 := Or.inr ((nI_eq (b := 60) (by omega) (by omega)).mp c_11)
                    refine lv_iconst (v := 3) hx hb d_M_reverse_84 (by decide) ?_
                    refine lv_goto (tgt := 89) hx hb d_M_reverse_85 (by decide) ?_
                    refine w_put (C := R_M) (T := F_M) (N := 22) (ci := 5) (x := 3) hx hb hts inw_M ft_M ft_M_ok fn_M hown hK hP hW hS 0 (by decide) SM_0 rfl 0 (by decide) (hts _ (al aF_M_64)) rfl rfl rfl (Nat.le_of_ble_eq_true rfl) (by rw [wF_r]; exact SM_0.trans rfl) d_M_reverse_89 (fun H locs hP hS => ?_)
                    refine lv_aload_n hx hb d_M_reverse_92 rfl (lv_at hl 0 rfl) ?_
                    refine w_get (C := R_M) (T := F_M) (N := 22) (ci := 5) (v := .int 3) hx hb hts inw_M hown hK hP 0 (by decide) SM_0 rfl 0 (by decide) (hts _ (al aF_M_64)) rfl d_M_reverse_93 ?_
                    refine lv_if_gt (tgt := 110) hx hb d_M_reverse_96 (by decide) (fun c_18 => ?_) (fun c_18 => ?_)
                    · refine lv_iconst (v := 0) hx hb d_M_reverse_110 (by decide) ?_
                      exact W.iret (v := 0) hx hb hr (fun tz hz9 hW9 => ⟨⟨0, (wF (wF M 0 0 0) 0 0 3), rfl, Or.inr (Or.inr ⟨q3, m1, hm1, hm2, em1, Or.inl ⟨rfl, q5⟩⟩), by rw [hz9]; exact hP, va_K.moved hW9.alike hK⟩, hS.F hz9⟩) hS.2.2 d_M_reverse_111
                    · exact absurd (by decide) c_18
              · have hj9 : j < en m1 := Nat.lt_of_le_of_ne hj (fun h => c_8 (by rw [h]; exact hen1))
                refine lv_iinc (v := nI (j + 1)) (lv' := [(3, .int (nI (j + 1))), (0, .ref (o + 0)), (1, .int x), (2, .int day)]) hx hb d_M_reverse_59 hl (k := 3) rfl (w_inc j) (by decide) rfl (fun ls hl => ?_)
                refine lv_goto (tgt := 49) hx hb d_M_reverse_62 (by decide) ?_
                exact ih (j + 1) (by omega) hj9 _ _ hP hS ls (lv_sub hl [1, 2, 3, 0] rfl)
          exact lp49 ((en m1 - 0) + 1) 0 (Nat.lt_succ_self _) (Nat.zero_le _) _ _ hP hS ls (lv_sub hl [1, 2, 3, 0] rfl)
        · exact absurd (by decide) c_7
    · have q : x < 1 ∨ ¬ x ≤ nI ln := Or.inr c_3
      refine lv_iconst (v := 1) hx hb d_M_reverse_14 (by decide) ?_
      refine lv_goto (tgt := 35) hx hb d_M_reverse_15 (by decide) ?_
      refine w_put (C := R_M) (T := F_M) (N := 22) (ci := 5) (x := 1) hx hb hts inw_M ft_M ft_M_ok fn_M hown hK hP hW hS 0 (by decide) SM_0 rfl 0 (by decide) (hts _ (al aF_M_64)) rfl rfl rfl (Nat.le_of_ble_eq_true rfl) (by rw [wF_r]; exact SM_0.trans rfl) d_M_reverse_35 (fun H locs hP hS => ?_)
      refine lv_aload_n hx hb d_M_reverse_38 rfl (lv_at hl 0 rfl) ?_
      refine w_get (C := R_M) (T := F_M) (N := 22) (ci := 5) (v := .int 1) hx hb hts inw_M hown hK hP 0 (by decide) SM_0 rfl 0 (by decide) (hts _ (al aF_M_64)) rfl d_M_reverse_39 ?_
      refine lv_if_le (tgt := 47) hx hb d_M_reverse_42 (by decide) (fun c_19 => ?_) (fun c_19 => ?_)
      · exact absurd c_19 (by decide)
      · refine lv_iconst (v := 0) hx hb d_M_reverse_45 (by decide) ?_
        exact W.iret (v := 0) hx hb hr (fun tz hz9 hW9 => ⟨⟨0, (wF M 0 0 1), rfl, Or.inl ⟨rfl, q⟩, by rw [hz9]; exact hP, va_K.moved hW9.alike hK⟩, hS.F hz9⟩) hS.2.2 d_M_reverse_46

