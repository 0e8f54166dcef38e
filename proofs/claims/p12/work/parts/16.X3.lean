/-! conflicts, what came since, new sets -/
def x_cc (M : wM) (od : Nat → Nat) (z : Nat) : Nat → Nat
  | 0 => 0
  | i + 1 => if x_conf M od (nI i) z = true then x_cc M od z i + 1 else x_cc M od z i
theorem x_cc_t {M : wM} {od : Nat → Nat} {z i : Nat} (h : x_conf M od (nI i) z = true) : x_cc M od z (i + 1) = x_cc M od z i + 1 := by simp [x_cc, h]
theorem x_cc_f {M : wM} {od : Nat → Nat} {z i : Nat} (h : x_conf M od (nI i) z = false) : x_cc M od z (i + 1) = x_cc M od z i := by simp [x_cc, h]
theorem x_pl {a b : Nat} (ha : a < 2147483648) (hb : b < 2147483648) : (nI a).toInt64 + (nI b).toInt64 = lN (a + b) := by rw [nI_l ha, nI_l hb, lN_add]
theorem x_pli {a b : Nat} (ha : a < 2147483648) (hb : b < 2147483648) : ((nI a).toInt64 + (nI b).toInt64).toInt32 = nI (a + b) := by rw [x_pl ha hb, lN_i]
theorem x_pll {a b z : Nat} (ha : a < 2147483648) (hb : b < 2147483648) (hz : z < 2147483648) : (nI a).toInt64 + (nI b).toInt64 < (nI z).toInt64 ↔ a + b < z := by
  rw [x_pl ha hb, nI_l hz]; exact pk_lLT (by omega) (by omega)
theorem i_pred {p : Nat} (h : 0 < p) : nI p - 1 = nI (p - 1) := by
  obtain ⟨q, rfl⟩ : ∃ q, p = q + 1 := ⟨p - 1, by omega⟩
  exact nI_pred q
theorem i_dec {p : Nat} (h : 0 < p) : nI p + Int32.ofInt (-1) = nI (p - 1) := by
  obtain ⟨q, rfl⟩ : ∃ q, p = q + 1 := ⟨p - 1, by omega⟩
  exact pk_m1 q
def x_place (nu : Nat → Int64) (od : Nat → Nat) (t : Nat) : Nat → Nat
  | 0 => 0
  | p + 1 => if nu t < nu (od p) then x_place nu od t p else p + 1
def x_oins (od : Nat → Nat) (pl t : Nat) : Nat → Nat := fun j => if j < pl then od j else if j = pl then t else od (j - 1)
theorem x_place_le {nu : Nat → Int64} {od : Nat → Nat} {t : Nat} (z : Nat) : x_place nu od t z ≤ z := by
  induction z with
  | zero => exact Nat.le_refl 0
  | succ z ih => unfold x_place; split <;> omega
theorem x_place_s {nu : Nat → Int64} {od : Nat → Nat} {t p : Nat} (h0 : 0 < p) (h : nu t < nu (od (p - 1))) : x_place nu od t (p - 1) = x_place nu od t p := by
  obtain ⟨q, rfl⟩ : ∃ q, p = q + 1 := ⟨p - 1, by omega⟩
  have h' : nu t < nu (od q) := h
  rw [x_place, if_pos h']; rfl
theorem x_place_e {nu : Nat → Int64} {od : Nat → Nat} {t p : Nat} (h0 : 0 < p) (h : ¬ nu t < nu (od (p - 1))) : x_place nu od t p = p := by
  obtain ⟨q, rfl⟩ : ∃ q, p = q + 1 := ⟨p - 1, by omega⟩
  have h' : ¬ nu t < nu (od q) := h
  rw [x_place, if_neg h']
/-- what is changed by an insertion into set si -/
def xInsd (M M1 : wM) (si z t : Nat) (od : Nat → Nat) : Prop := (∀ a, a ≠ 9 + 3 * si + 1 → a ≠ 9 + 3 * si + 2 → M1.1 a = M.1 a) ∧ M1.2.1 = M.2.1 ∧ M1.2.2 = up2 M.2.2 (9 + 3 * si) 3 (nI (z + 1)) ∧ (∀ b, M1.1 (9 + 3 * si + 2) b = if b = t then 1 else M.1 (9 + 3 * si + 2) b) ∧ ∀ j, j < z + 1 → M1.1 (9 + 3 * si + 1) j = nI (x_oins od (x_place (M.2.1 3) od t z) t j)
theorem x_ins_end {M N : wM} {si z t p : Nat} {od : Nat → Nat} (hp : p ≤ z) (h1 : ∀ a, a ≠ 9 + 3 * si + 1 → N.1 a = M.1 a) (h2 : N.2.1 = M.2.1) (h3 : N.2.2 = M.2.2) (h4 : ∀ j, j < p → N.1 (9 + 3 * si + 1) j = nI (od j)) (h5 : ∀ j, p < j → j < z + 1 → N.1 (9 + 3 * si + 1) j = nI (od (j - 1))) (hpl : x_place (M.2.1 3) od t p = x_place (M.2.1 3) od t z) (he : x_place (M.2.1 3) od t p = p) :
    xInsd M (wF (wI (wI N (9 + 3 * si + 1) p (nI t)) (9 + 3 * si + 2) t 1) (9 + 3 * si) 3 (nI (z + 1))) si z t od := by
  refine ⟨fun a ha1 ha2 => ?_, h2, ?_, fun b => ?_, fun j hj => ?_⟩
  · exact (up2_o _ _ _ _ ha2).trans ((up2_o _ _ _ _ ha1).trans (h1 a ha1))
  · show up2 N.2.2 _ _ _ = _; rw [h3]
  · show up2 (up2 N.1 (9 + 3 * si + 1) p (nI t)) (9 + 3 * si + 2) t 1 (9 + 3 * si + 2) b = _
    rw [up2_r, up2_o _ _ _ _ (by omega), h1 _ (by omega)]
  · show up2 (up2 N.1 (9 + 3 * si + 1) p (nI t)) (9 + 3 * si + 2) t 1 (9 + 3 * si + 1) j = _
    rw [up2_o _ _ _ _ (by omega), up2_r, ← hpl, he]
    unfold x_oins
    show (if j = p then nI t else N.1 (9 + 3 * si + 1) j) = _
    by_cases e : j = p
    · subst e; simp
    · rw [if_neg e]
      by_cases e2 : j < p
      · rw [if_pos e2, h4 j e2]
      · rw [if_neg e2, if_neg e, h5 j (by omega) hj]
/-- all tellings of one teller among the first k, by their numbers -/
def x_tk (te : Nat → Int32) (nu : Nat → Int64) (tl : Int32) : Nat → (Nat → Nat) × Nat
  | 0 => (fun _ => 0, 0)
  | k + 1 => if te k = tl then (x_oins (x_tk te nu tl k).1 (x_place nu (x_tk te nu tl k).1 k (x_tk te nu tl k).2) k, (x_tk te nu tl k).2 + 1) else x_tk te nu tl k
theorem x_tk_t {te : Nat → Int32} {nu : Nat → Int64} {tl : Int32} {k : Nat} (h : te k = tl) : x_tk te nu tl (k + 1) = (x_oins (x_tk te nu tl k).1 (x_place nu (x_tk te nu tl k).1 k (x_tk te nu tl k).2) k, (x_tk te nu tl k).2 + 1) := by simp [x_tk, h]
theorem x_tk_f {te : Nat → Int32} {nu : Nat → Int64} {tl : Int32} {k : Nat} (h : ¬ te k = tl) : x_tk te nu tl (k + 1) = x_tk te nu tl k := by simp [x_tk, h]
theorem x_tk_lt {te : Nat → Int32} {nu : Nat → Int64} {tl : Int32} (k : Nat) : (x_tk te nu tl k).2 ≤ k ∧ ∀ j, j < (x_tk te nu tl k).2 → (x_tk te nu tl k).1 j < k := by
  induction k with
  | zero => exact ⟨Nat.le_refl 0, fun j h => absurd h (Nat.not_lt_zero _)⟩
  | succ k ih =>
    by_cases e : te k = tl
    · rw [x_tk_t e]
      refine ⟨Nat.succ_le_succ ih.1, fun j hj => ?_⟩
      have hj' : j < (x_tk te nu tl k).2 + 1 := hj
      have hp := x_place_le (nu := nu) (od := (x_tk te nu tl k).1) (t := k) (x_tk te nu tl k).2
      show x_oins _ _ _ j < k + 1
      unfold x_oins
      split
      · have := ih.2 j (by omega); omega
      · split
        · omega
        · have := ih.2 (j - 1) (by omega); omega
    · rw [x_tk_f e]
      exact ⟨by omega, fun j hj => by have := ih.2 j hj; omega⟩
/-- set si of M1 has what x_tk says of the first k tellings; all else is M's -/
def xTaken (M M1 : wM) (si : Nat) (tl : Int32) (k : Nat) : Prop := (∀ a, a ≠ 9 + 3 * si + 1 → a ≠ 9 + 3 * si + 2 → M1.1 a = M.1 a) ∧ M1.2.1 = M.2.1 ∧ M1.2.2 = up2 M.2.2 (9 + 3 * si) 3 (nI (x_tk (M.1 2) (M.2.1 3) tl k).2) ∧ (∀ b, M1.1 (9 + 3 * si + 2) b = if b < k ∧ M.1 2 b = tl then 1 else M.1 (9 + 3 * si + 2) b) ∧ ∀ j, j < (x_tk (M.1 2) (M.2.1 3) tl k).2 → M1.1 (9 + 3 * si + 1) j = nI ((x_tk (M.1 2) (M.2.1 3) tl k).1 j)
theorem xTaken_0 {M : wM} {si : Nat} {tl : Int32} (h : M.2.2 (9 + 3 * si) 3 = nI 0) : xTaken M M si tl 0 := by
  refine ⟨fun _ _ _ => rfl, rfl, ?_, fun b => by simp, fun j hj => absurd hj (Nat.not_lt_zero _)⟩
  funext a b
  by_cases e : a = 9 + 3 * si
  · by_cases e2 : b = 3
    · subst e; subst e2; exact h.trans (up2_s _ _ _ _).symm
    · exact (up2_k _ _ _ _ e2).symm
  · exact (congrFun (up2_o _ _ _ _ e) b).symm
theorem xTaken_f {M N : wM} {si k : Nat} {tl : Int32} (h : xTaken M N si tl k) (e : ¬ M.1 2 k = tl) : xTaken M N si tl (k + 1) := by
  obtain ⟨h1, h2, h3, h4, h5⟩ := h
  refine ⟨h1, h2, by rw [x_tk_f e]; exact h3, fun b => ?_, by rw [x_tk_f e]; exact h5⟩
  rw [h4 b]
  by_cases q : b = k
  · subst q; simp [e]
  · have : (b < k + 1) ↔ (b < k) := by omega
    simp only [this]
theorem up2_up2 {α : Type} (f : Nat → Nat → α) (i k : Nat) (x y : α) : up2 (up2 f i k x) i k y = up2 f i k y := by
  funext a b; simp only [up2]; split <;> (try split) <;> rfl
theorem xTaken_t {M N N1 : wM} {si k : Nat} {tl : Int32} (hs : si < 8) (h : xTaken M N si tl k) (e : M.1 2 k = tl) (hI : xInsd N N1 si (x_tk (M.1 2) (M.2.1 3) tl k).2 k (x_tk (M.1 2) (M.2.1 3) tl k).1) : xTaken M N1 si tl (k + 1) := by
  obtain ⟨h1, h2, h3, h4, h5⟩ := h
  obtain ⟨i1, i2, i3, i4, i5⟩ := hI
  refine ⟨fun a a1 a2 => (i1 a a1 a2).trans (h1 a a1 a2), i2.trans h2, ?_, fun b => ?_, ?_⟩
  · rw [i3, h3, up2_up2, x_tk_t e]
  · rw [i4 b, h4 b]
    by_cases q : b = k
    · subst q; simp [e]
    · have : (b < k + 1) ↔ (b < k) := by omega
      rw [if_neg q]; simp only [this]
  · rw [x_tk_t e]
    intro j hj
    have := i5 j hj
    rw [h2] at this
    exact this
set_option maxHeartbeats 4000000 in
set_option maxRecDepth 100000 in
/-- X_conflict -/
theorem k_X_conflict (l : Launch) (hl9 : l.stackTraces = false) (D : va_G) (cA : Nat → ClassId) (o sz : Nat) (M : wM) (sc : Nat) (hsc : sc ≤ 8) (esc : M.2.2 0 2 = nI sc) (z : Nat → Nat) (od : Nat → Nat → Nat) (hse : xSets M z od) (x kk : Int32) : vx_Met l y_X_conflict (wm y_X_conflict c_X_conflict 5 (some .int)) { frames := 7, cells := 2, slots := 12, locals := 103 } (va_Pc [.ref (o + 0), .int x, .int kk] (xBx D cA o M sz)) (va_Qi (fun r M1 => M1 = M ∧ ¬ kk < 0 ∧ ∃ k, k < sc ∧ x = nI k ∧ ((∃ i, i < 10 ∧ x_conf M (od k) (nI i) (z k) = true ∧ nI (x_cc M (od k) (z k) i) = kk ∧ r = nI i) ∨ ((∀ i, i < 10 → x_conf M (od k) (nI i) (z k) = true → ¬ nI (x_cc M (od k) (z k) i) = kk) ∧ r = -1))) (xQ D cA o) (xA o sz)) (xE D cA o M sz (fun E => (E = "java/lang/IndexOutOfBoundsException" ∧ xbad x (nI sc)) ∨ (E = "java/lang/IllegalArgumentException" ∧ xin x (nI sc) ∧ kk < 0))) 2 12 (xA o sz) := by
  refine vx_ofW (cc := c_X_conflict) (maxL := 5) (ret := (some .int)) (by decide) rfl ?_
  intro p e s m args below meth c s₁ B hml hex hv
  obtain ⟨rfl, ⟨hsz, hP, hK⟩, hG⟩ := hv
  have hx := B.exec
  have hb := B.bytes
  have hr := B.returns
  have hts := atoms_spec (ws := wm y_X_conflict c_X_conflict 5 (some .int)) B.pre
  have hown : s.vm.findClass "ShopDesks" = some m.cls := findClass_of_methodNamed B.named
  have hlocks := B.notSynchronized
  subst hsz
  have hout : ∀ pc, ∀ x ∈ c.exceptionTable.toList, covers x pc = false := fun pc x hx => (hex x hx).elim
  have hS : va_S (xA o s.heap.size) s.heap s.heap [] := va_S.rf
  have hW : ∀ i, i < 217 → xA o s.heap.size (o + i) := fun i hi => wA_in hi
  have hl := lv_entry ([.ref (o + 0), .int x, .int kk]) (n := 5) (Nat.le_of_ble_eq_true rfl)
  rw [lg_entry_eq]
  generalize (lg_sl ([.ref (o + 0), .int x, .int kk]) ++ List.replicate (5 - (lg_sl ([.ref (o + 0), .int x, .int kk])).length) Slot.unset).toArray = ls at hl ⊢
  have hl : lv_has ls 5 [(0, .ref (o + 0)), (1, .int x), (2, .int kk)] := hl
  refine lv_aload_n hx hb d_X_conflict_0 rfl (lv_at hl 0 rfl) ?_
  refine lv_iload_n hx hb d_X_conflict_1 rfl (lv_at hl 1 rfl) ?_
  refine x_Vv ⟨hx, hb, hml, hown, hts⟩ (k_X_needSet l hl9 D cA o _ M x) (kV hts 1 aK_X_needSet aM_X_73 aI_X_needSet aV_X_needSet aN_X nm_X_needSet rfl rfl ⟨(Nat.le_of_ble_eq_true rfl), (Nat.le_of_ble_eq_true rfl)⟩) hK hP hG hS (by decide) SX_0 rfl rfl hl.1 rfl (Nat.le_of_ble_eq_true rfl) d_X_conflict_2 ⟨(Nat.le_of_ble_eq_true rfl), (Nat.le_of_ble_eq_true rfl)⟩ (hout _) hlocks (fun E h => Or.inl ⟨h.1, by rw [← esc]; exact h.2⟩) (Nat.le_of_ble_eq_true rfl) (Nat.le_of_ble_eq_true rfl) (fun M_1 H locs g1 hP hS => ?_)
  rw [g1.1] at hP
  obtain ⟨k1, hk1, ek1⟩ := x_idx g1.2.1 (by rw [← esc]; exact g1.2.2) (by omega)
  have hk18 : k1 < 8 := by omega
  refine lv_iload_n hx hb d_X_conflict_5 rfl (lv_at hl 2 rfl) ?_
  refine lv_if_ge (tgt := 19) hx hb d_X_conflict_6 (by decide) (fun c_2 => ?_) (fun c_2 => ?_)
  · have q : ¬ kk < 0 := Int32.not_lt.mpr c_2
    refine lv_iconst (v := 0) hx hb d_X_conflict_19 (by decide) ?_
    refine lv_istore_n (lv' := [(3, .int 0), (0, .ref (o + 0)), (1, .int x), (2, .int kk)]) hx hb d_X_conflict_20 rfl hl (by decide) rfl (fun ls hl => ?_)
    refine lv_iconst (v := 0) hx hb d_X_conflict_21 (by decide) ?_
    refine lv_istore (lv' := [(4, .int 0), (3, .int 0), (0, .ref (o + 0)), (1, .int x), (2, .int kk)]) hx hb d_X_conflict_22 hl (by decide) rfl (fun ls hl => ?_)
    have lp24 : ∀ (fuel : Nat) (i : Nat) (bf : Nat), 10 - i < fuel → (i ≤ 10) → (bf = x_cc M (od k1) (z k1) i) → (∀ j, j < i → x_conf M (od k1) (nI j) (z k1) = true → ¬ nI (x_cc M (od k1) (z k1) j) = kk) → ∀ (H : Heap) (locs : List Loc), wP D cls_ (SX o cA) o 217 M H → va_S (xA o s.heap.size) s.heap H locs → ∀ (ls : Array Slot), lv_has ls 5 [(0, .ref (o + 0)), (1, .int x), (2, .int kk), (3, .int (nI bf)), (4, .int (nI i))] → W p l e (headSpec (wm y_X_conflict c_X_conflict 5 (some .int)) { frames := 7, cells := 2, slots := 12, locals := 103 }).room s m ([.ref (o + 0), .int x, .int kk] : List Value).toArray below meth c H locs 1 6 (vx_MQ below (va_Qi (fun r M1 => M1 = M ∧ ¬ kk < 0 ∧ ∃ k, k < sc ∧ x = nI k ∧ ((∃ i, i < 10 ∧ x_conf M (od k) (nI i) (z k) = true ∧ nI (x_cc M (od k) (z k) i) = kk ∧ r = nI i) ∨ ((∀ i, i < 10 → x_conf M (od k) (nI i) (z k) = true → ¬ nI (x_cc M (od k) (z k) i) = kk) ∧ r = -1))) (xQ D cA o) (xA o s.heap.size)) (xE D cA o M s.heap.size (fun E => (E = "java/lang/IndexOutOfBoundsException" ∧ xbad x (nI sc)) ∨ (E = "java/lang/IllegalArgumentException" ∧ xin x (nI sc) ∧ kk < 0))) ([.ref (o + 0), .int x, .int kk] : List Value).toArray s 2 12 (xA o s.heap.size)) (F0 m 24 ls []) := by
      intro fuel
      induction fuel with
      | zero => intro i bf hfu; exact absurd hfu (Nat.not_lt_zero _)
      | succ fuel ih =>
        intro i bf hfu hi hbf hno H locs hP hS ls hl
        refine lv_iload hx hb d_X_conflict_24 (lv_at hl 4 rfl) ?_
        refine lv_bipush (v := 10) hx hb d_X_conflict_26 (by decide) ?_
        refine lv_icmp_ge (tgt := 62) hx hb d_X_conflict_28 (by decide) (fun c_3 => ?_) (fun c_3 => ?_)
        · have hi9 : 10 ≤ i := i_le (a := 10) (by omega) (by omega) c_3
          refine lv_iconst (v := -1) hx hb d_X_conflict_62 (by decide) ?_
          refine vx_ret ?_
          refine W.widen (k := 2) (n := 12) (Nat.le_of_ble_eq_true rfl) (Nat.le_of_ble_eq_true rfl) ?_
          exact W.iret (v := (-1)) hx hb hr (fun tz hz9 hW9 => ⟨⟨(-1), M, rfl, ⟨rfl, q, k1, hk1, ek1, Or.inr ⟨fun j hj => hno j (by omega), rfl⟩⟩, by rw [hz9]; exact hP, va_K.moved hW9.alike hK⟩, hS.F hz9⟩) hS.2.2 d_X_conflict_63
        · have hi9 : i < 10 := i_nle (a := 10) (by omega) (by omega) c_3
          refine lv_aload_n hx hb d_X_conflict_31 rfl (lv_at hl 0 rfl) ?_
          refine w_get (C := R_X) (T := F_X) (N := 5) (ci := 4) (v := .ref (o + 8)) hx hb hts inw_X hown hK hP 0 (by decide) SX_0 rfl 1 (by decide) (hts _ (al aF_X_18)) rfl d_X_conflict_32 ?_
          refine lv_iload_n hx hb d_X_conflict_35 rfl (lv_at hl 1 rfl) ?_
          refine w_topi ek1 ?_
          refine w_aald hx hb hK hP 8 3 (by decide) SX_8 rfl (k := k1) (by omega) (by decide) (if_pos (by omega)) d_X_conflict_36 ?_
          refine lv_iload hx hb d_X_conflict_37 (lv_at hl 4 rfl) ?_
          refine w_Vi ⟨hx, hb, hml, hown, hts⟩ (k_S_isInConflict l D cA o _ M k1 hk18 (od k1) (z k1) (hse k1 hk18).1 (hse k1 hk18).2.1 (hse k1 hk18).2.2 (nI i)) (kV hts 1 aK_S_isInConflict aM_X_96 aI_S_isInConflict aV_S_isInConflict aN_S nm_S_isInConflict rfl rfl ⟨(Nat.le_of_ble_eq_true rfl), (Nat.le_of_ble_eq_true rfl)⟩) hK hP (by omega) (SX_s hk18) rfl rfl hl.1 rfl (Nat.le_of_ble_eq_true rfl) d_X_conflict_39 ⟨(Nat.le_of_ble_eq_true rfl), (Nat.le_of_ble_eq_true rfl)⟩ hS (fun q h => wA_le hS.1 h) (fun r_4 M_4 H locs hw_4 hP hzc hkc hS => ?_)
          rw [hw_4.1] at hP
          refine w_topi hw_4.2 ?_
          refine lv_if_eq (tgt := 56) hx hb d_X_conflict_42 (by decide) (fun c_5 => ?_) (fun c_5 => ?_)
          · have hh := b2i_0 c_5
            refine lv_iinc (v := nI (i + 1)) (lv' := [(4, .int (nI (i + 1))), (0, .ref (o + 0)), (1, .int x), (2, .int kk), (3, .int (nI bf))]) hx hb d_X_conflict_56 hl (k := 4) rfl (w_inc i) (by decide) rfl (fun ls hl => ?_)
            refine lv_goto (tgt := 24) hx hb d_X_conflict_59 (by decide) ?_
            exact ih (i + 1) bf (by omega) hi9 (by rw [x_cc_f hh]; exact hbf) (lt_s hno (fun h => by rw [hh] at h; cases h)) _ _ hP hS ls (lv_sub hl [1, 2, 3, 4, 0] rfl)
          · have hh := b2i_1 c_5
            refine lv_iload_n hx hb d_X_conflict_45 rfl (lv_at hl 3 rfl) ?_
            refine lv_iload_n hx hb d_X_conflict_46 rfl (lv_at hl 2 rfl) ?_
            refine lv_icmp_ne (tgt := 53) hx hb d_X_conflict_47 (by decide) (fun c_6 => ?_) (fun c_6 => ?_)
            · have q2 := c_6
              refine lv_iinc (v := nI (bf + 1)) (lv' := [(3, .int (nI (bf + 1))), (0, .ref (o + 0)), (1, .int x), (2, .int kk), (4, .int (nI i))]) hx hb d_X_conflict_53 hl (k := 3) rfl (w_inc bf) (by decide) rfl (fun ls hl => ?_)
              refine lv_iinc (v := nI (i + 1)) (lv' := [(4, .int (nI (i + 1))), (3, .int (nI (bf + 1))), (0, .ref (o + 0)), (1, .int x), (2, .int kk)]) hx hb d_X_conflict_56 hl (k := 4) rfl (w_inc i) (by decide) rfl (fun ls hl => ?_)
              refine lv_goto (tgt := 24) hx hb d_X_conflict_59 (by decide) ?_
              exact ih (i + 1) (bf + 1) (by omega) hi9 (by rw [x_cc_t hh, hbf]) (lt_s hno (fun _ => by rw [← hbf]; exact q2)) _ _ hP hS ls (lv_sub hl [2, 3, 4, 1, 0] rfl)
            · have q2 := c_6
              refine lv_iload hx hb d_X_conflict_50 (lv_at hl 4 rfl) ?_
              refine vx_ret ?_
              refine W.widen (k := 2) (n := 12) (Nat.le_of_ble_eq_true rfl) (Nat.le_of_ble_eq_true rfl) ?_
              exact W.iret (v := nI i) hx hb hr (fun tz hz9 hW9 => ⟨⟨nI i, M, rfl, ⟨rfl, q, k1, hk1, ek1, Or.inl ⟨i, hi9, hh, by rw [← hbf]; exact q2, rfl⟩⟩, by rw [hz9]; exact hP, va_K.moved hW9.alike hK⟩, hS.F hz9⟩) hS.2.2 d_X_conflict_52
    exact lp24 ((10 - 0) + 1) 0 0 (Nat.lt_succ_self _) (Nat.zero_le _) rfl (fun j h => absurd h (Nat.not_lt_zero _)) _ _ hP hS ls (lv_sub hl [2, 3, 4, 1, 0] rfl)
  · have q : kk < 0 := Int32.not_le.mp c_2
    obtain ⟨sa, hsa⟩ := hG.2.2.1 (93, "k is below 0") (by decide)
    exact x_throwS (cls := "java/lang/IllegalArgumentException") hx hb hl9 hown (hts _ (al aC_X_91)) (hts _ (al aN_IllegalArgumentException)) hsa (hat_X_95 hts hG) hot_X_95 (by decide) hG hK hP hS (hl.1.trans hml.symm) d_X_conflict_9 d_X_conflict_12 d_X_conflict_13 d_X_conflict_15 d_X_conflict_18 (hout _) (Nat.le_of_ble_eq_true rfl) (Nat.le_of_ble_eq_true rfl) (Nat.le_of_ble_eq_true rfl) (Nat.le_of_ble_eq_true rfl) hlocks (Or.inr ⟨rfl, by rw [← esc]; exact g1.2, q⟩) (Nat.le_of_ble_eq_true rfl) (Nat.le_of_ble_eq_true rfl)
set_option maxHeartbeats 4000000 in
set_option maxRecDepth 100000 in
/-- X_since -/
theorem k_X_since (l : Launch) (hl9 : l.stackTraces = false) (D : va_G) (cA : Nat → ClassId) (o sz : Nat) (M : wM) (sc : Nat) (hsc : sc ≤ 8) (esc : M.2.2 0 2 = nI sc) (z : Nat → Nat) (od : Nat → Nat → Nat) (hse : xSets M z od) (x mk kk wh : Int32) : vx_Met l y_X_since (wm y_X_since c_X_since 8 (some .long)) { frames := 7, cells := 2, slots := 12, locals := 103 } (va_Pc [.ref (o + 0), .int x, .int mk, .int kk, .int wh] (xBx D cA o M sz)) (va_Ql (fun r M1 => M1 = M ∧ ∃ k a b, k < sc ∧ x = nI k ∧ mk = nI a ∧ kk = nI b ∧ a < 2147483648 ∧ b < 2147483648 ∧ a + b < z k ∧ ¬ wh < 0 ∧ wh ≤ 2 ∧ r = (if wh = 0 then (M.1 2 (od k (a + b))).toInt64 else if wh = 1 then M.2.1 3 (od k (a + b)) else M.2.1 6 (od k (a + b)))) (xQ D cA o) (xA o sz)) (xE D cA o M sz (fun E => (E = "java/lang/IndexOutOfBoundsException" ∧ (xbad x (nI sc) ∨ ∃ k, k < sc ∧ x = nI k ∧ ¬ mk.toInt64 + kk.toInt64 < (nI (z k)).toInt64)) ∨ (E = "java/lang/IllegalArgumentException" ∧ ∃ k, k < sc ∧ x = nI k ∧ mk.toInt64 + kk.toInt64 < (nI (z k)).toInt64 ∧ (mk < 0 ∨ kk < 0 ∨ wh < 0 ∨ ¬ wh ≤ 2)))) 2 12 (xA o sz) := by
  refine vx_ofW (cc := c_X_since) (maxL := 8) (ret := (some .long)) (by decide) rfl ?_
  intro p e s m args below meth c s₁ B hml hex hv
  obtain ⟨rfl, ⟨hsz, hP, hK⟩, hG⟩ := hv
  have hx := B.exec
  have hb := B.bytes
  have hr := B.returns
  have hts := atoms_spec (ws := wm y_X_since c_X_since 8 (some .long)) B.pre
  have hown : s.vm.findClass "ShopDesks" = some m.cls := findClass_of_methodNamed B.named
  have hlocks := B.notSynchronized
  subst hsz
  have hout : ∀ pc, ∀ x ∈ c.exceptionTable.toList, covers x pc = false := fun pc x hx => (hex x hx).elim
  have hS : va_S (xA o s.heap.size) s.heap s.heap [] := va_S.rf
  have hW : ∀ i, i < 217 → xA o s.heap.size (o + i) := fun i hi => wA_in hi
  have hl := lv_entry ([.ref (o + 0), .int x, .int mk, .int kk, .int wh]) (n := 8) (Nat.le_of_ble_eq_true rfl)
  rw [lg_entry_eq]
  generalize (lg_sl ([.ref (o + 0), .int x, .int mk, .int kk, .int wh]) ++ List.replicate (8 - (lg_sl ([.ref (o + 0), .int x, .int mk, .int kk, .int wh])).length) Slot.unset).toArray = ls at hl ⊢
  have hl : lv_has ls 8 [(0, .ref (o + 0)), (1, .int x), (2, .int mk), (3, .int kk), (4, .int wh)] := hl
  refine lv_aload_n hx hb d_X_since_0 rfl (lv_at hl 0 rfl) ?_
  refine lv_iload_n hx hb d_X_since_1 rfl (lv_at hl 1 rfl) ?_
  refine x_Vv ⟨hx, hb, hml, hown, hts⟩ (k_X_needSet l hl9 D cA o _ M x) (kV hts 1 aK_X_needSet aM_X_73 aI_X_needSet aV_X_needSet aN_X nm_X_needSet rfl rfl ⟨(Nat.le_of_ble_eq_true rfl), (Nat.le_of_ble_eq_true rfl)⟩) hK hP hG hS (by decide) SX_0 rfl rfl hl.1 rfl (Nat.le_of_ble_eq_true rfl) d_X_since_2 ⟨(Nat.le_of_ble_eq_true rfl), (Nat.le_of_ble_eq_true rfl)⟩ (hout _) hlocks (fun E h => Or.inl ⟨h.1, Or.inl (by rw [← esc]; exact h.2)⟩) (Nat.le_of_ble_eq_true rfl) (Nat.le_of_ble_eq_true rfl) (fun M_1 H locs g1 hP hS => ?_)
  rw [g1.1] at hP
  obtain ⟨k1, hk1, ek1⟩ := x_idx g1.2.1 (by rw [← esc]; exact g1.2.2) (by omega)
  have hk18 : k1 < 8 := by omega
  refine lv_iload_n hx hb d_X_since_5 rfl (lv_at hl 2 rfl) ?_
  refine lv_i2l hx hb d_X_since_6 rfl ?_
  refine lv_iload_n hx hb d_X_since_7 rfl (lv_at hl 3 rfl) ?_
  refine lv_i2l hx hb d_X_since_8 rfl ?_
  refine lv_ladd hx hb d_X_since_9 ?_
  refine lv_lstore (lv' := [(5, .long (mk.toInt64 + kk.toInt64)), (0, .ref (o + 0)), (1, .int x), (2, .int mk), (3, .int kk), (4, .int wh)]) hx hb d_X_since_10 hl (by decide) rfl (fun ls hl => ?_)
  refine lv_lload hx hb d_X_since_12 (lv_at hl 0 rfl) ?_
  refine lv_aload_n hx hb d_X_since_14 rfl (lv_at hl 1 rfl) ?_
  refine w_get (C := R_X) (T := F_X) (N := 5) (ci := 4) (v := .ref (o + 8)) hx hb hts inw_X hown hK hP 0 (by decide) SX_0 rfl 1 (by decide) (hts _ (al aF_X_18)) rfl d_X_since_15 ?_
  refine lv_iload_n hx hb d_X_since_18 rfl (lv_at hl 2 rfl) ?_
  refine w_topi ek1 ?_
  refine w_aald hx hb hK hP 8 3 (by decide) SX_8 rfl (k := k1) (by omega) (by decide) (if_pos (by omega)) d_X_since_19 ?_
  refine w_get (C := R_S) (T := F_S) (N := 5) (ci := 2) (v := .int (M.2.2 (9 + 3 * k1) 3)) hx hb hts inw_S hown hK hP (9 + 3 * k1) (by omega) (SX_s hk18) rfl 3 (by decide) (hts _ (al aF_X_84)) rfl d_X_since_20 ?_
  refine w_topi ((hse k1 hk18).2.1) ?_
  refine lv_i2l hx hb d_X_since_23 rfl ?_
  refine W.lcmp hx hb d_X_since_24 ?_
  refine lv_if_lt (tgt := 38) hx hb d_X_since_25 (by decide) (fun c_2 => ?_) (fun c_2 => ?_)
  · rw [lg_cmp_lt] at c_2
    have q1 := c_2
    refine lv_iload_n hx hb d_X_since_38 rfl (lv_at hl 3 rfl) ?_
    refine lv_if_lt (tgt := 46) hx hb d_X_since_39 (by decide) (fun c_3 => ?_) (fun c_3 => ?_)
    · have qa : mk < 0 ∨ kk < 0 ∨ wh < 0 ∨ ¬ wh ≤ 2 := Or.inl c_3
      obtain ⟨sa, hsa⟩ := hG.2.2.1 (105, "mark or k is below 0") (by decide)
      exact x_throwS (cls := "java/lang/IllegalArgumentException") hx hb hl9 hown (hts _ (al aC_X_91)) (hts _ (al aN_IllegalArgumentException)) hsa (hat_X_95 hts hG) hot_X_95 (by decide) hG hK hP hS (hl.1.trans hml.symm) d_X_since_46 d_X_since_49 d_X_since_50 d_X_since_52 d_X_since_55 (hout _) (Nat.le_of_ble_eq_true rfl) (Nat.le_of_ble_eq_true rfl) (Nat.le_of_ble_eq_true rfl) (Nat.le_of_ble_eq_true rfl) hlocks (Or.inr ⟨rfl, k1, hk1, ek1, q1, qa⟩) (Nat.le_of_ble_eq_true rfl) (Nat.le_of_ble_eq_true rfl)
    · have q2 := c_3
      refine lv_iload_n hx hb d_X_since_42 rfl (lv_at hl 4 rfl) ?_
      refine lv_if_ge (tgt := 56) hx hb d_X_since_43 (by decide) (fun c_4 => ?_) (fun c_4 => ?_)
      · have q3 : ¬ kk < 0 := Int32.not_lt.mpr c_4
        refine lv_iload hx hb d_X_since_56 (lv_at hl 5 rfl) ?_
        refine lv_if_lt (tgt := 67) hx hb d_X_since_58 (by decide) (fun c_5 => ?_) (fun c_5 => ?_)
        · have qa : mk < 0 ∨ kk < 0 ∨ wh < 0 ∨ ¬ wh ≤ 2 := Or.inr (Or.inr (Or.inl c_5))
          obtain ⟨sa, hsa⟩ := hG.2.2.1 (107, "what is not 0, 1 or 2") (by decide)
          exact x_throwS (cls := "java/lang/IllegalArgumentException") hx hb hl9 hown (hts _ (al aC_X_91)) (hts _ (al aN_IllegalArgumentException)) hsa (hat_X_95 hts hG) hot_X_95 (by decide) hG hK hP hS (hl.1.trans hml.symm) d_X_since_67 d_X_since_70 d_X_since_71 d_X_since_73 d_X_since_76 (hout _) (Nat.le_of_ble_eq_true rfl) (Nat.le_of_ble_eq_true rfl) (Nat.le_of_ble_eq_true rfl) (Nat.le_of_ble_eq_true rfl) hlocks (Or.inr ⟨rfl, k1, hk1, ek1, q1, qa⟩) (Nat.le_of_ble_eq_true rfl) (Nat.le_of_ble_eq_true rfl)
        · have q4 := c_5
          refine lv_iload hx hb d_X_since_61 (lv_at hl 5 rfl) ?_
          refine lv_iconst (v := 2) hx hb d_X_since_63 (by decide) ?_
          refine lv_icmp_le (tgt := 77) hx hb d_X_since_64 (by decide) (fun c_6 => ?_) (fun c_6 => ?_)
          · have q5 := c_6
            obtain ⟨a1, ha1, ea1⟩ := nI_of q2
            obtain ⟨b1, hb1, eb1⟩ := nI_of q3
            have hz9 := (hse k1 hk18).1
            have hsum : a1 + b1 < z k1 := by rw [ea1, eb1] at q1; exact (x_pll ha1 hb1 (by omega)).mp q1
            have hpl : (mk.toInt64 + kk.toInt64).toInt32 = nI (a1 + b1) := by rw [ea1, eb1]; exact x_pli ha1 hb1
            refine lv_aload_n hx hb d_X_since_77 rfl (lv_at hl 1 rfl) ?_
            refine w_get (C := R_X) (T := F_X) (N := 5) (ci := 4) (v := .ref (o + 8)) hx hb hts inw_X hown hK hP 0 (by decide) SX_0 rfl 1 (by decide) (hts _ (al aF_X_18)) rfl d_X_since_78 ?_
            refine lv_iload_n hx hb d_X_since_81 rfl (lv_at hl 2 rfl) ?_
            refine w_topi ek1 ?_
            refine w_aald hx hb hK hP 8 3 (by decide) SX_8 rfl (k := k1) (by omega) (by decide) (if_pos (by omega)) d_X_since_82 ?_
            refine w_get (C := R_S) (T := F_S) (N := 5) (ci := 2) (v := .ref (o + (9 + 3 * k1 + 1))) hx hb hts inw_S hown hK hP (9 + 3 * k1) (by omega) (SX_s hk18) rfl 1 (by decide) (hts _ (al aF_X_109)) rfl d_X_since_83 ?_
            refine lv_lload hx hb d_X_since_86 (lv_at hl 0 rfl) ?_
            refine lv_l2i hx hb d_X_since_88 rfl ?_
            refine w_topi hpl ?_
            refine w_iald hx hb hK hP (9 + 3 * k1 + 1) 0 (by omega) (SX_so hk18) rfl (k := (a1 + b1)) (by have := (hse k1 hk18).1; omega) (by decide) d_X_since_89 ?_
            refine w_topi (((hse k1 hk18).2.2 (a1 + b1) hsum).1) ?_
            refine lv_istore (lv' := [(7, .int (nI (od k1 (a1 + b1)))), (5, .long (mk.toInt64 + kk.toInt64)), (0, .ref (o + 0)), (1, .int x), (2, .int mk), (3, .int kk), (4, .int wh)]) hx hb d_X_since_90 hl (by decide) rfl (fun ls hl => ?_)
            refine lv_iload hx hb d_X_since_92 (lv_at hl 6 rfl) ?_
            refine lv_if_ne (tgt := 109) hx hb d_X_since_94 (by decide) (fun c_7 => ?_) (fun c_7 => ?_)
            · have q6 := c_7
              refine lv_iload hx hb d_X_since_109 (lv_at hl 6 rfl) ?_
              refine lv_iconst (v := 1) hx hb d_X_since_111 (by decide) ?_
              refine lv_icmp_ne (tgt := 128) hx hb d_X_since_112 (by decide) (fun c_8 => ?_) (fun c_8 => ?_)
              · have q7 := c_8
                refine lv_aload_n hx hb d_X_since_128 rfl (lv_at hl 2 rfl) ?_
                refine w_get (C := R_X) (T := F_X) (N := 5) (ci := 4) (v := .ref (o + 1)) hx hb hts inw_X hown hK hP 0 (by decide) SX_0 rfl 0 (by decide) (hts _ (al aF_X_12)) rfl d_X_since_129 ?_
                refine w_get (C := R_T) (T := F_T) (N := 7) (ci := 3) (v := .ref (o + 6)) hx hb hts inw_T hown hK hP 1 (by decide) SX_1 rfl 4 (by decide) (hts _ (al aF_X_120)) rfl d_X_since_132 ?_
                refine lv_iload hx hb d_X_since_135 (lv_at hl 0 rfl) ?_
                refine w_lald hx hb hK hP 6 1 (by decide) SX_6 rfl (k := (od k1 (a1 + b1))) (((hse k1 hk18).2.2 (a1 + b1) hsum).2) (by decide) d_X_since_137 ?_
                refine vx_ret ?_
                refine W.widen (k := 2) (n := 12) (Nat.le_of_ble_eq_true rfl) (Nat.le_of_ble_eq_true rfl) ?_
                exact W.lret (v := M.2.1 6 (od k1 (a1 + b1))) hx hb hr (fun tz hz9 hW9 => ⟨⟨M.2.1 6 (od k1 (a1 + b1)), M, rfl, ⟨rfl, k1, a1, b1, hk1, ek1, ea1, eb1, ha1, hb1, hsum, q4, q5, by rw [if_neg q6, if_neg q7]⟩, by rw [hz9]; exact hP, va_K.moved hW9.alike hK⟩, hS.F hz9⟩) hS.2.2 d_X_since_138
              · have q7 := c_8
                refine lv_aload_n hx hb d_X_since_115 rfl (lv_at hl 2 rfl) ?_
                refine w_get (C := R_X) (T := F_X) (N := 5) (ci := 4) (v := .ref (o + 1)) hx hb hts inw_X hown hK hP 0 (by decide) SX_0 rfl 0 (by decide) (hts _ (al aF_X_12)) rfl d_X_since_116 ?_
                refine w_get (C := R_T) (T := F_T) (N := 7) (ci := 3) (v := .ref (o + 3)) hx hb hts inw_T hown hK hP 1 (by decide) SX_1 rfl 1 (by decide) (hts _ (al aF_X_116)) rfl d_X_since_119 ?_
                refine lv_iload hx hb d_X_since_122 (lv_at hl 0 rfl) ?_
                refine w_lald hx hb hK hP 3 1 (by decide) SX_3 rfl (k := (od k1 (a1 + b1))) (((hse k1 hk18).2.2 (a1 + b1) hsum).2) (by decide) d_X_since_124 ?_
                refine lv_goto (tgt := 138) hx hb d_X_since_125 (by decide) ?_
                refine vx_ret ?_
                refine W.widen (k := 2) (n := 12) (Nat.le_of_ble_eq_true rfl) (Nat.le_of_ble_eq_true rfl) ?_
                exact W.lret (v := M.2.1 3 (od k1 (a1 + b1))) hx hb hr (fun tz hz9 hW9 => ⟨⟨M.2.1 3 (od k1 (a1 + b1)), M, rfl, ⟨rfl, k1, a1, b1, hk1, ek1, ea1, eb1, ha1, hb1, hsum, q4, q5, by rw [if_neg q6, if_pos q7]⟩, by rw [hz9]; exact hP, va_K.moved hW9.alike hK⟩, hS.F hz9⟩) hS.2.2 d_X_since_138
            · have q6 := c_7
              refine lv_aload_n hx hb d_X_since_97 rfl (lv_at hl 2 rfl) ?_
              refine w_get (C := R_X) (T := F_X) (N := 5) (ci := 4) (v := .ref (o + 1)) hx hb hts inw_X hown hK hP 0 (by decide) SX_0 rfl 0 (by decide) (hts _ (al aF_X_12)) rfl d_X_since_98 ?_
              refine w_get (C := R_T) (T := F_T) (N := 7) (ci := 3) (v := .ref (o + 2)) hx hb hts inw_T hown hK hP 1 (by decide) SX_1 rfl 0 (by decide) (hts _ (al aF_X_113)) rfl d_X_since_101 ?_
              refine lv_iload hx hb d_X_since_104 (lv_at hl 0 rfl) ?_
              refine w_iald hx hb hK hP 2 0 (by decide) SX_2 rfl (k := (od k1 (a1 + b1))) (((hse k1 hk18).2.2 (a1 + b1) hsum).2) (by decide) d_X_since_106 ?_
              refine lv_i2l hx hb d_X_since_107 rfl ?_
              refine vx_ret ?_
              refine W.widen (k := 2) (n := 12) (Nat.le_of_ble_eq_true rfl) (Nat.le_of_ble_eq_true rfl) ?_
              exact W.lret (v := (M.1 2 (od k1 (a1 + b1))).toInt64) hx hb hr (fun tz hz9 hW9 => ⟨⟨(M.1 2 (od k1 (a1 + b1))).toInt64, M, rfl, ⟨rfl, k1, a1, b1, hk1, ek1, ea1, eb1, ha1, hb1, hsum, q4, q5, by rw [if_pos q6]⟩, by rw [hz9]; exact hP, va_K.moved hW9.alike hK⟩, hS.F hz9⟩) hS.2.2 d_X_since_108
          · have qa : mk < 0 ∨ kk < 0 ∨ wh < 0 ∨ ¬ wh ≤ 2 := Or.inr (Or.inr (Or.inr c_6))
            obtain ⟨sa, hsa⟩ := hG.2.2.1 (107, "what is not 0, 1 or 2") (by decide)
            exact x_throwS (cls := "java/lang/IllegalArgumentException") hx hb hl9 hown (hts _ (al aC_X_91)) (hts _ (al aN_IllegalArgumentException)) hsa (hat_X_95 hts hG) hot_X_95 (by decide) hG hK hP hS (hl.1.trans hml.symm) d_X_since_67 d_X_since_70 d_X_since_71 d_X_since_73 d_X_since_76 (hout _) (Nat.le_of_ble_eq_true rfl) (Nat.le_of_ble_eq_true rfl) (Nat.le_of_ble_eq_true rfl) (Nat.le_of_ble_eq_true rfl) hlocks (Or.inr ⟨rfl, k1, hk1, ek1, q1, qa⟩) (Nat.le_of_ble_eq_true rfl) (Nat.le_of_ble_eq_true rfl)
      · have qa : mk < 0 ∨ kk < 0 ∨ wh < 0 ∨ ¬ wh ≤ 2 := Or.inr (Or.inl (Int32.not_le.mp c_4))
        obtain ⟨sa, hsa⟩ := hG.2.2.1 (105, "mark or k is below 0") (by decide)
        exact x_throwS (cls := "java/lang/IllegalArgumentException") hx hb hl9 hown (hts _ (al aC_X_91)) (hts _ (al aN_IllegalArgumentException)) hsa (hat_X_95 hts hG) hot_X_95 (by decide) hG hK hP hS (hl.1.trans hml.symm) d_X_since_46 d_X_since_49 d_X_since_50 d_X_since_52 d_X_since_55 (hout _) (Nat.le_of_ble_eq_true rfl) (Nat.le_of_ble_eq_true rfl) (Nat.le_of_ble_eq_true rfl) (Nat.le_of_ble_eq_true rfl) hlocks (Or.inr ⟨rfl, k1, hk1, ek1, q1, qa⟩) (Nat.le_of_ble_eq_true rfl) (Nat.le_of_ble_eq_true rfl)
  · rw [lg_cmp_lt] at c_2
    have q1 := c_2
    obtain ⟨sa, hsa⟩ := hG.2.2.1 (102, "there are not so many tellings") (by decide)
    exact x_throwS (cls := "java/lang/IndexOutOfBoundsException") hx hb hl9 hown (hts _ (al aC_X_100)) (hts _ (al aN_IndexOutOfBoundsException)) hsa (hat_X_104 hts hG) hot_X_104 (by decide) hG hK hP hS (hl.1.trans hml.symm) d_X_since_28 d_X_since_31 d_X_since_32 d_X_since_34 d_X_since_37 (hout _) (Nat.le_of_ble_eq_true rfl) (Nat.le_of_ble_eq_true rfl) (Nat.le_of_ble_eq_true rfl) (Nat.le_of_ble_eq_true rfl) hlocks (Or.inl ⟨rfl, Or.inr ⟨k1, hk1, ek1, q1⟩⟩) (Nat.le_of_ble_eq_true rfl) (Nat.le_of_ble_eq_true rfl)
set_option maxHeartbeats 4000000 in
set_option maxRecDepth 100000 in
/-- S_insertByNumber -/
theorem k_S_insertByNumber (l : Launch) (D : va_G) (cA : Nat → ClassId) (o sz : Nat) (M : wM) (si : Nat) (hs : si < 8) (od : Nat → Nat) (z : Nat) (hz : z < 300) (ez : M.2.2 (9 + 3 * si) 3 = nI z) (hod : ∀ j, j < z → M.1 (9 + 3 * si + 1) j = nI (od j) ∧ od j < 300) (t : Nat) (ht3 : t < 300) : Met l y_S_insertByNumber (wm y_S_insertByNumber c_S_insertByNumber 3 (none)) { frames := 0, cells := 0, slots := 0, locals := 0 } (va_Pc [.ref (o + (9 + 3 * si)), .int (nI t)] (xB D cA o M sz)) (va_Qv (fun M1 => xInsd M M1 si z t od) (xQ D cA o) (xA o sz)) 0 0 (xA o sz) := by
  refine Met.ofW (cc := c_S_insertByNumber) (maxL := 3) (ret := (none)) (by decide) rfl ?_
  intro p e s m args below meth c s₁ B hml hv
  obtain ⟨rfl, hsz, hP, hK⟩ := hv
  have hx := B.exec
  have hb := B.bytes
  have hr := B.returns
  have hts := atoms_spec (ws := wm y_S_insertByNumber c_S_insertByNumber 3 (none)) B.pre
  have hown : s.vm.findClass "ShopDesks$TellingSet" = some m.cls := findClass_of_methodNamed B.named
  have hlocks := B.notSynchronized
  subst hsz
  have hS : va_S (xA o s.heap.size) s.heap s.heap [] := va_S.rf
  have hW : ∀ i, i < 217 → xA o s.heap.size (o + i) := fun i hi => wA_in hi
  have hl := lv_entry ([.ref (o + (9 + 3 * si)), .int (nI t)]) (n := 3) (Nat.le_of_ble_eq_true rfl)
  rw [lg_entry_eq]
  generalize (lg_sl ([.ref (o + (9 + 3 * si)), .int (nI t)]) ++ List.replicate (3 - (lg_sl ([.ref (o + (9 + 3 * si)), .int (nI t)])).length) Slot.unset).toArray = ls at hl ⊢
  have hl : lv_has ls 3 [(0, .ref (o + (9 + 3 * si))), (1, .int (nI t))] := hl
  refine lv_aload_n hx hb d_S_insertByNumber_0 rfl (lv_at hl 0 rfl) ?_
  refine w_get (C := R_S) (T := F_S) (N := 5) (ci := 2) (v := .int (M.2.2 (9 + 3 * si) 3)) hx hb hts inw_S hown hK hP (9 + 3 * si) (by omega) (SX_s hs) rfl 3 (by decide) (hts _ (al aF_S_19)) rfl d_S_insertByNumber_1 ?_
  refine w_topi ez ?_
  refine lv_istore_n (lv' := [(2, .int (nI z)), (0, .ref (o + (9 + 3 * si))), (1, .int (nI t))]) hx hb d_S_insertByNumber_4 rfl hl (by decide) rfl (fun ls hl => ?_)
  have lp5 : ∀ (fuel : Nat) (pp : Nat) (N : wM), pp < fuel → (pp ≤ z) → (∀ a, a ≠ 9 + 3 * si + 1 → N.1 a = M.1 a) → (N.2.1 = M.2.1) → (N.2.2 = M.2.2) → (∀ j, j < pp → N.1 (9 + 3 * si + 1) j = nI (od j)) → (∀ j, pp < j → j < z + 1 → N.1 (9 + 3 * si + 1) j = nI (od (j - 1))) → (x_place (M.2.1 3) od t pp = x_place (M.2.1 3) od t z) → ∀ (H : Heap) (locs : List Loc), wP D cls_ (SX o cA) o 217 N H → va_S (xA o s.heap.size) s.heap H locs → ∀ (ls : Array Slot), lv_has ls 3 [(0, .ref (o + (9 + 3 * si))), (1, .int (nI t)), (2, .int (nI pp))] → W p l e (headSpec (wm y_S_insertByNumber c_S_insertByNumber 3 (none)) { frames := 0, cells := 0, slots := 0, locals := 0 }).room s m ([.ref (o + (9 + 3 * si)), .int (nI t)] : List Value).toArray below meth c H locs 0 0 (MQ below (va_Qv (fun M1 => xInsd M M1 si z t od) (xQ D cA o) (xA o s.heap.size)) ([.ref (o + (9 + 3 * si)), .int (nI t)] : List Value).toArray s 0 0 (xA o s.heap.size)) (F0 m 5 ls []) := by
    intro fuel
    induction fuel with
    | zero => intro pp N hfu; exact absurd hfu (Nat.not_lt_zero _)
    | succ fuel ih =>
      intro pp N hfu hpz hN1 hN2 hN3 hN4 hN5 hN6 H locs hP hS ls hl
      refine lv_iload_n hx hb d_S_insertByNumber_5 rfl (lv_at hl 2 rfl) ?_
      refine lv_if_le (tgt := 58) hx hb d_S_insertByNumber_6 (by decide) (fun c_1 => ?_) (fun c_1 => ?_)
      · have hp0 : pp = 0 := i_le0 (by omega) c_1
        have he : x_place (M.2.1 3) od t pp = pp := by rw [hp0]; rfl
        refine lv_aload_n hx hb d_S_insertByNumber_58 rfl (lv_at hl 0 rfl) ?_
        refine w_get (C := R_S) (T := F_S) (N := 5) (ci := 2) (v := .ref (o + (9 + 3 * si + 1))) hx hb hts inw_S hown hK hP (9 + 3 * si) (by omega) (SX_s hs) rfl 1 (by decide) (hts _ (al aF_S_9)) rfl d_S_insertByNumber_59 ?_
        refine lv_iload_n hx hb d_S_insertByNumber_62 rfl (lv_at hl 2 rfl) ?_
        refine lv_iload_n hx hb d_S_insertByNumber_63 rfl (lv_at hl 1 rfl) ?_
        refine w_iast hx hb hK hP hW hS (9 + 3 * si + 1) 0 (by omega) (fun _ => (SX_so hs)) rfl (k := pp) (by omega) (by decide) d_S_insertByNumber_64 (fun H locs hP hS => ?_)
        refine lv_aload_n hx hb d_S_insertByNumber_65 rfl (lv_at hl 0 rfl) ?_
        refine w_get (C := R_S) (T := F_S) (N := 5) (ci := 2) (v := .ref (o + (9 + 3 * si + 2))) hx hb hts inw_S hown hK hP (9 + 3 * si) (by omega) (SX_s hs) rfl 2 (by decide) (hts _ (al aF_S_15)) rfl d_S_insertByNumber_66 ?_
        refine lv_iload_n hx hb d_S_insertByNumber_69 rfl (lv_at hl 1 rfl) ?_
        refine lv_iconst (v := 1) hx hb d_S_insertByNumber_70 (by decide) ?_
        refine w_zast hx hb hK hP hW hS (9 + 3 * si + 2) 2 (by omega) (fun _ => (SX_si hs)) rfl (by decide) (k := t) (by omega) (by decide) d_S_insertByNumber_71 (fun H locs hP hS => ?_)
        refine lv_aload_n hx hb d_S_insertByNumber_72 rfl (lv_at hl 0 rfl) ?_
        refine lv_dup hx hb d_S_insertByNumber_73 rfl ?_
        refine w_get (C := R_S) (T := F_S) (N := 5) (ci := 2) (v := .int (N.2.2 (9 + 3 * si) 3)) hx hb hts inw_S hown hK hP (9 + 3 * si) (by omega) (SX_s hs) rfl 3 (by decide) (hts _ (al aF_S_19)) rfl d_S_insertByNumber_74 ?_
        refine w_topi ((congrFun (congrFun hN3 _) _).trans ez) ?_
        refine lv_iconst (v := 1) hx hb d_S_insertByNumber_77 (by decide) ?_
        refine lv_iadd hx hb d_S_insertByNumber_78 ?_
        refine w_topi ((nI_succ z).symm) ?_
        refine w_put (C := R_S) (T := F_S) (N := 5) (ci := 2) (x := nI (z + 1)) hx hb hts inw_S ft_S ft_S_ok fn_S hown hK hP hW hS (9 + 3 * si) (by omega) (SX_s hs) rfl 3 (by decide) (hts _ (al aF_S_19)) rfl rfl rfl (Nat.le_of_ble_eq_true rfl) (by rw [wF_r]; exact (SX_s hs).trans rfl) d_S_insertByNumber_79 (fun H locs hP hS => ?_)
        exact W.vret hx hb hr (fun tz hz9 hW9 => ⟨⟨(wF (wI (wI N (9 + 3 * si + 1) pp (nI t)) (9 + 3 * si + 2) t 1) (9 + 3 * si) 3 (nI (z + 1))), rfl, x_ins_end hpz hN1 hN2 hN3 hN4 hN5 hN6 he, by rw [hz9]; exact hP, va_K.moved hW9.alike hK⟩, hS.F hz9⟩) hS.2.2 d_S_insertByNumber_82
      · have hp0 : 0 < pp := i_nle0 c_1
        refine lv_aload_n hx hb d_S_insertByNumber_9 rfl (lv_at hl 0 rfl) ?_
        refine w_get (C := R_S) (T := F_S) (N := 5) (ci := 2) (v := .ref (o + 1)) hx hb hts inw_S hown hK hP (9 + 3 * si) (by omega) (SX_s hs) rfl 0 (by decide) (hts _ (al aF_S_26)) rfl d_S_insertByNumber_10 ?_
        refine w_get (C := R_T) (T := F_T) (N := 7) (ci := 3) (v := .ref (o + 3)) hx hb hts inw_T hown hK hP 1 (by decide) SX_1 rfl 1 (by decide) (hts _ (al aF_S_42)) rfl d_S_insertByNumber_13 ?_
        refine lv_aload_n hx hb d_S_insertByNumber_16 rfl (lv_at hl 0 rfl) ?_
        refine w_get (C := R_S) (T := F_S) (N := 5) (ci := 2) (v := .ref (o + (9 + 3 * si + 1))) hx hb hts inw_S hown hK hP (9 + 3 * si) (by omega) (SX_s hs) rfl 1 (by decide) (hts _ (al aF_S_9)) rfl d_S_insertByNumber_17 ?_
        refine lv_iload_n hx hb d_S_insertByNumber_20 rfl (lv_at hl 2 rfl) ?_
        refine lv_iconst (v := 1) hx hb d_S_insertByNumber_21 (by decide) ?_
        refine lv_isub hx hb d_S_insertByNumber_22 ?_
        refine w_topi (i_pred hp0) ?_
        refine w_iald hx hb hK hP (9 + 3 * si + 1) 0 (by omega) (SX_so hs) rfl (k := (pp - 1)) (by omega) (by decide) d_S_insertByNumber_23 ?_
        refine w_topi (hN4 (pp - 1) (by omega)) ?_
        refine w_lald hx hb hK hP 3 1 (by decide) SX_3 rfl (k := (od (pp - 1))) ((hod (pp - 1) (by omega)).2) (by decide) d_S_insertByNumber_24 ?_
        refine lv_aload_n hx hb d_S_insertByNumber_25 rfl (lv_at hl 0 rfl) ?_
        refine w_get (C := R_S) (T := F_S) (N := 5) (ci := 2) (v := .ref (o + 1)) hx hb hts inw_S hown hK hP (9 + 3 * si) (by omega) (SX_s hs) rfl 0 (by decide) (hts _ (al aF_S_26)) rfl d_S_insertByNumber_26 ?_
        refine w_get (C := R_T) (T := F_T) (N := 7) (ci := 3) (v := .ref (o + 3)) hx hb hts inw_T hown hK hP 1 (by decide) SX_1 rfl 1 (by decide) (hts _ (al aF_S_42)) rfl d_S_insertByNumber_29 ?_
        refine lv_iload_n hx hb d_S_insertByNumber_32 rfl (lv_at hl 1 rfl) ?_
        refine w_lald hx hb hK hP 3 1 (by decide) SX_3 rfl (k := t) (by omega) (by decide) d_S_insertByNumber_33 ?_
        refine W.lcmp hx hb d_S_insertByNumber_34 ?_
        refine lv_if_le (tgt := 58) hx hb d_S_insertByNumber_35 (by decide) (fun c_2 => ?_) (fun c_2 => ?_)
        · rw [lg_cmp_le] at c_2
          have he : x_place (M.2.1 3) od t pp = pp := x_place_e hp0 (by rw [hN2] at c_2; exact Int64.not_lt.mpr c_2)
          refine lv_aload_n hx hb d_S_insertByNumber_58 rfl (lv_at hl 0 rfl) ?_
          refine w_get (C := R_S) (T := F_S) (N := 5) (ci := 2) (v := .ref (o + (9 + 3 * si + 1))) hx hb hts inw_S hown hK hP (9 + 3 * si) (by omega) (SX_s hs) rfl 1 (by decide) (hts _ (al aF_S_9)) rfl d_S_insertByNumber_59 ?_
          refine lv_iload_n hx hb d_S_insertByNumber_62 rfl (lv_at hl 2 rfl) ?_
          refine lv_iload_n hx hb d_S_insertByNumber_63 rfl (lv_at hl 1 rfl) ?_
          refine w_iast hx hb hK hP hW hS (9 + 3 * si + 1) 0 (by omega) (fun _ => (SX_so hs)) rfl (k := pp) (by omega) (by decide) d_S_insertByNumber_64 (fun H locs hP hS => ?_)
          refine lv_aload_n hx hb d_S_insertByNumber_65 rfl (lv_at hl 0 rfl) ?_
          refine w_get (C := R_S) (T := F_S) (N := 5) (ci := 2) (v := .ref (o + (9 + 3 * si + 2))) hx hb hts inw_S hown hK hP (9 + 3 * si) (by omega) (SX_s hs) rfl 2 (by decide) (hts _ (al aF_S_15)) rfl d_S_insertByNumber_66 ?_
          refine lv_iload_n hx hb d_S_insertByNumber_69 rfl (lv_at hl 1 rfl) ?_
          refine lv_iconst (v := 1) hx hb d_S_insertByNumber_70 (by decide) ?_
          refine w_zast hx hb hK hP hW hS (9 + 3 * si + 2) 2 (by omega) (fun _ => (SX_si hs)) rfl (by decide) (k := t) (by omega) (by decide) d_S_insertByNumber_71 (fun H locs hP hS => ?_)
          refine lv_aload_n hx hb d_S_insertByNumber_72 rfl (lv_at hl 0 rfl) ?_
          refine lv_dup hx hb d_S_insertByNumber_73 rfl ?_
          refine w_get (C := R_S) (T := F_S) (N := 5) (ci := 2) (v := .int (N.2.2 (9 + 3 * si) 3)) hx hb hts inw_S hown hK hP (9 + 3 * si) (by omega) (SX_s hs) rfl 3 (by decide) (hts _ (al aF_S_19)) rfl d_S_insertByNumber_74 ?_
          refine w_topi ((congrFun (congrFun hN3 _) _).trans ez) ?_
          refine lv_iconst (v := 1) hx hb d_S_insertByNumber_77 (by decide) ?_
          refine lv_iadd hx hb d_S_insertByNumber_78 ?_
          refine w_topi ((nI_succ z).symm) ?_
          refine w_put (C := R_S) (T := F_S) (N := 5) (ci := 2) (x := nI (z + 1)) hx hb hts inw_S ft_S ft_S_ok fn_S hown hK hP hW hS (9 + 3 * si) (by omega) (SX_s hs) rfl 3 (by decide) (hts _ (al aF_S_19)) rfl rfl rfl (Nat.le_of_ble_eq_true rfl) (by rw [wF_r]; exact (SX_s hs).trans rfl) d_S_insertByNumber_79 (fun H locs hP hS => ?_)
          exact W.vret hx hb hr (fun tz hz9 hW9 => ⟨⟨(wF (wI (wI N (9 + 3 * si + 1) pp (nI t)) (9 + 3 * si + 2) t 1) (9 + 3 * si) 3 (nI (z + 1))), rfl, x_ins_end hpz hN1 hN2 hN3 hN4 hN5 hN6 he, by rw [hz9]; exact hP, va_K.moved hW9.alike hK⟩, hS.F hz9⟩) hS.2.2 d_S_insertByNumber_82
        · rw [lg_cmp_le] at c_2
          have hgt : M.2.1 3 t < M.2.1 3 (od (pp - 1)) := by rw [hN2] at c_2; exact Int64.not_le.mp c_2
          refine lv_aload_n hx hb d_S_insertByNumber_38 rfl (lv_at hl 0 rfl) ?_
          refine w_get (C := R_S) (T := F_S) (N := 5) (ci := 2) (v := .ref (o + (9 + 3 * si + 1))) hx hb hts inw_S hown hK hP (9 + 3 * si) (by omega) (SX_s hs) rfl 1 (by decide) (hts _ (al aF_S_9)) rfl d_S_insertByNumber_39 ?_
          refine lv_iload_n hx hb d_S_insertByNumber_42 rfl (lv_at hl 2 rfl) ?_
          refine lv_aload_n hx hb d_S_insertByNumber_43 rfl (lv_at hl 0 rfl) ?_
          refine w_get (C := R_S) (T := F_S) (N := 5) (ci := 2) (v := .ref (o + (9 + 3 * si + 1))) hx hb hts inw_S hown hK hP (9 + 3 * si) (by omega) (SX_s hs) rfl 1 (by decide) (hts _ (al aF_S_9)) rfl d_S_insertByNumber_44 ?_
          refine lv_iload_n hx hb d_S_insertByNumber_47 rfl (lv_at hl 2 rfl) ?_
          refine lv_iconst (v := 1) hx hb d_S_insertByNumber_48 (by decide) ?_
          refine lv_isub hx hb d_S_insertByNumber_49 ?_
          refine w_topi (i_pred hp0) ?_
          refine w_iald hx hb hK hP (9 + 3 * si + 1) 0 (by omega) (SX_so hs) rfl (k := (pp - 1)) (by omega) (by decide) d_S_insertByNumber_50 ?_
          refine w_topi (hN4 (pp - 1) (by omega)) ?_
          refine w_iast hx hb hK hP hW hS (9 + 3 * si + 1) 0 (by omega) (fun _ => (SX_so hs)) rfl (k := pp) (by omega) (by decide) d_S_insertByNumber_51 (fun H locs hP hS => ?_)
          refine lv_iinc (v := nI (pp - 1)) (lv' := [(2, .int (nI (pp - 1))), (0, .ref (o + (9 + 3 * si))), (1, .int (nI t))]) hx hb d_S_insertByNumber_52 hl (k := 2) rfl (i_dec hp0) (by decide) rfl (fun ls hl => ?_)
          refine lv_goto (tgt := 5) hx hb d_S_insertByNumber_55 (by decide) ?_
          exact ih (pp - 1) (wI N (9 + 3 * si + 1) pp (nI (od (pp - 1)))) (by omega) (by omega) (fun a h => (up2_o _ _ _ _ h).trans (hN1 a h)) hN2 hN3 (fun j h => (wI_k (by omega)).trans (hN4 j (by omega))) (fun j h1 h2 => by by_cases e : j = pp; (subst e; exact wI_s); exact (wI_k e).trans (hN5 j (by omega) h2)) ((x_place_s hp0 hgt).trans hN6) _ _ hP hS ls (lv_sub hl [1, 2, 0] rfl)
  exact lp5 ((z) + 1) z M (Nat.lt_succ_self _) (Nat.le_refl z) (fun _ _ => rfl) rfl rfl (fun j h => (hod j h).1) (fun j h1 h2 => absurd h1 (by omega)) rfl _ _ hP hS ls (lv_sub hl [1, 2, 0] rfl)
set_option maxHeartbeats 4000000 in
set_option maxRecDepth 100000 in
/-- S_takeAllOf -/
theorem k_S_takeAllOf (l : Launch) (D : va_G) (cA : Nat → ClassId) (o sz : Nat) (M : wM) (si : Nat) (hs : si < 8) (n : Nat) (hn : n ≤ 300) (en : M.2.2 1 6 = nI n) (e0 : M.2.2 (9 + 3 * si) 3 = nI 0) (tl : Int32) : Met l y_S_takeAllOf (wm y_S_takeAllOf c_S_takeAllOf 3 (none)) { frames := 1, cells := 0, slots := 0, locals := 22 } (va_Pc [.ref (o + (9 + 3 * si)), .int tl] (xB D cA o M sz)) (va_Qv (fun M1 => xTaken M M1 si tl n) (xQ D cA o) (xA o sz)) 0 0 (xA o sz) := by
  refine Met.ofW (cc := c_S_takeAllOf) (maxL := 3) (ret := (none)) (by decide) rfl ?_
  intro p e s m args below meth c s₁ B hml hv
  obtain ⟨rfl, hsz, hP, hK⟩ := hv
  have hx := B.exec
  have hb := B.bytes
  have hr := B.returns
  have hts := atoms_spec (ws := wm y_S_takeAllOf c_S_takeAllOf 3 (none)) B.pre
  have hown : s.vm.findClass "ShopDesks$TellingSet" = some m.cls := findClass_of_methodNamed B.named
  have hlocks := B.notSynchronized
  subst hsz
  have hS : va_S (xA o s.heap.size) s.heap s.heap [] := va_S.rf
  have hW : ∀ i, i < 217 → xA o s.heap.size (o + i) := fun i hi => wA_in hi
  have hl := lv_entry ([.ref (o + (9 + 3 * si)), .int tl]) (n := 3) (Nat.le_of_ble_eq_true rfl)
  rw [lg_entry_eq]
  generalize (lg_sl ([.ref (o + (9 + 3 * si)), .int tl]) ++ List.replicate (3 - (lg_sl ([.ref (o + (9 + 3 * si)), .int tl])).length) Slot.unset).toArray = ls at hl ⊢
  have hl : lv_has ls 3 [(0, .ref (o + (9 + 3 * si))), (1, .int tl)] := hl
  refine lv_iconst (v := 0) hx hb d_S_takeAllOf_0 (by decide) ?_
  refine lv_istore_n (lv' := [(2, .int 0), (0, .ref (o + (9 + 3 * si))), (1, .int tl)]) hx hb d_S_takeAllOf_1 rfl hl (by decide) rfl (fun ls hl => ?_)
  have lp2 : ∀ (fuel : Nat) (k : Nat) (N : wM), n - k < fuel → (k ≤ n) → (xTaken M N si tl k) → ∀ (H : Heap) (locs : List Loc), wP D cls_ (SX o cA) o 217 N H → va_S (xA o s.heap.size) s.heap H locs → ∀ (ls : Array Slot), lv_has ls 3 [(0, .ref (o + (9 + 3 * si))), (1, .int tl), (2, .int (nI k))] → W p l e (headSpec (wm y_S_takeAllOf c_S_takeAllOf 3 (none)) { frames := 1, cells := 0, slots := 0, locals := 22 }).room s m ([.ref (o + (9 + 3 * si)), .int tl] : List Value).toArray below meth c H locs 0 0 (MQ below (va_Qv (fun M1 => xTaken M M1 si tl n) (xQ D cA o) (xA o s.heap.size)) ([.ref (o + (9 + 3 * si)), .int tl] : List Value).toArray s 0 0 (xA o s.heap.size)) (F0 m 2 ls []) := by
    intro fuel
    induction fuel with
    | zero => intro k N hfu; exact absurd hfu (Nat.not_lt_zero _)
    | succ fuel ih =>
      intro k N hfu hk hT H locs hP hS ls hl
      refine lv_iload_n hx hb d_S_takeAllOf_2 rfl (lv_at hl 2 rfl) ?_
      refine lv_aload_n hx hb d_S_takeAllOf_3 rfl (lv_at hl 0 rfl) ?_
      refine w_get (C := R_S) (T := F_S) (N := 5) (ci := 2) (v := .ref (o + 1)) hx hb hts inw_S hown hK hP (9 + 3 * si) (by omega) (SX_s hs) rfl 0 (by decide) (hts _ (al aF_S_26)) rfl d_S_takeAllOf_4 ?_
      refine w_get (C := R_T) (T := F_T) (N := 7) (ci := 3) (v := .int (N.2.2 1 6)) hx hb hts inw_T hown hK hP 1 (by decide) SX_1 rfl 6 (by decide) (hts _ (al aF_S_30)) rfl d_S_takeAllOf_7 ?_
      refine w_topi ((congrFun (congrFun hT.2.2.1 1) 6).trans ((congrFun (up2_o _ _ _ _ (by omega)) 6).trans en)) ?_
      refine lv_icmp_ge (tgt := 37) hx hb d_S_takeAllOf_10 (by decide) (fun c_1 => ?_) (fun c_1 => ?_)
      · have hkn : n ≤ k := i_le (by omega) (by omega) c_1
        exact W.vret hx hb hr (fun tz hz9 hW9 => ⟨⟨N, rfl, by rw [show n = k by omega]; exact hT, by rw [hz9]; exact hP, va_K.moved hW9.alike hK⟩, hS.F hz9⟩) hS.2.2 d_S_takeAllOf_37
      · have hkn : k < n := i_nle (by omega) (by omega) c_1
        refine lv_aload_n hx hb d_S_takeAllOf_13 rfl (lv_at hl 0 rfl) ?_
        refine w_get (C := R_S) (T := F_S) (N := 5) (ci := 2) (v := .ref (o + 1)) hx hb hts inw_S hown hK hP (9 + 3 * si) (by omega) (SX_s hs) rfl 0 (by decide) (hts _ (al aF_S_26)) rfl d_S_takeAllOf_14 ?_
        refine w_get (C := R_T) (T := F_T) (N := 7) (ci := 3) (v := .ref (o + 2)) hx hb hts inw_T hown hK hP 1 (by decide) SX_1 rfl 0 (by decide) (hts _ (al aF_S_35)) rfl d_S_takeAllOf_17 ?_
        refine lv_iload_n hx hb d_S_takeAllOf_20 rfl (lv_at hl 2 rfl) ?_
        refine w_iald hx hb hK hP 2 0 (by decide) SX_2 rfl (k := k) (by omega) (by decide) d_S_takeAllOf_21 ?_
        refine w_topi (congrFun (hT.1 2 (by omega) (by omega)) k) ?_
        refine lv_iload_n hx hb d_S_takeAllOf_22 rfl (lv_at hl 1 rfl) ?_
        refine lv_icmp_ne (tgt := 31) hx hb d_S_takeAllOf_23 (by decide) (fun c_2 => ?_) (fun c_2 => ?_)
        · have q := c_2
          refine lv_iinc (v := nI (k + 1)) (lv' := [(2, .int (nI (k + 1))), (0, .ref (o + (9 + 3 * si))), (1, .int tl)]) hx hb d_S_takeAllOf_31 hl (k := 2) rfl (w_inc k) (by decide) rfl (fun ls hl => ?_)
          refine lv_goto (tgt := 2) hx hb d_S_takeAllOf_34 (by decide) ?_
          exact ih (k + 1) N (by omega) hkn (xTaken_f hT q) _ _ hP hS ls (lv_sub hl [1, 2, 0] rfl)
        · have q := c_2
          have hlt := x_tk_lt (te := M.1 2) (nu := M.2.1 3) (tl := tl) k
          refine lv_aload_n hx hb d_S_takeAllOf_26 rfl (lv_at hl 0 rfl) ?_
          refine lv_iload_n hx hb d_S_takeAllOf_27 rfl (lv_at hl 2 rfl) ?_
          refine w_Vv ⟨hx, hb, hml, hown, hts⟩ (k_S_insertByNumber l D cA o _ N si hs (x_tk (M.1 2) (M.2.1 3) tl k).1 (x_tk (M.1 2) (M.2.1 3) tl k).2 (by omega) ((congrFun (congrFun hT.2.2.1 _) _).trans (up2_s _ _ _ _)) (fun j hj => ⟨hT.2.2.2.2 j hj, by have := hlt.2 j hj; omega⟩) k (by omega)) (kV hts 1 aK_S_insertByNumber aM_S_38 aI_S_insertByNumber aV_S_insertByNumber aN_S nm_S_insertByNumber rfl rfl ⟨(Nat.le_of_ble_eq_true rfl), (Nat.le_of_ble_eq_true rfl)⟩) hK hP (by omega) (SX_s hs) rfl rfl hl.1 rfl (Nat.le_of_ble_eq_true rfl) d_S_takeAllOf_28 ⟨(Nat.le_of_ble_eq_true rfl), (Nat.le_of_ble_eq_true rfl)⟩ hS (fun q h => wA_le hS.1 h) (fun Mgi H locs gi hP hzc hkc hS => ?_)
          refine lv_iinc (v := nI (k + 1)) (lv' := [(2, .int (nI (k + 1))), (0, .ref (o + (9 + 3 * si))), (1, .int tl)]) hx hb d_S_takeAllOf_31 hl (k := 2) rfl (w_inc k) (by decide) rfl (fun ls hl => ?_)
          refine lv_goto (tgt := 2) hx hb d_S_takeAllOf_34 (by decide) ?_
          exact ih (k + 1) Mgi (by omega) hkn (xTaken_t hs hT q gi) _ _ hP hS ls (lv_sub hl [1, 2, 0] rfl)
  exact lp2 ((n - 0) + 1) 0 M (Nat.lt_succ_self _) (Nat.zero_le _) (xTaken_0 e0) _ _ hP hS ls (lv_sub hl [1, 2, 0] rfl)
set_option maxHeartbeats 4000000 in
set_option maxRecDepth 100000 in
/-- X_set -/
theorem k_X_set (l : Launch) (hl9 : l.stackTraces = false) (D : va_G) (cA : Nat → ClassId) (o sz : Nat) (M : wM) (sc : Nat) (hsc : sc ≤ 8) (esc : M.2.2 0 2 = nI sc) (n : Nat) (hn : n ≤ 300) (en : M.2.2 1 6 = nI n) (e0 : ∀ s, sc ≤ s → s < 8 → M.2.2 (9 + 3 * s) 3 = nI 0) (tl : Int32) : vx_Met l y_X_set (wm y_X_set c_X_set 2 (some .int)) { frames := 7, cells := 2, slots := 12, locals := 102 } (va_Pc [.ref (o + 0), .int tl] (xBx D cA o M sz)) (va_Qi (fun r M1 => xin tl 6 ∧ sc < 8 ∧ r = nI sc ∧ ∃ N, xTaken M N sc tl n ∧ M1 = wF N 0 2 (nI (sc + 1))) (xQ D cA o) (xA o sz)) (xE D cA o M sz (fun E => (E = "java/lang/IndexOutOfBoundsException" ∧ xbad tl 6) ∨ (E = "java/lang/IllegalStateException" ∧ xin tl 6 ∧ sc = 8))) 2 12 (xA o sz) := by
  refine vx_ofW (cc := c_X_set) (maxL := 2) (ret := (some .int)) (by decide) rfl ?_
  intro p e s m args below meth c s₁ B hml hex hv
  obtain ⟨rfl, ⟨hsz, hP, hK⟩, hG⟩ := hv
  have hx := B.exec
  have hb := B.bytes
  have hr := B.returns
  have hts := atoms_spec (ws := wm y_X_set c_X_set 2 (some .int)) B.pre
  have hown : s.vm.findClass "ShopDesks" = some m.cls := findClass_of_methodNamed B.named
  have hlocks := B.notSynchronized
  subst hsz
  have hout : ∀ pc, ∀ x ∈ c.exceptionTable.toList, covers x pc = false := fun pc x hx => (hex x hx).elim
  have hS : va_S (xA o s.heap.size) s.heap s.heap [] := va_S.rf
  have hW : ∀ i, i < 217 → xA o s.heap.size (o + i) := fun i hi => wA_in hi
  have hl := lv_entry ([.ref (o + 0), .int tl]) (n := 2) (Nat.le_of_ble_eq_true rfl)
  rw [lg_entry_eq]
  generalize (lg_sl ([.ref (o + 0), .int tl]) ++ List.replicate (2 - (lg_sl ([.ref (o + 0), .int tl])).length) Slot.unset).toArray = ls at hl ⊢
  have hl : lv_has ls 2 [(0, .ref (o + 0)), (1, .int tl)] := hl
  refine lv_iload_n hx hb d_X_set_0 rfl (lv_at hl 1 rfl) ?_
  refine x_Sv ⟨hx, hb, hml, hown, hts⟩ (k_X_needTeller l hl9 D cA o _ M tl) (kS hts 1 aK_X_needTeller aM_X_40 aS_X_needTeller aN_X nm_X_needTeller rfl rfl ⟨(Nat.le_of_ble_eq_true rfl), (Nat.le_of_ble_eq_true rfl)⟩) hK hP hG hS rfl hl.1 rfl (Nat.le_of_ble_eq_true rfl) d_X_set_1 ⟨(Nat.le_of_ble_eq_true rfl), (Nat.le_of_ble_eq_true rfl)⟩ (hout _) hlocks (fun E h => Or.inl h) (Nat.le_of_ble_eq_true rfl) (Nat.le_of_ble_eq_true rfl) (fun M_1 H locs g1 hP hS => ?_)
  rw [g1.1] at hP
  refine lv_aload_n hx hb d_X_set_4 rfl (lv_at hl 0 rfl) ?_
  refine w_get (C := R_X) (T := F_X) (N := 5) (ci := 4) (v := .int (M.2.2 0 2)) hx hb hts inw_X hown hK hP 0 (by decide) SX_0 rfl 2 (by decide) (hts _ (al aF_X_25)) rfl d_X_set_5 ?_
  refine w_topi esc ?_
  refine lv_bipush (v := 8) hx hb d_X_set_8 (by decide) ?_
  refine lv_icmp_lt (tgt := 23) hx hb d_X_set_10 (by decide) (fun c_2 => ?_) (fun c_2 => ?_)
  · have hsc8 : sc < 8 := i_lt (b := 8) (by omega) (by omega) c_2
    refine lv_aload_n hx hb d_X_set_23 rfl (lv_at hl 0 rfl) ?_
    refine w_get (C := R_X) (T := F_X) (N := 5) (ci := 4) (v := .ref (o + 8)) hx hb hts inw_X hown hK hP 0 (by decide) SX_0 rfl 1 (by decide) (hts _ (al aF_X_18)) rfl d_X_set_24 ?_
    refine lv_aload_n hx hb d_X_set_27 rfl (lv_at hl 0 rfl) ?_
    refine w_get (C := R_X) (T := F_X) (N := 5) (ci := 4) (v := .int (M.2.2 0 2)) hx hb hts inw_X hown hK hP 0 (by decide) SX_0 rfl 2 (by decide) (hts _ (al aF_X_25)) rfl d_X_set_28 ?_
    refine w_topi esc ?_
    refine w_aald hx hb hK hP 8 3 (by decide) SX_8 rfl (k := sc) (by omega) (by decide) (if_pos (by omega)) d_X_set_31 ?_
    refine lv_iload_n hx hb d_X_set_32 rfl (lv_at hl 1 rfl) ?_
    refine w_Vv ⟨hx, hb, hml, hown, hts⟩ (k_S_takeAllOf l D cA o _ M sc hsc8 n hn en (e0 sc (Nat.le_refl sc) hsc8) tl) (kV hts 1 aK_S_takeAllOf aM_X_70 aI_S_takeAllOf aV_S_takeAllOf aN_S nm_S_takeAllOf rfl rfl ⟨(Nat.le_of_ble_eq_true rfl), (Nat.le_of_ble_eq_true rfl)⟩) hK hP (by omega) (SX_s hsc8) rfl rfl hl.1 rfl (Nat.le_of_ble_eq_true rfl) d_X_set_33 ⟨(Nat.le_of_ble_eq_true rfl), (Nat.le_of_ble_eq_true rfl)⟩ hS (fun q h => wA_le hS.1 h) (fun Mgi H locs gi hP hzc hkc hS => ?_)
    refine lv_aload_n hx hb d_X_set_36 rfl (lv_at hl 0 rfl) ?_
    refine lv_dup hx hb d_X_set_37 rfl ?_
    refine w_get (C := R_X) (T := F_X) (N := 5) (ci := 4) (v := .int (Mgi.2.2 0 2)) hx hb hts inw_X hown hK hP 0 (by decide) SX_0 rfl 2 (by decide) (hts _ (al aF_X_25)) rfl d_X_set_38 ?_
    refine w_topi ((congrFun (congrFun gi.2.2.1 0) 2).trans ((congrFun (up2_o _ _ _ _ (by omega)) 2).trans esc)) ?_
    refine lv_iconst (v := 1) hx hb d_X_set_41 (by decide) ?_
    refine lv_iadd hx hb d_X_set_42 ?_
    refine w_topi ((nI_succ sc).symm) ?_
    refine w_put (C := R_X) (T := F_X) (N := 5) (ci := 4) (x := nI (sc + 1)) hx hb hts inw_X ft_X ft_X_ok fn_X hown hK hP hW hS 0 (by decide) SX_0 rfl 2 (by decide) (hts _ (al aF_X_25)) rfl rfl rfl (Nat.le_of_ble_eq_true rfl) (by rw [wF_r]; exact SX_0.trans rfl) d_X_set_43 (fun H locs hP hS => ?_)
    refine lv_aload_n hx hb d_X_set_46 rfl (lv_at hl 0 rfl) ?_
    refine w_get (C := R_X) (T := F_X) (N := 5) (ci := 4) (v := .int (nI (sc + 1))) hx hb hts inw_X hown hK hP 0 (by decide) SX_0 rfl 2 (by decide) (hts _ (al aF_X_25)) rfl d_X_set_47 ?_
    refine lv_iconst (v := 1) hx hb d_X_set_50 (by decide) ?_
    refine lv_isub hx hb d_X_set_51 ?_
    refine w_topi (i_sub1 sc) ?_
    refine vx_ret ?_
    refine W.widen (k := 2) (n := 12) (Nat.le_of_ble_eq_true rfl) (Nat.le_of_ble_eq_true rfl) ?_
    exact W.iret (v := nI sc) hx hb hr (fun tz hz9 hW9 => ⟨⟨nI sc, (wF Mgi 0 2 (nI (sc + 1))), rfl, ⟨g1.2, hsc8, rfl, Mgi, gi, rfl⟩, by rw [hz9]; exact hP, va_K.moved hW9.alike hK⟩, hS.F hz9⟩) hS.2.2 d_X_set_52
  · have q : sc = 8 := by have := i_nlt (b := 8) (by omega) (by omega) c_2; omega
    obtain ⟨sa, hsa⟩ := hG.2.2.1 (68, "there are 8 sets") (by decide)
    exact x_throwS (cls := "java/lang/IllegalStateException") hx hb hl9 hown (hts _ (al aC_X_57)) (hts _ (al aN_IllegalStateException)) hsa (hat_X_61 hts hG) hot_X_61 (by decide) hG hK hP hS (hl.1.trans hml.symm) d_X_set_13 d_X_set_16 d_X_set_17 d_X_set_19 d_X_set_22 (hout _) (Nat.le_of_ble_eq_true rfl) (Nat.le_of_ble_eq_true rfl) (Nat.le_of_ble_eq_true rfl) (Nat.le_of_ble_eq_true rfl) hlocks (Or.inr ⟨rfl, g1.2, q⟩) (Nat.le_of_ble_eq_true rfl) (Nat.le_of_ble_eq_true rfl)

