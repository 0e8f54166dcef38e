/-! the reference: a new set -/
theorem y_pred (sc pp : Nat) (h : 0 < pp) : nI (300 * sc + pp) - 1 = nI (300 * sc + (pp - 1)) := (i_pred (by omega)).trans (by rw [show 300 * sc + pp - 1 = 300 * sc + (pp - 1) by omega])
theorem y_dec (sc pp : Nat) (h : 0 < pp) : nI (300 * sc + pp) + Int32.ofInt (-1) = nI (300 * sc + (pp - 1)) := (i_dec (by omega)).trans (by rw [show 300 * sc + pp - 1 = 300 * sc + (pp - 1) by omega])
theorem y_le0 {sc pp : Nat} (h1 : sc < 8) (h2 : pp ≤ 300) (h : nI (300 * sc + pp) ≤ nI (300 * sc)) : pp = 0 := by
  have := i_le (by omega) (by omega) h; omega
theorem y_nle0 {sc pp : Nat} (h : ¬ nI (300 * sc + pp) ≤ nI (300 * sc)) : 0 < pp := Nat.pos_of_ne_zero (fun e => h (by rw [e]; exact Int32.le_refl _))
set_option maxHeartbeats 4000000 in
set_option maxRecDepth 100000 in
/-- M_set -/
theorem k_M_set (l : Launch) (D : va_G) (cA : Nat → ClassId) (o sz : Nat) (M : wM) (sc : Nat) (hsc : sc ≤ 8) (esc : M.2.2 0 8 = nI sc) (n : Nat) (hn : n ≤ 300) (en : M.2.2 0 1 = nI n) (tl : Int32) : Met l y_M_set (wm y_M_set c_M_set 4 (some .int)) { frames := 1, cells := 0, slots := 0, locals := 25 } (va_Pc [.ref (o + 0), .int tl] (mB D cA o M sz)) (va_Qi (fun r M1 => (M1 = (wF M 0 0 1) ∧ ¬ xin tl 6) ∨ (M1 = (wF M 0 0 2) ∧ xin tl 6 ∧ sc = 8) ∨ (xin tl 6 ∧ sc < 8 ∧ r = nI sc ∧ ∃ N, yTaken (wI (wI (wF M 0 0 0) 7 sc 0) 9 sc (-1)) N sc tl n ∧ M1 = wF N 0 8 (nI (sc + 1)))) (mQ D cA o) (mA o sz)) 0 0 (mA o sz) := by
  refine Met.ofW (cc := c_M_set) (maxL := 4) (ret := (some .int)) (by decide) rfl ?_
  intro p e s m args below meth c s₁ B hml hv
  obtain ⟨rfl, hsz, hP, hK⟩ := hv
  have hx := B.exec
  have hb := B.bytes
  have hr := B.returns
  have hts := atoms_spec (ws := wm y_M_set c_M_set 4 (some .int)) B.pre
  have hown : s.vm.findClass "ShopDesksModel" = some m.cls := findClass_of_methodNamed B.named
  have hlocks := B.notSynchronized
  subst hsz
  have hS : va_S (mA o s.heap.size) s.heap s.heap [] := va_S.rf
  have hW : ∀ i, i < 17 → mA o s.heap.size (o + i) := fun i hi => wA_in hi
  have hl := lv_entry ([.ref (o + 0), .int tl]) (n := 4) (Nat.le_of_ble_eq_true rfl)
  rw [lg_entry_eq]
  generalize (lg_sl ([.ref (o + 0), .int tl]) ++ List.replicate (4 - (lg_sl ([.ref (o + 0), .int tl])).length) Slot.unset).toArray = ls at hl ⊢
  have hl : lv_has ls 4 [(0, .ref (o + 0)), (1, .int tl)] := hl
  refine lv_aload_n hx hb d_M_set_0 rfl (lv_at hl 0 rfl) ?_
  refine lv_iload_n hx hb d_M_set_1 rfl (lv_at hl 1 rfl) ?_
  refine lv_i2l hx hb d_M_set_2 rfl ?_
  refine lv_lconst (v := 0) hx hb d_M_set_3 (by decide) ?_
  refine lv_ldc2 (v := 5) hx hb hown (hts _ (al aL_M_70)) d_M_set_4 ?_
  refine w_Si ⟨hx, hb, hml, hown, hts⟩ (k_M_isIn l D cA o _ M (tl.toInt64) 0 5) (kS hts 3 aK_M_isIn aM_M_72 aS_M_isIn aN_M nm_M_isIn rfl rfl ⟨(Nat.le_of_ble_eq_true rfl), (Nat.le_of_ble_eq_true rfl)⟩) hK hP rfl hl.1 rfl (Nat.le_of_ble_eq_true rfl) d_M_set_7 ⟨(Nat.le_of_ble_eq_true rfl), (Nat.le_of_ble_eq_true rfl)⟩ hS (fun q h => wA_le hS.1 h) (fun r_1 M_1 H locs hw_1 hP hzc hkc hS => ?_)
  rw [hw_1.1] at hP
  refine w_topi hw_1.2 ?_
  refine lv_if_ne (tgt := 17) hx hb d_M_set_10 (by decide) (fun c_2 => ?_) (fun c_2 => ?_)
  · have q1 : xin tl (nI (5 + 1)) := (y_in 5 (by omega)).mp (b2i_T c_2)
    refine lv_aload_n hx hb d_M_set_17 rfl (lv_at hl 0 rfl) ?_
    refine w_get (C := R_M) (T := F_M) (N := 22) (ci := 5) (v := .int (M.2.2 0 8)) hx hb hts inw_M hown hK hP 0 (by decide) SM_0 rfl 8 (by decide) (hts _ (al aF_M_86)) rfl d_M_set_18 ?_
    refine w_topi esc ?_
    refine lv_bipush (v := 8) hx hb d_M_set_21 (by decide) ?_
    refine lv_icmp_ne (tgt := 30) hx hb d_M_set_23 (by decide) (fun c_3 => ?_) (fun c_3 => ?_)
    · have hsc8 : sc < 8 := Nat.lt_of_le_of_ne hsc (fun e => c_3 (by rw [e]; rfl))
      refine lv_iconst (v := 0) hx hb d_M_set_30 (by decide) ?_
      refine w_put (C := R_M) (T := F_M) (N := 22) (ci := 5) (x := 0) hx hb hts inw_M ft_M ft_M_ok fn_M hown hK hP hW hS 0 (by decide) SM_0 rfl 0 (by decide) (hts _ (al aF_M_64)) rfl rfl rfl (Nat.le_of_ble_eq_true rfl) (by rw [wF_r]; exact SM_0.trans rfl) d_M_set_31 (fun H locs hP hS => ?_)
      refine lv_aload_n hx hb d_M_set_34 rfl (lv_at hl 0 rfl) ?_
      refine w_get (C := R_M) (T := F_M) (N := 22) (ci := 5) (v := .int 0) hx hb hts inw_M hown hK hP 0 (by decide) SM_0 rfl 0 (by decide) (hts _ (al aF_M_64)) rfl d_M_set_35 ?_
      refine lv_if_le (tgt := 43) hx hb d_M_set_38 (by decide) (fun c_4 => ?_) (fun c_4 => ?_)
      · refine lv_aload_n hx hb d_M_set_43 rfl (lv_at hl 0 rfl) ?_
        refine w_get (C := R_M) (T := F_M) (N := 22) (ci := 5) (v := .ref (o + 7)) hx hb hts inw_M hown hK hP 0 (by decide) SM_0 rfl 9 (by decide) (hts _ (al aF_M_29)) rfl d_M_set_44 ?_
        refine lv_aload_n hx hb d_M_set_47 rfl (lv_at hl 0 rfl) ?_
        refine w_get (C := R_M) (T := F_M) (N := 22) (ci := 5) (v := .int (M.2.2 0 8)) hx hb hts inw_M hown hK hP 0 (by decide) SM_0 rfl 8 (by decide) (hts _ (al aF_M_86)) rfl d_M_set_48 ?_
        refine w_topi esc ?_
        refine lv_iconst (v := 0) hx hb d_M_set_51 (by decide) ?_
        refine w_iast hx hb hK hP hW hS 7 0 (by decide) (fun _ => SM_7) rfl (k := sc) (by omega) (by decide) d_M_set_52 (fun H locs hP hS => ?_)
        refine lv_aload_n hx hb d_M_set_53 rfl (lv_at hl 0 rfl) ?_
        refine w_get (C := R_M) (T := F_M) (N := 22) (ci := 5) (v := .ref (o + 9)) hx hb hts inw_M hown hK hP 0 (by decide) SM_0 rfl 11 (by decide) (hts _ (al aF_M_35)) rfl d_M_set_54 ?_
        refine lv_aload_n hx hb d_M_set_57 rfl (lv_at hl 0 rfl) ?_
        refine w_get (C := R_M) (T := F_M) (N := 22) (ci := 5) (v := .int (M.2.2 0 8)) hx hb hts inw_M hown hK hP 0 (by decide) SM_0 rfl 8 (by decide) (hts _ (al aF_M_86)) rfl d_M_set_58 ?_
        refine w_topi esc ?_
        refine lv_iconst (v := -1) hx hb d_M_set_61 (by decide) ?_
        refine w_iast hx hb hK hP hW hS 9 0 (by decide) (fun _ => SM_9) rfl (k := sc) (by omega) (by decide) d_M_set_62 (fun H locs hP hS => ?_)
        refine lv_iconst (v := 0) hx hb d_M_set_63 (by decide) ?_
        refine lv_istore_n (lv' := [(2, .int 0), (0, .ref (o + 0)), (1, .int tl)]) hx hb d_M_set_64 rfl hl (by decide) rfl (fun ls hl => ?_)
        have lp65 : ∀ (fuel : Nat) (k : Nat) (P : wM), n - k < fuel → (k ≤ n) → (yTaken (wI (wI (wF M 0 0 0) 7 sc 0) 9 sc (-1)) P sc tl k) → ∀ (H : Heap) (locs : List Loc), wP D cls_ (SM o cA) o 17 P H → va_S (mA o s.heap.size) s.heap H locs → ∀ (ls : Array Slot), lv_has ls 4 [(0, .ref (o + 0)), (1, .int tl), (2, .int (nI k))] → W p l e (headSpec (wm y_M_set c_M_set 4 (some .int)) { frames := 1, cells := 0, slots := 0, locals := 25 }).room s m ([.ref (o + 0), .int tl] : List Value).toArray below meth c H locs 0 0 (MQ below (va_Qi (fun r M1 => (M1 = (wF M 0 0 1) ∧ ¬ xin tl 6) ∨ (M1 = (wF M 0 0 2) ∧ xin tl 6 ∧ sc = 8) ∨ (xin tl 6 ∧ sc < 8 ∧ r = nI sc ∧ ∃ N, yTaken (wI (wI (wF M 0 0 0) 7 sc 0) 9 sc (-1)) N sc tl n ∧ M1 = wF N 0 8 (nI (sc + 1)))) (mQ D cA o) (mA o s.heap.size)) ([.ref (o + 0), .int tl] : List Value).toArray s 0 0 (mA o s.heap.size)) (F0 m 65 ls []) := by
          intro fuel
          induction fuel with
          | zero => intro k P hfu; exact absurd hfu (Nat.not_lt_zero _)
          | succ fuel ih =>
            intro k P hfu hk hT H locs hP hS ls hl
            have ih65 := ih
            refine lv_iload_n hx hb d_M_set_65 rfl (lv_at hl 2 rfl) ?_
            refine lv_aload_n hx hb d_M_set_66 rfl (lv_at hl 0 rfl) ?_
            refine w_get (C := R_M) (T := F_M) (N := 22) (ci := 5) (v := .int (P.2.2 0 1)) hx hb hts inw_M hown hK hP 0 (by decide) SM_0 rfl 1 (by decide) (hts _ (al aF_M_67)) rfl d_M_set_67 ?_
            refine w_topi ((congrFun (congrFun hT.2.2.1 0) 1).trans en) ?_
            refine lv_icmp_ge (tgt := 183) hx hb d_M_set_70 (by decide) (fun c_5 => ?_) (fun c_5 => ?_)
            · have hkn : n ≤ k := i_le (by omega) (by omega) c_5
              obtain rfl : k = n := by omega
              refine lv_aload_n hx hb d_M_set_183 rfl (lv_at hl 0 rfl) ?_
              refine lv_dup hx hb d_M_set_184 rfl ?_
              refine w_get (C := R_M) (T := F_M) (N := 22) (ci := 5) (v := .int (P.2.2 0 8)) hx hb hts inw_M hown hK hP 0 (by decide) SM_0 rfl 8 (by decide) (hts _ (al aF_M_86)) rfl d_M_set_185 ?_
              refine w_topi ((congrFun (congrFun hT.2.2.1 0) 8).trans esc) ?_
              refine lv_iconst (v := 1) hx hb d_M_set_188 (by decide) ?_
              refine lv_iadd hx hb d_M_set_189 ?_
              refine w_topi ((nI_succ sc).symm) ?_
              refine w_put (C := R_M) (T := F_M) (N := 22) (ci := 5) (x := nI (sc + 1)) hx hb hts inw_M ft_M ft_M_ok fn_M hown hK hP hW hS 0 (by decide) SM_0 rfl 8 (by decide) (hts _ (al aF_M_86)) rfl rfl rfl (Nat.le_of_ble_eq_true rfl) (by rw [wF_r]; exact SM_0.trans rfl) d_M_set_190 (fun H locs hP hS => ?_)
              refine lv_aload_n hx hb d_M_set_193 rfl (lv_at hl 0 rfl) ?_
              refine w_get (C := R_M) (T := F_M) (N := 22) (ci := 5) (v := .int (nI (sc + 1))) hx hb hts inw_M hown hK hP 0 (by decide) SM_0 rfl 8 (by decide) (hts _ (al aF_M_86)) rfl d_M_set_194 ?_
              refine lv_iconst (v := 1) hx hb d_M_set_197 (by decide) ?_
              refine lv_isub hx hb d_M_set_198 ?_
              refine w_topi (i_sub1 sc) ?_
              exact W.iret (v := nI sc) hx hb hr (fun tz hz9 hW9 => ⟨⟨nI sc, (wF P 0 8 (nI (sc + 1))), rfl, Or.inr (Or.inr ⟨q1, hsc8, rfl, P, hT, rfl⟩), by rw [hz9]; exact hP, va_K.moved hW9.alike hK⟩, hS.F hz9⟩) hS.2.2 d_M_set_199
            · have hkn : k < n := i_nle (by omega) (by omega) c_5
              have hlt := x_tk_lt (te := ((wI (wI (wF M 0 0 0) 7 sc 0) 9 sc (-1)).1 1)) (nu := ((wI (wI (wF M 0 0 0) 7 sc 0) 9 sc (-1)).2.1 2)) (tl := tl) k
              refine lv_aload_n hx hb d_M_set_73 rfl (lv_at hl 0 rfl) ?_
              refine w_get (C := R_M) (T := F_M) (N := 22) (ci := 5) (v := .ref (o + 1)) hx hb hts inw_M hown hK hP 0 (by decide) SM_0 rfl 2 (by decide) (hts _ (al aF_M_7)) rfl d_M_set_74 ?_
              refine lv_iload_n hx hb d_M_set_77 rfl (lv_at hl 2 rfl) ?_
              refine w_iald hx hb hK hP 1 0 (by decide) SM_1 rfl (k := k) (by omega) (by decide) d_M_set_78 ?_
              refine w_topi (congrFun (hT.1 1 (by decide) (by decide)) k) ?_
              refine lv_iload_n hx hb d_M_set_79 rfl (lv_at hl 1 rfl) ?_
              refine lv_icmp_ne (tgt := 177) hx hb d_M_set_80 (by decide) (fun c_6 => ?_) (fun c_6 => ?_)
              · have q3 := c_6
                refine lv_iinc (v := nI (k + 1)) (lv' := [(2, .int (nI (k + 1))), (0, .ref (o + 0)), (1, .int tl)]) hx hb d_M_set_177 hl (k := 2) rfl (w_inc k) (by decide) rfl (fun ls hl => ?_)
                refine lv_goto (tgt := 65) hx hb d_M_set_180 (by decide) ?_
                exact ih (k + 1) P (by omega) hkn (yTaken_f hT q3) _ _ hP hS ls (lv_sub hl [1, 2, 0] rfl)
              · have q3 := c_6
                refine lv_sipush (v := 300) hx hb d_M_set_83 (by decide) ?_
                refine lv_aload_n hx hb d_M_set_86 rfl (lv_at hl 0 rfl) ?_
                refine w_get (C := R_M) (T := F_M) (N := 22) (ci := 5) (v := .int (P.2.2 0 8)) hx hb hts inw_M hown hK hP 0 (by decide) SM_0 rfl 8 (by decide) (hts _ (al aF_M_86)) rfl d_M_set_87 ?_
                refine w_topi ((congrFun (congrFun hT.2.2.1 0) 8).trans esc) ?_
                refine lv_imul hx hb d_M_set_90 ?_
                refine w_topi (pk_mul 300 sc) ?_
                refine lv_aload_n hx hb d_M_set_91 rfl (lv_at hl 0 rfl) ?_
                refine w_get (C := R_M) (T := F_M) (N := 22) (ci := 5) (v := .ref (o + 7)) hx hb hts inw_M hown hK hP 0 (by decide) SM_0 rfl 9 (by decide) (hts _ (al aF_M_29)) rfl d_M_set_92 ?_
                refine lv_aload_n hx hb d_M_set_95 rfl (lv_at hl 0 rfl) ?_
                refine w_get (C := R_M) (T := F_M) (N := 22) (ci := 5) (v := .int (P.2.2 0 8)) hx hb hts inw_M hown hK hP 0 (by decide) SM_0 rfl 8 (by decide) (hts _ (al aF_M_86)) rfl d_M_set_96 ?_
                refine w_topi ((congrFun (congrFun hT.2.2.1 0) 8).trans esc) ?_
                refine w_iald hx hb hK hP 7 0 (by decide) SM_7 rfl (k := sc) (by omega) (by decide) d_M_set_99 ?_
                refine w_topi hT.2.2.2.2.2.1 ?_
                refine lv_iadd hx hb d_M_set_100 ?_
                refine w_topi (nI_add _ _) ?_
                refine lv_istore_n (lv' := [(3, .int (nI (300 * sc + (x_tk ((wI (wI (wF M 0 0 0) 7 sc 0) 9 sc (-1)).1 1) ((wI (wI (wF M 0 0 0) 7 sc 0) 9 sc (-1)).2.1 2) tl k).2))), (0, .ref (o + 0)), (1, .int tl), (2, .int (nI k))]) hx hb d_M_set_101 rfl hl (by decide) rfl (fun ls hl => ?_)
                have lp102 : ∀ (fuel : Nat) (pp : Nat) (N : wM), pp < fuel → (pp ≤ (x_tk ((wI (wI (wF M 0 0 0) 7 sc 0) 9 sc (-1)).1 1) ((wI (wI (wF M 0 0 0) 7 sc 0) 9 sc (-1)).2.1 2) tl k).2) → (∀ a, a ≠ 8 → N.1 a = P.1 a) → (N.2.1 = P.2.1) → (N.2.2 = P.2.2) → (∀ i, i < 300 * sc → N.1 8 i = P.1 8 i) → (∀ j, j < pp → N.1 8 (300 * sc + j) = nI ((x_tk ((wI (wI (wF M 0 0 0) 7 sc 0) 9 sc (-1)).1 1) ((wI (wI (wF M 0 0 0) 7 sc 0) 9 sc (-1)).2.1 2) tl k).1 j)) → (∀ j, pp < j → j < (x_tk ((wI (wI (wF M 0 0 0) 7 sc 0) 9 sc (-1)).1 1) ((wI (wI (wF M 0 0 0) 7 sc 0) 9 sc (-1)).2.1 2) tl k).2 + 1 → N.1 8 (300 * sc + j) = nI ((x_tk ((wI (wI (wF M 0 0 0) 7 sc 0) 9 sc (-1)).1 1) ((wI (wI (wF M 0 0 0) 7 sc 0) 9 sc (-1)).2.1 2) tl k).1 (j - 1))) → (x_place ((wI (wI (wF M 0 0 0) 7 sc 0) 9 sc (-1)).2.1 2) (x_tk ((wI (wI (wF M 0 0 0) 7 sc 0) 9 sc (-1)).1 1) ((wI (wI (wF M 0 0 0) 7 sc 0) 9 sc (-1)).2.1 2) tl k).1 k pp = x_place ((wI (wI (wF M 0 0 0) 7 sc 0) 9 sc (-1)).2.1 2) (x_tk ((wI (wI (wF M 0 0 0) 7 sc 0) 9 sc (-1)).1 1) ((wI (wI (wF M 0 0 0) 7 sc 0) 9 sc (-1)).2.1 2) tl k).1 k (x_tk ((wI (wI (wF M 0 0 0) 7 sc 0) 9 sc (-1)).1 1) ((wI (wI (wF M 0 0 0) 7 sc 0) 9 sc (-1)).2.1 2) tl k).2) → ∀ (H : Heap) (locs : List Loc), wP D cls_ (SM o cA) o 17 N H → va_S (mA o s.heap.size) s.heap H locs → ∀ (ls : Array Slot), lv_has ls 4 [(0, .ref (o + 0)), (1, .int tl), (2, .int (nI k)), (3, .int (nI (300 * sc + pp)))] → W p l e (headSpec (wm y_M_set c_M_set 4 (some .int)) { frames := 1, cells := 0, slots := 0, locals := 25 }).room s m ([.ref (o + 0), .int tl] : List Value).toArray below meth c H locs 0 0 (MQ below (va_Qi (fun r M1 => (M1 = (wF M 0 0 1) ∧ ¬ xin tl 6) ∨ (M1 = (wF M 0 0 2) ∧ xin tl 6 ∧ sc = 8) ∨ (xin tl 6 ∧ sc < 8 ∧ r = nI sc ∧ ∃ N, yTaken (wI (wI (wF M 0 0 0) 7 sc 0) 9 sc (-1)) N sc tl n ∧ M1 = wF N 0 8 (nI (sc + 1)))) (mQ D cA o) (mA o s.heap.size)) ([.ref (o + 0), .int tl] : List Value).toArray s 0 0 (mA o s.heap.size)) (F0 m 102 ls []) := by
                  intro fuel
                  induction fuel with
                  | zero => intro pp N hfu; exact absurd hfu (Nat.not_lt_zero _)
                  | succ fuel ih =>
                    intro pp N hfu hpz hN1 hN2 hN3 hN4 hN5 hN6 hN7 H locs hP hS ls hl
                    refine lv_iload_n hx hb d_M_set_102 rfl (lv_at hl 3 rfl) ?_
                    refine lv_sipush (v := 300) hx hb d_M_set_103 (by decide) ?_
                    refine lv_aload_n hx hb d_M_set_106 rfl (lv_at hl 0 rfl) ?_
                    refine w_get (C := R_M) (T := F_M) (N := 22) (ci := 5) (v := .int (N.2.2 0 8)) hx hb hts inw_M hown hK hP 0 (by decide) SM_0 rfl 8 (by decide) (hts _ (al aF_M_86)) rfl d_M_set_107 ?_
                    refine w_topi ((congrFun (congrFun hN3 0) 8).trans ((congrFun (congrFun hT.2.2.1 0) 8).trans esc)) ?_
                    refine lv_imul hx hb d_M_set_110 ?_
                    refine w_topi (pk_mul 300 sc) ?_
                    refine lv_icmp_le (tgt := 157) hx hb d_M_set_111 (by decide) (fun c_7 => ?_) (fun c_7 => ?_)
                    · have hp0 : pp = 0 := y_le0 hsc8 (by omega) c_7
                      have he : x_place ((wI (wI (wF M 0 0 0) 7 sc 0) 9 sc (-1)).2.1 2) (x_tk ((wI (wI (wF M 0 0 0) 7 sc 0) 9 sc (-1)).1 1) ((wI (wI (wF M 0 0 0) 7 sc 0) 9 sc (-1)).2.1 2) tl k).1 k pp = pp := by rw [hp0]; rfl
                      refine lv_aload_n hx hb d_M_set_157 rfl (lv_at hl 0 rfl) ?_
                      refine w_get (C := R_M) (T := F_M) (N := 22) (ci := 5) (v := .ref (o + 8)) hx hb hts inw_M hown hK hP 0 (by decide) SM_0 rfl 10 (by decide) (hts _ (al aF_M_32)) rfl d_M_set_158 ?_
                      refine lv_iload_n hx hb d_M_set_161 rfl (lv_at hl 3 rfl) ?_
                      refine lv_iload_n hx hb d_M_set_162 rfl (lv_at hl 2 rfl) ?_
                      refine w_iast hx hb hK hP hW hS 8 0 (by decide) (fun _ => SM_8) rfl (k := (300 * sc + pp)) (by omega) (by decide) d_M_set_163 (fun H locs hP hS => ?_)
                      refine lv_aload_n hx hb d_M_set_164 rfl (lv_at hl 0 rfl) ?_
                      refine w_get (C := R_M) (T := F_M) (N := 22) (ci := 5) (v := .ref (o + 7)) hx hb hts inw_M hown hK hP 0 (by decide) SM_0 rfl 9 (by decide) (hts _ (al aF_M_29)) rfl d_M_set_165 ?_
                      refine lv_aload_n hx hb d_M_set_168 rfl (lv_at hl 0 rfl) ?_
                      refine w_get (C := R_M) (T := F_M) (N := 22) (ci := 5) (v := .int (N.2.2 0 8)) hx hb hts inw_M hown hK hP 0 (by decide) SM_0 rfl 8 (by decide) (hts _ (al aF_M_86)) rfl d_M_set_169 ?_
                      refine w_topi ((congrFun (congrFun hN3 0) 8).trans ((congrFun (congrFun hT.2.2.1 0) 8).trans esc)) ?_
                      refine lv_dup2_11 hx hb d_M_set_172 rfl rfl ?_
                      refine w_iald hx hb hK hP 7 0 (by decide) SM_7 rfl (k := sc) (by omega) (by decide) d_M_set_173 ?_
                      refine w_topi (wI_ne (by omega)) ?_
                      refine w_topi ((congrFun (hN1 7 (by decide)) sc).trans hT.2.2.2.2.2.1) ?_
                      refine lv_iconst (v := 1) hx hb d_M_set_174 (by decide) ?_
                      refine lv_iadd hx hb d_M_set_175 ?_
                      refine w_topi ((nI_succ _).symm) ?_
                      refine w_iast hx hb hK hP hW hS 7 0 (by decide) (fun _ => SM_7) rfl (k := sc) (by omega) (by decide) d_M_set_176 (fun H locs hP hS => ?_)
                      refine lv_iinc (v := nI (k + 1)) (lv' := [(2, .int (nI (k + 1))), (0, .ref (o + 0)), (1, .int tl), (3, .int (nI (300 * sc + pp)))]) hx hb d_M_set_177 hl (k := 2) rfl (w_inc k) (by decide) rfl (fun ls hl => ?_)
                      refine lv_goto (tgt := 65) hx hb d_M_set_180 (by decide) ?_
                      exact ih65 (k + 1) (wI (wI N 8 (300 * sc + pp) (nI k)) 7 sc (nI ((x_tk ((wI (wI (wF M 0 0 0) 7 sc 0) 9 sc (-1)).1 1) ((wI (wI (wF M 0 0 0) 7 sc 0) 9 sc (-1)).2.1 2) tl k).2 + 1))) (by omega) hkn (yTaken_t hT q3 hpz hN1 hN2 hN3 hN4 hN5 hN6 hN7 he) _ _ hP hS ls (lv_sub hl [1, 2, 0] rfl)
                    · have hp0 : 0 < pp := y_nle0 c_7
                      refine lv_aload_n hx hb d_M_set_114 rfl (lv_at hl 0 rfl) ?_
                      refine w_get (C := R_M) (T := F_M) (N := 22) (ci := 5) (v := .ref (o + 2)) hx hb hts inw_M hown hK hP 0 (by decide) SM_0 rfl 3 (by decide) (hts _ (al aF_M_13)) rfl d_M_set_115 ?_
                      refine lv_aload_n hx hb d_M_set_118 rfl (lv_at hl 0 rfl) ?_
                      refine w_get (C := R_M) (T := F_M) (N := 22) (ci := 5) (v := .ref (o + 8)) hx hb hts inw_M hown hK hP 0 (by decide) SM_0 rfl 10 (by decide) (hts _ (al aF_M_32)) rfl d_M_set_119 ?_
                      refine lv_iload_n hx hb d_M_set_122 rfl (lv_at hl 3 rfl) ?_
                      refine lv_iconst (v := 1) hx hb d_M_set_123 (by decide) ?_
                      refine lv_isub hx hb d_M_set_124 ?_
                      refine w_topi (y_pred sc pp hp0) ?_
                      refine w_iald hx hb hK hP 8 0 (by decide) SM_8 rfl (k := (300 * sc + (pp - 1))) (by omega) (by decide) d_M_set_125 ?_
                      refine w_topi (hN5 (pp - 1) (by omega)) ?_
                      refine w_lald hx hb hK hP 2 1 (by decide) SM_2 rfl (k := ((x_tk ((wI (wI (wF M 0 0 0) 7 sc 0) 9 sc (-1)).1 1) ((wI (wI (wF M 0 0 0) 7 sc 0) 9 sc (-1)).2.1 2) tl k).1 (pp - 1))) (by have := hlt.2 (pp - 1) (by omega); omega) (by decide) d_M_set_126 ?_
                      refine w_topl (congrFun (congrFun (hN2.trans hT.2.1) 2) _) ?_
                      refine lv_aload_n hx hb d_M_set_127 rfl (lv_at hl 0 rfl) ?_
                      refine w_get (C := R_M) (T := F_M) (N := 22) (ci := 5) (v := .ref (o + 2)) hx hb hts inw_M hown hK hP 0 (by decide) SM_0 rfl 3 (by decide) (hts _ (al aF_M_13)) rfl d_M_set_128 ?_
                      refine lv_iload_n hx hb d_M_set_131 rfl (lv_at hl 2 rfl) ?_
                      refine w_lald hx hb hK hP 2 1 (by decide) SM_2 rfl (k := k) (by omega) (by decide) d_M_set_132 ?_
                      refine w_topl (congrFun (congrFun (hN2.trans hT.2.1) 2) _) ?_
                      refine W.lcmp hx hb d_M_set_133 ?_
                      refine lv_if_le (tgt := 157) hx hb d_M_set_134 (by decide) (fun c_8 => ?_) (fun c_8 => ?_)
                      · rw [lg_cmp_le] at c_8
                        have he : x_place ((wI (wI (wF M 0 0 0) 7 sc 0) 9 sc (-1)).2.1 2) (x_tk ((wI (wI (wF M 0 0 0) 7 sc 0) 9 sc (-1)).1 1) ((wI (wI (wF M 0 0 0) 7 sc 0) 9 sc (-1)).2.1 2) tl k).1 k pp = pp := x_place_e hp0 (Int64.not_lt.mpr c_8)
                        refine lv_aload_n hx hb d_M_set_157 rfl (lv_at hl 0 rfl) ?_
                        refine w_get (C := R_M) (T := F_M) (N := 22) (ci := 5) (v := .ref (o + 8)) hx hb hts inw_M hown hK hP 0 (by decide) SM_0 rfl 10 (by decide) (hts _ (al aF_M_32)) rfl d_M_set_158 ?_
                        refine lv_iload_n hx hb d_M_set_161 rfl (lv_at hl 3 rfl) ?_
                        refine lv_iload_n hx hb d_M_set_162 rfl (lv_at hl 2 rfl) ?_
                        refine w_iast hx hb hK hP hW hS 8 0 (by decide) (fun _ => SM_8) rfl (k := (300 * sc + pp)) (by omega) (by decide) d_M_set_163 (fun H locs hP hS => ?_)
                        refine lv_aload_n hx hb d_M_set_164 rfl (lv_at hl 0 rfl) ?_
                        refine w_get (C := R_M) (T := F_M) (N := 22) (ci := 5) (v := .ref (o + 7)) hx hb hts inw_M hown hK hP 0 (by decide) SM_0 rfl 9 (by decide) (hts _ (al aF_M_29)) rfl d_M_set_165 ?_
                        refine lv_aload_n hx hb d_M_set_168 rfl (lv_at hl 0 rfl) ?_
                        refine w_get (C := R_M) (T := F_M) (N := 22) (ci := 5) (v := .int (N.2.2 0 8)) hx hb hts inw_M hown hK hP 0 (by decide) SM_0 rfl 8 (by decide) (hts _ (al aF_M_86)) rfl d_M_set_169 ?_
                        refine w_topi ((congrFun (congrFun hN3 0) 8).trans ((congrFun (congrFun hT.2.2.1 0) 8).trans esc)) ?_
                        refine lv_dup2_11 hx hb d_M_set_172 rfl rfl ?_
                        refine w_iald hx hb hK hP 7 0 (by decide) SM_7 rfl (k := sc) (by omega) (by decide) d_M_set_173 ?_
                        refine w_topi (wI_ne (by omega)) ?_
                        refine w_topi ((congrFun (hN1 7 (by decide)) sc).trans hT.2.2.2.2.2.1) ?_
                        refine lv_iconst (v := 1) hx hb d_M_set_174 (by decide) ?_
                        refine lv_iadd hx hb d_M_set_175 ?_
                        refine w_topi ((nI_succ _).symm) ?_
                        refine w_iast hx hb hK hP hW hS 7 0 (by decide) (fun _ => SM_7) rfl (k := sc) (by omega) (by decide) d_M_set_176 (fun H locs hP hS => ?_)
                        refine lv_iinc (v := nI (k + 1)) (lv' := [(2, .int (nI (k + 1))), (0, .ref (o + 0)), (1, .int tl), (3, .int (nI (300 * sc + pp)))]) hx hb d_M_set_177 hl (k := 2) rfl (w_inc k) (by decide) rfl (fun ls hl => ?_)
                        refine lv_goto (tgt := 65) hx hb d_M_set_180 (by decide) ?_
                        exact ih65 (k + 1) (wI (wI N 8 (300 * sc + pp) (nI k)) 7 sc (nI ((x_tk ((wI (wI (wF M 0 0 0) 7 sc 0) 9 sc (-1)).1 1) ((wI (wI (wF M 0 0 0) 7 sc 0) 9 sc (-1)).2.1 2) tl k).2 + 1))) (by omega) hkn (yTaken_t hT q3 hpz hN1 hN2 hN3 hN4 hN5 hN6 hN7 he) _ _ hP hS ls (lv_sub hl [1, 2, 0] rfl)
                      · rw [lg_cmp_le] at c_8
                        have hgt := Int64.not_le.mp c_8
                        refine lv_aload_n hx hb d_M_set_137 rfl (lv_at hl 0 rfl) ?_
                        refine w_get (C := R_M) (T := F_M) (N := 22) (ci := 5) (v := .ref (o + 8)) hx hb hts inw_M hown hK hP 0 (by decide) SM_0 rfl 10 (by decide) (hts _ (al aF_M_32)) rfl d_M_set_138 ?_
                        refine lv_iload_n hx hb d_M_set_141 rfl (lv_at hl 3 rfl) ?_
                        refine lv_aload_n hx hb d_M_set_142 rfl (lv_at hl 0 rfl) ?_
                        refine w_get (C := R_M) (T := F_M) (N := 22) (ci := 5) (v := .ref (o + 8)) hx hb hts inw_M hown hK hP 0 (by decide) SM_0 rfl 10 (by decide) (hts _ (al aF_M_32)) rfl d_M_set_143 ?_
                        refine lv_iload_n hx hb d_M_set_146 rfl (lv_at hl 3 rfl) ?_
                        refine lv_iconst (v := 1) hx hb d_M_set_147 (by decide) ?_
                        refine lv_isub hx hb d_M_set_148 ?_
                        refine w_topi (y_pred sc pp hp0) ?_
                        refine w_iald hx hb hK hP 8 0 (by decide) SM_8 rfl (k := (300 * sc + (pp - 1))) (by omega) (by decide) d_M_set_149 ?_
                        refine w_topi (hN5 (pp - 1) (by omega)) ?_
                        refine w_iast hx hb hK hP hW hS 8 0 (by decide) (fun _ => SM_8) rfl (k := (300 * sc + pp)) (by omega) (by decide) d_M_set_150 (fun H locs hP hS => ?_)
                        refine lv_iinc (v := nI (300 * sc + (pp - 1))) (lv' := [(3, .int (nI (300 * sc + (pp - 1)))), (0, .ref (o + 0)), (1, .int tl), (2, .int (nI k))]) hx hb d_M_set_151 hl (k := 3) rfl (y_dec sc pp hp0) (by decide) rfl (fun ls hl => ?_)
                        refine lv_goto (tgt := 102) hx hb d_M_set_154 (by decide) ?_
                        exact ih (pp - 1) (wI N 8 (300 * sc + pp) (nI ((x_tk ((wI (wI (wF M 0 0 0) 7 sc 0) 9 sc (-1)).1 1) ((wI (wI (wF M 0 0 0) 7 sc 0) 9 sc (-1)).2.1 2) tl k).1 (pp - 1)))) (by omega) (by omega) (fun a h => (up2_o _ _ _ _ h).trans (hN1 a h)) hN2 hN3 (fun i hi => (wI_k (by omega)).trans (hN4 i hi)) (fun j h => (wI_k (by omega)).trans (hN5 j (by omega))) (fun j h1 h2 => by by_cases e : j = pp; (subst e; exact wI_s); exact (wI_k (by omega)).trans (hN6 j (by omega) h2)) ((x_place_s hp0 hgt).trans hN7) _ _ hP hS ls (lv_sub hl [1, 2, 3, 0] rfl)
                exact lp102 (((x_tk ((wI (wI (wF M 0 0 0) 7 sc 0) 9 sc (-1)).1 1) ((wI (wI (wF M 0 0 0) 7 sc 0) 9 sc (-1)).2.1 2) tl k).2) + 1) ((x_tk ((wI (wI (wF M 0 0 0) 7 sc 0) 9 sc (-1)).1 1) ((wI (wI (wF M 0 0 0) 7 sc 0) 9 sc (-1)).2.1 2) tl k).2) P (Nat.lt_succ_self _) (Nat.le_refl _) (fun _ _ => rfl) rfl rfl (fun _ _ => rfl) hT.2.2.2.2.2.2 (fun j h1 h2 => absurd h1 (by omega)) rfl _ _ hP hS ls (lv_sub hl [1, 2, 3, 0] rfl)
        exact lp65 ((n - 0) + 1) 0 (wI (wI (wF M 0 0 0) 7 sc 0) 9 sc (-1)) (Nat.lt_succ_self _) (Nat.zero_le _) (yTaken_0 ((wI_ne (by decide)).trans wI_s)) _ _ hP hS ls (lv_sub hl [1, 2, 0] rfl)
      · exact absurd (by decide) c_4
    · have q2 : sc = 8 := (nI_eq (b := 8) (by omega) (by omega)).mp c_3
      refine lv_iconst (v := 2) hx hb d_M_set_26 (by decide) ?_
      refine lv_goto (tgt := 31) hx hb d_M_set_27 (by decide) ?_
      refine w_put (C := R_M) (T := F_M) (N := 22) (ci := 5) (x := 2) hx hb hts inw_M ft_M ft_M_ok fn_M hown hK hP hW hS 0 (by decide) SM_0 rfl 0 (by decide) (hts _ (al aF_M_64)) rfl rfl rfl (Nat.le_of_ble_eq_true rfl) (by rw [wF_r]; exact SM_0.trans rfl) d_M_set_31 (fun H locs hP hS => ?_)
      refine lv_aload_n hx hb d_M_set_34 rfl (lv_at hl 0 rfl) ?_
      refine w_get (C := R_M) (T := F_M) (N := 22) (ci := 5) (v := .int 2) hx hb hts inw_M hown hK hP 0 (by decide) SM_0 rfl 0 (by decide) (hts _ (al aF_M_64)) rfl d_M_set_35 ?_
      refine lv_if_le (tgt := 43) hx hb d_M_set_38 (by decide) (fun c_9 => ?_) (fun c_9 => ?_)
      · exact absurd c_9 (by decide)
      · refine lv_iconst (v := 0) hx hb d_M_set_41 (by decide) ?_
        exact W.iret (v := 0) hx hb hr (fun tz hz9 hW9 => ⟨⟨0, (wF M 0 0 2), rfl, Or.inr (Or.inl ⟨rfl, q1, q2⟩), by rw [hz9]; exact hP, va_K.moved hW9.alike hK⟩, hS.F hz9⟩) hS.2.2 d_M_set_42
  · have q1 : ¬ xin tl (nI (5 + 1)) := fun h => b2i_F c_2 ((y_in 5 (by omega)).mpr h)
    refine lv_iconst (v := 1) hx hb d_M_set_13 (by decide) ?_
    refine lv_goto (tgt := 31) hx hb d_M_set_14 (by decide) ?_
    refine w_put (C := R_M) (T := F_M) (N := 22) (ci := 5) (x := 1) hx hb hts inw_M ft_M ft_M_ok fn_M hown hK hP hW hS 0 (by decide) SM_0 rfl 0 (by decide) (hts _ (al aF_M_64)) rfl rfl rfl (Nat.le_of_ble_eq_true rfl) (by rw [wF_r]; exact SM_0.trans rfl) d_M_set_31 (fun H locs hP hS => ?_)
    refine lv_aload_n hx hb d_M_set_34 rfl (lv_at hl 0 rfl) ?_
    refine w_get (C := R_M) (T := F_M) (N := 22) (ci := 5) (v := .int 1) hx hb hts inw_M hown hK hP 0 (by decide) SM_0 rfl 0 (by decide) (hts _ (al aF_M_64)) rfl d_M_set_35 ?_
    refine lv_if_le (tgt := 43) hx hb d_M_set_38 (by decide) (fun c_10 => ?_) (fun c_10 => ?_)
    · exact absurd c_10 (by decide)
    · refine lv_iconst (v := 0) hx hb d_M_set_41 (by decide) ?_
      exact W.iret (v := 0) hx hb hr (fun tz hz9 hW9 => ⟨⟨0, (wF M 0 0 1), rfl, Or.inl ⟨rfl, q1⟩, by rw [hz9]; exact hP, va_K.moved hW9.alike hK⟩, hS.F hz9⟩) hS.2.2 d_M_set_42

