/-! the reference: since, conflict, balance -/
theorem y_idx3 (c s a b : Nat) : nI c * nI s + nI a + nI b = nI (c * s + (a + b)) := by rw [y_idx, nI_add, Nat.add_assoc]
def y_conf (M : wM) (od : Nat → Nat) (th : Int32) (f : Nat) : Bool := y_unlike M od th 9223372036854775807 f && !y_settled M od th 9223372036854775807 f
def y_cc (M : wM) (od : Nat → Nat) (z : Nat) : Nat → Nat
  | 0 => 0
  | i + 1 => if y_conf M od (nI i) z = true then y_cc M od z i + 1 else y_cc M od z i
theorem y_cc_t {M : wM} {od : Nat → Nat} {z i : Nat} (h : y_conf M od (nI i) z = true) : y_cc M od z (i + 1) = y_cc M od z i + 1 := by rw [y_cc, if_pos h]
theorem y_cc_f {M : wM} {od : Nat → Nat} {z i : Nat} (h : y_conf M od (nI i) z = false) : y_cc M od z (i + 1) = y_cc M od z i := by rw [y_cc, if_neg (by rw [h]; decide)]
def y_inb (M : wM) (ac day : Int32) (ej : Nat) (acc : Int64) : Nat → Int64
  | 0 => acc
  | k + 1 => y_inb M ac day ej acc k + (if 0 < M.1 15 ej ∧ M.1 11 ej ≤ day ∧ M.1 13 (6 * ej + k) = ac then M.2.1 14 (6 * ej + k) else 0)
def y_bal (M : wM) (rc : Nat → Nat) (ac day : Int32) : Nat → Int64
  | 0 => 0
  | ej + 1 => y_inb M ac day ej (y_bal M rc ac day ej) (rc ej)
set_option maxHeartbeats 4000000 in
set_option maxRecDepth 100000 in
/-- M_since -/
theorem k_M_since (l : Launch) (D : va_G) (cA : Nat → ClassId) (o sz : Nat) (M : wM) (sc : Nat) (hsc : sc ≤ 8) (esc : M.2.2 0 8 = nI sc) (z : Nat → Nat) (od : Nat → Nat → Nat) (hse : ySets M z od) (x mk kk wh : Int32) : Met l y_M_since (wm y_M_since c_M_since 6 (some .long)) { frames := 1, cells := 0, slots := 0, locals := 25 } (va_Pc [.ref (o + 0), .int x, .int mk, .int kk, .int wh] (mB D cA o M sz)) (va_Ql (fun r M1 => (M1 = (wF M 0 0 1) ∧ (¬ xin x (nI sc) ∨ ∃ k, k < sc ∧ x = nI k ∧ ¬ mk < 0 ∧ ¬ kk < 0 ∧ ¬ mk.toInt64 + kk.toInt64 < (nI (z k)).toInt64)) ∨ (M1 = (wF M 0 0 2) ∧ ∃ k, k < sc ∧ x = nI k ∧ (mk < 0 ∨ kk < 0 ∨ (mk.toInt64 + kk.toInt64 < (nI (z k)).toInt64 ∧ ¬ xin wh 3))) ∨ (M1 = (wF M 0 0 0) ∧ ∃ k a b, k < sc ∧ x = nI k ∧ mk = nI a ∧ kk = nI b ∧ a < 2147483648 ∧ b < 2147483648 ∧ a + b < z k ∧ xin wh 3 ∧ r = (if wh = 0 then (M.1 1 (od k (a + b))).toInt64 else if wh = 1 then M.2.1 2 (od k (a + b)) else M.2.1 5 (od k (a + b))))) (mQ D cA o) (mA o sz)) 0 0 (mA o sz) := by
  refine Met.ofW (cc := c_M_since) (maxL := 6) (ret := (some .long)) (by decide) rfl ?_
  intro p e s m args below meth c s₁ B hml hv
  obtain ⟨rfl, hsz, hP, hK⟩ := hv
  have hx := B.exec
  have hb := B.bytes
  have hr := B.returns
  have hts := atoms_spec (ws := wm y_M_since c_M_since 6 (some .long)) B.pre
  have hown : s.vm.findClass "ShopDesksModel" = some m.cls := findClass_of_methodNamed B.named
  have hlocks := B.notSynchronized
  subst hsz
  have hS : va_S (mA o s.heap.size) s.heap s.heap [] := va_S.rf
  have hW : ∀ i, i < 17 → mA o s.heap.size (o + i) := fun i hi => wA_in hi
  have hl := lv_entry ([.ref (o + 0), .int x, .int mk, .int kk, .int wh]) (n := 6) (Nat.le_of_ble_eq_true rfl)
  rw [lg_entry_eq]
  generalize (lg_sl ([.ref (o + 0), .int x, .int mk, .int kk, .int wh]) ++ List.replicate (6 - (lg_sl ([.ref (o + 0), .int x, .int mk, .int kk, .int wh])).length) Slot.unset).toArray = ls at hl ⊢
  have hl : lv_has ls 6 [(0, .ref (o + 0)), (1, .int x), (2, .int mk), (3, .int kk), (4, .int wh)] := hl
  refine lv_aload_n hx hb d_M_since_0 rfl (lv_at hl 0 rfl) ?_
  refine lv_aload_n hx hb d_M_since_1 rfl (lv_at hl 0 rfl) ?_
  refine lv_iload_n hx hb d_M_since_2 rfl (lv_at hl 1 rfl) ?_
  refine w_Vi ⟨hx, hb, hml, hown, hts⟩ (k_M_isSet l D cA o _ M x) (kV hts 1 aK_M_isSet aM_M_89 aI_M_isSet aV_M_isSet aN_M nm_M_isSet rfl rfl ⟨(Nat.le_of_ble_eq_true rfl), (Nat.le_of_ble_eq_true rfl)⟩) hK hP (by decide) SM_0 rfl rfl hl.1 rfl (Nat.le_of_ble_eq_true rfl) d_M_since_3 ⟨(Nat.le_of_ble_eq_true rfl), (Nat.le_of_ble_eq_true rfl)⟩ hS (fun q h => wA_le hS.1 h) (fun r_1 M_1 H locs hw_1 hP hzc hkc hS => ?_)
  rw [hw_1.1] at hP
  refine w_topi hw_1.2 ?_
  refine lv_if_eq (tgt := 33) hx hb d_M_since_6 (by decide) (fun c_2 => ?_) (fun c_2 => ?_)
  · have q1 : ¬ xin x (nI sc) := by rw [← esc]; exact b2i_F c_2
    refine lv_iconst (v := 1) hx hb d_M_since_33 (by decide) ?_
    refine lv_goto (tgt := 63) hx hb d_M_since_34 (by decide) ?_
    refine w_put (C := R_M) (T := F_M) (N := 22) (ci := 5) (x := 1) hx hb hts inw_M ft_M ft_M_ok fn_M hown hK hP hW hS 0 (by decide) SM_0 rfl 0 (by decide) (hts _ (al aF_M_64)) rfl rfl rfl (Nat.le_of_ble_eq_true rfl) (by rw [wF_r]; exact SM_0.trans rfl) d_M_since_63 (fun H locs hP hS => ?_)
    refine lv_aload_n hx hb d_M_since_66 rfl (lv_at hl 0 rfl) ?_
    refine w_get (C := R_M) (T := F_M) (N := 22) (ci := 5) (v := .int 1) hx hb hts inw_M hown hK hP 0 (by decide) SM_0 rfl 0 (by decide) (hts _ (al aF_M_64)) rfl d_M_since_67 ?_
    refine lv_if_le (tgt := 75) hx hb d_M_since_70 (by decide) (fun c_3 => ?_) (fun c_3 => ?_)
    · exact absurd c_3 (by decide)
    · refine lv_lconst (v := 0) hx hb d_M_since_73 (by decide) ?_
      exact W.lret (v := 0) hx hb hr (fun tz hz9 hW9 => ⟨⟨0, (wF M 0 0 1), rfl, Or.inl ⟨rfl, Or.inl q1⟩, by rw [hz9]; exact hP, va_K.moved hW9.alike hK⟩, hS.F hz9⟩) hS.2.2 d_M_since_74
  · have q1 : xin x (nI sc) := by rw [← esc]; exact b2i_T c_2
    obtain ⟨k1, hk1, ek1⟩ := x_idx q1.1 q1.2 (by omega)
    have hk18 : k1 < 8 := by omega
    refine lv_iload_n hx hb d_M_since_9 rfl (lv_at hl 2 rfl) ?_
    refine lv_if_lt (tgt := 37) hx hb d_M_since_10 (by decide) (fun c_4 => ?_) (fun c_4 => ?_)
    · have qm := c_4
      refine lv_iload_n hx hb d_M_since_37 rfl (lv_at hl 2 rfl) ?_
      refine lv_if_lt (tgt := 58) hx hb d_M_since_38 (by decide) (fun c_5 => ?_) (fun c_5 => ?_)
      · refine lv_iconst (v := 2) hx hb d_M_since_58 (by decide) ?_
        refine lv_goto (tgt := 63) hx hb d_M_since_59 (by decide) ?_
        refine w_put (C := R_M) (T := F_M) (N := 22) (ci := 5) (x := 2) hx hb hts inw_M ft_M ft_M_ok fn_M hown hK hP hW hS 0 (by decide) SM_0 rfl 0 (by decide) (hts _ (al aF_M_64)) rfl rfl rfl (Nat.le_of_ble_eq_true rfl) (by rw [wF_r]; exact SM_0.trans rfl) d_M_since_63 (fun H locs hP hS => ?_)
        refine lv_aload_n hx hb d_M_since_66 rfl (lv_at hl 0 rfl) ?_
        refine w_get (C := R_M) (T := F_M) (N := 22) (ci := 5) (v := .int 2) hx hb hts inw_M hown hK hP 0 (by decide) SM_0 rfl 0 (by decide) (hts _ (al aF_M_64)) rfl d_M_since_67 ?_
        refine lv_if_le (tgt := 75) hx hb d_M_since_70 (by decide) (fun c_6 => ?_) (fun c_6 => ?_)
        · exact absurd c_6 (by decide)
        · refine lv_lconst (v := 0) hx hb d_M_since_73 (by decide) ?_
          exact W.lret (v := 0) hx hb hr (fun tz hz9 hW9 => ⟨⟨0, (wF M 0 0 2), rfl, Or.inr (Or.inl ⟨rfl, k1, hk1, ek1, Or.inl qm⟩), by rw [hz9]; exact hP, va_K.moved hW9.alike hK⟩, hS.F hz9⟩) hS.2.2 d_M_since_74
      · exact absurd qm c_5
    · have qm := c_4
      refine lv_iload_n hx hb d_M_since_13 rfl (lv_at hl 3 rfl) ?_
      refine lv_if_lt (tgt := 37) hx hb d_M_since_14 (by decide) (fun c_7 => ?_) (fun c_7 => ?_)
      · have qk := c_7
        refine lv_iload_n hx hb d_M_since_37 rfl (lv_at hl 2 rfl) ?_
        refine lv_if_lt (tgt := 58) hx hb d_M_since_38 (by decide) (fun c_8 => ?_) (fun c_8 => ?_)
        · exact absurd c_8 qm
        · refine lv_iload_n hx hb d_M_since_41 rfl (lv_at hl 3 rfl) ?_
          refine lv_if_lt (tgt := 58) hx hb d_M_since_42 (by decide) (fun c_9 => ?_) (fun c_9 => ?_)
          · refine lv_iconst (v := 2) hx hb d_M_since_58 (by decide) ?_
            refine lv_goto (tgt := 63) hx hb d_M_since_59 (by decide) ?_
            refine w_put (C := R_M) (T := F_M) (N := 22) (ci := 5) (x := 2) hx hb hts inw_M ft_M ft_M_ok fn_M hown hK hP hW hS 0 (by decide) SM_0 rfl 0 (by decide) (hts _ (al aF_M_64)) rfl rfl rfl (Nat.le_of_ble_eq_true rfl) (by rw [wF_r]; exact SM_0.trans rfl) d_M_since_63 (fun H locs hP hS => ?_)
            refine lv_aload_n hx hb d_M_since_66 rfl (lv_at hl 0 rfl) ?_
            refine w_get (C := R_M) (T := F_M) (N := 22) (ci := 5) (v := .int 2) hx hb hts inw_M hown hK hP 0 (by decide) SM_0 rfl 0 (by decide) (hts _ (al aF_M_64)) rfl d_M_since_67 ?_
            refine lv_if_le (tgt := 75) hx hb d_M_since_70 (by decide) (fun c_10 => ?_) (fun c_10 => ?_)
            · exact absurd c_10 (by decide)
            · refine lv_lconst (v := 0) hx hb d_M_since_73 (by decide) ?_
              exact W.lret (v := 0) hx hb hr (fun tz hz9 hW9 => ⟨⟨0, (wF M 0 0 2), rfl, Or.inr (Or.inl ⟨rfl, k1, hk1, ek1, Or.inr (Or.inl qk)⟩), by rw [hz9]; exact hP, va_K.moved hW9.alike hK⟩, hS.F hz9⟩) hS.2.2 d_M_since_74
          · exact absurd qk c_9
      · have qk := c_7
        refine lv_iload_n hx hb d_M_since_17 rfl (lv_at hl 2 rfl) ?_
        refine lv_i2l hx hb d_M_since_18 rfl ?_
        refine lv_iload_n hx hb d_M_since_19 rfl (lv_at hl 3 rfl) ?_
        refine lv_i2l hx hb d_M_since_20 rfl ?_
        refine lv_ladd hx hb d_M_since_21 ?_
        refine lv_aload_n hx hb d_M_since_22 rfl (lv_at hl 0 rfl) ?_
        refine w_get (C := R_M) (T := F_M) (N := 22) (ci := 5) (v := .ref (o + 7)) hx hb hts inw_M hown hK hP 0 (by decide) SM_0 rfl 9 (by decide) (hts _ (al aF_M_29)) rfl d_M_since_23 ?_
        refine lv_iload_n hx hb d_M_since_26 rfl (lv_at hl 1 rfl) ?_
        refine w_topi ek1 ?_
        refine w_iald hx hb hK hP 7 0 (by decide) SM_7 rfl (k := k1) (by omega) (by decide) d_M_since_27 ?_
        refine w_topi ((hse k1 hk18).2.1) ?_
        refine lv_i2l hx hb d_M_since_28 rfl ?_
        refine W.lcmp hx hb d_M_since_29 ?_
        refine lv_if_lt (tgt := 37) hx hb d_M_since_30 (by decide) (fun c_11 => ?_) (fun c_11 => ?_)
        · rw [lg_cmp_lt] at c_11
          have qs := c_11
          refine lv_iload_n hx hb d_M_since_37 rfl (lv_at hl 2 rfl) ?_
          refine lv_if_lt (tgt := 58) hx hb d_M_since_38 (by decide) (fun c_12 => ?_) (fun c_12 => ?_)
          · exact absurd c_12 qm
          · refine lv_iload_n hx hb d_M_since_41 rfl (lv_at hl 3 rfl) ?_
            refine lv_if_lt (tgt := 58) hx hb d_M_since_42 (by decide) (fun c_13 => ?_) (fun c_13 => ?_)
            · exact absurd c_13 qk
            · refine lv_iload hx hb d_M_since_45 (lv_at hl 4 rfl) ?_
              refine lv_i2l hx hb d_M_since_47 rfl ?_
              refine lv_lconst (v := 0) hx hb d_M_since_48 (by decide) ?_
              refine lv_ldc2 (v := 2) hx hb hown (hts _ (al aL_M_132)) d_M_since_49 ?_
              refine w_Si ⟨hx, hb, hml, hown, hts⟩ (k_M_isIn l D cA o _ M (wh.toInt64) 0 2) (kS hts 3 aK_M_isIn aM_M_72 aS_M_isIn aN_M nm_M_isIn rfl rfl ⟨(Nat.le_of_ble_eq_true rfl), (Nat.le_of_ble_eq_true rfl)⟩) hK hP rfl hl.1 rfl (Nat.le_of_ble_eq_true rfl) d_M_since_52 ⟨(Nat.le_of_ble_eq_true rfl), (Nat.le_of_ble_eq_true rfl)⟩ hS (fun q h => wA_le hS.1 h) (fun r_14 M_14 H locs hw_14 hP hzc hkc hS => ?_)
              rw [hw_14.1] at hP
              refine w_topi hw_14.2 ?_
              refine lv_if_ne (tgt := 62) hx hb d_M_since_55 (by decide) (fun c_15 => ?_) (fun c_15 => ?_)
              · have q4 : xin wh (nI (2 + 1)) := (y_in 2 (by omega)).mp (b2i_T c_15)
                obtain ⟨a1, ha1, ea1⟩ := nI_of qm
                obtain ⟨b1, hb1, eb1⟩ := nI_of qk
                have hz9 := (hse k1 hk18).1
                have hsum : a1 + b1 < z k1 := by rw [ea1, eb1] at qs; exact (x_pll ha1 hb1 (by omega)).mp qs
                refine lv_iconst (v := 0) hx hb d_M_since_62 (by decide) ?_
                refine w_put (C := R_M) (T := F_M) (N := 22) (ci := 5) (x := 0) hx hb hts inw_M ft_M ft_M_ok fn_M hown hK hP hW hS 0 (by decide) SM_0 rfl 0 (by decide) (hts _ (al aF_M_64)) rfl rfl rfl (Nat.le_of_ble_eq_true rfl) (by rw [wF_r]; exact SM_0.trans rfl) d_M_since_63 (fun H locs hP hS => ?_)
                refine lv_aload_n hx hb d_M_since_66 rfl (lv_at hl 0 rfl) ?_
                refine w_get (C := R_M) (T := F_M) (N := 22) (ci := 5) (v := .int 0) hx hb hts inw_M hown hK hP 0 (by decide) SM_0 rfl 0 (by decide) (hts _ (al aF_M_64)) rfl d_M_since_67 ?_
                refine lv_if_le (tgt := 75) hx hb d_M_since_70 (by decide) (fun c_16 => ?_) (fun c_16 => ?_)
                · refine lv_aload_n hx hb d_M_since_75 rfl (lv_at hl 0 rfl) ?_
                  refine w_get (C := R_M) (T := F_M) (N := 22) (ci := 5) (v := .ref (o + 8)) hx hb hts inw_M hown hK hP 0 (by decide) SM_0 rfl 10 (by decide) (hts _ (al aF_M_32)) rfl d_M_since_76 ?_
                  refine lv_sipush (v := 300) hx hb d_M_since_79 (by decide) ?_
                  refine lv_iload_n hx hb d_M_since_82 rfl (lv_at hl 1 rfl) ?_
                  refine w_topi ek1 ?_
                  refine lv_imul hx hb d_M_since_83 ?_
                  refine lv_iload_n hx hb d_M_since_84 rfl (lv_at hl 2 rfl) ?_
                  refine w_topi ea1 ?_
                  refine lv_iadd hx hb d_M_since_85 ?_
                  refine lv_iload_n hx hb d_M_since_86 rfl (lv_at hl 3 rfl) ?_
                  refine w_topi eb1 ?_
                  refine lv_iadd hx hb d_M_since_87 ?_
                  refine w_topi (y_idx3 300 k1 a1 b1) ?_
                  refine w_iald hx hb hK hP 8 0 (by decide) SM_8 rfl (k := (300 * k1 + (a1 + b1))) (by omega) (by decide) d_M_since_88 ?_
                  refine w_topi (((hse k1 hk18).2.2 (a1 + b1) hsum).1) ?_
                  refine lv_istore (lv' := [(5, .int (nI (od k1 (a1 + b1)))), (0, .ref (o + 0)), (1, .int x), (2, .int mk), (3, .int kk), (4, .int wh)]) hx hb d_M_since_89 hl (by decide) rfl (fun ls hl => ?_)
                  refine lv_iload hx hb d_M_since_91 (lv_at hl 5 rfl) ?_
                  refine lv_if_ne (tgt := 107) hx hb d_M_since_93 (by decide) (fun c_17 => ?_) (fun c_17 => ?_)
                  · have q6 := c_17
                    refine lv_iload hx hb d_M_since_107 (lv_at hl 5 rfl) ?_
                    refine lv_iconst (v := 1) hx hb d_M_since_109 (by decide) ?_
                    refine lv_icmp_ne (tgt := 123) hx hb d_M_since_110 (by decide) (fun c_18 => ?_) (fun c_18 => ?_)
                    · have q7 := c_18
                      refine lv_aload_n hx hb d_M_since_123 rfl (lv_at hl 1 rfl) ?_
                      refine w_get (C := R_M) (T := F_M) (N := 22) (ci := 5) (v := .ref (o + 5)) hx hb hts inw_M hown hK hP 0 (by decide) SM_0 rfl 6 (by decide) (hts _ (al aF_M_23)) rfl d_M_since_124 ?_
                      refine lv_iload hx hb d_M_since_127 (lv_at hl 0 rfl) ?_
                      refine w_lald hx hb hK hP 5 1 (by decide) SM_5 rfl (k := (od k1 (a1 + b1))) (((hse k1 hk18).2.2 (a1 + b1) hsum).2) (by decide) d_M_since_129 ?_
                      exact W.lret (v := M.2.1 5 (od k1 (a1 + b1))) hx hb hr (fun tz hz9 hW9 => ⟨⟨M.2.1 5 (od k1 (a1 + b1)), (wF M 0 0 0), rfl, Or.inr (Or.inr ⟨rfl, k1, a1, b1, hk1, ek1, ea1, eb1, ha1, hb1, hsum, q4, by rw [if_neg q6, if_neg q7]⟩), by rw [hz9]; exact hP, va_K.moved hW9.alike hK⟩, hS.F hz9⟩) hS.2.2 d_M_since_130
                    · have q7 := c_18
                      refine lv_aload_n hx hb d_M_since_113 rfl (lv_at hl 1 rfl) ?_
                      refine w_get (C := R_M) (T := F_M) (N := 22) (ci := 5) (v := .ref (o + 2)) hx hb hts inw_M hown hK hP 0 (by decide) SM_0 rfl 3 (by decide) (hts _ (al aF_M_13)) rfl d_M_since_114 ?_
                      refine lv_iload hx hb d_M_since_117 (lv_at hl 0 rfl) ?_
                      refine w_lald hx hb hK hP 2 1 (by decide) SM_2 rfl (k := (od k1 (a1 + b1))) (((hse k1 hk18).2.2 (a1 + b1) hsum).2) (by decide) d_M_since_119 ?_
                      refine lv_goto (tgt := 130) hx hb d_M_since_120 (by decide) ?_
                      exact W.lret (v := M.2.1 2 (od k1 (a1 + b1))) hx hb hr (fun tz hz9 hW9 => ⟨⟨M.2.1 2 (od k1 (a1 + b1)), (wF M 0 0 0), rfl, Or.inr (Or.inr ⟨rfl, k1, a1, b1, hk1, ek1, ea1, eb1, ha1, hb1, hsum, q4, by rw [if_neg q6, if_pos q7]⟩), by rw [hz9]; exact hP, va_K.moved hW9.alike hK⟩, hS.F hz9⟩) hS.2.2 d_M_since_130
                  · have q6 := c_17
                    refine lv_aload_n hx hb d_M_since_96 rfl (lv_at hl 1 rfl) ?_
                    refine w_get (C := R_M) (T := F_M) (N := 22) (ci := 5) (v := .ref (o + 1)) hx hb hts inw_M hown hK hP 0 (by decide) SM_0 rfl 2 (by decide) (hts _ (al aF_M_7)) rfl d_M_since_97 ?_
                    refine lv_iload hx hb d_M_since_100 (lv_at hl 0 rfl) ?_
                    refine w_iald hx hb hK hP 1 0 (by decide) SM_1 rfl (k := (od k1 (a1 + b1))) (((hse k1 hk18).2.2 (a1 + b1) hsum).2) (by decide) d_M_since_102 ?_
                    refine lv_i2l hx hb d_M_since_103 rfl ?_
                    refine lv_goto (tgt := 130) hx hb d_M_since_104 (by decide) ?_
                    exact W.lret (v := (M.1 1 (od k1 (a1 + b1))).toInt64) hx hb hr (fun tz hz9 hW9 => ⟨⟨(M.1 1 (od k1 (a1 + b1))).toInt64, (wF M 0 0 0), rfl, Or.inr (Or.inr ⟨rfl, k1, a1, b1, hk1, ek1, ea1, eb1, ha1, hb1, hsum, q4, by rw [if_pos q6]⟩), by rw [hz9]; exact hP, va_K.moved hW9.alike hK⟩, hS.F hz9⟩) hS.2.2 d_M_since_130
                · exact absurd (by decide) c_16
              · have q4 : ¬ xin wh (nI (2 + 1)) := fun h => b2i_F c_15 ((y_in 2 (by omega)).mpr h)
                refine lv_iconst (v := 2) hx hb d_M_since_58 (by decide) ?_
                refine lv_goto (tgt := 63) hx hb d_M_since_59 (by decide) ?_
                refine w_put (C := R_M) (T := F_M) (N := 22) (ci := 5) (x := 2) hx hb hts inw_M ft_M ft_M_ok fn_M hown hK hP hW hS 0 (by decide) SM_0 rfl 0 (by decide) (hts _ (al aF_M_64)) rfl rfl rfl (Nat.le_of_ble_eq_true rfl) (by rw [wF_r]; exact SM_0.trans rfl) d_M_since_63 (fun H locs hP hS => ?_)
                refine lv_aload_n hx hb d_M_since_66 rfl (lv_at hl 0 rfl) ?_
                refine w_get (C := R_M) (T := F_M) (N := 22) (ci := 5) (v := .int 2) hx hb hts inw_M hown hK hP 0 (by decide) SM_0 rfl 0 (by decide) (hts _ (al aF_M_64)) rfl d_M_since_67 ?_
                refine lv_if_le (tgt := 75) hx hb d_M_since_70 (by decide) (fun c_19 => ?_) (fun c_19 => ?_)
                · exact absurd c_19 (by decide)
                · refine lv_lconst (v := 0) hx hb d_M_since_73 (by decide) ?_
                  exact W.lret (v := 0) hx hb hr (fun tz hz9 hW9 => ⟨⟨0, (wF M 0 0 2), rfl, Or.inr (Or.inl ⟨rfl, k1, hk1, ek1, Or.inr (Or.inr ⟨qs, q4⟩)⟩), by rw [hz9]; exact hP, va_K.moved hW9.alike hK⟩, hS.F hz9⟩) hS.2.2 d_M_since_74
        · rw [lg_cmp_lt] at c_11
          have qs := c_11
          refine lv_iconst (v := 1) hx hb d_M_since_33 (by decide) ?_
          refine lv_goto (tgt := 63) hx hb d_M_since_34 (by decide) ?_
          refine w_put (C := R_M) (T := F_M) (N := 22) (ci := 5) (x := 1) hx hb hts inw_M ft_M ft_M_ok fn_M hown hK hP hW hS 0 (by decide) SM_0 rfl 0 (by decide) (hts _ (al aF_M_64)) rfl rfl rfl (Nat.le_of_ble_eq_true rfl) (by rw [wF_r]; exact SM_0.trans rfl) d_M_since_63 (fun H locs hP hS => ?_)
          refine lv_aload_n hx hb d_M_since_66 rfl (lv_at hl 0 rfl) ?_
          refine w_get (C := R_M) (T := F_M) (N := 22) (ci := 5) (v := .int 1) hx hb hts inw_M hown hK hP 0 (by decide) SM_0 rfl 0 (by decide) (hts _ (al aF_M_64)) rfl d_M_since_67 ?_
          refine lv_if_le (tgt := 75) hx hb d_M_since_70 (by decide) (fun c_20 => ?_) (fun c_20 => ?_)
          · exact absurd c_20 (by decide)
          · refine lv_lconst (v := 0) hx hb d_M_since_73 (by decide) ?_
            exact W.lret (v := 0) hx hb hr (fun tz hz9 hW9 => ⟨⟨0, (wF M 0 0 1), rfl, Or.inl ⟨rfl, Or.inr ⟨k1, hk1, ek1, qm, qk, qs⟩⟩, by rw [hz9]; exact hP, va_K.moved hW9.alike hK⟩, hS.F hz9⟩) hS.2.2 d_M_since_74
set_option maxHeartbeats 4000000 in
set_option maxRecDepth 100000 in
/-- M_conflict -/
theorem k_M_conflict (l : Launch) (D : va_G) (cA : Nat → ClassId) (o sz : Nat) (M : wM) (sc : Nat) (hsc : sc ≤ 8) (esc : M.2.2 0 8 = nI sc) (z : Nat → Nat) (od : Nat → Nat → Nat) (hse : ySets M z od) (x kk : Int32) : Met l y_M_conflict (wm y_M_conflict c_M_conflict 5 (some .int)) { frames := 4, cells := 0, slots := 0, locals := 103 } (va_Pc [.ref (o + 0), .int x, .int kk] (mB D cA o M sz)) (va_Qi (fun r M1 => (M1 = (wF M 0 0 1) ∧ ¬ xin x (nI sc)) ∨ (M1 = (wF M 0 0 2) ∧ xin x (nI sc) ∧ kk < 0) ∨ (M1 = (wF M 0 0 0) ∧ ¬ kk < 0 ∧ ∃ k, k < sc ∧ x = nI k ∧ ((∃ i, i < 10 ∧ y_conf (wF M 0 0 0) (od k) (nI i) (z k) = true ∧ nI (y_cc (wF M 0 0 0) (od k) (z k) i) = kk ∧ r = nI i) ∨ ((∀ i, i < 10 → y_conf (wF M 0 0 0) (od k) (nI i) (z k) = true → ¬ nI (y_cc (wF M 0 0 0) (od k) (z k) i) = kk) ∧ r = -1)))) (mQ D cA o) (mA o sz)) 0 0 (mA o sz) := by
  refine Met.ofW (cc := c_M_conflict) (maxL := 5) (ret := (some .int)) (by decide) rfl ?_
  intro p e s m args below meth c s₁ B hml hv
  obtain ⟨rfl, hsz, hP, hK⟩ := hv
  have hx := B.exec
  have hb := B.bytes
  have hr := B.returns
  have hts := atoms_spec (ws := wm y_M_conflict c_M_conflict 5 (some .int)) B.pre
  have hown : s.vm.findClass "ShopDesksModel" = some m.cls := findClass_of_methodNamed B.named
  have hlocks := B.notSynchronized
  subst hsz
  have hS : va_S (mA o s.heap.size) s.heap s.heap [] := va_S.rf
  have hW : ∀ i, i < 17 → mA o s.heap.size (o + i) := fun i hi => wA_in hi
  have hl := lv_entry ([.ref (o + 0), .int x, .int kk]) (n := 5) (Nat.le_of_ble_eq_true rfl)
  rw [lg_entry_eq]
  generalize (lg_sl ([.ref (o + 0), .int x, .int kk]) ++ List.replicate (5 - (lg_sl ([.ref (o + 0), .int x, .int kk])).length) Slot.unset).toArray = ls at hl ⊢
  have hl : lv_has ls 5 [(0, .ref (o + 0)), (1, .int x), (2, .int kk)] := hl
  refine lv_aload_n hx hb d_M_conflict_0 rfl (lv_at hl 0 rfl) ?_
  refine lv_aload_n hx hb d_M_conflict_1 rfl (lv_at hl 0 rfl) ?_
  refine lv_iload_n hx hb d_M_conflict_2 rfl (lv_at hl 1 rfl) ?_
  refine w_Vi ⟨hx, hb, hml, hown, hts⟩ (k_M_isSet l D cA o _ M x) (kV hts 1 aK_M_isSet aM_M_89 aI_M_isSet aV_M_isSet aN_M nm_M_isSet rfl rfl ⟨(Nat.le_of_ble_eq_true rfl), (Nat.le_of_ble_eq_true rfl)⟩) hK hP (by decide) SM_0 rfl rfl hl.1 rfl (Nat.le_of_ble_eq_true rfl) d_M_conflict_3 ⟨(Nat.le_of_ble_eq_true rfl), (Nat.le_of_ble_eq_true rfl)⟩ hS (fun q h => wA_le hS.1 h) (fun r_1 M_1 H locs hw_1 hP hzc hkc hS => ?_)
  rw [hw_1.1] at hP
  refine w_topi hw_1.2 ?_
  refine lv_if_ne (tgt := 13) hx hb d_M_conflict_6 (by decide) (fun c_2 => ?_) (fun c_2 => ?_)
  · have q1 : xin x (nI sc) := by rw [← esc]; exact b2i_T c_2
    obtain ⟨k1, hk1, ek1⟩ := x_idx q1.1 q1.2 (by omega)
    have hk18 : k1 < 8 := by omega
    have hz9 := (hse k1 hk18).1
    refine lv_iload_n hx hb d_M_conflict_13 rfl (lv_at hl 2 rfl) ?_
    refine lv_if_ge (tgt := 21) hx hb d_M_conflict_14 (by decide) (fun c_3 => ?_) (fun c_3 => ?_)
    · have q2 : ¬ kk < 0 := Int32.not_lt.mpr c_3
      obtain ⟨kn, hkn, ekn⟩ := nI_of q2
      refine lv_iconst (v := 0) hx hb d_M_conflict_21 (by decide) ?_
      refine w_put (C := R_M) (T := F_M) (N := 22) (ci := 5) (x := 0) hx hb hts inw_M ft_M ft_M_ok fn_M hown hK hP hW hS 0 (by decide) SM_0 rfl 0 (by decide) (hts _ (al aF_M_64)) rfl rfl rfl (Nat.le_of_ble_eq_true rfl) (by rw [wF_r]; exact SM_0.trans rfl) d_M_conflict_22 (fun H locs hP hS => ?_)
      refine lv_iload_n hx hb d_M_conflict_25 rfl (lv_at hl 2 rfl) ?_
      refine lv_istore_n (lv' := [(3, .int kk), (0, .ref (o + 0)), (1, .int x), (2, .int kk)]) hx hb d_M_conflict_26 rfl hl (by decide) rfl (fun ls hl => ?_)
      refine lv_iconst (v := 0) hx hb d_M_conflict_27 (by decide) ?_
      refine lv_istore (lv' := [(4, .int 0), (3, .int kk), (0, .ref (o + 0)), (1, .int x), (2, .int kk)]) hx hb d_M_conflict_28 hl (by decide) rfl (fun ls hl => ?_)
      have lp30 : ∀ (fuel : Nat) (i : Nat) (bf : Nat) (lf : Int32), 10 - i < fuel → (i ≤ 10) → (lf = nI (kn - bf)) → (bf ≤ kn) → (bf = y_cc (wF M 0 0 0) (od k1) (z k1) i) → (∀ j, j < i → y_conf (wF M 0 0 0) (od k1) (nI j) (z k1) = true → ¬ nI (y_cc (wF M 0 0 0) (od k1) (z k1) j) = kk) → ∀ (H : Heap) (locs : List Loc), wP D cls_ (SM o cA) o 17 (wF M 0 0 0) H → va_S (mA o s.heap.size) s.heap H locs → ∀ (ls : Array Slot), lv_has ls 5 [(0, .ref (o + 0)), (1, .int x), (2, .int kk), (3, .int lf), (4, .int (nI i))] → W p l e (headSpec (wm y_M_conflict c_M_conflict 5 (some .int)) { frames := 4, cells := 0, slots := 0, locals := 103 }).room s m ([.ref (o + 0), .int x, .int kk] : List Value).toArray below meth c H locs 0 0 (MQ below (va_Qi (fun r M1 => (M1 = (wF M 0 0 1) ∧ ¬ xin x (nI sc)) ∨ (M1 = (wF M 0 0 2) ∧ xin x (nI sc) ∧ kk < 0) ∨ (M1 = (wF M 0 0 0) ∧ ¬ kk < 0 ∧ ∃ k, k < sc ∧ x = nI k ∧ ((∃ i, i < 10 ∧ y_conf (wF M 0 0 0) (od k) (nI i) (z k) = true ∧ nI (y_cc (wF M 0 0 0) (od k) (z k) i) = kk ∧ r = nI i) ∨ ((∀ i, i < 10 → y_conf (wF M 0 0 0) (od k) (nI i) (z k) = true → ¬ nI (y_cc (wF M 0 0 0) (od k) (z k) i) = kk) ∧ r = -1)))) (mQ D cA o) (mA o s.heap.size)) ([.ref (o + 0), .int x, .int kk] : List Value).toArray s 0 0 (mA o s.heap.size)) (F0 m 30 ls []) := by
        intro fuel
        induction fuel with
        | zero => intro i bf lf hfu; exact absurd hfu (Nat.not_lt_zero _)
        | succ fuel ih =>
          intro i bf lf hfu hi hlf hbk hbf hno H locs hP hS ls hl
          refine lv_iload hx hb d_M_conflict_30 (lv_at hl 4 rfl) ?_
          refine lv_bipush (v := 10) hx hb d_M_conflict_32 (by decide) ?_
          refine lv_icmp_ge (tgt := 98) hx hb d_M_conflict_34 (by decide) (fun c_4 => ?_) (fun c_4 => ?_)
          · have hi9 : 10 ≤ i := i_le (a := 10) (by omega) (by omega) c_4
            refine lv_aload_n hx hb d_M_conflict_98 rfl (lv_at hl 0 rfl) ?_
            refine w_get (C := R_M) (T := F_M) (N := 22) (ci := 5) (v := .int 0) hx hb hts inw_M hown hK hP 0 (by decide) SM_0 rfl 0 (by decide) (hts _ (al aF_M_64)) rfl d_M_conflict_99 ?_
            refine lv_if_le (tgt := 109) hx hb d_M_conflict_102 (by decide) (fun c_5 => ?_) (fun c_5 => ?_)
            · refine lv_iconst (v := -1) hx hb d_M_conflict_109 (by decide) ?_
              exact W.iret (v := (-1)) hx hb hr (fun tz hz9 hW9 => ⟨⟨(-1), (wF M 0 0 0), rfl, Or.inr (Or.inr ⟨rfl, q2, k1, hk1, ek1, Or.inr ⟨fun j hj => hno j (by omega), rfl⟩⟩), by rw [hz9]; exact hP, va_K.moved hW9.alike hK⟩, hS.F hz9⟩) hS.2.2 d_M_conflict_110
            · exact absurd (by decide) c_5
          · have hi9 : i < 10 := i_nle (a := 10) (by omega) (by omega) c_4
            refine lv_aload_n hx hb d_M_conflict_37 rfl (lv_at hl 0 rfl) ?_
            refine w_get (C := R_M) (T := F_M) (N := 22) (ci := 5) (v := .int 0) hx hb hts inw_M hown hK hP 0 (by decide) SM_0 rfl 0 (by decide) (hts _ (al aF_M_64)) rfl d_M_conflict_38 ?_
            refine lv_if_ne (tgt := 98) hx hb d_M_conflict_41 (by decide) (fun c_6 => ?_) (fun c_6 => ?_)
            · exact absurd (by decide) c_6
            · refine lv_aload_n hx hb d_M_conflict_44 rfl (lv_at hl 0 rfl) ?_
              refine lv_iload_n hx hb d_M_conflict_45 rfl (lv_at hl 1 rfl) ?_
              refine w_topi ek1 ?_
              refine lv_aload_n hx hb d_M_conflict_46 rfl (lv_at hl 0 rfl) ?_
              refine w_get (C := R_M) (T := F_M) (N := 22) (ci := 5) (v := .ref (o + 7)) hx hb hts inw_M hown hK hP 0 (by decide) SM_0 rfl 9 (by decide) (hts _ (al aF_M_29)) rfl d_M_conflict_47 ?_
              refine lv_iload_n hx hb d_M_conflict_50 rfl (lv_at hl 1 rfl) ?_
              refine w_topi ek1 ?_
              refine w_iald hx hb hK hP 7 0 (by decide) SM_7 rfl (k := k1) (by omega) (by decide) d_M_conflict_51 ?_
              refine w_topi ((hse k1 hk18).2.1) ?_
              refine lv_iload hx hb d_M_conflict_52 (lv_at hl 4 rfl) ?_
              refine w_Sl ⟨hx, hb, hml, hown, hts⟩ (k_M_end l D cA o _ (wF M 0 0 0) ) (kS hts 0 aK_M_end aM_M_128 aS_M_end aN_M nm_M_end rfl rfl ⟨(Nat.le_of_ble_eq_true rfl), (Nat.le_of_ble_eq_true rfl)⟩) hK hP rfl hl.1 rfl (Nat.le_of_ble_eq_true rfl) d_M_conflict_54 ⟨(Nat.le_of_ble_eq_true rfl), (Nat.le_of_ble_eq_true rfl)⟩ hS (fun q h => wA_le hS.1 h) (fun r_7 M_7 H locs hw_7 hP hzc hkc hS => ?_)
              rw [hw_7.1] at hP
              refine w_topl hw_7.2 ?_
              refine w_Vi ⟨hx, hb, hml, hown, hts⟩ (k_M_areUnlike l D cA o _ (wF M 0 0 0) k1 hk18 (od k1) (z k1) hz9 (hse k1 hk18).2.2 (nI i) 9223372036854775807) (kV hts 4 aK_M_areUnlike aM_M_119 aI_M_areUnlike aV_M_areUnlike aN_M nm_M_areUnlike rfl rfl ⟨(Nat.le_of_ble_eq_true rfl), (Nat.le_of_ble_eq_true rfl)⟩) hK hP (by decide) SM_0 rfl rfl hl.1 rfl (Nat.le_of_ble_eq_true rfl) d_M_conflict_57 ⟨(Nat.le_of_ble_eq_true rfl), (Nat.le_of_ble_eq_true rfl)⟩ hS (fun q h => wA_le hS.1 h) (fun r_8 M_8 H locs hw_8 hP hzc hkc hS => ?_)
              rw [hw_8.1] at hP
              refine w_topi hw_8.2 ?_
              refine lv_if_eq (tgt := 92) hx hb d_M_conflict_60 (by decide) (fun c_9 => ?_) (fun c_9 => ?_)
              · have hh : y_conf (wF M 0 0 0) (od k1) (nI i) (z k1) = false := by unfold y_conf; rw [b2i_0 c_9]; rfl
                refine lv_iinc (v := nI (i + 1)) (lv' := [(4, .int (nI (i + 1))), (0, .ref (o + 0)), (1, .int x), (2, .int kk), (3, .int lf)]) hx hb d_M_conflict_92 hl (k := 4) rfl (w_inc i) (by decide) rfl (fun ls hl => ?_)
                refine lv_goto (tgt := 30) hx hb d_M_conflict_95 (by decide) ?_
                exact ih (i + 1) bf lf (by omega) hi9 hlf hbk (by rw [y_cc_f hh]; exact hbf) (lt_s hno (fun h => by rw [hh] at h; cases h)) _ _ hP hS ls (lv_sub hl [1, 2, 3, 4, 0] rfl)
              · have hu := b2i_1 c_9
                refine lv_aload_n hx hb d_M_conflict_63 rfl (lv_at hl 0 rfl) ?_
                refine lv_iload_n hx hb d_M_conflict_64 rfl (lv_at hl 1 rfl) ?_
                refine w_topi ek1 ?_
                refine lv_aload_n hx hb d_M_conflict_65 rfl (lv_at hl 0 rfl) ?_
                refine w_get (C := R_M) (T := F_M) (N := 22) (ci := 5) (v := .ref (o + 7)) hx hb hts inw_M hown hK hP 0 (by decide) SM_0 rfl 9 (by decide) (hts _ (al aF_M_29)) rfl d_M_conflict_66 ?_
                refine lv_iload_n hx hb d_M_conflict_69 rfl (lv_at hl 1 rfl) ?_
                refine w_topi ek1 ?_
                refine w_iald hx hb hK hP 7 0 (by decide) SM_7 rfl (k := k1) (by omega) (by decide) d_M_conflict_70 ?_
                refine w_topi ((hse k1 hk18).2.1) ?_
                refine lv_iload hx hb d_M_conflict_71 (lv_at hl 4 rfl) ?_
                refine w_Sl ⟨hx, hb, hml, hown, hts⟩ (k_M_end l D cA o _ (wF M 0 0 0) ) (kS hts 0 aK_M_end aM_M_128 aS_M_end aN_M nm_M_end rfl rfl ⟨(Nat.le_of_ble_eq_true rfl), (Nat.le_of_ble_eq_true rfl)⟩) hK hP rfl hl.1 rfl (Nat.le_of_ble_eq_true rfl) d_M_conflict_73 ⟨(Nat.le_of_ble_eq_true rfl), (Nat.le_of_ble_eq_true rfl)⟩ hS (fun q h => wA_le hS.1 h) (fun r_10 M_10 H locs hw_10 hP hzc hkc hS => ?_)
                rw [hw_10.1] at hP
                refine w_topl hw_10.2 ?_
                refine w_Vi ⟨hx, hb, hml, hown, hts⟩ (k_M_isSettled l D cA o _ (wF M 0 0 0) k1 hk18 (od k1) (z k1) hz9 (hse k1 hk18).2.2 (nI i) 9223372036854775807) (kV hts 4 aK_M_isSettled aM_M_116 aI_M_isSettled aV_M_isSettled aN_M nm_M_isSettled rfl rfl ⟨(Nat.le_of_ble_eq_true rfl), (Nat.le_of_ble_eq_true rfl)⟩) hK hP (by decide) SM_0 rfl rfl hl.1 rfl (Nat.le_of_ble_eq_true rfl) d_M_conflict_76 ⟨(Nat.le_of_ble_eq_true rfl), (Nat.le_of_ble_eq_true rfl)⟩ hS (fun q h => wA_le hS.1 h) (fun r_11 M_11 H locs hw_11 hP hzc hkc hS => ?_)
                rw [hw_11.1] at hP
                refine w_topi hw_11.2 ?_
                refine lv_if_ne (tgt := 92) hx hb d_M_conflict_79 (by decide) (fun c_12 => ?_) (fun c_12 => ?_)
                · have hh : y_conf (wF M 0 0 0) (od k1) (nI i) (z k1) = false := by unfold y_conf; rw [hu, b2i_1 c_12]; rfl
                  refine lv_iinc (v := nI (i + 1)) (lv' := [(4, .int (nI (i + 1))), (0, .ref (o + 0)), (1, .int x), (2, .int kk), (3, .int lf)]) hx hb d_M_conflict_92 hl (k := 4) rfl (w_inc i) (by decide) rfl (fun ls hl => ?_)
                  refine lv_goto (tgt := 30) hx hb d_M_conflict_95 (by decide) ?_
                  exact ih (i + 1) bf lf (by omega) hi9 hlf hbk (by rw [y_cc_f hh]; exact hbf) (lt_s hno (fun h => by rw [hh] at h; cases h)) _ _ hP hS ls (lv_sub hl [1, 2, 3, 4, 0] rfl)
                · have hh : y_conf (wF M 0 0 0) (od k1) (nI i) (z k1) = true := by unfold y_conf; rw [hu, b2i_0 c_12]; rfl
                  refine lv_iload_n hx hb d_M_conflict_82 rfl (lv_at hl 3 rfl) ?_
                  refine w_topi hlf ?_
                  refine lv_if_ne (tgt := 89) hx hb d_M_conflict_83 (by decide) (fun c_13 => ?_) (fun c_13 => ?_)
                  · have q3 : ¬ kn - bf = 0 := fun e => c_13 (by rw [e]; rfl)
                    refine lv_iinc (v := nI (kn - (bf + 1))) (lv' := [(3, .int (nI (kn - (bf + 1)))), (0, .ref (o + 0)), (1, .int x), (2, .int kk), (4, .int (nI i))]) hx hb d_M_conflict_89 hl (k := 3) rfl (by rw [hlf]; exact (i_dec (by omega)).trans (by rw [Nat.sub_sub])) (by decide) rfl (fun ls hl => ?_)
                    refine lv_iinc (v := nI (i + 1)) (lv' := [(4, .int (nI (i + 1))), (3, .int (nI (kn - (bf + 1)))), (0, .ref (o + 0)), (1, .int x), (2, .int kk)]) hx hb d_M_conflict_92 hl (k := 4) rfl (w_inc i) (by decide) rfl (fun ls hl => ?_)
                    refine lv_goto (tgt := 30) hx hb d_M_conflict_95 (by decide) ?_
                    exact ih (i + 1) (bf + 1) (nI (kn - (bf + 1))) (by omega) hi9 rfl (by omega) (by rw [y_cc_t hh, hbf]) (lt_s hno (fun _ => by rw [← hbf, ekn]; exact fun e => q3 (by have := (nI_eq (by omega) (by omega)).mp e; omega))) _ _ hP hS ls (lv_sub hl [2, 3, 4, 1, 0] rfl)
                  · have q3 : kn - bf = 0 := (nI_eq (b := 0) (by omega) (by omega)).mp c_13
                    refine lv_iload hx hb d_M_conflict_86 (lv_at hl 4 rfl) ?_
                    exact W.iret (v := nI i) hx hb hr (fun tz hz9 hW9 => ⟨⟨nI i, (wF M 0 0 0), rfl, Or.inr (Or.inr ⟨rfl, q2, k1, hk1, ek1, Or.inl ⟨i, hi9, hh, by rw [← hbf, ekn, show kn = bf by omega], rfl⟩⟩), by rw [hz9]; exact hP, va_K.moved hW9.alike hK⟩, hS.F hz9⟩) hS.2.2 d_M_conflict_88
      exact lp30 ((10 - 0) + 1) 0 0 kk (Nat.lt_succ_self _) (Nat.zero_le _) ekn (Nat.zero_le _) rfl (fun j h => absurd h (Nat.not_lt_zero _)) _ _ hP hS ls (lv_sub hl [2, 3, 4, 1, 0] rfl)
    · have q2 : kk < 0 := Int32.not_le.mp c_3
      refine lv_iconst (v := 2) hx hb d_M_conflict_17 (by decide) ?_
      refine lv_goto (tgt := 22) hx hb d_M_conflict_18 (by decide) ?_
      refine w_put (C := R_M) (T := F_M) (N := 22) (ci := 5) (x := 2) hx hb hts inw_M ft_M ft_M_ok fn_M hown hK hP hW hS 0 (by decide) SM_0 rfl 0 (by decide) (hts _ (al aF_M_64)) rfl rfl rfl (Nat.le_of_ble_eq_true rfl) (by rw [wF_r]; exact SM_0.trans rfl) d_M_conflict_22 (fun H locs hP hS => ?_)
      refine lv_iload_n hx hb d_M_conflict_25 rfl (lv_at hl 2 rfl) ?_
      refine lv_istore_n (lv' := [(3, .int kk), (0, .ref (o + 0)), (1, .int x), (2, .int kk)]) hx hb d_M_conflict_26 rfl hl (by decide) rfl (fun ls hl => ?_)
      refine lv_iconst (v := 0) hx hb d_M_conflict_27 (by decide) ?_
      refine lv_istore (lv' := [(4, .int 0), (3, .int kk), (0, .ref (o + 0)), (1, .int x), (2, .int kk)]) hx hb d_M_conflict_28 hl (by decide) rfl (fun ls hl => ?_)
      refine lv_iload hx hb d_M_conflict_30 (lv_at hl 0 rfl) ?_
      refine lv_bipush (v := 10) hx hb d_M_conflict_32 (by decide) ?_
      refine lv_icmp_ge (tgt := 98) hx hb d_M_conflict_34 (by decide) (fun c_14 => ?_) (fun c_14 => ?_)
      · exact absurd c_14 (by decide)
      · refine lv_aload_n hx hb d_M_conflict_37 rfl (lv_at hl 2 rfl) ?_
        refine w_get (C := R_M) (T := F_M) (N := 22) (ci := 5) (v := .int 2) hx hb hts inw_M hown hK hP 0 (by decide) SM_0 rfl 0 (by decide) (hts _ (al aF_M_64)) rfl d_M_conflict_38 ?_
        refine lv_if_ne (tgt := 98) hx hb d_M_conflict_41 (by decide) (fun c_15 => ?_) (fun c_15 => ?_)
        · refine lv_aload_n hx hb d_M_conflict_98 rfl (lv_at hl 2 rfl) ?_
          refine w_get (C := R_M) (T := F_M) (N := 22) (ci := 5) (v := .int 2) hx hb hts inw_M hown hK hP 0 (by decide) SM_0 rfl 0 (by decide) (hts _ (al aF_M_64)) rfl d_M_conflict_99 ?_
          refine lv_if_le (tgt := 109) hx hb d_M_conflict_102 (by decide) (fun c_16 => ?_) (fun c_16 => ?_)
          · exact absurd c_16 (by decide)
          · refine lv_iconst (v := 0) hx hb d_M_conflict_105 (by decide) ?_
            refine lv_goto (tgt := 110) hx hb d_M_conflict_106 (by decide) ?_
            exact W.iret (v := 0) hx hb hr (fun tz hz9 hW9 => ⟨⟨0, (wF M 0 0 2), rfl, Or.inr (Or.inl ⟨rfl, q1, q2⟩), by rw [hz9]; exact hP, va_K.moved hW9.alike hK⟩, hS.F hz9⟩) hS.2.2 d_M_conflict_110
        · exact absurd c_15 (by decide)
  · have q1 : ¬ xin x (nI sc) := by rw [← esc]; exact b2i_F c_2
    refine lv_iconst (v := 1) hx hb d_M_conflict_9 (by decide) ?_
    refine lv_goto (tgt := 22) hx hb d_M_conflict_10 (by decide) ?_
    refine w_put (C := R_M) (T := F_M) (N := 22) (ci := 5) (x := 1) hx hb hts inw_M ft_M ft_M_ok fn_M hown hK hP hW hS 0 (by decide) SM_0 rfl 0 (by decide) (hts _ (al aF_M_64)) rfl rfl rfl (Nat.le_of_ble_eq_true rfl) (by rw [wF_r]; exact SM_0.trans rfl) d_M_conflict_22 (fun H locs hP hS => ?_)
    refine lv_iload_n hx hb d_M_conflict_25 rfl (lv_at hl 2 rfl) ?_
    refine lv_istore_n (lv' := [(3, .int kk), (0, .ref (o + 0)), (1, .int x), (2, .int kk)]) hx hb d_M_conflict_26 rfl hl (by decide) rfl (fun ls hl => ?_)
    refine lv_iconst (v := 0) hx hb d_M_conflict_27 (by decide) ?_
    refine lv_istore (lv' := [(4, .int 0), (3, .int kk), (0, .ref (o + 0)), (1, .int x), (2, .int kk)]) hx hb d_M_conflict_28 hl (by decide) rfl (fun ls hl => ?_)
    refine lv_iload hx hb d_M_conflict_30 (lv_at hl 0 rfl) ?_
    refine lv_bipush (v := 10) hx hb d_M_conflict_32 (by decide) ?_
    refine lv_icmp_ge (tgt := 98) hx hb d_M_conflict_34 (by decide) (fun c_17 => ?_) (fun c_17 => ?_)
    · exact absurd c_17 (by decide)
    · refine lv_aload_n hx hb d_M_conflict_37 rfl (lv_at hl 2 rfl) ?_
      refine w_get (C := R_M) (T := F_M) (N := 22) (ci := 5) (v := .int 1) hx hb hts inw_M hown hK hP 0 (by decide) SM_0 rfl 0 (by decide) (hts _ (al aF_M_64)) rfl d_M_conflict_38 ?_
      refine lv_if_ne (tgt := 98) hx hb d_M_conflict_41 (by decide) (fun c_18 => ?_) (fun c_18 => ?_)
      · refine lv_aload_n hx hb d_M_conflict_98 rfl (lv_at hl 2 rfl) ?_
        refine w_get (C := R_M) (T := F_M) (N := 22) (ci := 5) (v := .int 1) hx hb hts inw_M hown hK hP 0 (by decide) SM_0 rfl 0 (by decide) (hts _ (al aF_M_64)) rfl d_M_conflict_99 ?_
        refine lv_if_le (tgt := 109) hx hb d_M_conflict_102 (by decide) (fun c_19 => ?_) (fun c_19 => ?_)
        · exact absurd c_19 (by decide)
        · refine lv_iconst (v := 0) hx hb d_M_conflict_105 (by decide) ?_
          refine lv_goto (tgt := 110) hx hb d_M_conflict_106 (by decide) ?_
          exact W.iret (v := 0) hx hb hr (fun tz hz9 hW9 => ⟨⟨0, (wF M 0 0 1), rfl, Or.inl ⟨rfl, q1⟩, by rw [hz9]; exact hP, va_K.moved hW9.alike hK⟩, hS.F hz9⟩) hS.2.2 d_M_conflict_110
      · exact absurd c_18 (by decide)
set_option maxHeartbeats 4000000 in
set_option maxRecDepth 100000 in
/-- M_balance -/
theorem k_M_balance (l : Launch) (D : va_G) (cA : Nat → ClassId) (o sz : Nat) (M : wM) (ec : Nat) (hec : ec ≤ 60) (eec : M.2.2 0 13 = nI ec) (rc : Nat → Nat) (hrc : ∀ j, j < 60 → rc j ≤ 6 ∧ M.1 12 j = nI (rc j)) (ac day : Int32) : Met l y_M_balance (wm y_M_balance c_M_balance 7 (some .long)) { frames := 1, cells := 0, slots := 0, locals := 25 } (va_Pc [.ref (o + 0), .int ac, .int day] (mB D cA o M sz)) (va_Ql (fun r M1 => (M1 = (wF M 0 0 1) ∧ ¬ xin ac 10) ∨ (M1 = (wF M 0 0 0) ∧ xin ac 10 ∧ r = y_bal M rc ac day ec)) (mQ D cA o) (mA o sz)) 0 0 (mA o sz) := by
  refine Met.ofW (cc := c_M_balance) (maxL := 7) (ret := (some .long)) (by decide) rfl ?_
  intro p e s m args below meth c s₁ B hml hv
  obtain ⟨rfl, hsz, hP, hK⟩ := hv
  have hx := B.exec
  have hb := B.bytes
  have hr := B.returns
  have hts := atoms_spec (ws := wm y_M_balance c_M_balance 7 (some .long)) B.pre
  have hown : s.vm.findClass "ShopDesksModel" = some m.cls := findClass_of_methodNamed B.named
  have hlocks := B.notSynchronized
  subst hsz
  have hS : va_S (mA o s.heap.size) s.heap s.heap [] := va_S.rf
  have hW : ∀ i, i < 17 → mA o s.heap.size (o + i) := fun i hi => wA_in hi
  have hl := lv_entry ([.ref (o + 0), .int ac, .int day]) (n := 7) (Nat.le_of_ble_eq_true rfl)
  rw [lg_entry_eq]
  generalize (lg_sl ([.ref (o + 0), .int ac, .int day]) ++ List.replicate (7 - (lg_sl ([.ref (o + 0), .int ac, .int day])).length) Slot.unset).toArray = ls at hl ⊢
  have hl : lv_has ls 7 [(0, .ref (o + 0)), (1, .int ac), (2, .int day)] := hl
  refine lv_aload_n hx hb d_M_balance_0 rfl (lv_at hl 0 rfl) ?_
  refine lv_iload_n hx hb d_M_balance_1 rfl (lv_at hl 1 rfl) ?_
  refine lv_i2l hx hb d_M_balance_2 rfl ?_
  refine lv_lconst (v := 0) hx hb d_M_balance_3 (by decide) ?_
  refine lv_ldc2 (v := 9) hx hb hown (hts _ (al aL_M_76)) d_M_balance_4 ?_
  refine w_Si ⟨hx, hb, hml, hown, hts⟩ (k_M_isIn l D cA o _ M (ac.toInt64) 0 9) (kS hts 3 aK_M_isIn aM_M_72 aS_M_isIn aN_M nm_M_isIn rfl rfl ⟨(Nat.le_of_ble_eq_true rfl), (Nat.le_of_ble_eq_true rfl)⟩) hK hP rfl hl.1 rfl (Nat.le_of_ble_eq_true rfl) d_M_balance_7 ⟨(Nat.le_of_ble_eq_true rfl), (Nat.le_of_ble_eq_true rfl)⟩ hS (fun q h => wA_le hS.1 h) (fun r_1 M_1 H locs hw_1 hP hzc hkc hS => ?_)
  rw [hw_1.1] at hP
  refine w_topi hw_1.2 ?_
  refine lv_if_eq (tgt := 17) hx hb d_M_balance_10 (by decide) (fun c_2 => ?_) (fun c_2 => ?_)
  · have q1 : ¬ xin ac (nI (9 + 1)) := fun h => b2i_F c_2 ((y_in 9 (by omega)).mpr h)
    refine lv_iconst (v := 1) hx hb d_M_balance_17 (by decide) ?_
    refine w_put (C := R_M) (T := F_M) (N := 22) (ci := 5) (x := 1) hx hb hts inw_M ft_M ft_M_ok fn_M hown hK hP hW hS 0 (by decide) SM_0 rfl 0 (by decide) (hts _ (al aF_M_64)) rfl rfl rfl (Nat.le_of_ble_eq_true rfl) (by rw [wF_r]; exact SM_0.trans rfl) d_M_balance_18 (fun H locs hP hS => ?_)
    refine lv_lconst (v := 0) hx hb d_M_balance_21 (by decide) ?_
    refine lv_lstore_n (lv' := [(3, .long 0), (0, .ref (o + 0)), (1, .int ac), (2, .int day)]) hx hb d_M_balance_22 rfl hl (by decide) rfl (fun ls hl => ?_)
    refine lv_iconst (v := 0) hx hb d_M_balance_23 (by decide) ?_
    refine lv_istore (lv' := [(5, .int 0), (3, .long 0), (0, .ref (o + 0)), (1, .int ac), (2, .int day)]) hx hb d_M_balance_24 hl (by decide) rfl (fun ls hl => ?_)
    refine lv_iload hx hb d_M_balance_26 (lv_at hl 0 rfl) ?_
    refine lv_aload_n hx hb d_M_balance_28 rfl (lv_at hl 2 rfl) ?_
    refine w_get (C := R_M) (T := F_M) (N := 22) (ci := 5) (v := .int (M.2.2 0 13)) hx hb hts inw_M hown hK hP 0 (by decide) SM_0 rfl 13 (by decide) (hts _ (al aF_M_138)) rfl d_M_balance_29 ?_
    refine w_topi eec ?_
    refine lv_icmp_ge (tgt := 125) hx hb d_M_balance_32 (by decide) (fun c_3 => ?_) (fun c_3 => ?_)
    · refine lv_lload_n hx hb d_M_balance_125 rfl (lv_at hl 1 rfl) ?_
      exact W.lret (v := 0) hx hb hr (fun tz hz9 hW9 => ⟨⟨0, (wF M 0 0 1), rfl, Or.inl ⟨rfl, q1⟩, by rw [hz9]; exact hP, va_K.moved hW9.alike hK⟩, hS.F hz9⟩) hS.2.2 d_M_balance_126
    · refine lv_aload_n hx hb d_M_balance_35 rfl (lv_at hl 2 rfl) ?_
      refine w_get (C := R_M) (T := F_M) (N := 22) (ci := 5) (v := .int 1) hx hb hts inw_M hown hK hP 0 (by decide) SM_0 rfl 0 (by decide) (hts _ (al aF_M_64)) rfl d_M_balance_36 ?_
      refine lv_if_ne (tgt := 125) hx hb d_M_balance_39 (by decide) (fun c_4 => ?_) (fun c_4 => ?_)
      · refine lv_lload_n hx hb d_M_balance_125 rfl (lv_at hl 1 rfl) ?_
        exact W.lret (v := 0) hx hb hr (fun tz hz9 hW9 => ⟨⟨0, (wF M 0 0 1), rfl, Or.inl ⟨rfl, q1⟩, by rw [hz9]; exact hP, va_K.moved hW9.alike hK⟩, hS.F hz9⟩) hS.2.2 d_M_balance_126
      · exact absurd c_4 (by decide)
  · have q1 : xin ac (nI (9 + 1)) := (y_in 9 (by omega)).mp (b2i_T c_2)
    refine lv_iconst (v := 0) hx hb d_M_balance_13 (by decide) ?_
    refine lv_goto (tgt := 18) hx hb d_M_balance_14 (by decide) ?_
    refine w_put (C := R_M) (T := F_M) (N := 22) (ci := 5) (x := 0) hx hb hts inw_M ft_M ft_M_ok fn_M hown hK hP hW hS 0 (by decide) SM_0 rfl 0 (by decide) (hts _ (al aF_M_64)) rfl rfl rfl (Nat.le_of_ble_eq_true rfl) (by rw [wF_r]; exact SM_0.trans rfl) d_M_balance_18 (fun H locs hP hS => ?_)
    refine lv_lconst (v := 0) hx hb d_M_balance_21 (by decide) ?_
    refine lv_lstore_n (lv' := [(3, .long 0), (0, .ref (o + 0)), (1, .int ac), (2, .int day)]) hx hb d_M_balance_22 rfl hl (by decide) rfl (fun ls hl => ?_)
    refine lv_iconst (v := 0) hx hb d_M_balance_23 (by decide) ?_
    refine lv_istore (lv' := [(5, .int 0), (3, .long 0), (0, .ref (o + 0)), (1, .int ac), (2, .int day)]) hx hb d_M_balance_24 hl (by decide) rfl (fun ls hl => ?_)
    have lp26 : ∀ (fuel : Nat) (ei : Nat) (so : Int64), ec - ei < fuel → (ei ≤ ec) → (so = y_bal M rc ac day ei) → ∀ (H : Heap) (locs : List Loc), wP D cls_ (SM o cA) o 17 (wF M 0 0 0) H → va_S (mA o s.heap.size) s.heap H locs → ∀ (ls : Array Slot), lv_has ls 7 [(0, .ref (o + 0)), (1, .int ac), (2, .int day), (3, .long so), (5, .int (nI ei))] → W p l e (headSpec (wm y_M_balance c_M_balance 7 (some .long)) { frames := 1, cells := 0, slots := 0, locals := 25 }).room s m ([.ref (o + 0), .int ac, .int day] : List Value).toArray below meth c H locs 0 0 (MQ below (va_Ql (fun r M1 => (M1 = (wF M 0 0 1) ∧ ¬ xin ac 10) ∨ (M1 = (wF M 0 0 0) ∧ xin ac 10 ∧ r = y_bal M rc ac day ec)) (mQ D cA o) (mA o s.heap.size)) ([.ref (o + 0), .int ac, .int day] : List Value).toArray s 0 0 (mA o s.heap.size)) (F0 m 26 ls []) := by
      intro fuel
      induction fuel with
      | zero => intro ei so hfu; exact absurd hfu (Nat.not_lt_zero _)
      | succ fuel ih =>
        intro ei so hfu hi hso H locs hP hS ls hl
        have ih26 := ih
        refine lv_iload hx hb d_M_balance_26 (lv_at hl 4 rfl) ?_
        refine lv_aload_n hx hb d_M_balance_28 rfl (lv_at hl 0 rfl) ?_
        refine w_get (C := R_M) (T := F_M) (N := 22) (ci := 5) (v := .int (M.2.2 0 13)) hx hb hts inw_M hown hK hP 0 (by decide) SM_0 rfl 13 (by decide) (hts _ (al aF_M_138)) rfl d_M_balance_29 ?_
        refine w_topi eec ?_
        refine lv_icmp_ge (tgt := 125) hx hb d_M_balance_32 (by decide) (fun c_5 => ?_) (fun c_5 => ?_)
        · have hi9 : ec ≤ ei := i_le (by omega) (by omega) c_5
          refine lv_lload_n hx hb d_M_balance_125 rfl (lv_at hl 3 rfl) ?_
          exact W.lret (v := so) hx hb hr (fun tz hz9 hW9 => ⟨⟨so, (wF M 0 0 0), rfl, Or.inr ⟨rfl, q1, by rw [hso, show ec = ei by omega]⟩, by rw [hz9]; exact hP, va_K.moved hW9.alike hK⟩, hS.F hz9⟩) hS.2.2 d_M_balance_126
        · have hi9 : ei < ec := i_nle (by omega) (by omega) c_5
          have hr9 := (hrc ei (by omega)).1
          refine lv_aload_n hx hb d_M_balance_35 rfl (lv_at hl 0 rfl) ?_
          refine w_get (C := R_M) (T := F_M) (N := 22) (ci := 5) (v := .int 0) hx hb hts inw_M hown hK hP 0 (by decide) SM_0 rfl 0 (by decide) (hts _ (al aF_M_64)) rfl d_M_balance_36 ?_
          refine lv_if_ne (tgt := 125) hx hb d_M_balance_39 (by decide) (fun c_6 => ?_) (fun c_6 => ?_)
          · exact absurd (by decide) c_6
          · refine lv_bipush (v := 6) hx hb d_M_balance_42 (by decide) ?_
            refine lv_iload hx hb d_M_balance_44 (lv_at hl 4 rfl) ?_
            refine lv_imul hx hb d_M_balance_46 ?_
            refine w_topi (pk_mul 6 ei) ?_
            refine lv_istore (lv' := [(6, .int (nI (6 * ei))), (0, .ref (o + 0)), (1, .int ac), (2, .int day), (3, .long so), (5, .int (nI ei))]) hx hb d_M_balance_47 hl (by decide) rfl (fun ls hl => ?_)
            have lp49 : ∀ (fuel : Nat) (j : Nat) (sm : Int64), rc ei - j < fuel → (j ≤ rc ei) → (sm = y_inb M ac day ei (y_bal M rc ac day ei) j) → ∀ (H : Heap) (locs : List Loc), wP D cls_ (SM o cA) o 17 (wF M 0 0 0) H → va_S (mA o s.heap.size) s.heap H locs → ∀ (ls : Array Slot), lv_has ls 7 [(0, .ref (o + 0)), (1, .int ac), (2, .int day), (3, .long sm), (5, .int (nI ei)), (6, .int (nI (6 * ei + j)))] → W p l e (headSpec (wm y_M_balance c_M_balance 7 (some .long)) { frames := 1, cells := 0, slots := 0, locals := 25 }).room s m ([.ref (o + 0), .int ac, .int day] : List Value).toArray below meth c H locs 0 0 (MQ below (va_Ql (fun r M1 => (M1 = (wF M 0 0 1) ∧ ¬ xin ac 10) ∨ (M1 = (wF M 0 0 0) ∧ xin ac 10 ∧ r = y_bal M rc ac day ec)) (mQ D cA o) (mA o s.heap.size)) ([.ref (o + 0), .int ac, .int day] : List Value).toArray s 0 0 (mA o s.heap.size)) (F0 m 49 ls []) := by
              intro fuel
              induction fuel with
              | zero => intro j sm hfu; exact absurd hfu (Nat.not_lt_zero _)
              | succ fuel ih =>
                intro j sm hfu hj hsm H locs hP hS ls hl
                refine lv_iload hx hb d_M_balance_49 (lv_at hl 5 rfl) ?_
                refine lv_bipush (v := 6) hx hb d_M_balance_51 (by decide) ?_
                refine lv_iload hx hb d_M_balance_53 (lv_at hl 4 rfl) ?_
                refine lv_imul hx hb d_M_balance_55 ?_
                refine w_topi (pk_mul 6 ei) ?_
                refine lv_aload_n hx hb d_M_balance_56 rfl (lv_at hl 0 rfl) ?_
                refine w_get (C := R_M) (T := F_M) (N := 22) (ci := 5) (v := .ref (o + 12)) hx hb hts inw_M hown hK hP 0 (by decide) SM_0 rfl 15 (by decide) (hts _ (al aF_M_45)) rfl d_M_balance_57 ?_
                refine lv_iload hx hb d_M_balance_60 (lv_at hl 4 rfl) ?_
                refine w_iald hx hb hK hP 12 0 (by decide) SM_12 rfl (k := ei) (by omega) (by decide) d_M_balance_62 ?_
                refine w_topi ((hrc ei (by omega)).2) ?_
                refine lv_iadd hx hb d_M_balance_63 ?_
                refine w_topi (nI_add _ _) ?_
                refine lv_icmp_ge (tgt := 119) hx hb d_M_balance_64 (by decide) (fun c_7 => ?_) (fun c_7 => ?_)
                · have hj9 : rc ei ≤ j := by have := i_le (by omega) (by omega) c_7; omega
                  refine lv_iinc (v := nI (ei + 1)) (lv' := [(5, .int (nI (ei + 1))), (0, .ref (o + 0)), (1, .int ac), (2, .int day), (3, .long sm), (6, .int (nI (6 * ei + j)))]) hx hb d_M_balance_119 hl (k := 4) rfl (w_inc ei) (by decide) rfl (fun ls hl => ?_)
                  refine lv_goto (tgt := 26) hx hb d_M_balance_122 (by decide) ?_
                  exact ih26 (ei + 1) sm (by omega) hi9 (by rw [hsm, show j = rc ei by omega]; rfl) _ _ hP hS ls (lv_sub hl [1, 2, 3, 4, 0] rfl)
                · have hj9 : j < rc ei := by have := i_nle (by omega) (by omega) c_7; omega
                  refine lv_lload_n hx hb d_M_balance_67 rfl (lv_at hl 3 rfl) ?_
                  refine lv_aload_n hx hb d_M_balance_68 rfl (lv_at hl 0 rfl) ?_
                  refine w_get (C := R_M) (T := F_M) (N := 22) (ci := 5) (v := .ref (o + 15)) hx hb hts inw_M hown hK hP 0 (by decide) SM_0 rfl 18 (by decide) (hts _ (al aF_M_54)) rfl d_M_balance_69 ?_
                  refine lv_iload hx hb d_M_balance_72 (lv_at hl 4 rfl) ?_
                  refine w_iald hx hb hK hP 15 0 (by decide) SM_15 rfl (k := ei) (by omega) (by decide) d_M_balance_74 ?_
                  refine lv_if_le (tgt := 110) hx hb d_M_balance_75 (by decide) (fun c_8 => ?_) (fun c_8 => ?_)
                  · have hc : ¬ (0 < M.1 15 ei ∧ M.1 11 ei ≤ day ∧ M.1 13 (6 * ei + j) = ac) := fun h => absurd h.1 (Int32.not_lt.mpr c_8)
                    refine lv_lconst (v := 0) hx hb d_M_balance_110 (by decide) ?_
                    refine lv_ladd hx hb d_M_balance_111 ?_
                    refine lv_lstore_n (lv' := [(3, .long (sm + 0)), (0, .ref (o + 0)), (1, .int ac), (2, .int day), (5, .int (nI ei)), (6, .int (nI (6 * ei + j)))]) hx hb d_M_balance_112 rfl hl (by decide) rfl (fun ls hl => ?_)
                    refine lv_iinc (v := nI ((6 * ei + j) + 1)) (lv' := [(6, .int (nI ((6 * ei + j) + 1))), (3, .long (sm + 0)), (0, .ref (o + 0)), (1, .int ac), (2, .int day), (5, .int (nI ei))]) hx hb d_M_balance_113 hl (k := 5) rfl (w_inc (6 * ei + j)) (by decide) rfl (fun ls hl => ?_)
                    refine lv_goto (tgt := 49) hx hb d_M_balance_116 (by decide) ?_
                    exact ih (j + 1) (sm + 0) (by omega) hj9 (by rw [hsm, y_inb, if_neg hc]) _ _ hP hS ls (lv_sub hl [2, 3, 4, 1, 5, 0] rfl)
                  · have c1 : 0 < M.1 15 ei := Int32.not_le.mp c_8
                    refine lv_aload_n hx hb d_M_balance_78 rfl (lv_at hl 0 rfl) ?_
                    refine w_get (C := R_M) (T := F_M) (N := 22) (ci := 5) (v := .ref (o + 11)) hx hb hts inw_M hown hK hP 0 (by decide) SM_0 rfl 14 (by decide) (hts _ (al aF_M_42)) rfl d_M_balance_79 ?_
                    refine lv_iload hx hb d_M_balance_82 (lv_at hl 4 rfl) ?_
                    refine w_iald hx hb hK hP 11 0 (by decide) SM_11 rfl (k := ei) (by omega) (by decide) d_M_balance_84 ?_
                    refine lv_iload_n hx hb d_M_balance_85 rfl (lv_at hl 2 rfl) ?_
                    refine lv_icmp_gt (tgt := 110) hx hb d_M_balance_86 (by decide) (fun c_9 => ?_) (fun c_9 => ?_)
                    · have hc : ¬ (0 < M.1 15 ei ∧ M.1 11 ei ≤ day ∧ M.1 13 (6 * ei + j) = ac) := fun h => absurd h.2.1 (Int32.not_le.mpr c_9)
                      refine lv_lconst (v := 0) hx hb d_M_balance_110 (by decide) ?_
                      refine lv_ladd hx hb d_M_balance_111 ?_
                      refine lv_lstore_n (lv' := [(3, .long (sm + 0)), (0, .ref (o + 0)), (1, .int ac), (2, .int day), (5, .int (nI ei)), (6, .int (nI (6 * ei + j)))]) hx hb d_M_balance_112 rfl hl (by decide) rfl (fun ls hl => ?_)
                      refine lv_iinc (v := nI ((6 * ei + j) + 1)) (lv' := [(6, .int (nI ((6 * ei + j) + 1))), (3, .long (sm + 0)), (0, .ref (o + 0)), (1, .int ac), (2, .int day), (5, .int (nI ei))]) hx hb d_M_balance_113 hl (k := 5) rfl (w_inc (6 * ei + j)) (by decide) rfl (fun ls hl => ?_)
                      refine lv_goto (tgt := 49) hx hb d_M_balance_116 (by decide) ?_
                      exact ih (j + 1) (sm + 0) (by omega) hj9 (by rw [hsm, y_inb, if_neg hc]) _ _ hP hS ls (lv_sub hl [2, 3, 4, 1, 5, 0] rfl)
                    · have c2 : M.1 11 ei ≤ day := Int32.not_lt.mp c_9
                      refine lv_aload_n hx hb d_M_balance_89 rfl (lv_at hl 0 rfl) ?_
                      refine w_get (C := R_M) (T := F_M) (N := 22) (ci := 5) (v := .ref (o + 13)) hx hb hts inw_M hown hK hP 0 (by decide) SM_0 rfl 16 (by decide) (hts _ (al aF_M_48)) rfl d_M_balance_90 ?_
                      refine lv_iload hx hb d_M_balance_93 (lv_at hl 5 rfl) ?_
                      refine w_iald hx hb hK hP 13 0 (by decide) SM_13 rfl (k := (6 * ei + j)) (by omega) (by decide) d_M_balance_95 ?_
                      refine lv_iload_n hx hb d_M_balance_96 rfl (lv_at hl 1 rfl) ?_
                      refine lv_icmp_ne (tgt := 110) hx hb d_M_balance_97 (by decide) (fun c_10 => ?_) (fun c_10 => ?_)
                      · have hc : ¬ (0 < M.1 15 ei ∧ M.1 11 ei ≤ day ∧ M.1 13 (6 * ei + j) = ac) := fun h => c_10 h.2.2
                        refine lv_lconst (v := 0) hx hb d_M_balance_110 (by decide) ?_
                        refine lv_ladd hx hb d_M_balance_111 ?_
                        refine lv_lstore_n (lv' := [(3, .long (sm + 0)), (0, .ref (o + 0)), (1, .int ac), (2, .int day), (5, .int (nI ei)), (6, .int (nI (6 * ei + j)))]) hx hb d_M_balance_112 rfl hl (by decide) rfl (fun ls hl => ?_)
                        refine lv_iinc (v := nI ((6 * ei + j) + 1)) (lv' := [(6, .int (nI ((6 * ei + j) + 1))), (3, .long (sm + 0)), (0, .ref (o + 0)), (1, .int ac), (2, .int day), (5, .int (nI ei))]) hx hb d_M_balance_113 hl (k := 5) rfl (w_inc (6 * ei + j)) (by decide) rfl (fun ls hl => ?_)
                        refine lv_goto (tgt := 49) hx hb d_M_balance_116 (by decide) ?_
                        exact ih (j + 1) (sm + 0) (by omega) hj9 (by rw [hsm, y_inb, if_neg hc]) _ _ hP hS ls (lv_sub hl [2, 3, 4, 1, 5, 0] rfl)
                      · have hc : 0 < M.1 15 ei ∧ M.1 11 ei ≤ day ∧ M.1 13 (6 * ei + j) = ac := ⟨c1, c2, c_10⟩
                        refine lv_aload_n hx hb d_M_balance_100 rfl (lv_at hl 0 rfl) ?_
                        refine w_get (C := R_M) (T := F_M) (N := 22) (ci := 5) (v := .ref (o + 14)) hx hb hts inw_M hown hK hP 0 (by decide) SM_0 rfl 17 (by decide) (hts _ (al aF_M_51)) rfl d_M_balance_101 ?_
                        refine lv_iload hx hb d_M_balance_104 (lv_at hl 5 rfl) ?_
                        refine w_lald hx hb hK hP 14 1 (by decide) SM_14 rfl (k := (6 * ei + j)) (by omega) (by decide) d_M_balance_106 ?_
                        refine lv_goto (tgt := 111) hx hb d_M_balance_107 (by decide) ?_
                        refine lv_ladd hx hb d_M_balance_111 ?_
                        refine lv_lstore_n (lv' := [(3, .long (sm + (M.2.1 14 (6 * ei + j)))), (0, .ref (o + 0)), (1, .int ac), (2, .int day), (5, .int (nI ei)), (6, .int (nI (6 * ei + j)))]) hx hb d_M_balance_112 rfl hl (by decide) rfl (fun ls hl => ?_)
                        refine lv_iinc (v := nI ((6 * ei + j) + 1)) (lv' := [(6, .int (nI ((6 * ei + j) + 1))), (3, .long (sm + (M.2.1 14 (6 * ei + j)))), (0, .ref (o + 0)), (1, .int ac), (2, .int day), (5, .int (nI ei))]) hx hb d_M_balance_113 hl (k := 5) rfl (w_inc (6 * ei + j)) (by decide) rfl (fun ls hl => ?_)
                        refine lv_goto (tgt := 49) hx hb d_M_balance_116 (by decide) ?_
                        exact ih (j + 1) (sm + (M.2.1 14 (6 * ei + j))) (by omega) hj9 (by rw [hsm, y_inb, if_pos hc]) _ _ hP hS ls (lv_sub hl [2, 3, 4, 1, 5, 0] rfl)
            exact lp49 ((rc ei - 0) + 1) 0 so (Nat.lt_succ_self _) (Nat.zero_le _) hso _ _ hP hS ls (lv_sub hl [1, 2, 3, 4, 5, 0] rfl)
    exact lp26 ((ec - 0) + 1) 0 0 (Nat.lt_succ_self _) (Nat.zero_le _) rfl _ _ hP hS ls (lv_sub hl [2, 3, 4, 1, 0] rfl)

