/-! small facts of numbers; Tellings -/
theorem i_le {a b : Nat} (ha : a < 2147483648) (hb : b < 2147483648) (h : nI a ≤ nI b) : a ≤ b := (nI_leI ha hb).mp h
theorem i_nle {a b : Nat} (ha : a < 2147483648) (hb : b < 2147483648) (h : ¬ nI a ≤ nI b) : b < a := Nat.lt_of_not_le (fun q => h ((nI_leI ha hb).mpr q))
theorem i_lt {a b : Nat} (ha : a < 2147483648) (hb : b < 2147483648) (h : nI a < nI b) : a < b := (nI_ltI ha hb).mp h
theorem i_nlt {a b : Nat} (ha : a < 2147483648) (hb : b < 2147483648) (h : ¬ nI a < nI b) : b ≤ a := Nat.le_of_not_lt (fun q => h ((nI_ltI ha hb).mpr q))
/-- a boolean as an int -/
def b2i (b : Bool) : Int32 := if b = true then 1 else 0
theorem b2i_t {p : Prop} [Decidable p] (h : p) : b2i (decide p) = 1 := by simp [b2i, h]
theorem b2i_f {p : Prop} [Decidable p] (h : ¬ p) : b2i (decide p) = 0 := by simp [b2i, h]
theorem b2i_0 {b : Bool} (h : b2i b = 0) : b = false := by cases b <;> simp_all [b2i]
theorem b2i_1 {b : Bool} (h : ¬ b2i b = 0) : b = true := by cases b <;> simp_all [b2i]
theorem b2i_nar (b : Bool) : narrow .boolean (.int (b2i b)) = .int (b2i b) := by cases b <;> rfl
/-- telling t is of thing th and kind kd, and its ON isn't behind tm -/
def x_hold (M : wM) (t : Nat) (th kd : Int32) (tm : Int64) : Bool := decide (M.1 4 t = th ∧ M.1 5 t = kd ∧ M.2.1 7 t ≤ tm)
/-- telling a is later than telling b -/
def x_later (M : wM) (a b : Nat) : Bool := if M.2.1 7 a = M.2.1 7 b then (if M.1 2 a = M.1 2 b then decide (M.2.1 3 b < M.2.1 3 a) else decide (M.1 2 b < M.1 2 a)) else decide (M.2.1 7 b < M.2.1 7 a)
set_option maxHeartbeats 4000000 in
set_option maxRecDepth 100000 in
/-- whether teller t told nu -/
theorem k_T_isTold (l : Launch) (D : va_G) (cA : Nat → ClassId) (o sz : Nat) (M : wM) (t : Int32) (nu : Int64) (n : Nat) (hn : n ≤ 300) (en : M.2.2 1 6 = nI n) : Met l y_T_isTold (wm y_T_isTold c_T_isTold 5 (some .boolean)) { frames := 0, cells := 0, slots := 0, locals := 0 } (va_Pc [.ref (o + 1), .int t, .long nu] (xB D cA o M sz)) (va_Qi (fun r M1 => M1 = M ∧ ((r = 1 ∧ ∃ j, j < n ∧ M.2.1 3 j = nu ∧ M.1 2 j = t) ∨ (r = 0 ∧ ∀ j, j < n → ¬ (M.2.1 3 j = nu ∧ M.1 2 j = t)))) (xQ D cA o) (xA o sz)) 0 0 (xA o sz) := by
  refine Met.ofW (cc := c_T_isTold) (maxL := 5) (ret := (some .boolean)) (by decide) rfl ?_
  intro p e s m args below meth c s₁ B hml hv
  obtain ⟨rfl, hsz, hP, hK⟩ := hv
  have hx := B.exec
  have hb := B.bytes
  have hr := B.returns
  have hts := atoms_spec (ws := wm y_T_isTold c_T_isTold 5 (some .boolean)) B.pre
  have hown : s.vm.findClass "ShopDesks$Tellings" = some m.cls := findClass_of_methodNamed B.named
  have hlocks := B.notSynchronized
  subst hsz
  have hS : va_S (xA o s.heap.size) s.heap s.heap [] := va_S.rf
  have hW : ∀ i, i < 217 → xA o s.heap.size (o + i) := fun i hi => wA_in hi
  have hl := lv_entry ([.ref (o + 1), .int t, .long nu]) (n := 5) (Nat.le_of_ble_eq_true rfl)
  rw [lg_entry_eq]
  generalize (lg_sl ([.ref (o + 1), .int t, .long nu]) ++ List.replicate (5 - (lg_sl ([.ref (o + 1), .int t, .long nu])).length) Slot.unset).toArray = ls at hl ⊢
  have hl : lv_has ls 5 [(0, .ref (o + 1)), (1, .int t), (2, .long nu)] := hl
  refine lv_iconst (v := 0) hx hb d_T_isTold_0 (by decide) ?_
  refine lv_istore (lv' := [(4, .int 0), (0, .ref (o + 1)), (1, .int t), (2, .long nu)]) hx hb d_T_isTold_1 hl (by decide) rfl (fun ls hl => ?_)
  have lp3 : ∀ (fuel : Nat) (k : Nat), n - k < fuel → (k ≤ n) → (∀ j, j < k → ¬ (M.2.1 3 j = nu ∧ M.1 2 j = t)) → ∀ (ls : Array Slot), lv_has ls 5 [(0, .ref (o + 1)), (1, .int t), (2, .long nu), (4, .int (nI k))] → W p l e (headSpec (wm y_T_isTold c_T_isTold 5 (some .boolean)) { frames := 0, cells := 0, slots := 0, locals := 0 }).room s m ([.ref (o + 1), .int t, .long nu] : List Value).toArray below meth c s.heap [] 0 0 (MQ below (va_Qi (fun r M1 => M1 = M ∧ ((r = 1 ∧ ∃ j, j < n ∧ M.2.1 3 j = nu ∧ M.1 2 j = t) ∨ (r = 0 ∧ ∀ j, j < n → ¬ (M.2.1 3 j = nu ∧ M.1 2 j = t)))) (xQ D cA o) (xA o s.heap.size)) ([.ref (o + 1), .int t, .long nu] : List Value).toArray s 0 0 (xA o s.heap.size)) (F0 m 3 ls []) := by
    intro fuel
    induction fuel with
    | zero => intro k hfu; exact absurd hfu (Nat.not_lt_zero _)
    | succ fuel ih =>
      intro k hfu hk hno ls hl
      refine lv_iload hx hb d_T_isTold_3 (lv_at hl 3 rfl) ?_
      refine lv_aload_n hx hb d_T_isTold_5 rfl (lv_at hl 0 rfl) ?_
      refine w_get (C := R_T) (T := F_T) (N := 7) (ci := 3) (v := .int (M.2.2 1 6)) hx hb hts inw_T hown hK hP 1 (by decide) SX_1 rfl 6 (by decide) (hts _ (al aF_T_31)) rfl d_T_isTold_6 ?_
      refine w_topi en ?_
      refine lv_icmp_ge (tgt := 43) hx hb d_T_isTold_9 (by decide) (fun c_1 => ?_) (fun c_1 => ?_)
      · have hkn : n ≤ k := i_le (by omega) (by omega) c_1
        refine lv_iconst (v := 0) hx hb d_T_isTold_43 (by decide) ?_
        exact W.zret (v := 0) hx hb hr rfl (fun tz hz9 hW9 => ⟨⟨0, M, rfl, ⟨rfl, Or.inr ⟨rfl, fun j hj => hno j (by omega)⟩⟩, by rw [hz9]; exact hP, va_K.moved hW9.alike hK⟩, hS.F hz9⟩) hS.2.2 d_T_isTold_44
      · have hkn : k < n := i_nle (by omega) (by omega) c_1
        refine lv_aload_n hx hb d_T_isTold_12 rfl (lv_at hl 0 rfl) ?_
        refine w_get (C := R_T) (T := F_T) (N := 7) (ci := 3) (v := .ref (o + 3)) hx hb hts inw_T hown hK hP 1 (by decide) SX_1 rfl 1 (by decide) (hts _ (al aF_T_15)) rfl d_T_isTold_13 ?_
        refine lv_iload hx hb d_T_isTold_16 (lv_at hl 3 rfl) ?_
        refine w_lald hx hb hK hP 3 1 (by decide) SX_3 rfl (k := k) (by omega) (by decide) d_T_isTold_18 ?_
        refine lv_lload_n hx hb d_T_isTold_19 rfl (lv_at hl 2 rfl) ?_
        refine W.lcmp hx hb d_T_isTold_20 ?_
        refine lv_if_ne (tgt := 37) hx hb d_T_isTold_21 (by decide) (fun c_2 => ?_) (fun c_2 => ?_)
        · rw [lg_cmp_eq] at c_2
          have hne : ¬ (M.2.1 3 k = nu ∧ M.1 2 k = t) := fun h => c_2 h.1
          refine lv_iinc (v := nI (k + 1)) (lv' := [(4, .int (nI (k + 1))), (0, .ref (o + 1)), (1, .int t), (2, .long nu)]) hx hb d_T_isTold_37 hl (k := 3) rfl (w_inc k) (by decide) rfl (fun ls hl => ?_)
          refine lv_goto (tgt := 3) hx hb d_T_isTold_40 (by decide) ?_
          exact ih (k + 1) (by omega) hkn (fun j hj => (Nat.lt_or_eq_of_le (Nat.le_of_lt_succ hj)).elim (fun h => hno j h) (fun h => h ▸ hne)) ls (lv_sub hl [1, 2, 3, 0] rfl)
        · rw [lg_cmp_eq] at c_2
          have h21 := c_2
          refine lv_aload_n hx hb d_T_isTold_24 rfl (lv_at hl 0 rfl) ?_
          refine w_get (C := R_T) (T := F_T) (N := 7) (ci := 3) (v := .ref (o + 2)) hx hb hts inw_T hown hK hP 1 (by decide) SX_1 rfl 0 (by decide) (hts _ (al aF_T_9)) rfl d_T_isTold_25 ?_
          refine lv_iload hx hb d_T_isTold_28 (lv_at hl 3 rfl) ?_
          refine w_iald hx hb hK hP 2 0 (by decide) SX_2 rfl (k := k) (by omega) (by decide) d_T_isTold_30 ?_
          refine lv_iload_n hx hb d_T_isTold_31 rfl (lv_at hl 1 rfl) ?_
          refine lv_icmp_ne (tgt := 37) hx hb d_T_isTold_32 (by decide) (fun c_3 => ?_) (fun c_3 => ?_)
          · have hne : ¬ (M.2.1 3 k = nu ∧ M.1 2 k = t) := fun h => c_3 h.2
            refine lv_iinc (v := nI (k + 1)) (lv' := [(4, .int (nI (k + 1))), (0, .ref (o + 1)), (1, .int t), (2, .long nu)]) hx hb d_T_isTold_37 hl (k := 3) rfl (w_inc k) (by decide) rfl (fun ls hl => ?_)
            refine lv_goto (tgt := 3) hx hb d_T_isTold_40 (by decide) ?_
            exact ih (k + 1) (by omega) hkn (fun j hj => (Nat.lt_or_eq_of_le (Nat.le_of_lt_succ hj)).elim (fun h => hno j h) (fun h => h ▸ hne)) ls (lv_sub hl [1, 2, 3, 0] rfl)
          · have h32 := c_3
            refine lv_iconst (v := 1) hx hb d_T_isTold_35 (by decide) ?_
            exact W.zret (v := 1) hx hb hr rfl (fun tz hz9 hW9 => ⟨⟨1, M, rfl, ⟨rfl, Or.inl ⟨rfl, k, hkn, h21, h32⟩⟩, by rw [hz9]; exact hP, va_K.moved hW9.alike hK⟩, hS.F hz9⟩) hS.2.2 d_T_isTold_36
  exact lp3 ((n - 0) + 1) 0 (Nat.lt_succ_self _) (Nat.zero_le _) (fun j h => absurd h (Nat.not_lt_zero _)) ls (lv_sub hl [1, 2, 3, 0] rfl)
set_option maxHeartbeats 4000000 in
set_option maxRecDepth 100000 in
/-- one telling more -/
theorem k_T_append (l : Launch) (D : va_G) (cA : Nat → ClassId) (o sz : Nat) (M : wM) (t th kd : Int32) (nu v on : Int64) (n : Nat) (hn : n ≤ 300) (en : M.2.2 1 6 = nI n) (hn2 : n < 300) : Met l y_T_append (wm y_T_append c_T_append 10 (none)) { frames := 0, cells := 0, slots := 0, locals := 0 } (va_Pc [.ref (o + 1), .int t, .long nu, .int th, .int kd, .long v, .long on] (xB D cA o M sz)) (va_Qv (fun M1 => M1 = wF (wL (wL (wI (wI (wL (wI M 2 n t) 3 n nu) 4 n th) 5 n kd) 6 n v) 7 n on) 1 6 (nI (n + 1))) (xQ D cA o) (xA o sz)) 0 0 (xA o sz) := by
  refine Met.ofW (cc := c_T_append) (maxL := 10) (ret := (none)) (by decide) rfl ?_
  intro p e s m args below meth c s₁ B hml hv
  obtain ⟨rfl, hsz, hP, hK⟩ := hv
  have hx := B.exec
  have hb := B.bytes
  have hr := B.returns
  have hts := atoms_spec (ws := wm y_T_append c_T_append 10 (none)) B.pre
  have hown : s.vm.findClass "ShopDesks$Tellings" = some m.cls := findClass_of_methodNamed B.named
  have hlocks := B.notSynchronized
  subst hsz
  have hS : va_S (xA o s.heap.size) s.heap s.heap [] := va_S.rf
  have hW : ∀ i, i < 217 → xA o s.heap.size (o + i) := fun i hi => wA_in hi
  have hl := lv_entry ([.ref (o + 1), .int t, .long nu, .int th, .int kd, .long v, .long on]) (n := 10) (Nat.le_of_ble_eq_true rfl)
  rw [lg_entry_eq]
  generalize (lg_sl ([.ref (o + 1), .int t, .long nu, .int th, .int kd, .long v, .long on]) ++ List.replicate (10 - (lg_sl ([.ref (o + 1), .int t, .long nu, .int th, .int kd, .long v, .long on])).length) Slot.unset).toArray = ls at hl ⊢
  have hl : lv_has ls 10 [(0, .ref (o + 1)), (1, .int t), (2, .long nu), (4, .int th), (5, .int kd), (6, .long v), (8, .long on)] := hl
  refine lv_aload_n hx hb d_T_append_0 rfl (lv_at hl 0 rfl) ?_
  refine w_get (C := R_T) (T := F_T) (N := 7) (ci := 3) (v := .ref (o + 2)) hx hb hts inw_T hown hK hP 1 (by decide) SX_1 rfl 0 (by decide) (hts _ (al aF_T_9)) rfl d_T_append_1 ?_
  refine lv_aload_n hx hb d_T_append_4 rfl (lv_at hl 0 rfl) ?_
  refine w_get (C := R_T) (T := F_T) (N := 7) (ci := 3) (v := .int (M.2.2 1 6)) hx hb hts inw_T hown hK hP 1 (by decide) SX_1 rfl 6 (by decide) (hts _ (al aF_T_31)) rfl d_T_append_5 ?_
  refine w_topi en ?_
  refine lv_iload_n hx hb d_T_append_8 rfl (lv_at hl 1 rfl) ?_
  refine w_iast hx hb hK hP hW hS 2 0 (by decide) (fun _ => SX_2) rfl (k := n) (by omega) (by decide) d_T_append_9 (fun H locs hP hS => ?_)
  refine lv_aload_n hx hb d_T_append_10 rfl (lv_at hl 0 rfl) ?_
  refine w_get (C := R_T) (T := F_T) (N := 7) (ci := 3) (v := .ref (o + 3)) hx hb hts inw_T hown hK hP 1 (by decide) SX_1 rfl 1 (by decide) (hts _ (al aF_T_15)) rfl d_T_append_11 ?_
  refine lv_aload_n hx hb d_T_append_14 rfl (lv_at hl 0 rfl) ?_
  refine w_get (C := R_T) (T := F_T) (N := 7) (ci := 3) (v := .int (M.2.2 1 6)) hx hb hts inw_T hown hK hP 1 (by decide) SX_1 rfl 6 (by decide) (hts _ (al aF_T_31)) rfl d_T_append_15 ?_
  refine w_topi en ?_
  refine lv_lload_n hx hb d_T_append_18 rfl (lv_at hl 2 rfl) ?_
  refine w_last hx hb hK hP hW hS 3 1 (by decide) (fun _ => SX_3) rfl (k := n) (by omega) (by decide) d_T_append_19 (fun H locs hP hS => ?_)
  refine lv_aload_n hx hb d_T_append_20 rfl (lv_at hl 0 rfl) ?_
  refine w_get (C := R_T) (T := F_T) (N := 7) (ci := 3) (v := .ref (o + 4)) hx hb hts inw_T hown hK hP 1 (by decide) SX_1 rfl 2 (by decide) (hts _ (al aF_T_19)) rfl d_T_append_21 ?_
  refine lv_aload_n hx hb d_T_append_24 rfl (lv_at hl 0 rfl) ?_
  refine w_get (C := R_T) (T := F_T) (N := 7) (ci := 3) (v := .int (M.2.2 1 6)) hx hb hts inw_T hown hK hP 1 (by decide) SX_1 rfl 6 (by decide) (hts _ (al aF_T_31)) rfl d_T_append_25 ?_
  refine w_topi en ?_
  refine lv_iload hx hb d_T_append_28 (lv_at hl 3 rfl) ?_
  refine w_iast hx hb hK hP hW hS 4 0 (by decide) (fun _ => SX_4) rfl (k := n) (by omega) (by decide) d_T_append_30 (fun H locs hP hS => ?_)
  refine lv_aload_n hx hb d_T_append_31 rfl (lv_at hl 0 rfl) ?_
  refine w_get (C := R_T) (T := F_T) (N := 7) (ci := 3) (v := .ref (o + 5)) hx hb hts inw_T hown hK hP 1 (by decide) SX_1 rfl 3 (by decide) (hts _ (al aF_T_22)) rfl d_T_append_32 ?_
  refine lv_aload_n hx hb d_T_append_35 rfl (lv_at hl 0 rfl) ?_
  refine w_get (C := R_T) (T := F_T) (N := 7) (ci := 3) (v := .int (M.2.2 1 6)) hx hb hts inw_T hown hK hP 1 (by decide) SX_1 rfl 6 (by decide) (hts _ (al aF_T_31)) rfl d_T_append_36 ?_
  refine w_topi en ?_
  refine lv_iload hx hb d_T_append_39 (lv_at hl 4 rfl) ?_
  refine w_iast hx hb hK hP hW hS 5 0 (by decide) (fun _ => SX_5) rfl (k := n) (by omega) (by decide) d_T_append_41 (fun H locs hP hS => ?_)
  refine lv_aload_n hx hb d_T_append_42 rfl (lv_at hl 0 rfl) ?_
  refine w_get (C := R_T) (T := F_T) (N := 7) (ci := 3) (v := .ref (o + 6)) hx hb hts inw_T hown hK hP 1 (by decide) SX_1 rfl 4 (by decide) (hts _ (al aF_T_25)) rfl d_T_append_43 ?_
  refine lv_aload_n hx hb d_T_append_46 rfl (lv_at hl 0 rfl) ?_
  refine w_get (C := R_T) (T := F_T) (N := 7) (ci := 3) (v := .int (M.2.2 1 6)) hx hb hts inw_T hown hK hP 1 (by decide) SX_1 rfl 6 (by decide) (hts _ (al aF_T_31)) rfl d_T_append_47 ?_
  refine w_topi en ?_
  refine lv_lload hx hb d_T_append_50 (lv_at hl 5 rfl) ?_
  refine w_last hx hb hK hP hW hS 6 1 (by decide) (fun _ => SX_6) rfl (k := n) (by omega) (by decide) d_T_append_52 (fun H locs hP hS => ?_)
  refine lv_aload_n hx hb d_T_append_53 rfl (lv_at hl 0 rfl) ?_
  refine w_get (C := R_T) (T := F_T) (N := 7) (ci := 3) (v := .ref (o + 7)) hx hb hts inw_T hown hK hP 1 (by decide) SX_1 rfl 5 (by decide) (hts _ (al aF_T_28)) rfl d_T_append_54 ?_
  refine lv_aload_n hx hb d_T_append_57 rfl (lv_at hl 0 rfl) ?_
  refine w_get (C := R_T) (T := F_T) (N := 7) (ci := 3) (v := .int (M.2.2 1 6)) hx hb hts inw_T hown hK hP 1 (by decide) SX_1 rfl 6 (by decide) (hts _ (al aF_T_31)) rfl d_T_append_58 ?_
  refine w_topi en ?_
  refine lv_lload hx hb d_T_append_61 (lv_at hl 6 rfl) ?_
  refine w_last hx hb hK hP hW hS 7 1 (by decide) (fun _ => SX_7) rfl (k := n) (by omega) (by decide) d_T_append_63 (fun H locs hP hS => ?_)
  refine lv_aload_n hx hb d_T_append_64 rfl (lv_at hl 0 rfl) ?_
  refine lv_dup hx hb d_T_append_65 rfl ?_
  refine w_get (C := R_T) (T := F_T) (N := 7) (ci := 3) (v := .int (M.2.2 1 6)) hx hb hts inw_T hown hK hP 1 (by decide) SX_1 rfl 6 (by decide) (hts _ (al aF_T_31)) rfl d_T_append_66 ?_
  refine w_topi en ?_
  refine lv_iconst (v := 1) hx hb d_T_append_69 (by decide) ?_
  refine lv_iadd hx hb d_T_append_70 ?_
  refine w_topi ((nI_succ n).symm) ?_
  refine w_put (C := R_T) (T := F_T) (N := 7) (ci := 3) (x := nI (n + 1)) hx hb hts inw_T ft_T ft_T_ok fn_T hown hK hP hW hS 1 (by decide) SX_1 rfl 6 (by decide) (hts _ (al aF_T_31)) rfl rfl rfl (Nat.le_of_ble_eq_true rfl) (by rw [wF_r]; exact SX_1.trans rfl) d_T_append_71 (fun H locs hP hS => ?_)
  exact W.vret hx hb hr (fun tz hz9 hW9 => ⟨⟨(wF (wL (wL (wI (wI (wL (wI M 2 n t) 3 n nu) 4 n th) 5 n kd) 6 n v) 7 n on) 1 6 (nI (n + 1))), rfl, rfl, by rw [hz9]; exact hP, va_K.moved hW9.alike hK⟩, hS.F hz9⟩) hS.2.2 d_T_append_74
set_option maxHeartbeats 4000000 in
set_option maxRecDepth 100000 in
/-- whether telling t is of that thing, kind and time -/
theorem k_T_holds (l : Launch) (D : va_G) (cA : Nat → ClassId) (o sz : Nat) (M : wM) (t : Nat) (ht : t < 300) (th kd : Int32) (tm : Int64) : Met l y_T_holds (wm y_T_holds c_T_holds 6 (some .boolean)) { frames := 0, cells := 0, slots := 0, locals := 0 } (va_Pc [.ref (o + 1), .int (nI t), .int th, .int kd, .long tm] (xB D cA o M sz)) (va_Qi (fun r M1 => M1 = M ∧ r = b2i (x_hold M t th kd tm)) (xQ D cA o) (xA o sz)) 0 0 (xA o sz) := by
  refine Met.ofW (cc := c_T_holds) (maxL := 6) (ret := (some .boolean)) (by decide) rfl ?_
  intro p e s m args below meth c s₁ B hml hv
  obtain ⟨rfl, hsz, hP, hK⟩ := hv
  have hx := B.exec
  have hb := B.bytes
  have hr := B.returns
  have hts := atoms_spec (ws := wm y_T_holds c_T_holds 6 (some .boolean)) B.pre
  have hown : s.vm.findClass "ShopDesks$Tellings" = some m.cls := findClass_of_methodNamed B.named
  have hlocks := B.notSynchronized
  subst hsz
  have hS : va_S (xA o s.heap.size) s.heap s.heap [] := va_S.rf
  have hW : ∀ i, i < 217 → xA o s.heap.size (o + i) := fun i hi => wA_in hi
  have hl := lv_entry ([.ref (o + 1), .int (nI t), .int th, .int kd, .long tm]) (n := 6) (Nat.le_of_ble_eq_true rfl)
  rw [lg_entry_eq]
  generalize (lg_sl ([.ref (o + 1), .int (nI t), .int th, .int kd, .long tm]) ++ List.replicate (6 - (lg_sl ([.ref (o + 1), .int (nI t), .int th, .int kd, .long tm])).length) Slot.unset).toArray = ls at hl ⊢
  have hl : lv_has ls 6 [(0, .ref (o + 1)), (1, .int (nI t)), (2, .int th), (3, .int kd), (4, .long tm)] := hl
  refine lv_aload_n hx hb d_T_holds_0 rfl (lv_at hl 0 rfl) ?_
  refine w_get (C := R_T) (T := F_T) (N := 7) (ci := 3) (v := .ref (o + 4)) hx hb hts inw_T hown hK hP 1 (by decide) SX_1 rfl 2 (by decide) (hts _ (al aF_T_19)) rfl d_T_holds_1 ?_
  refine lv_iload_n hx hb d_T_holds_4 rfl (lv_at hl 1 rfl) ?_
  refine w_iald hx hb hK hP 4 0 (by decide) SX_4 rfl (k := t) (by omega) (by decide) d_T_holds_5 ?_
  refine lv_iload_n hx hb d_T_holds_6 rfl (lv_at hl 2 rfl) ?_
  refine lv_icmp_ne (tgt := 36) hx hb d_T_holds_7 (by decide) (fun c_1 => ?_) (fun c_1 => ?_)
  · have hq := c_1
    refine lv_iconst (v := 0) hx hb d_T_holds_36 (by decide) ?_
    exact W.zret (v := 0) hx hb hr rfl (fun tz hz9 hW9 => ⟨⟨0, M, rfl, ⟨rfl, (b2i_f (fun h => hq h.1)).symm⟩, by rw [hz9]; exact hP, va_K.moved hW9.alike hK⟩, hS.F hz9⟩) hS.2.2 d_T_holds_37
  · have q1 := c_1
    refine lv_aload_n hx hb d_T_holds_10 rfl (lv_at hl 0 rfl) ?_
    refine w_get (C := R_T) (T := F_T) (N := 7) (ci := 3) (v := .ref (o + 5)) hx hb hts inw_T hown hK hP 1 (by decide) SX_1 rfl 3 (by decide) (hts _ (al aF_T_22)) rfl d_T_holds_11 ?_
    refine lv_iload_n hx hb d_T_holds_14 rfl (lv_at hl 1 rfl) ?_
    refine w_iald hx hb hK hP 5 0 (by decide) SX_5 rfl (k := t) (by omega) (by decide) d_T_holds_15 ?_
    refine lv_iload_n hx hb d_T_holds_16 rfl (lv_at hl 3 rfl) ?_
    refine lv_icmp_ne (tgt := 36) hx hb d_T_holds_17 (by decide) (fun c_2 => ?_) (fun c_2 => ?_)
    · have hq := c_2
      refine lv_iconst (v := 0) hx hb d_T_holds_36 (by decide) ?_
      exact W.zret (v := 0) hx hb hr rfl (fun tz hz9 hW9 => ⟨⟨0, M, rfl, ⟨rfl, (b2i_f (fun h => hq h.2.1)).symm⟩, by rw [hz9]; exact hP, va_K.moved hW9.alike hK⟩, hS.F hz9⟩) hS.2.2 d_T_holds_37
    · have q2 := c_2
      refine lv_aload_n hx hb d_T_holds_20 rfl (lv_at hl 0 rfl) ?_
      refine w_get (C := R_T) (T := F_T) (N := 7) (ci := 3) (v := .ref (o + 7)) hx hb hts inw_T hown hK hP 1 (by decide) SX_1 rfl 5 (by decide) (hts _ (al aF_T_28)) rfl d_T_holds_21 ?_
      refine lv_iload_n hx hb d_T_holds_24 rfl (lv_at hl 1 rfl) ?_
      refine w_lald hx hb hK hP 7 1 (by decide) SX_7 rfl (k := t) (by omega) (by decide) d_T_holds_25 ?_
      refine lv_lload hx hb d_T_holds_26 (lv_at hl 4 rfl) ?_
      refine W.lcmp hx hb d_T_holds_28 ?_
      refine lv_if_gt (tgt := 36) hx hb d_T_holds_29 (by decide) (fun c_3 => ?_) (fun c_3 => ?_)
      · rw [lg_cmp_gt] at c_3
        have hq := c_3
        refine lv_iconst (v := 0) hx hb d_T_holds_36 (by decide) ?_
        exact W.zret (v := 0) hx hb hr rfl (fun tz hz9 hW9 => ⟨⟨0, M, rfl, ⟨rfl, (b2i_f (fun h => absurd h.2.2 (Int64.not_le.mpr hq))).symm⟩, by rw [hz9]; exact hP, va_K.moved hW9.alike hK⟩, hS.F hz9⟩) hS.2.2 d_T_holds_37
      · rw [lg_cmp_gt] at c_3
        have q3 := c_3
        refine lv_iconst (v := 1) hx hb d_T_holds_32 (by decide) ?_
        refine lv_goto (tgt := 37) hx hb d_T_holds_33 (by decide) ?_
        exact W.zret (v := 1) hx hb hr rfl (fun tz hz9 hW9 => ⟨⟨1, M, rfl, ⟨rfl, (b2i_t ⟨q1, q2, Int64.not_lt.mp q3⟩).symm⟩, by rw [hz9]; exact hP, va_K.moved hW9.alike hK⟩, hS.F hz9⟩) hS.2.2 d_T_holds_37
set_option maxHeartbeats 4000000 in
set_option maxRecDepth 100000 in
/-- whether telling a is later than telling b -/
theorem k_T_isLater (l : Launch) (D : va_G) (cA : Nat → ClassId) (o sz : Nat) (M : wM) (a b : Nat) (ha : a < 300) (hb9 : b < 300) : Met l y_T_isLater (wm y_T_isLater c_T_isLater 3 (some .boolean)) { frames := 0, cells := 0, slots := 0, locals := 0 } (va_Pc [.ref (o + 1), .int (nI a), .int (nI b)] (xB D cA o M sz)) (va_Qi (fun r M1 => M1 = M ∧ r = b2i (x_later M a b)) (xQ D cA o) (xA o sz)) 0 0 (xA o sz) := by
  refine Met.ofW (cc := c_T_isLater) (maxL := 3) (ret := (some .boolean)) (by decide) rfl ?_
  intro p e s m args below meth c s₁ B hml hv
  obtain ⟨rfl, hsz, hP, hK⟩ := hv
  have hx := B.exec
  have hb := B.bytes
  have hr := B.returns
  have hts := atoms_spec (ws := wm y_T_isLater c_T_isLater 3 (some .boolean)) B.pre
  have hown : s.vm.findClass "ShopDesks$Tellings" = some m.cls := findClass_of_methodNamed B.named
  have hlocks := B.notSynchronized
  subst hsz
  have hS : va_S (xA o s.heap.size) s.heap s.heap [] := va_S.rf
  have hW : ∀ i, i < 217 → xA o s.heap.size (o + i) := fun i hi => wA_in hi
  have hl := lv_entry ([.ref (o + 1), .int (nI a), .int (nI b)]) (n := 3) (Nat.le_of_ble_eq_true rfl)
  rw [lg_entry_eq]
  generalize (lg_sl ([.ref (o + 1), .int (nI a), .int (nI b)]) ++ List.replicate (3 - (lg_sl ([.ref (o + 1), .int (nI a), .int (nI b)])).length) Slot.unset).toArray = ls at hl ⊢
  have hl : lv_has ls 3 [(0, .ref (o + 1)), (1, .int (nI a)), (2, .int (nI b))] := hl
  refine lv_aload_n hx hb d_T_isLater_0 rfl (lv_at hl 0 rfl) ?_
  refine w_get (C := R_T) (T := F_T) (N := 7) (ci := 3) (v := .ref (o + 7)) hx hb hts inw_T hown hK hP 1 (by decide) SX_1 rfl 5 (by decide) (hts _ (al aF_T_28)) rfl d_T_isLater_1 ?_
  refine lv_iload_n hx hb d_T_isLater_4 rfl (lv_at hl 1 rfl) ?_
  refine w_lald hx hb hK hP 7 1 (by decide) SX_7 rfl (k := a) (by omega) (by decide) d_T_isLater_5 ?_
  refine lv_aload_n hx hb d_T_isLater_6 rfl (lv_at hl 0 rfl) ?_
  refine w_get (C := R_T) (T := F_T) (N := 7) (ci := 3) (v := .ref (o + 7)) hx hb hts inw_T hown hK hP 1 (by decide) SX_1 rfl 5 (by decide) (hts _ (al aF_T_28)) rfl d_T_isLater_7 ?_
  refine lv_iload_n hx hb d_T_isLater_10 rfl (lv_at hl 2 rfl) ?_
  refine w_lald hx hb hK hP 7 1 (by decide) SX_7 rfl (k := b) (by omega) (by decide) d_T_isLater_11 ?_
  refine W.lcmp hx hb d_T_isLater_12 ?_
  refine lv_if_eq (tgt := 38) hx hb d_T_isLater_13 (by decide) (fun c_1 => ?_) (fun c_1 => ?_)
  · rw [lg_cmp_eq] at c_1
    refine lv_aload_n hx hb d_T_isLater_38 rfl (lv_at hl 0 rfl) ?_
    refine w_get (C := R_T) (T := F_T) (N := 7) (ci := 3) (v := .ref (o + 2)) hx hb hts inw_T hown hK hP 1 (by decide) SX_1 rfl 0 (by decide) (hts _ (al aF_T_9)) rfl d_T_isLater_39 ?_
    refine lv_iload_n hx hb d_T_isLater_42 rfl (lv_at hl 1 rfl) ?_
    refine w_iald hx hb hK hP 2 0 (by decide) SX_2 rfl (k := a) (by omega) (by decide) d_T_isLater_43 ?_
    refine lv_aload_n hx hb d_T_isLater_44 rfl (lv_at hl 0 rfl) ?_
    refine w_get (C := R_T) (T := F_T) (N := 7) (ci := 3) (v := .ref (o + 2)) hx hb hts inw_T hown hK hP 1 (by decide) SX_1 rfl 0 (by decide) (hts _ (al aF_T_9)) rfl d_T_isLater_45 ?_
    refine lv_iload_n hx hb d_T_isLater_48 rfl (lv_at hl 2 rfl) ?_
    refine w_iald hx hb hK hP 2 0 (by decide) SX_2 rfl (k := b) (by omega) (by decide) d_T_isLater_49 ?_
    refine lv_icmp_eq (tgt := 74) hx hb d_T_isLater_50 (by decide) (fun c_2 => ?_) (fun c_2 => ?_)
    · refine lv_aload_n hx hb d_T_isLater_74 rfl (lv_at hl 0 rfl) ?_
      refine w_get (C := R_T) (T := F_T) (N := 7) (ci := 3) (v := .ref (o + 3)) hx hb hts inw_T hown hK hP 1 (by decide) SX_1 rfl 1 (by decide) (hts _ (al aF_T_15)) rfl d_T_isLater_75 ?_
      refine lv_iload_n hx hb d_T_isLater_78 rfl (lv_at hl 1 rfl) ?_
      refine w_lald hx hb hK hP 3 1 (by decide) SX_3 rfl (k := a) (by omega) (by decide) d_T_isLater_79 ?_
      refine lv_aload_n hx hb d_T_isLater_80 rfl (lv_at hl 0 rfl) ?_
      refine w_get (C := R_T) (T := F_T) (N := 7) (ci := 3) (v := .ref (o + 3)) hx hb hts inw_T hown hK hP 1 (by decide) SX_1 rfl 1 (by decide) (hts _ (al aF_T_15)) rfl d_T_isLater_81 ?_
      refine lv_iload_n hx hb d_T_isLater_84 rfl (lv_at hl 2 rfl) ?_
      refine w_lald hx hb hK hP 3 1 (by decide) SX_3 rfl (k := b) (by omega) (by decide) d_T_isLater_85 ?_
      refine W.lcmp hx hb d_T_isLater_86 ?_
      refine lv_if_le (tgt := 94) hx hb d_T_isLater_87 (by decide) (fun c_3 => ?_) (fun c_3 => ?_)
      · rw [lg_cmp_le] at c_3
        refine lv_iconst (v := 0) hx hb d_T_isLater_94 (by decide) ?_
        exact W.zret (v := 0) hx hb hr rfl (fun tz hz9 hW9 => ⟨⟨0, M, rfl, ⟨rfl, by simp only [b2i, x_later]; simp_all⟩, by rw [hz9]; exact hP, va_K.moved hW9.alike hK⟩, hS.F hz9⟩) hS.2.2 d_T_isLater_95
      · rw [lg_cmp_le] at c_3
        refine lv_iconst (v := 1) hx hb d_T_isLater_90 (by decide) ?_
        refine lv_goto (tgt := 95) hx hb d_T_isLater_91 (by decide) ?_
        exact W.zret (v := 1) hx hb hr rfl (fun tz hz9 hW9 => ⟨⟨1, M, rfl, ⟨rfl, by simp only [b2i, x_later]; simp_all⟩, by rw [hz9]; exact hP, va_K.moved hW9.alike hK⟩, hS.F hz9⟩) hS.2.2 d_T_isLater_95
    · refine lv_aload_n hx hb d_T_isLater_53 rfl (lv_at hl 0 rfl) ?_
      refine w_get (C := R_T) (T := F_T) (N := 7) (ci := 3) (v := .ref (o + 2)) hx hb hts inw_T hown hK hP 1 (by decide) SX_1 rfl 0 (by decide) (hts _ (al aF_T_9)) rfl d_T_isLater_54 ?_
      refine lv_iload_n hx hb d_T_isLater_57 rfl (lv_at hl 1 rfl) ?_
      refine w_iald hx hb hK hP 2 0 (by decide) SX_2 rfl (k := a) (by omega) (by decide) d_T_isLater_58 ?_
      refine lv_aload_n hx hb d_T_isLater_59 rfl (lv_at hl 0 rfl) ?_
      refine w_get (C := R_T) (T := F_T) (N := 7) (ci := 3) (v := .ref (o + 2)) hx hb hts inw_T hown hK hP 1 (by decide) SX_1 rfl 0 (by decide) (hts _ (al aF_T_9)) rfl d_T_isLater_60 ?_
      refine lv_iload_n hx hb d_T_isLater_63 rfl (lv_at hl 2 rfl) ?_
      refine w_iald hx hb hK hP 2 0 (by decide) SX_2 rfl (k := b) (by omega) (by decide) d_T_isLater_64 ?_
      refine lv_icmp_le (tgt := 72) hx hb d_T_isLater_65 (by decide) (fun c_4 => ?_) (fun c_4 => ?_)
      · refine lv_iconst (v := 0) hx hb d_T_isLater_72 (by decide) ?_
        exact W.zret (v := 0) hx hb hr rfl (fun tz hz9 hW9 => ⟨⟨0, M, rfl, ⟨rfl, by simp only [b2i, x_later]; simp_all⟩, by rw [hz9]; exact hP, va_K.moved hW9.alike hK⟩, hS.F hz9⟩) hS.2.2 d_T_isLater_73
      · refine lv_iconst (v := 1) hx hb d_T_isLater_68 (by decide) ?_
        refine lv_goto (tgt := 73) hx hb d_T_isLater_69 (by decide) ?_
        exact W.zret (v := 1) hx hb hr rfl (fun tz hz9 hW9 => ⟨⟨1, M, rfl, ⟨rfl, by simp only [b2i, x_later]; simp_all⟩, by rw [hz9]; exact hP, va_K.moved hW9.alike hK⟩, hS.F hz9⟩) hS.2.2 d_T_isLater_73
  · rw [lg_cmp_eq] at c_1
    refine lv_aload_n hx hb d_T_isLater_16 rfl (lv_at hl 0 rfl) ?_
    refine w_get (C := R_T) (T := F_T) (N := 7) (ci := 3) (v := .ref (o + 7)) hx hb hts inw_T hown hK hP 1 (by decide) SX_1 rfl 5 (by decide) (hts _ (al aF_T_28)) rfl d_T_isLater_17 ?_
    refine lv_iload_n hx hb d_T_isLater_20 rfl (lv_at hl 1 rfl) ?_
    refine w_lald hx hb hK hP 7 1 (by decide) SX_7 rfl (k := a) (by omega) (by decide) d_T_isLater_21 ?_
    refine lv_aload_n hx hb d_T_isLater_22 rfl (lv_at hl 0 rfl) ?_
    refine w_get (C := R_T) (T := F_T) (N := 7) (ci := 3) (v := .ref (o + 7)) hx hb hts inw_T hown hK hP 1 (by decide) SX_1 rfl 5 (by decide) (hts _ (al aF_T_28)) rfl d_T_isLater_23 ?_
    refine lv_iload_n hx hb d_T_isLater_26 rfl (lv_at hl 2 rfl) ?_
    refine w_lald hx hb hK hP 7 1 (by decide) SX_7 rfl (k := b) (by omega) (by decide) d_T_isLater_27 ?_
    refine W.lcmp hx hb d_T_isLater_28 ?_
    refine lv_if_le (tgt := 36) hx hb d_T_isLater_29 (by decide) (fun c_5 => ?_) (fun c_5 => ?_)
    · rw [lg_cmp_le] at c_5
      refine lv_iconst (v := 0) hx hb d_T_isLater_36 (by decide) ?_
      exact W.zret (v := 0) hx hb hr rfl (fun tz hz9 hW9 => ⟨⟨0, M, rfl, ⟨rfl, by simp only [b2i, x_later]; simp_all⟩, by rw [hz9]; exact hP, va_K.moved hW9.alike hK⟩, hS.F hz9⟩) hS.2.2 d_T_isLater_37
    · rw [lg_cmp_le] at c_5
      refine lv_iconst (v := 1) hx hb d_T_isLater_32 (by decide) ?_
      refine lv_goto (tgt := 37) hx hb d_T_isLater_33 (by decide) ?_
      exact W.zret (v := 1) hx hb hr rfl (fun tz hz9 hW9 => ⟨⟨1, M, rfl, ⟨rfl, by simp only [b2i, x_later]; simp_all⟩, by rw [hz9]; exact hP, va_K.moved hW9.alike hK⟩, hS.F hz9⟩) hS.2.2 d_T_isLater_37

