/-! entries and the ledger -/
def x_row (M : wM) (ej rc : Nat) (ac : Int32) (ce : Int64) : wM := wF (wL (wI M (37 + 3 * ej + 1) rc ac) (37 + 3 * ej + 2) rc ce) (37 + 3 * ej) 2 (nI (rc + 1))
def x_turn (M : wM) (ej ek : Nat) : Nat → wM
  | 0 => M
  | k + 1 => x_row (x_turn M ej ek k) ej k (M.1 (37 + 3 * ek + 1) k) (-(M.2.1 (37 + 3 * ek + 2) k))
theorem x_turn_o {M : wM} {ej ek : Nat} (hne : ej ≠ ek) (k : Nat) : (x_turn M ej ek k).2.2 (37 + 3 * ek) = M.2.2 (37 + 3 * ek) ∧ (x_turn M ej ek k).1 (37 + 3 * ek + 1) = M.1 (37 + 3 * ek + 1) ∧ (x_turn M ej ek k).2.1 (37 + 3 * ek + 2) = M.2.1 (37 + 3 * ek + 2) := by
  induction k with
  | zero => exact ⟨rfl, rfl, rfl⟩
  | succ k ih =>
    refine ⟨?_, ?_, ?_⟩
    · exact (up2_o _ _ _ _ (by omega)).trans ih.1
    · exact (up2_o _ _ _ _ (by omega)).trans ih.2.1
    · exact (up2_o _ _ _ _ (by omega)).trans ih.2.2
theorem x_turn_c {M : wM} {ej ek : Nat} (h : M.2.2 (37 + 3 * ej) 2 = nI 0) (k : Nat) : (x_turn M ej ek k).2.2 (37 + 3 * ej) 2 = nI k := by
  cases k with
  | zero => exact h
  | succ k => exact wF_s
def x_tot (M : wM) (ej : Nat) : Nat → Int64
  | 0 => 0
  | k + 1 => x_tot M ej k + M.2.1 (37 + 3 * ej + 2) k
def x_esum (M : wM) (ej : Nat) (ac : Int32) : Nat → Int64
  | 0 => 0
  | k + 1 => if M.1 (37 + 3 * ej + 1) k = ac then x_esum M ej ac k + M.2.1 (37 + 3 * ej + 2) k else x_esum M ej ac k
theorem x_esum_t {M : wM} {ej k : Nat} {ac : Int32} (h : M.1 (37 + 3 * ej + 1) k = ac) : x_esum M ej ac (k + 1) = x_esum M ej ac k + M.2.1 (37 + 3 * ej + 2) k := by simp [x_esum, h]
theorem x_esum_f {M : wM} {ej k : Nat} {ac : Int32} (h : ¬ M.1 (37 + 3 * ej + 1) k = ac) : x_esum M ej ac (k + 1) = x_esum M ej ac k := by simp [x_esum, h]
def x_bal (M : wM) (rc : Nat → Nat) (ac day : Int32) : Nat → Int64
  | 0 => 0
  | k + 1 => if ¬ M.2.2 (37 + 3 * k) 4 = 0 ∧ M.2.2 (37 + 3 * k) 3 ≤ day then x_bal M rc ac day k + x_esum M k ac (rc k) else x_bal M rc ac day k
theorem x_bal_t {M : wM} {rc : Nat → Nat} {ac day : Int32} {k : Nat} (h : ¬ M.2.2 (37 + 3 * k) 4 = 0) (h2 : M.2.2 (37 + 3 * k) 3 ≤ day) : x_bal M rc ac day (k + 1) = x_bal M rc ac day k + x_esum M k ac (rc k) := by simp [x_bal, h, h2]
theorem x_bal_f {M : wM} {rc : Nat → Nat} {ac day : Int32} {k : Nat} (h : ¬ (¬ M.2.2 (37 + 3 * k) 4 = 0 ∧ M.2.2 (37 + 3 * k) 3 ≤ day)) : x_bal M rc ac day (k + 1) = x_bal M rc ac day k := by simp only [x_bal]; rw [if_neg h]
set_option maxHeartbeats 4000000 in
set_option maxRecDepth 100000 in
/-- E_isClosed -/
theorem k_E_isClosed (l : Launch) (D : va_G) (cA : Nat → ClassId) (o sz : Nat) (M : wM) (ej : Nat) (hj : ej < 60) : Met l y_E_isClosed (wm y_E_isClosed c_E_isClosed 1 (some .boolean)) { frames := 0, cells := 0, slots := 0, locals := 0 } (va_Pc [.ref (o + (37 + 3 * ej))] (xB D cA o M sz)) (va_Qi (fun r M1 => M1 = M ∧ r = b2i (decide (¬ M.2.2 (37 + 3 * ej) 4 = 0))) (xQ D cA o) (xA o sz)) 0 0 (xA o sz) := by
  refine Met.ofW (cc := c_E_isClosed) (maxL := 1) (ret := (some .boolean)) (by decide) rfl ?_
  intro p e s m args below meth c s₁ B hml hv
  obtain ⟨rfl, hsz, hP, hK⟩ := hv
  have hx := B.exec
  have hb := B.bytes
  have hr := B.returns
  have hts := atoms_spec (ws := wm y_E_isClosed c_E_isClosed 1 (some .boolean)) B.pre
  have hown : s.vm.findClass "ShopDesks$Entry" = some m.cls := findClass_of_methodNamed B.named
  have hlocks := B.notSynchronized
  subst hsz
  have hS : va_S (xA o s.heap.size) s.heap s.heap [] := va_S.rf
  have hW : ∀ i, i < 217 → xA o s.heap.size (o + i) := fun i hi => wA_in hi
  have hl := lv_entry ([.ref (o + (37 + 3 * ej))]) (n := 1) (Nat.le_of_ble_eq_true rfl)
  rw [lg_entry_eq]
  generalize (lg_sl ([.ref (o + (37 + 3 * ej))]) ++ List.replicate (1 - (lg_sl ([.ref (o + (37 + 3 * ej))])).length) Slot.unset).toArray = ls at hl ⊢
  have hl : lv_has ls 1 [(0, .ref (o + (37 + 3 * ej)))] := hl
  refine lv_aload_n hx hb d_E_isClosed_0 rfl (lv_at hl 0 rfl) ?_
  refine w_get (C := R_E) (T := F_E) (N := 7) (ci := 0) (v := .int (M.2.2 (37 + 3 * ej) 4)) hx hb hts inw_E hown hK hP (37 + 3 * ej) (by omega) (SX_e hj) rfl 4 (by decide) (hts _ (al aF_E_26)) rfl d_E_isClosed_1 ?_
  refine lv_if_eq (tgt := 11) hx hb d_E_isClosed_4 (by decide) (fun c_1 => ?_) (fun c_1 => ?_)
  · have q := c_1
    refine lv_iconst (v := 0) hx hb d_E_isClosed_11 (by decide) ?_
    exact W.zret (v := 0) hx hb hr rfl (fun tz hz9 hW9 => ⟨⟨0, M, rfl, ⟨rfl, (b2i_f (fun h => h q)).symm⟩, by rw [hz9]; exact hP, va_K.moved hW9.alike hK⟩, hS.F hz9⟩) hS.2.2 d_E_isClosed_12
  · have q := c_1
    refine lv_iconst (v := 1) hx hb d_E_isClosed_7 (by decide) ?_
    refine lv_goto (tgt := 12) hx hb d_E_isClosed_8 (by decide) ?_
    exact W.zret (v := 1) hx hb hr rfl (fun tz hz9 hW9 => ⟨⟨1, M, rfl, ⟨rfl, (b2i_t q).symm⟩, by rw [hz9]; exact hP, va_K.moved hW9.alike hK⟩, hS.F hz9⟩) hS.2.2 d_E_isClosed_12
set_option maxHeartbeats 4000000 in
set_option maxRecDepth 100000 in
/-- E_addRow -/
theorem k_E_addRow (l : Launch) (D : va_G) (cA : Nat → ClassId) (o sz : Nat) (M : wM) (ej : Nat) (hj : ej < 60) (rc : Nat) (hrc : rc ≤ 6) (erc : M.2.2 (37 + 3 * ej) 2 = nI rc) (hr6 : rc < 6) (ac : Int32) (ce : Int64) : Met l y_E_addRow (wm y_E_addRow c_E_addRow 4 (none)) { frames := 0, cells := 0, slots := 0, locals := 0 } (va_Pc [.ref (o + (37 + 3 * ej)), .int ac, .long ce] (xB D cA o M sz)) (va_Qv (fun M1 => M1 = x_row M ej rc ac ce) (xQ D cA o) (xA o sz)) 0 0 (xA o sz) := by
  refine Met.ofW (cc := c_E_addRow) (maxL := 4) (ret := (none)) (by decide) rfl ?_
  intro p e s m args below meth c s₁ B hml hv
  obtain ⟨rfl, hsz, hP, hK⟩ := hv
  have hx := B.exec
  have hb := B.bytes
  have hr := B.returns
  have hts := atoms_spec (ws := wm y_E_addRow c_E_addRow 4 (none)) B.pre
  have hown : s.vm.findClass "ShopDesks$Entry" = some m.cls := findClass_of_methodNamed B.named
  have hlocks := B.notSynchronized
  subst hsz
  have hS : va_S (xA o s.heap.size) s.heap s.heap [] := va_S.rf
  have hW : ∀ i, i < 217 → xA o s.heap.size (o + i) := fun i hi => wA_in hi
  have hl := lv_entry ([.ref (o + (37 + 3 * ej)), .int ac, .long ce]) (n := 4) (Nat.le_of_ble_eq_true rfl)
  rw [lg_entry_eq]
  generalize (lg_sl ([.ref (o + (37 + 3 * ej)), .int ac, .long ce]) ++ List.replicate (4 - (lg_sl ([.ref (o + (37 + 3 * ej)), .int ac, .long ce])).length) Slot.unset).toArray = ls at hl ⊢
  have hl : lv_has ls 4 [(0, .ref (o + (37 + 3 * ej))), (1, .int ac), (2, .long ce)] := hl
  refine lv_aload_n hx hb d_E_addRow_0 rfl (lv_at hl 0 rfl) ?_
  refine w_get (C := R_E) (T := F_E) (N := 7) (ci := 0) (v := .ref (o + (37 + 3 * ej + 1))) hx hb hts inw_E hown hK hP (37 + 3 * ej) (by omega) (SX_e hj) rfl 0 (by decide) (hts _ (al aF_E_9)) rfl d_E_addRow_1 ?_
  refine lv_aload_n hx hb d_E_addRow_4 rfl (lv_at hl 0 rfl) ?_
  refine w_get (C := R_E) (T := F_E) (N := 7) (ci := 0) (v := .int (M.2.2 (37 + 3 * ej) 2)) hx hb hts inw_E hown hK hP (37 + 3 * ej) (by omega) (SX_e hj) rfl 2 (by decide) (hts _ (al aF_E_19)) rfl d_E_addRow_5 ?_
  refine w_topi erc ?_
  refine lv_iload_n hx hb d_E_addRow_8 rfl (lv_at hl 1 rfl) ?_
  refine w_iast hx hb hK hP hW hS (37 + 3 * ej + 1) 0 (by omega) (fun _ => (SX_ea hj)) rfl (k := rc) (by omega) (by decide) d_E_addRow_9 (fun H locs hP hS => ?_)
  refine lv_aload_n hx hb d_E_addRow_10 rfl (lv_at hl 0 rfl) ?_
  refine w_get (C := R_E) (T := F_E) (N := 7) (ci := 0) (v := .ref (o + (37 + 3 * ej + 2))) hx hb hts inw_E hown hK hP (37 + 3 * ej) (by omega) (SX_e hj) rfl 1 (by decide) (hts _ (al aF_E_15)) rfl d_E_addRow_11 ?_
  refine lv_aload_n hx hb d_E_addRow_14 rfl (lv_at hl 0 rfl) ?_
  refine w_get (C := R_E) (T := F_E) (N := 7) (ci := 0) (v := .int (M.2.2 (37 + 3 * ej) 2)) hx hb hts inw_E hown hK hP (37 + 3 * ej) (by omega) (SX_e hj) rfl 2 (by decide) (hts _ (al aF_E_19)) rfl d_E_addRow_15 ?_
  refine w_topi erc ?_
  refine lv_lload_n hx hb d_E_addRow_18 rfl (lv_at hl 2 rfl) ?_
  refine w_last hx hb hK hP hW hS (37 + 3 * ej + 2) 1 (by omega) (fun _ => (SX_ec hj)) rfl (k := rc) (by omega) (by decide) d_E_addRow_19 (fun H locs hP hS => ?_)
  refine lv_aload_n hx hb d_E_addRow_20 rfl (lv_at hl 0 rfl) ?_
  refine lv_dup hx hb d_E_addRow_21 rfl ?_
  refine w_get (C := R_E) (T := F_E) (N := 7) (ci := 0) (v := .int (M.2.2 (37 + 3 * ej) 2)) hx hb hts inw_E hown hK hP (37 + 3 * ej) (by omega) (SX_e hj) rfl 2 (by decide) (hts _ (al aF_E_19)) rfl d_E_addRow_22 ?_
  refine w_topi erc ?_
  refine lv_iconst (v := 1) hx hb d_E_addRow_25 (by decide) ?_
  refine lv_iadd hx hb d_E_addRow_26 ?_
  refine w_topi ((nI_succ rc).symm) ?_
  refine w_put (C := R_E) (T := F_E) (N := 7) (ci := 0) (x := nI (rc + 1)) hx hb hts inw_E ft_E ft_E_ok fn_E hown hK hP hW hS (37 + 3 * ej) (by omega) (SX_e hj) rfl 2 (by decide) (hts _ (al aF_E_19)) rfl rfl rfl (Nat.le_of_ble_eq_true rfl) (by rw [wF_r]; exact (SX_e hj).trans rfl) d_E_addRow_27 (fun H locs hP hS => ?_)
  exact W.vret hx hb hr (fun tz hz9 hW9 => ⟨⟨(wF (wL (wI M (37 + 3 * ej + 1) rc ac) (37 + 3 * ej + 2) rc ce) (37 + 3 * ej) 2 (nI (rc + 1))), rfl, rfl, by rw [hz9]; exact hP, va_K.moved hW9.alike hK⟩, hS.F hz9⟩) hS.2.2 d_E_addRow_30
set_option maxHeartbeats 4000000 in
set_option maxRecDepth 100000 in
/-- E_takeTurnedRound -/
theorem k_E_takeTurnedRound (l : Launch) (D : va_G) (cA : Nat → ClassId) (o sz : Nat) (M : wM) (ej : Nat) (hj : ej < 60) (ek : Nat) (hk : ek < 60) (hne : ej ≠ ek) (rc : Nat) (hrc : rc ≤ 6) (erc : M.2.2 (37 + 3 * ek) 2 = nI rc) (e0 : M.2.2 (37 + 3 * ej) 2 = nI 0) : Met l y_E_takeTurnedRound (wm y_E_takeTurnedRound c_E_takeTurnedRound 3 (none)) { frames := 1, cells := 0, slots := 0, locals := 23 } (va_Pc [.ref (o + (37 + 3 * ej)), .ref (o + (37 + 3 * ek))] (xB D cA o M sz)) (va_Qv (fun M1 => M1 = x_turn M ej ek rc) (xQ D cA o) (xA o sz)) 0 0 (xA o sz) := by
  refine Met.ofW (cc := c_E_takeTurnedRound) (maxL := 3) (ret := (none)) (by decide) rfl ?_
  intro p e s m args below meth c s₁ B hml hv
  obtain ⟨rfl, hsz, hP, hK⟩ := hv
  have hx := B.exec
  have hb := B.bytes
  have hr := B.returns
  have hts := atoms_spec (ws := wm y_E_takeTurnedRound c_E_takeTurnedRound 3 (none)) B.pre
  have hown : s.vm.findClass "ShopDesks$Entry" = some m.cls := findClass_of_methodNamed B.named
  have hlocks := B.notSynchronized
  subst hsz
  have hS : va_S (xA o s.heap.size) s.heap s.heap [] := va_S.rf
  have hW : ∀ i, i < 217 → xA o s.heap.size (o + i) := fun i hi => wA_in hi
  have hl := lv_entry ([.ref (o + (37 + 3 * ej)), .ref (o + (37 + 3 * ek))]) (n := 3) (Nat.le_of_ble_eq_true rfl)
  rw [lg_entry_eq]
  generalize (lg_sl ([.ref (o + (37 + 3 * ej)), .ref (o + (37 + 3 * ek))]) ++ List.replicate (3 - (lg_sl ([.ref (o + (37 + 3 * ej)), .ref (o + (37 + 3 * ek))])).length) Slot.unset).toArray = ls at hl ⊢
  have hl : lv_has ls 3 [(0, .ref (o + (37 + 3 * ej))), (1, .ref (o + (37 + 3 * ek)))] := hl
  refine lv_iconst (v := 0) hx hb d_E_takeTurnedRound_0 (by decide) ?_
  refine lv_istore_n (lv' := [(2, .int 0), (0, .ref (o + (37 + 3 * ej))), (1, .ref (o + (37 + 3 * ek)))]) hx hb d_E_takeTurnedRound_1 rfl hl (by decide) rfl (fun ls hl => ?_)
  have lp2 : ∀ (fuel : Nat) (k : Nat), rc - k < fuel → (k ≤ rc) → ∀ (H : Heap) (locs : List Loc), wP D cls_ (SX o cA) o 217 (x_turn M ej ek k) H → va_S (xA o s.heap.size) s.heap H locs → ∀ (ls : Array Slot), lv_has ls 3 [(0, .ref (o + (37 + 3 * ej))), (1, .ref (o + (37 + 3 * ek))), (2, .int (nI k))] → W p l e (headSpec (wm y_E_takeTurnedRound c_E_takeTurnedRound 3 (none)) { frames := 1, cells := 0, slots := 0, locals := 23 }).room s m ([.ref (o + (37 + 3 * ej)), .ref (o + (37 + 3 * ek))] : List Value).toArray below meth c H locs 0 0 (MQ below (va_Qv (fun M1 => M1 = x_turn M ej ek rc) (xQ D cA o) (xA o s.heap.size)) ([.ref (o + (37 + 3 * ej)), .ref (o + (37 + 3 * ek))] : List Value).toArray s 0 0 (xA o s.heap.size)) (F0 m 2 ls []) := by
    intro fuel
    induction fuel with
    | zero => intro k hfu; exact absurd hfu (Nat.not_lt_zero _)
    | succ fuel ih =>
      intro k hfu hkn H locs hP hS ls hl
      refine lv_iload_n hx hb d_E_takeTurnedRound_2 rfl (lv_at hl 2 rfl) ?_
      refine lv_aload_n hx hb d_E_takeTurnedRound_3 rfl (lv_at hl 1 rfl) ?_
      refine w_get (C := R_E) (T := F_E) (N := 7) (ci := 0) (v := .int ((x_turn M ej ek k).2.2 (37 + 3 * ek) 2)) hx hb hts inw_E hown hK hP (37 + 3 * ek) (by omega) (SX_e hk) rfl 2 (by decide) (hts _ (al aF_E_19)) rfl d_E_takeTurnedRound_4 ?_
      refine w_topi ((congrFun (x_turn_o hne k).1 2).trans erc) ?_
      refine lv_icmp_ge (tgt := 33) hx hb d_E_takeTurnedRound_7 (by decide) (fun c_1 => ?_) (fun c_1 => ?_)
      · have hkr : rc ≤ k := i_le (by omega) (by omega) c_1
        exact W.vret hx hb hr (fun tz hz9 hW9 => ⟨⟨(x_turn M ej ek k), rfl, by rw [show k = rc by omega], by rw [hz9]; exact hP, va_K.moved hW9.alike hK⟩, hS.F hz9⟩) hS.2.2 d_E_takeTurnedRound_33
      · have hkr : k < rc := i_nle (by omega) (by omega) c_1
        refine lv_aload_n hx hb d_E_takeTurnedRound_10 rfl (lv_at hl 0 rfl) ?_
        refine lv_aload_n hx hb d_E_takeTurnedRound_11 rfl (lv_at hl 1 rfl) ?_
        refine w_get (C := R_E) (T := F_E) (N := 7) (ci := 0) (v := .ref (o + (37 + 3 * ek + 1))) hx hb hts inw_E hown hK hP (37 + 3 * ek) (by omega) (SX_e hk) rfl 0 (by decide) (hts _ (al aF_E_9)) rfl d_E_takeTurnedRound_12 ?_
        refine lv_iload_n hx hb d_E_takeTurnedRound_15 rfl (lv_at hl 2 rfl) ?_
        refine w_iald hx hb hK hP (37 + 3 * ek + 1) 0 (by omega) (SX_ea hk) rfl (k := k) (by omega) (by decide) d_E_takeTurnedRound_16 ?_
        refine w_topi (congrFun (x_turn_o hne k).2.1 k) ?_
        refine lv_aload_n hx hb d_E_takeTurnedRound_17 rfl (lv_at hl 1 rfl) ?_
        refine w_get (C := R_E) (T := F_E) (N := 7) (ci := 0) (v := .ref (o + (37 + 3 * ek + 2))) hx hb hts inw_E hown hK hP (37 + 3 * ek) (by omega) (SX_e hk) rfl 1 (by decide) (hts _ (al aF_E_15)) rfl d_E_takeTurnedRound_18 ?_
        refine lv_iload_n hx hb d_E_takeTurnedRound_21 rfl (lv_at hl 2 rfl) ?_
        refine w_lald hx hb hK hP (37 + 3 * ek + 2) 1 (by omega) (SX_ec hk) rfl (k := k) (by omega) (by decide) d_E_takeTurnedRound_22 ?_
        refine w_topl (congrFun (x_turn_o hne k).2.2 k) ?_
        refine lv_lneg hx hb d_E_takeTurnedRound_23 ?_
        refine w_Vv ⟨hx, hb, hml, hown, hts⟩ (k_E_addRow l D cA o _ (x_turn M ej ek k) ej hj k (by omega) (x_turn_c e0 k) (by omega) (M.1 (37 + 3 * ek + 1) k) (-(M.2.1 (37 + 3 * ek + 2) k))) (kV hts 2 aK_E_addRow aM_E_36 aI_E_addRow aV_E_addRow aN_E nm_E_addRow rfl rfl ⟨(Nat.le_of_ble_eq_true rfl), (Nat.le_of_ble_eq_true rfl)⟩) hK hP (by omega) (SX_e hj) rfl rfl hl.1 rfl (Nat.le_of_ble_eq_true rfl) d_E_takeTurnedRound_24 ⟨(Nat.le_of_ble_eq_true rfl), (Nat.le_of_ble_eq_true rfl)⟩ hS (fun q h => wA_le hS.1 h) (fun M_2 H locs hw_2 hP hzc hkc hS => ?_)
        rw [hw_2] at hP
        refine lv_iinc (v := nI (k + 1)) (lv' := [(2, .int (nI (k + 1))), (0, .ref (o + (37 + 3 * ej))), (1, .ref (o + (37 + 3 * ek)))]) hx hb d_E_takeTurnedRound_27 hl (k := 2) rfl (w_inc k) (by decide) rfl (fun ls hl => ?_)
        refine lv_goto (tgt := 2) hx hb d_E_takeTurnedRound_30 (by decide) ?_
        exact ih (k + 1) (by omega) hkr _ _ hP hS ls (lv_sub hl [1, 2, 0] rfl)
  exact lp2 ((rc - 0) + 1) 0 (Nat.lt_succ_self _) (Nat.zero_le _) _ _ hP hS ls (lv_sub hl [1, 2, 0] rfl)
set_option maxHeartbeats 4000000 in
set_option maxRecDepth 100000 in
/-- E_isBalanced -/
theorem k_E_isBalanced (l : Launch) (D : va_G) (cA : Nat → ClassId) (o sz : Nat) (M : wM) (ej : Nat) (hj : ej < 60) (rc : Nat) (hrc : rc ≤ 6) (erc : M.2.2 (37 + 3 * ej) 2 = nI rc) : Met l y_E_isBalanced (wm y_E_isBalanced c_E_isBalanced 4 (some .boolean)) { frames := 0, cells := 0, slots := 0, locals := 0 } (va_Pc [.ref (o + (37 + 3 * ej))] (xB D cA o M sz)) (va_Qi (fun r M1 => M1 = M ∧ r = b2i (decide (0 < rc ∧ x_tot M ej rc = 0))) (xQ D cA o) (xA o sz)) 0 0 (xA o sz) := by
  refine Met.ofW (cc := c_E_isBalanced) (maxL := 4) (ret := (some .boolean)) (by decide) rfl ?_
  intro p e s m args below meth c s₁ B hml hv
  obtain ⟨rfl, hsz, hP, hK⟩ := hv
  have hx := B.exec
  have hb := B.bytes
  have hr := B.returns
  have hts := atoms_spec (ws := wm y_E_isBalanced c_E_isBalanced 4 (some .boolean)) B.pre
  have hown : s.vm.findClass "ShopDesks$Entry" = some m.cls := findClass_of_methodNamed B.named
  have hlocks := B.notSynchronized
  subst hsz
  have hS : va_S (xA o s.heap.size) s.heap s.heap [] := va_S.rf
  have hW : ∀ i, i < 217 → xA o s.heap.size (o + i) := fun i hi => wA_in hi
  have hl := lv_entry ([.ref (o + (37 + 3 * ej))]) (n := 4) (Nat.le_of_ble_eq_true rfl)
  rw [lg_entry_eq]
  generalize (lg_sl ([.ref (o + (37 + 3 * ej))]) ++ List.replicate (4 - (lg_sl ([.ref (o + (37 + 3 * ej))])).length) Slot.unset).toArray = ls at hl ⊢
  have hl : lv_has ls 4 [(0, .ref (o + (37 + 3 * ej)))] := hl
  refine lv_lconst (v := 0) hx hb d_E_isBalanced_0 (by decide) ?_
  refine lv_lstore_n (lv' := [(1, .long 0), (0, .ref (o + (37 + 3 * ej)))]) hx hb d_E_isBalanced_1 rfl hl (by decide) rfl (fun ls hl => ?_)
  refine lv_iconst (v := 0) hx hb d_E_isBalanced_2 (by decide) ?_
  refine lv_istore_n (lv' := [(3, .int 0), (1, .long 0), (0, .ref (o + (37 + 3 * ej)))]) hx hb d_E_isBalanced_3 rfl hl (by decide) rfl (fun ls hl => ?_)
  have lp4 : ∀ (fuel : Nat) (k : Nat) (sm : Int64), rc - k < fuel → (k ≤ rc) → (sm = x_tot M ej k) → ∀ (ls : Array Slot), lv_has ls 4 [(0, .ref (o + (37 + 3 * ej))), (1, .long sm), (3, .int (nI k))] → W p l e (headSpec (wm y_E_isBalanced c_E_isBalanced 4 (some .boolean)) { frames := 0, cells := 0, slots := 0, locals := 0 }).room s m ([.ref (o + (37 + 3 * ej))] : List Value).toArray below meth c s.heap [] 0 0 (MQ below (va_Qi (fun r M1 => M1 = M ∧ r = b2i (decide (0 < rc ∧ x_tot M ej rc = 0))) (xQ D cA o) (xA o s.heap.size)) ([.ref (o + (37 + 3 * ej))] : List Value).toArray s 0 0 (xA o s.heap.size)) (F0 m 4 ls []) := by
    intro fuel
    induction fuel with
    | zero => intro k sm hfu; exact absurd hfu (Nat.not_lt_zero _)
    | succ fuel ih =>
      intro k sm hfu hkn hsm ls hl
      refine lv_iload_n hx hb d_E_isBalanced_4 rfl (lv_at hl 2 rfl) ?_
      refine lv_aload_n hx hb d_E_isBalanced_5 rfl (lv_at hl 0 rfl) ?_
      refine w_get (C := R_E) (T := F_E) (N := 7) (ci := 0) (v := .int (M.2.2 (37 + 3 * ej) 2)) hx hb hts inw_E hown hK hP (37 + 3 * ej) (by omega) (SX_e hj) rfl 2 (by decide) (hts _ (al aF_E_19)) rfl d_E_isBalanced_6 ?_
      refine w_topi erc ?_
      refine lv_icmp_ge (tgt := 27) hx hb d_E_isBalanced_9 (by decide) (fun c_1 => ?_) (fun c_1 => ?_)
      · have hkr : rc ≤ k := i_le (by omega) (by omega) c_1
        have hs9 : sm = x_tot M ej rc := by rw [hsm, show k = rc by omega]
        refine lv_aload_n hx hb d_E_isBalanced_27 rfl (lv_at hl 0 rfl) ?_
        refine w_get (C := R_E) (T := F_E) (N := 7) (ci := 0) (v := .int (M.2.2 (37 + 3 * ej) 2)) hx hb hts inw_E hown hK hP (37 + 3 * ej) (by omega) (SX_e hj) rfl 2 (by decide) (hts _ (al aF_E_19)) rfl d_E_isBalanced_28 ?_
        refine w_topi erc ?_
        refine lv_if_le (tgt := 44) hx hb d_E_isBalanced_31 (by decide) (fun c_2 => ?_) (fun c_2 => ?_)
        · have q := i_le0 (by omega) c_2
          refine lv_iconst (v := 0) hx hb d_E_isBalanced_44 (by decide) ?_
          exact W.zret (v := 0) hx hb hr rfl (fun tz hz9 hW9 => ⟨⟨0, M, rfl, ⟨rfl, (b2i_f (fun h => by omega)).symm⟩, by rw [hz9]; exact hP, va_K.moved hW9.alike hK⟩, hS.F hz9⟩) hS.2.2 d_E_isBalanced_45
        · have q1 := i_nle0 c_2
          refine lv_lload_n hx hb d_E_isBalanced_34 rfl (lv_at hl 1 rfl) ?_
          refine lv_lconst (v := 0) hx hb d_E_isBalanced_35 (by decide) ?_
          refine W.lcmp hx hb d_E_isBalanced_36 ?_
          refine lv_if_ne (tgt := 44) hx hb d_E_isBalanced_37 (by decide) (fun c_3 => ?_) (fun c_3 => ?_)
          · rw [lg_cmp_eq] at c_3
            have q := c_3
            refine lv_iconst (v := 0) hx hb d_E_isBalanced_44 (by decide) ?_
            exact W.zret (v := 0) hx hb hr rfl (fun tz hz9 hW9 => ⟨⟨0, M, rfl, ⟨rfl, (b2i_f (fun h => q (by rw [hs9]; exact h.2))).symm⟩, by rw [hz9]; exact hP, va_K.moved hW9.alike hK⟩, hS.F hz9⟩) hS.2.2 d_E_isBalanced_45
          · rw [lg_cmp_eq] at c_3
            have q := c_3
            refine lv_iconst (v := 1) hx hb d_E_isBalanced_40 (by decide) ?_
            refine lv_goto (tgt := 45) hx hb d_E_isBalanced_41 (by decide) ?_
            exact W.zret (v := 1) hx hb hr rfl (fun tz hz9 hW9 => ⟨⟨1, M, rfl, ⟨rfl, (b2i_t ⟨q1, by rw [← hs9]; exact q⟩).symm⟩, by rw [hz9]; exact hP, va_K.moved hW9.alike hK⟩, hS.F hz9⟩) hS.2.2 d_E_isBalanced_45
      · have hkr : k < rc := i_nle (by omega) (by omega) c_1
        refine lv_lload_n hx hb d_E_isBalanced_12 rfl (lv_at hl 1 rfl) ?_
        refine lv_aload_n hx hb d_E_isBalanced_13 rfl (lv_at hl 0 rfl) ?_
        refine w_get (C := R_E) (T := F_E) (N := 7) (ci := 0) (v := .ref (o + (37 + 3 * ej + 2))) hx hb hts inw_E hown hK hP (37 + 3 * ej) (by omega) (SX_e hj) rfl 1 (by decide) (hts _ (al aF_E_15)) rfl d_E_isBalanced_14 ?_
        refine lv_iload_n hx hb d_E_isBalanced_17 rfl (lv_at hl 2 rfl) ?_
        refine w_lald hx hb hK hP (37 + 3 * ej + 2) 1 (by omega) (SX_ec hj) rfl (k := k) (by omega) (by decide) d_E_isBalanced_18 ?_
        refine lv_ladd hx hb d_E_isBalanced_19 ?_
        refine lv_lstore_n (lv' := [(1, .long (sm + (M.2.1 (37 + 3 * ej + 2) k))), (0, .ref (o + (37 + 3 * ej))), (3, .int (nI k))]) hx hb d_E_isBalanced_20 rfl hl (by decide) rfl (fun ls hl => ?_)
        refine lv_iinc (v := nI (k + 1)) (lv' := [(3, .int (nI (k + 1))), (1, .long (sm + (M.2.1 (37 + 3 * ej + 2) k))), (0, .ref (o + (37 + 3 * ej)))]) hx hb d_E_isBalanced_21 hl (k := 2) rfl (w_inc k) (by decide) rfl (fun ls hl => ?_)
        refine lv_goto (tgt := 4) hx hb d_E_isBalanced_24 (by decide) ?_
        exact ih (k + 1) (sm + (M.2.1 (37 + 3 * ej + 2) k)) (by omega) hkr (by rw [hsm]; rfl) ls (lv_sub hl [2, 1, 0] rfl)
  exact lp4 ((rc - 0) + 1) 0 0 (Nat.lt_succ_self _) (Nat.zero_le _) rfl ls (lv_sub hl [2, 1, 0] rfl)
set_option maxHeartbeats 4000000 in
set_option maxRecDepth 100000 in
/-- E_sumOf -/
theorem k_E_sumOf (l : Launch) (D : va_G) (cA : Nat → ClassId) (o sz : Nat) (M : wM) (ej : Nat) (hj : ej < 60) (rc : Nat) (hrc : rc ≤ 6) (erc : M.2.2 (37 + 3 * ej) 2 = nI rc) (ac : Int32) : Met l y_E_sumOf (wm y_E_sumOf c_E_sumOf 5 (some .long)) { frames := 0, cells := 0, slots := 0, locals := 0 } (va_Pc [.ref (o + (37 + 3 * ej)), .int ac] (xB D cA o M sz)) (va_Ql (fun r M1 => M1 = M ∧ r = x_esum M ej ac rc) (xQ D cA o) (xA o sz)) 0 0 (xA o sz) := by
  refine Met.ofW (cc := c_E_sumOf) (maxL := 5) (ret := (some .long)) (by decide) rfl ?_
  intro p e s m args below meth c s₁ B hml hv
  obtain ⟨rfl, hsz, hP, hK⟩ := hv
  have hx := B.exec
  have hb := B.bytes
  have hr := B.returns
  have hts := atoms_spec (ws := wm y_E_sumOf c_E_sumOf 5 (some .long)) B.pre
  have hown : s.vm.findClass "ShopDesks$Entry" = some m.cls := findClass_of_methodNamed B.named
  have hlocks := B.notSynchronized
  subst hsz
  have hS : va_S (xA o s.heap.size) s.heap s.heap [] := va_S.rf
  have hW : ∀ i, i < 217 → xA o s.heap.size (o + i) := fun i hi => wA_in hi
  have hl := lv_entry ([.ref (o + (37 + 3 * ej)), .int ac]) (n := 5) (Nat.le_of_ble_eq_true rfl)
  rw [lg_entry_eq]
  generalize (lg_sl ([.ref (o + (37 + 3 * ej)), .int ac]) ++ List.replicate (5 - (lg_sl ([.ref (o + (37 + 3 * ej)), .int ac])).length) Slot.unset).toArray = ls at hl ⊢
  have hl : lv_has ls 5 [(0, .ref (o + (37 + 3 * ej))), (1, .int ac)] := hl
  refine lv_lconst (v := 0) hx hb d_E_sumOf_0 (by decide) ?_
  refine lv_lstore_n (lv' := [(2, .long 0), (0, .ref (o + (37 + 3 * ej))), (1, .int ac)]) hx hb d_E_sumOf_1 rfl hl (by decide) rfl (fun ls hl => ?_)
  refine lv_iconst (v := 0) hx hb d_E_sumOf_2 (by decide) ?_
  refine lv_istore (lv' := [(4, .int 0), (2, .long 0), (0, .ref (o + (37 + 3 * ej))), (1, .int ac)]) hx hb d_E_sumOf_3 hl (by decide) rfl (fun ls hl => ?_)
  have lp5 : ∀ (fuel : Nat) (k : Nat) (sm : Int64), rc - k < fuel → (k ≤ rc) → (sm = x_esum M ej ac k) → ∀ (ls : Array Slot), lv_has ls 5 [(0, .ref (o + (37 + 3 * ej))), (1, .int ac), (2, .long sm), (4, .int (nI k))] → W p l e (headSpec (wm y_E_sumOf c_E_sumOf 5 (some .long)) { frames := 0, cells := 0, slots := 0, locals := 0 }).room s m ([.ref (o + (37 + 3 * ej)), .int ac] : List Value).toArray below meth c s.heap [] 0 0 (MQ below (va_Ql (fun r M1 => M1 = M ∧ r = x_esum M ej ac rc) (xQ D cA o) (xA o s.heap.size)) ([.ref (o + (37 + 3 * ej)), .int ac] : List Value).toArray s 0 0 (xA o s.heap.size)) (F0 m 5 ls []) := by
    intro fuel
    induction fuel with
    | zero => intro k sm hfu; exact absurd hfu (Nat.not_lt_zero _)
    | succ fuel ih =>
      intro k sm hfu hkn hsm ls hl
      refine lv_iload hx hb d_E_sumOf_5 (lv_at hl 3 rfl) ?_
      refine lv_aload_n hx hb d_E_sumOf_7 rfl (lv_at hl 0 rfl) ?_
      refine w_get (C := R_E) (T := F_E) (N := 7) (ci := 0) (v := .int (M.2.2 (37 + 3 * ej) 2)) hx hb hts inw_E hown hK hP (37 + 3 * ej) (by omega) (SX_e hj) rfl 2 (by decide) (hts _ (al aF_E_19)) rfl d_E_sumOf_8 ?_
      refine w_topi erc ?_
      refine lv_icmp_ge (tgt := 41) hx hb d_E_sumOf_11 (by decide) (fun c_1 => ?_) (fun c_1 => ?_)
      · have hkr : rc ≤ k := i_le (by omega) (by omega) c_1
        refine lv_lload_n hx hb d_E_sumOf_41 rfl (lv_at hl 2 rfl) ?_
        exact W.lret (v := sm) hx hb hr (fun tz hz9 hW9 => ⟨⟨sm, M, rfl, ⟨rfl, by rw [hsm, show k = rc by omega]⟩, by rw [hz9]; exact hP, va_K.moved hW9.alike hK⟩, hS.F hz9⟩) hS.2.2 d_E_sumOf_42
      · have hkr : k < rc := i_nle (by omega) (by omega) c_1
        refine lv_aload_n hx hb d_E_sumOf_14 rfl (lv_at hl 0 rfl) ?_
        refine w_get (C := R_E) (T := F_E) (N := 7) (ci := 0) (v := .ref (o + (37 + 3 * ej + 1))) hx hb hts inw_E hown hK hP (37 + 3 * ej) (by omega) (SX_e hj) rfl 0 (by decide) (hts _ (al aF_E_9)) rfl d_E_sumOf_15 ?_
        refine lv_iload hx hb d_E_sumOf_18 (lv_at hl 3 rfl) ?_
        refine w_iald hx hb hK hP (37 + 3 * ej + 1) 0 (by omega) (SX_ea hj) rfl (k := k) (by omega) (by decide) d_E_sumOf_20 ?_
        refine lv_iload_n hx hb d_E_sumOf_21 rfl (lv_at hl 1 rfl) ?_
        refine lv_icmp_ne (tgt := 35) hx hb d_E_sumOf_22 (by decide) (fun c_2 => ?_) (fun c_2 => ?_)
        · have q := c_2
          refine lv_iinc (v := nI (k + 1)) (lv' := [(4, .int (nI (k + 1))), (0, .ref (o + (37 + 3 * ej))), (1, .int ac), (2, .long sm)]) hx hb d_E_sumOf_35 hl (k := 3) rfl (w_inc k) (by decide) rfl (fun ls hl => ?_)
          refine lv_goto (tgt := 5) hx hb d_E_sumOf_38 (by decide) ?_
          exact ih (k + 1) sm (by omega) hkr (by rw [x_esum_f q]; exact hsm) ls (lv_sub hl [1, 2, 3, 0] rfl)
        · have q := c_2
          refine lv_lload_n hx hb d_E_sumOf_25 rfl (lv_at hl 2 rfl) ?_
          refine lv_aload_n hx hb d_E_sumOf_26 rfl (lv_at hl 0 rfl) ?_
          refine w_get (C := R_E) (T := F_E) (N := 7) (ci := 0) (v := .ref (o + (37 + 3 * ej + 2))) hx hb hts inw_E hown hK hP (37 + 3 * ej) (by omega) (SX_e hj) rfl 1 (by decide) (hts _ (al aF_E_15)) rfl d_E_sumOf_27 ?_
          refine lv_iload hx hb d_E_sumOf_30 (lv_at hl 3 rfl) ?_
          refine w_lald hx hb hK hP (37 + 3 * ej + 2) 1 (by omega) (SX_ec hj) rfl (k := k) (by omega) (by decide) d_E_sumOf_32 ?_
          refine lv_ladd hx hb d_E_sumOf_33 ?_
          refine lv_lstore_n (lv' := [(2, .long (sm + (M.2.1 (37 + 3 * ej + 2) k))), (0, .ref (o + (37 + 3 * ej))), (1, .int ac), (4, .int (nI k))]) hx hb d_E_sumOf_34 rfl hl (by decide) rfl (fun ls hl => ?_)
          refine lv_iinc (v := nI (k + 1)) (lv' := [(4, .int (nI (k + 1))), (2, .long (sm + (M.2.1 (37 + 3 * ej + 2) k))), (0, .ref (o + (37 + 3 * ej))), (1, .int ac)]) hx hb d_E_sumOf_35 hl (k := 3) rfl (w_inc k) (by decide) rfl (fun ls hl => ?_)
          refine lv_goto (tgt := 5) hx hb d_E_sumOf_38 (by decide) ?_
          exact ih (k + 1) (sm + (M.2.1 (37 + 3 * ej + 2) k)) (by omega) hkr (by rw [x_esum_t q, hsm]) ls (lv_sub hl [2, 3, 1, 0] rfl)
  exact lp5 ((rc - 0) + 1) 0 0 (Nat.lt_succ_self _) (Nat.zero_le _) rfl ls (lv_sub hl [2, 3, 1, 0] rfl)
set_option maxHeartbeats 4000000 in
set_option maxRecDepth 100000 in
/-- L_openEntry -/
theorem k_L_openEntry (l : Launch) (D : va_G) (cA : Nat → ClassId) (o sz : Nat) (M : wM) (ec : Nat) (hec : ec < 60) (eec : M.2.2 34 2 = nI ec) (day : Int32) : Met l y_L_openEntry (wm y_L_openEntry c_L_openEntry 2 (some .int)) { frames := 0, cells := 0, slots := 0, locals := 0 } (va_Pc [.ref (o + 34), .int day] (xB D cA o M sz)) (va_Qi (fun r M1 => M1 = wF (wF M (37 + 3 * ec) 3 day) 34 2 (nI (ec + 1)) ∧ r = nI ec) (xQ D cA o) (xA o sz)) 0 0 (xA o sz) := by
  refine Met.ofW (cc := c_L_openEntry) (maxL := 2) (ret := (some .int)) (by decide) rfl ?_
  intro p e s m args below meth c s₁ B hml hv
  obtain ⟨rfl, hsz, hP, hK⟩ := hv
  have hx := B.exec
  have hb := B.bytes
  have hr := B.returns
  have hts := atoms_spec (ws := wm y_L_openEntry c_L_openEntry 2 (some .int)) B.pre
  have hown : s.vm.findClass "ShopDesks$Ledger" = some m.cls := findClass_of_methodNamed B.named
  have hlocks := B.notSynchronized
  subst hsz
  have hS : va_S (xA o s.heap.size) s.heap s.heap [] := va_S.rf
  have hW : ∀ i, i < 217 → xA o s.heap.size (o + i) := fun i hi => wA_in hi
  have hl := lv_entry ([.ref (o + 34), .int day]) (n := 2) (Nat.le_of_ble_eq_true rfl)
  rw [lg_entry_eq]
  generalize (lg_sl ([.ref (o + 34), .int day]) ++ List.replicate (2 - (lg_sl ([.ref (o + 34), .int day])).length) Slot.unset).toArray = ls at hl ⊢
  have hl : lv_has ls 2 [(0, .ref (o + 34)), (1, .int day)] := hl
  refine lv_aload_n hx hb d_L_openEntry_0 rfl (lv_at hl 0 rfl) ?_
  refine w_get (C := R_L) (T := F_L) (N := 5) (ci := 1) (v := .ref (o + 35)) hx hb hts inw_L hown hK hP 34 (by decide) SX_34 rfl 0 (by decide) (hts _ (al aF_L_11)) rfl d_L_openEntry_1 ?_
  refine lv_aload_n hx hb d_L_openEntry_4 rfl (lv_at hl 0 rfl) ?_
  refine w_get (C := R_L) (T := F_L) (N := 5) (ci := 1) (v := .int (M.2.2 34 2)) hx hb hts inw_L hown hK hP 34 (by decide) SX_34 rfl 2 (by decide) (hts _ (al aF_L_21)) rfl d_L_openEntry_5 ?_
  refine w_topi eec ?_
  refine w_aald hx hb hK hP 35 4 (by decide) SX_35 rfl (k := ec) (by omega) (by decide) (if_pos (by omega)) d_L_openEntry_8 ?_
  refine lv_iload_n hx hb d_L_openEntry_9 rfl (lv_at hl 1 rfl) ?_
  refine w_put (C := R_E) (T := F_E) (N := 7) (ci := 0) (x := day) hx hb hts inw_E ft_E ft_E_ok fn_E hown hK hP hW hS (37 + 3 * ec) (by omega) (SX_e hec) rfl 3 (by decide) (hts _ (al aF_L_32)) rfl rfl rfl (Nat.le_of_ble_eq_true rfl) (by rw [wF_r]; exact (SX_e hec).trans rfl) d_L_openEntry_10 (fun H locs hP hS => ?_)
  refine lv_aload_n hx hb d_L_openEntry_13 rfl (lv_at hl 0 rfl) ?_
  refine lv_dup hx hb d_L_openEntry_14 rfl ?_
  refine w_get (C := R_L) (T := F_L) (N := 5) (ci := 1) (v := .int (M.2.2 34 2)) hx hb hts inw_L hown hK hP 34 (by decide) SX_34 rfl 2 (by decide) (hts _ (al aF_L_21)) (w_hv (wF_ne (by omega))) d_L_openEntry_15 ?_
  refine w_topi eec ?_
  refine lv_iconst (v := 1) hx hb d_L_openEntry_18 (by decide) ?_
  refine lv_iadd hx hb d_L_openEntry_19 ?_
  refine w_topi ((nI_succ ec).symm) ?_
  refine w_put (C := R_L) (T := F_L) (N := 5) (ci := 1) (x := nI (ec + 1)) hx hb hts inw_L ft_L ft_L_ok fn_L hown hK hP hW hS 34 (by decide) SX_34 rfl 2 (by decide) (hts _ (al aF_L_21)) rfl rfl rfl (Nat.le_of_ble_eq_true rfl) (by rw [wF_r]; exact SX_34.trans rfl) d_L_openEntry_20 (fun H locs hP hS => ?_)
  refine lv_aload_n hx hb d_L_openEntry_23 rfl (lv_at hl 0 rfl) ?_
  refine w_get (C := R_L) (T := F_L) (N := 5) (ci := 1) (v := .int (nI (ec + 1))) hx hb hts inw_L hown hK hP 34 (by decide) SX_34 rfl 2 (by decide) (hts _ (al aF_L_21)) rfl d_L_openEntry_24 ?_
  refine lv_iconst (v := 1) hx hb d_L_openEntry_27 (by decide) ?_
  refine lv_isub hx hb d_L_openEntry_28 ?_
  refine w_topi (i_sub1 ec) ?_
  exact W.iret (v := nI ec) hx hb hr (fun tz hz9 hW9 => ⟨⟨nI ec, (wF (wF M (37 + 3 * ec) 3 day) 34 2 (nI (ec + 1))), rfl, ⟨rfl, rfl⟩, by rw [hz9]; exact hP, va_K.moved hW9.alike hK⟩, hS.F hz9⟩) hS.2.2 d_L_openEntry_29
set_option maxHeartbeats 4000000 in
set_option maxRecDepth 100000 in
/-- L_giveNumber -/
theorem k_L_giveNumber (l : Launch) (D : va_G) (cA : Nat → ClassId) (o sz : Nat) (M : wM) (ln ej : Nat) (hln : ln < 60) (hj : ej < 60) (eln : M.2.2 34 3 = nI ln) : Met l y_L_giveNumber (wm y_L_giveNumber c_L_giveNumber 2 (some .int)) { frames := 0, cells := 0, slots := 0, locals := 0 } (va_Pc [.ref (o + 34), .int (nI ej)] (xB D cA o M sz)) (va_Qi (fun r M1 => M1 = wI (wF (wF M 34 3 (nI (ln + 1))) (37 + 3 * ej) 4 (nI (ln + 1))) 36 (ln + 1) (nI ej) ∧ r = nI (ln + 1)) (xQ D cA o) (xA o sz)) 0 0 (xA o sz) := by
  refine Met.ofW (cc := c_L_giveNumber) (maxL := 2) (ret := (some .int)) (by decide) rfl ?_
  intro p e s m args below meth c s₁ B hml hv
  obtain ⟨rfl, hsz, hP, hK⟩ := hv
  have hx := B.exec
  have hb := B.bytes
  have hr := B.returns
  have hts := atoms_spec (ws := wm y_L_giveNumber c_L_giveNumber 2 (some .int)) B.pre
  have hown : s.vm.findClass "ShopDesks$Ledger" = some m.cls := findClass_of_methodNamed B.named
  have hlocks := B.notSynchronized
  subst hsz
  have hS : va_S (xA o s.heap.size) s.heap s.heap [] := va_S.rf
  have hW : ∀ i, i < 217 → xA o s.heap.size (o + i) := fun i hi => wA_in hi
  have hl := lv_entry ([.ref (o + 34), .int (nI ej)]) (n := 2) (Nat.le_of_ble_eq_true rfl)
  rw [lg_entry_eq]
  generalize (lg_sl ([.ref (o + 34), .int (nI ej)]) ++ List.replicate (2 - (lg_sl ([.ref (o + 34), .int (nI ej)])).length) Slot.unset).toArray = ls at hl ⊢
  have hl : lv_has ls 2 [(0, .ref (o + 34)), (1, .int (nI ej))] := hl
  refine lv_aload_n hx hb d_L_giveNumber_0 rfl (lv_at hl 0 rfl) ?_
  refine lv_dup hx hb d_L_giveNumber_1 rfl ?_
  refine w_get (C := R_L) (T := F_L) (N := 5) (ci := 1) (v := .int (M.2.2 34 3)) hx hb hts inw_L hown hK hP 34 (by decide) SX_34 rfl 3 (by decide) (hts _ (al aF_L_25)) rfl d_L_giveNumber_2 ?_
  refine w_topi eln ?_
  refine lv_iconst (v := 1) hx hb d_L_giveNumber_5 (by decide) ?_
  refine lv_iadd hx hb d_L_giveNumber_6 ?_
  refine w_topi ((nI_succ ln).symm) ?_
  refine w_put (C := R_L) (T := F_L) (N := 5) (ci := 1) (x := nI (ln + 1)) hx hb hts inw_L ft_L ft_L_ok fn_L hown hK hP hW hS 34 (by decide) SX_34 rfl 3 (by decide) (hts _ (al aF_L_25)) rfl rfl rfl (Nat.le_of_ble_eq_true rfl) (by rw [wF_r]; exact SX_34.trans rfl) d_L_giveNumber_7 (fun H locs hP hS => ?_)
  refine lv_aload_n hx hb d_L_giveNumber_10 rfl (lv_at hl 0 rfl) ?_
  refine w_get (C := R_L) (T := F_L) (N := 5) (ci := 1) (v := .ref (o + 35)) hx hb hts inw_L hown hK hP 34 (by decide) SX_34 rfl 0 (by decide) (hts _ (al aF_L_11)) rfl d_L_giveNumber_11 ?_
  refine lv_iload_n hx hb d_L_giveNumber_14 rfl (lv_at hl 1 rfl) ?_
  refine w_aald hx hb hK hP 35 4 (by decide) SX_35 rfl (k := ej) (by omega) (by decide) (if_pos (by omega)) d_L_giveNumber_15 ?_
  refine lv_aload_n hx hb d_L_giveNumber_16 rfl (lv_at hl 0 rfl) ?_
  refine w_get (C := R_L) (T := F_L) (N := 5) (ci := 1) (v := .int (nI (ln + 1))) hx hb hts inw_L hown hK hP 34 (by decide) SX_34 rfl 3 (by decide) (hts _ (al aF_L_25)) rfl d_L_giveNumber_17 ?_
  refine w_put (C := R_E) (T := F_E) (N := 7) (ci := 0) (x := nI (ln + 1)) hx hb hts inw_E ft_E ft_E_ok fn_E hown hK hP hW hS (37 + 3 * ej) (by omega) (SX_e hj) rfl 4 (by decide) (hts _ (al aF_L_35)) rfl rfl rfl (Nat.le_of_ble_eq_true rfl) (by rw [wF_r]; exact (SX_e hj).trans rfl) d_L_giveNumber_20 (fun H locs hP hS => ?_)
  refine lv_aload_n hx hb d_L_giveNumber_23 rfl (lv_at hl 0 rfl) ?_
  refine w_get (C := R_L) (T := F_L) (N := 5) (ci := 1) (v := .ref (o + 36)) hx hb hts inw_L hown hK hP 34 (by decide) SX_34 rfl 1 (by decide) (hts _ (al aF_L_17)) rfl d_L_giveNumber_24 ?_
  refine lv_aload_n hx hb d_L_giveNumber_27 rfl (lv_at hl 0 rfl) ?_
  refine w_get (C := R_L) (T := F_L) (N := 5) (ci := 1) (v := .int (nI (ln + 1))) hx hb hts inw_L hown hK hP 34 (by decide) SX_34 rfl 3 (by decide) (hts _ (al aF_L_25)) (w_hv (((wF_ne (by omega)).trans (wF_s)))) d_L_giveNumber_28 ?_
  refine lv_iload_n hx hb d_L_giveNumber_31 rfl (lv_at hl 1 rfl) ?_
  refine w_iast hx hb hK hP hW hS 36 0 (by decide) (fun _ => SX_36) rfl (k := (ln + 1)) (by omega) (by decide) d_L_giveNumber_32 (fun H locs hP hS => ?_)
  refine lv_aload_n hx hb d_L_giveNumber_33 rfl (lv_at hl 0 rfl) ?_
  refine w_get (C := R_L) (T := F_L) (N := 5) (ci := 1) (v := .int (nI (ln + 1))) hx hb hts inw_L hown hK hP 34 (by decide) SX_34 rfl 3 (by decide) (hts _ (al aF_L_25)) (w_hv (((wI_toF).trans ((wF_ne (by omega)).trans (wF_s))))) d_L_giveNumber_34 ?_
  exact W.iret (v := nI (ln + 1)) hx hb hr (fun tz hz9 hW9 => ⟨⟨nI (ln + 1), (wI (wF (wF M 34 3 (nI (ln + 1))) (37 + 3 * ej) 4 (nI (ln + 1))) 36 (ln + 1) (nI ej)), rfl, ⟨rfl, rfl⟩, by rw [hz9]; exact hP, va_K.moved hW9.alike hK⟩, hS.F hz9⟩) hS.2.2 d_L_giveNumber_37
set_option maxHeartbeats 4000000 in
set_option maxRecDepth 100000 in
/-- L_isInClosedMonth -/
theorem k_L_isInClosedMonth (l : Launch) (D : va_G) (cA : Nat → ClassId) (o sz : Nat) (M : wM) (day : Int32) : Met l y_L_isInClosedMonth (wm y_L_isInClosedMonth c_L_isInClosedMonth 2 (some .boolean)) { frames := 0, cells := 0, slots := 0, locals := 0 } (va_Pc [.ref (o + 34), .int day] (xB D cA o M sz)) (va_Qi (fun r M1 => M1 = M ∧ r = b2i (decide (day / 30 ≤ M.2.2 34 4))) (xQ D cA o) (xA o sz)) 0 0 (xA o sz) := by
  refine Met.ofW (cc := c_L_isInClosedMonth) (maxL := 2) (ret := (some .boolean)) (by decide) rfl ?_
  intro p e s m args below meth c s₁ B hml hv
  obtain ⟨rfl, hsz, hP, hK⟩ := hv
  have hx := B.exec
  have hb := B.bytes
  have hr := B.returns
  have hts := atoms_spec (ws := wm y_L_isInClosedMonth c_L_isInClosedMonth 2 (some .boolean)) B.pre
  have hown : s.vm.findClass "ShopDesks$Ledger" = some m.cls := findClass_of_methodNamed B.named
  have hlocks := B.notSynchronized
  subst hsz
  have hS : va_S (xA o s.heap.size) s.heap s.heap [] := va_S.rf
  have hW : ∀ i, i < 217 → xA o s.heap.size (o + i) := fun i hi => wA_in hi
  have hl := lv_entry ([.ref (o + 34), .int day]) (n := 2) (Nat.le_of_ble_eq_true rfl)
  rw [lg_entry_eq]
  generalize (lg_sl ([.ref (o + 34), .int day]) ++ List.replicate (2 - (lg_sl ([.ref (o + 34), .int day])).length) Slot.unset).toArray = ls at hl ⊢
  have hl : lv_has ls 2 [(0, .ref (o + 34)), (1, .int day)] := hl
  refine lv_iload_n hx hb d_L_isInClosedMonth_0 rfl (lv_at hl 1 rfl) ?_
  refine lv_bipush (v := 30) hx hb d_L_isInClosedMonth_1 (by decide) ?_
  refine lv_idiv hx hb d_L_isInClosedMonth_3 (by decide) ?_
  refine lv_aload_n hx hb d_L_isInClosedMonth_4 rfl (lv_at hl 0 rfl) ?_
  refine w_get (C := R_L) (T := F_L) (N := 5) (ci := 1) (v := .int (M.2.2 34 4)) hx hb hts inw_L hown hK hP 34 (by decide) SX_34 rfl 4 (by decide) (hts _ (al aF_L_28)) rfl d_L_isInClosedMonth_5 ?_
  refine lv_icmp_gt (tgt := 15) hx hb d_L_isInClosedMonth_8 (by decide) (fun c_1 => ?_) (fun c_1 => ?_)
  · have q := c_1
    refine lv_iconst (v := 0) hx hb d_L_isInClosedMonth_15 (by decide) ?_
    exact W.zret (v := 0) hx hb hr rfl (fun tz hz9 hW9 => ⟨⟨0, M, rfl, ⟨rfl, (b2i_f (fun h => absurd h (Int32.not_le.mpr q))).symm⟩, by rw [hz9]; exact hP, va_K.moved hW9.alike hK⟩, hS.F hz9⟩) hS.2.2 d_L_isInClosedMonth_16
  · have q := c_1
    refine lv_iconst (v := 1) hx hb d_L_isInClosedMonth_11 (by decide) ?_
    refine lv_goto (tgt := 16) hx hb d_L_isInClosedMonth_12 (by decide) ?_
    exact W.zret (v := 1) hx hb hr rfl (fun tz hz9 hW9 => ⟨⟨1, M, rfl, ⟨rfl, (b2i_t (Int32.not_lt.mp q)).symm⟩, by rw [hz9]; exact hP, va_K.moved hW9.alike hK⟩, hS.F hz9⟩) hS.2.2 d_L_isInClosedMonth_16
set_option maxHeartbeats 4000000 in
set_option maxRecDepth 100000 in
/-- L_sumUpTo -/
theorem k_L_sumUpTo (l : Launch) (D : va_G) (cA : Nat → ClassId) (o sz : Nat) (M : wM) (ec : Nat) (hec : ec ≤ 60) (eec : M.2.2 34 2 = nI ec) (rc : Nat → Nat) (hrc : ∀ j, j < ec → rc j ≤ 6 ∧ M.2.2 (37 + 3 * j) 2 = nI (rc j)) (ac day : Int32) : Met l y_L_sumUpTo (wm y_L_sumUpTo c_L_sumUpTo 6 (some .long)) { frames := 1, cells := 0, slots := 0, locals := 24 } (va_Pc [.ref (o + 34), .int ac, .int day] (xB D cA o M sz)) (va_Ql (fun r M1 => M1 = M ∧ r = x_bal M rc ac day ec) (xQ D cA o) (xA o sz)) 0 0 (xA o sz) := by
  refine Met.ofW (cc := c_L_sumUpTo) (maxL := 6) (ret := (some .long)) (by decide) rfl ?_
  intro p e s m args below meth c s₁ B hml hv
  obtain ⟨rfl, hsz, hP, hK⟩ := hv
  have hx := B.exec
  have hb := B.bytes
  have hr := B.returns
  have hts := atoms_spec (ws := wm y_L_sumUpTo c_L_sumUpTo 6 (some .long)) B.pre
  have hown : s.vm.findClass "ShopDesks$Ledger" = some m.cls := findClass_of_methodNamed B.named
  have hlocks := B.notSynchronized
  subst hsz
  have hS : va_S (xA o s.heap.size) s.heap s.heap [] := va_S.rf
  have hW : ∀ i, i < 217 → xA o s.heap.size (o + i) := fun i hi => wA_in hi
  have hl := lv_entry ([.ref (o + 34), .int ac, .int day]) (n := 6) (Nat.le_of_ble_eq_true rfl)
  rw [lg_entry_eq]
  generalize (lg_sl ([.ref (o + 34), .int ac, .int day]) ++ List.replicate (6 - (lg_sl ([.ref (o + 34), .int ac, .int day])).length) Slot.unset).toArray = ls at hl ⊢
  have hl : lv_has ls 6 [(0, .ref (o + 34)), (1, .int ac), (2, .int day)] := hl
  refine lv_lconst (v := 0) hx hb d_L_sumUpTo_0 (by decide) ?_
  refine lv_lstore_n (lv' := [(3, .long 0), (0, .ref (o + 34)), (1, .int ac), (2, .int day)]) hx hb d_L_sumUpTo_1 rfl hl (by decide) rfl (fun ls hl => ?_)
  refine lv_iconst (v := 0) hx hb d_L_sumUpTo_2 (by decide) ?_
  refine lv_istore (lv' := [(5, .int 0), (3, .long 0), (0, .ref (o + 34)), (1, .int ac), (2, .int day)]) hx hb d_L_sumUpTo_3 hl (by decide) rfl (fun ls hl => ?_)
  have lp5 : ∀ (fuel : Nat) (k : Nat) (sm : Int64), ec - k < fuel → (k ≤ ec) → (sm = x_bal M rc ac day k) → ∀ (H : Heap) (locs : List Loc), wP D cls_ (SX o cA) o 217 M H → va_S (xA o s.heap.size) s.heap H locs → ∀ (ls : Array Slot), lv_has ls 6 [(0, .ref (o + 34)), (1, .int ac), (2, .int day), (3, .long sm), (5, .int (nI k))] → W p l e (headSpec (wm y_L_sumUpTo c_L_sumUpTo 6 (some .long)) { frames := 1, cells := 0, slots := 0, locals := 24 }).room s m ([.ref (o + 34), .int ac, .int day] : List Value).toArray below meth c H locs 0 0 (MQ below (va_Ql (fun r M1 => M1 = M ∧ r = x_bal M rc ac day ec) (xQ D cA o) (xA o s.heap.size)) ([.ref (o + 34), .int ac, .int day] : List Value).toArray s 0 0 (xA o s.heap.size)) (F0 m 5 ls []) := by
    intro fuel
    induction fuel with
    | zero => intro k sm hfu; exact absurd hfu (Nat.not_lt_zero _)
    | succ fuel ih =>
      intro k sm hfu hkn hsm H locs hP hS ls hl
      refine lv_iload hx hb d_L_sumUpTo_5 (lv_at hl 4 rfl) ?_
      refine lv_aload_n hx hb d_L_sumUpTo_7 rfl (lv_at hl 0 rfl) ?_
      refine w_get (C := R_L) (T := F_L) (N := 5) (ci := 1) (v := .int (M.2.2 34 2)) hx hb hts inw_L hown hK hP 34 (by decide) SX_34 rfl 2 (by decide) (hts _ (al aF_L_21)) rfl d_L_sumUpTo_8 ?_
      refine w_topi eec ?_
      refine lv_icmp_ge (tgt := 61) hx hb d_L_sumUpTo_11 (by decide) (fun c_1 => ?_) (fun c_1 => ?_)
      · have hkr : ec ≤ k := i_le (by omega) (by omega) c_1
        refine lv_lload_n hx hb d_L_sumUpTo_61 rfl (lv_at hl 3 rfl) ?_
        exact W.lret (v := sm) hx hb hr (fun tz hz9 hW9 => ⟨⟨sm, M, rfl, ⟨rfl, by rw [hsm, show k = ec by omega]⟩, by rw [hz9]; exact hP, va_K.moved hW9.alike hK⟩, hS.F hz9⟩) hS.2.2 d_L_sumUpTo_62
      · have hkr : k < ec := i_nle (by omega) (by omega) c_1
        have hk60 : k < 60 := by omega
        refine lv_aload_n hx hb d_L_sumUpTo_14 rfl (lv_at hl 0 rfl) ?_
        refine w_get (C := R_L) (T := F_L) (N := 5) (ci := 1) (v := .ref (o + 35)) hx hb hts inw_L hown hK hP 34 (by decide) SX_34 rfl 0 (by decide) (hts _ (al aF_L_11)) rfl d_L_sumUpTo_15 ?_
        refine lv_iload hx hb d_L_sumUpTo_18 (lv_at hl 4 rfl) ?_
        refine w_aald hx hb hK hP 35 4 (by decide) SX_35 rfl (k := k) (by omega) (by decide) (if_pos (by omega)) d_L_sumUpTo_20 ?_
        refine w_Vi ⟨hx, hb, hml, hown, hts⟩ (k_E_isClosed l D cA o _ M k hk60) (kV hts 0 aK_E_isClosed aM_L_56 aI_E_isClosed aV_E_isClosed aN_E nm_E_isClosed rfl rfl ⟨(Nat.le_of_ble_eq_true rfl), (Nat.le_of_ble_eq_true rfl)⟩) hK hP (by omega) (SX_e hk60) rfl rfl hl.1 rfl (Nat.le_of_ble_eq_true rfl) d_L_sumUpTo_21 ⟨(Nat.le_of_ble_eq_true rfl), (Nat.le_of_ble_eq_true rfl)⟩ hS (fun q h => wA_le hS.1 h) (fun r_2 M_2 H locs hw_2 hP hzc hkc hS => ?_)
        rw [hw_2.1] at hP
        refine w_topi hw_2.2 ?_
        refine lv_if_eq (tgt := 55) hx hb d_L_sumUpTo_24 (by decide) (fun c_3 => ?_) (fun c_3 => ?_)
        · have q1 := b2i_0 c_3
          refine lv_iinc (v := nI (k + 1)) (lv' := [(5, .int (nI (k + 1))), (0, .ref (o + 34)), (1, .int ac), (2, .int day), (3, .long sm)]) hx hb d_L_sumUpTo_55 hl (k := 4) rfl (w_inc k) (by decide) rfl (fun ls hl => ?_)
          refine lv_goto (tgt := 5) hx hb d_L_sumUpTo_58 (by decide) ?_
          exact ih (k + 1) sm (by omega) hkr (by rw [x_bal_f (fun h => h.1 (of_decide_eq_false q1 |> Decidable.not_not.mp))]; exact hsm) _ _ hP hS ls (lv_sub hl [1, 2, 3, 4, 0] rfl)
        · have q1 := b2i_1 c_3
          refine lv_aload_n hx hb d_L_sumUpTo_27 rfl (lv_at hl 0 rfl) ?_
          refine w_get (C := R_L) (T := F_L) (N := 5) (ci := 1) (v := .ref (o + 35)) hx hb hts inw_L hown hK hP 34 (by decide) SX_34 rfl 0 (by decide) (hts _ (al aF_L_11)) rfl d_L_sumUpTo_28 ?_
          refine lv_iload hx hb d_L_sumUpTo_31 (lv_at hl 4 rfl) ?_
          refine w_aald hx hb hK hP 35 4 (by decide) SX_35 rfl (k := k) (by omega) (by decide) (if_pos (by omega)) d_L_sumUpTo_33 ?_
          refine w_get (C := R_E) (T := F_E) (N := 7) (ci := 0) (v := .int (M.2.2 (37 + 3 * k) 3)) hx hb hts inw_E hown hK hP (37 + 3 * k) (by omega) (SX_e hk60) rfl 3 (by decide) (hts _ (al aF_L_32)) rfl d_L_sumUpTo_34 ?_
          refine lv_iload_n hx hb d_L_sumUpTo_37 rfl (lv_at hl 2 rfl) ?_
          refine lv_icmp_gt (tgt := 55) hx hb d_L_sumUpTo_38 (by decide) (fun c_4 => ?_) (fun c_4 => ?_)
          · have q2 := c_4
            refine lv_iinc (v := nI (k + 1)) (lv' := [(5, .int (nI (k + 1))), (0, .ref (o + 34)), (1, .int ac), (2, .int day), (3, .long sm)]) hx hb d_L_sumUpTo_55 hl (k := 4) rfl (w_inc k) (by decide) rfl (fun ls hl => ?_)
            refine lv_goto (tgt := 5) hx hb d_L_sumUpTo_58 (by decide) ?_
            exact ih (k + 1) sm (by omega) hkr (by rw [x_bal_f (fun h => absurd h.2 (Int32.not_le.mpr q2))]; exact hsm) _ _ hP hS ls (lv_sub hl [1, 2, 3, 4, 0] rfl)
          · have q2 := c_4
            refine lv_lload_n hx hb d_L_sumUpTo_41 rfl (lv_at hl 3 rfl) ?_
            refine lv_aload_n hx hb d_L_sumUpTo_42 rfl (lv_at hl 0 rfl) ?_
            refine w_get (C := R_L) (T := F_L) (N := 5) (ci := 1) (v := .ref (o + 35)) hx hb hts inw_L hown hK hP 34 (by decide) SX_34 rfl 0 (by decide) (hts _ (al aF_L_11)) rfl d_L_sumUpTo_43 ?_
            refine lv_iload hx hb d_L_sumUpTo_46 (lv_at hl 4 rfl) ?_
            refine w_aald hx hb hK hP 35 4 (by decide) SX_35 rfl (k := k) (by omega) (by decide) (if_pos (by omega)) d_L_sumUpTo_48 ?_
            refine lv_iload_n hx hb d_L_sumUpTo_49 rfl (lv_at hl 1 rfl) ?_
            refine w_Vl ⟨hx, hb, hml, hown, hts⟩ (k_E_sumOf l D cA o _ M k hk60 (rc k) (hrc k hkr).1 (hrc k hkr).2 ac) (kV hts 1 aK_E_sumOf aM_L_60 aI_E_sumOf aV_E_sumOf aN_E nm_E_sumOf rfl rfl ⟨(Nat.le_of_ble_eq_true rfl), (Nat.le_of_ble_eq_true rfl)⟩) hK hP (by omega) (SX_e hk60) rfl rfl hl.1 rfl (Nat.le_of_ble_eq_true rfl) d_L_sumUpTo_50 ⟨(Nat.le_of_ble_eq_true rfl), (Nat.le_of_ble_eq_true rfl)⟩ hS (fun q h => wA_le hS.1 h) (fun r_5 M_5 H locs hw_5 hP hzc hkc hS => ?_)
            rw [hw_5.1] at hP
            refine w_topl hw_5.2 ?_
            refine lv_ladd hx hb d_L_sumUpTo_53 ?_
            refine lv_lstore_n (lv' := [(3, .long (sm + (x_esum M k ac (rc k)))), (0, .ref (o + 34)), (1, .int ac), (2, .int day), (5, .int (nI k))]) hx hb d_L_sumUpTo_54 rfl hl (by decide) rfl (fun ls hl => ?_)
            refine lv_iinc (v := nI (k + 1)) (lv' := [(5, .int (nI (k + 1))), (3, .long (sm + (x_esum M k ac (rc k)))), (0, .ref (o + 34)), (1, .int ac), (2, .int day)]) hx hb d_L_sumUpTo_55 hl (k := 4) rfl (w_inc k) (by decide) rfl (fun ls hl => ?_)
            refine lv_goto (tgt := 5) hx hb d_L_sumUpTo_58 (by decide) ?_
            exact ih (k + 1) (sm + (x_esum M k ac (rc k))) (by omega) hkr (by rw [x_bal_t (of_decide_eq_true q1) (Int32.not_lt.mp q2), hsm]) _ _ hP hS ls (lv_sub hl [2, 3, 4, 1, 0] rfl)
  exact lp5 ((ec - 0) + 1) 0 0 (Nat.lt_succ_self _) (Nat.zero_le _) rfl _ _ hP hS ls (lv_sub hl [2, 3, 4, 1, 0] rfl)

