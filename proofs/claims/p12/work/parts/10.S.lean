/-! what a set says, in the words of its memory: od j is the telling at place j -/
def x_opt (q : Option Nat) : Int32 := match q with
  | none => -1
  | some u => nI u
theorem nI_nm1 {u : Nat} (h : u < 2147483648) : ¬ nI u = -1 := by
  intro e
  have h1 := nI_toInt h
  rw [e] at h1
  have h2 : (-1 : Int32).toInt = -1 := by decide
  rw [h2] at h1
  omega
theorem x_opt_some {q : Option Nat} (h : ¬ x_opt q = -1) : ∃ u, q = some u := by
  cases q with
  | none => exact absurd rfl h
  | some u => exact ⟨u, rfl⟩
theorem x_opt_none {q : Option Nat} (hq : ∀ u, q = some u → u < 300) (h : x_opt q = -1) : q = none := by
  cases q with
  | none => rfl
  | some u => exact absurd h (nI_nm1 (by have := hq u rfl; omega))
def x_val (M : wM) (q : Option Nat) : Int64 := match q with
  | none => 0
  | some u => M.2.1 6 u
def x_lat (M : wM) (od : Nat → Nat) (th kd : Int32) (tm : Int64) : Nat → Option Nat
  | 0 => none
  | k + 1 => match x_lat M od th kd tm k with
    | none => if x_hold M (od k) th kd tm = true then some (od k) else none
    | some u => if x_hold M (od k) th kd tm = true then (if x_later M (od k) u = true then some (od k) else some u) else some u
theorem x_lat_lt {M : wM} {od : Nat → Nat} {th kd : Int32} {tm : Int64} {f : Nat} (h : ∀ j, j < f → od j < 300) : ∀ k, k ≤ f → ∀ u, x_lat M od th kd tm k = some u → u < 300 := by
  intro k
  induction k with
  | zero => intro _ u hu; simp [x_lat] at hu
  | succ k ih =>
    intro hk u hu
    have h0 := h k (by omega)
    have ih := ih (by omega)
    unfold x_lat at hu
    cases hq : x_lat M od th kd tm k with
    | none =>
      rw [hq] at hu
      dsimp only at hu
      split at hu
      · cases hu; exact h0
      · cases hu
    | some v =>
      rw [hq] at hu
      dsimp only at hu
      split at hu
      · split at hu
        · cases hu; exact h0
        · cases hu; exact ih _ hq
      · cases hu; exact ih _ hq
theorem x_lat_f {M : wM} {od : Nat → Nat} {th kd : Int32} {tm : Int64} {k : Nat} (h : x_hold M (od k) th kd tm = false) : x_lat M od th kd tm (k + 1) = x_lat M od th kd tm k := by
  conv => lhs; unfold x_lat
  cases x_lat M od th kd tm k <;> simp [h]
theorem x_lat_n {M : wM} {od : Nat → Nat} {th kd : Int32} {tm : Int64} {k : Nat} (h : x_hold M (od k) th kd tm = true) (hn : x_lat M od th kd tm k = none) : x_lat M od th kd tm (k + 1) = some (od k) := by
  conv => lhs; unfold x_lat
  simp [h, hn]
theorem x_lat_l {M : wM} {od : Nat → Nat} {th kd : Int32} {tm : Int64} {k u : Nat} (h : x_hold M (od k) th kd tm = true) (hn : x_lat M od th kd tm k = some u) (hl : x_later M (od k) u = true) : x_lat M od th kd tm (k + 1) = some (od k) := by
  conv => lhs; unfold x_lat
  simp [h, hn, hl]
theorem x_lat_e {M : wM} {od : Nat → Nat} {th kd : Int32} {tm : Int64} {k u : Nat} (hn : x_lat M od th kd tm k = some u) (hl : x_later M (od k) u = false) : x_lat M od th kd tm (k + 1) = some u := by
  conv => lhs; unfold x_lat
  cases hh : x_hold M (od k) th kd tm <;> simp [hn, hl, hh]
def x_settle (M : wM) (od : Nat → Nat) (th : Int32) (tm : Int64) (f : Nat) : Option Nat := match x_lat M od th 3 tm f with
  | none => none
  | some a => match x_lat M od th 2 tm f with
    | none => some a
    | some b => if M.2.1 7 a < M.2.1 7 b then none else some a
def x_anyU (M : wM) (od : Nat → Nat) (th : Int32) (tm : Int64) (u : Nat) : Nat → Bool
  | 0 => false
  | k + 1 => x_anyU M od th tm u k || (x_hold M (od k) th 2 tm && decide (¬ M.2.1 6 (od k) = M.2.1 6 u))
theorem x_anyU_mono {M : wM} {od : Nat → Nat} {th : Int32} {tm : Int64} {u k : Nat} (h : x_anyU M od th tm u k = true) : ∀ f, k ≤ f → x_anyU M od th tm u f = true := by
  intro f
  induction f with
  | zero => intro hk; rw [show k = 0 by omega] at h; exact h
  | succ f ih =>
    intro hk
    by_cases e : k = f + 1
    · rw [← e]; exact h
    · unfold x_anyU; rw [ih (by omega)]; rfl
def x_unlike (M : wM) (od : Nat → Nat) (th : Int32) (tm : Int64) (f : Nat) : Bool := match x_lat M od th 2 tm f with
  | none => false
  | some u => x_anyU M od th tm u f
def x_sum (M : wM) (od : Nat → Nat) (th : Int32) (tm : Int64) : Nat → Int64
  | 0 => 0
  | k + 1 => if x_hold M (od k) th 0 tm = true then x_sum M od th tm k + M.2.1 6 (od k) else x_sum M od th tm k
theorem x_sum_f {M : wM} {od : Nat → Nat} {th : Int32} {tm : Int64} {k : Nat} (h : x_hold M (od k) th 0 tm = false) : x_sum M od th tm (k + 1) = x_sum M od th tm k := by
  simp [x_sum, h]
theorem x_sum_t {M : wM} {od : Nat → Nat} {th : Int32} {tm : Int64} {k : Nat} (h : x_hold M (od k) th 0 tm = true) : x_sum M od th tm (k + 1) = x_sum M od th tm k + M.2.1 6 (od k) := by
  simp [x_sum, h]
def x_kmark (M : wM) (od : Nat → Nat) (th : Int32) (tm : Int64) (f : Nat) : Int64 := match x_settle M od th tm f with
  | some a => M.2.1 6 a
  | none => if x_unlike M od th tm f = true then 0 else x_val M (x_lat M od th 2 tm f)
def x_known (M : wM) (od : Nat → Nat) (th kd : Int32) (tm : Int64) (f : Nat) : Int64 := if kd = 0 then x_sum M od th tm f else if kd = 2 then x_kmark M od th tm f else x_val M (x_lat M od th kd tm f)
def x_conf (M : wM) (od : Nat → Nat) (th : Int32) (z : Nat) : Bool := (x_settle M od th 9223372036854775807 z).isNone && x_unlike M od th 9223372036854775807 z
theorem x_settle_lt {M : wM} {od : Nat → Nat} {th : Int32} {tm : Int64} {f : Nat} (h : ∀ j, j < f → od j < 300) : ∀ u, x_settle M od th tm f = some u → u < 300 := by
  intro u hu
  unfold x_settle at hu
  cases h3 : x_lat M od th 3 tm f with
  | none => rw [h3] at hu; cases hu
  | some a =>
    rw [h3] at hu
    have ha := x_lat_lt h f (Nat.le_refl f) a h3
    dsimp only at hu
    cases h2 : x_lat M od th 2 tm f with
    | none => rw [h2] at hu; cases hu; exact ha
    | some b =>
      rw [h2] at hu
      dsimp only at hu
      split at hu
      · cases hu
      · cases hu; exact ha
set_option maxHeartbeats 4000000 in
set_option maxRecDepth 100000 in
/-- S_beginBatch -/
theorem k_S_beginBatch (l : Launch) (D : va_G) (cA : Nat → ClassId) (o sz : Nat) (M : wM) (si : Nat) (hs : si < 8) : Met l y_S_beginBatch (wm y_S_beginBatch c_S_beginBatch 1 (some .boolean)) { frames := 0, cells := 0, slots := 0, locals := 0 } (va_Pc [.ref (o + (9 + 3 * si))] (xB D cA o M sz)) (va_Qi (fun r M1 => (r = 0 ∧ M1 = M ∧ ¬ M.2.2 (9 + 3 * si) 4 = -1) ∨ (r = 1 ∧ M1 = wF M (9 + 3 * si) 4 (M.2.2 (9 + 3 * si) 3) ∧ M.2.2 (9 + 3 * si) 4 = -1)) (xQ D cA o) (xA o sz)) 0 0 (xA o sz) := by
  refine Met.ofW (cc := c_S_beginBatch) (maxL := 1) (ret := (some .boolean)) (by decide) rfl ?_
  intro p e s m args below meth c s₁ B hml hv
  obtain ⟨rfl, hsz, hP, hK⟩ := hv
  have hx := B.exec
  have hb := B.bytes
  have hr := B.returns
  have hts := atoms_spec (ws := wm y_S_beginBatch c_S_beginBatch 1 (some .boolean)) B.pre
  have hown : s.vm.findClass "ShopDesks$TellingSet" = some m.cls := findClass_of_methodNamed B.named
  have hlocks := B.notSynchronized
  subst hsz
  have hS : va_S (xA o s.heap.size) s.heap s.heap [] := va_S.rf
  have hW : ∀ i, i < 217 → xA o s.heap.size (o + i) := fun i hi => wA_in hi
  have hl := lv_entry ([.ref (o + (9 + 3 * si))]) (n := 1) (Nat.le_of_ble_eq_true rfl)
  rw [lg_entry_eq]
  generalize (lg_sl ([.ref (o + (9 + 3 * si))]) ++ List.replicate (1 - (lg_sl ([.ref (o + (9 + 3 * si))])).length) Slot.unset).toArray = ls at hl ⊢
  have hl : lv_has ls 1 [(0, .ref (o + (9 + 3 * si)))] := hl
  refine lv_aload_n hx hb d_S_beginBatch_0 rfl (lv_at hl 0 rfl) ?_
  refine w_get (C := R_S) (T := F_S) (N := 5) (ci := 2) (v := .int (M.2.2 (9 + 3 * si) 4)) hx hb hts inw_S hown hK hP (9 + 3 * si) (by omega) (SX_s hs) rfl 4 (by decide) (hts _ (al aF_S_23)) rfl d_S_beginBatch_1 ?_
  refine lv_iconst (v := -1) hx hb d_S_beginBatch_4 (by decide) ?_
  refine lv_icmp_eq (tgt := 10) hx hb d_S_beginBatch_5 (by decide) (fun c_1 => ?_) (fun c_1 => ?_)
  · have q := c_1
    refine lv_aload_n hx hb d_S_beginBatch_10 rfl (lv_at hl 0 rfl) ?_
    refine lv_aload_n hx hb d_S_beginBatch_11 rfl (lv_at hl 0 rfl) ?_
    refine w_get (C := R_S) (T := F_S) (N := 5) (ci := 2) (v := .int (M.2.2 (9 + 3 * si) 3)) hx hb hts inw_S hown hK hP (9 + 3 * si) (by omega) (SX_s hs) rfl 3 (by decide) (hts _ (al aF_S_19)) rfl d_S_beginBatch_12 ?_
    refine w_put (C := R_S) (T := F_S) (N := 5) (ci := 2) (x := M.2.2 (9 + 3 * si) 3) hx hb hts inw_S ft_S ft_S_ok fn_S hown hK hP hW hS (9 + 3 * si) (by omega) (SX_s hs) rfl 4 (by decide) (hts _ (al aF_S_23)) rfl rfl rfl (Nat.le_of_ble_eq_true rfl) (by rw [wF_r]; exact (SX_s hs).trans rfl) d_S_beginBatch_15 (fun H locs hP hS => ?_)
    refine lv_iconst (v := 1) hx hb d_S_beginBatch_18 (by decide) ?_
    exact W.zret (v := 1) hx hb hr rfl (fun tz hz9 hW9 => ⟨⟨1, (wF M (9 + 3 * si) 4 (M.2.2 (9 + 3 * si) 3)), rfl, Or.inr ⟨rfl, rfl, q⟩, by rw [hz9]; exact hP, va_K.moved hW9.alike hK⟩, hS.F hz9⟩) hS.2.2 d_S_beginBatch_19
  · have q := c_1
    refine lv_iconst (v := 0) hx hb d_S_beginBatch_8 (by decide) ?_
    exact W.zret (v := 0) hx hb hr rfl (fun tz hz9 hW9 => ⟨⟨0, M, rfl, Or.inl ⟨rfl, rfl, q⟩, by rw [hz9]; exact hP, va_K.moved hW9.alike hK⟩, hS.F hz9⟩) hS.2.2 d_S_beginBatch_9
set_option maxHeartbeats 4000000 in
set_option maxRecDepth 100000 in
/-- S_endBatch -/
theorem k_S_endBatch (l : Launch) (D : va_G) (cA : Nat → ClassId) (o sz : Nat) (M : wM) (si : Nat) (hs : si < 8) : Met l y_S_endBatch (wm y_S_endBatch c_S_endBatch 1 (some .boolean)) { frames := 0, cells := 0, slots := 0, locals := 0 } (va_Pc [.ref (o + (9 + 3 * si))] (xB D cA o M sz)) (va_Qi (fun r M1 => (r = 0 ∧ M1 = M ∧ M.2.2 (9 + 3 * si) 4 = -1) ∨ (r = 1 ∧ M1 = wF M (9 + 3 * si) 4 (-1) ∧ ¬ M.2.2 (9 + 3 * si) 4 = -1)) (xQ D cA o) (xA o sz)) 0 0 (xA o sz) := by
  refine Met.ofW (cc := c_S_endBatch) (maxL := 1) (ret := (some .boolean)) (by decide) rfl ?_
  intro p e s m args below meth c s₁ B hml hv
  obtain ⟨rfl, hsz, hP, hK⟩ := hv
  have hx := B.exec
  have hb := B.bytes
  have hr := B.returns
  have hts := atoms_spec (ws := wm y_S_endBatch c_S_endBatch 1 (some .boolean)) B.pre
  have hown : s.vm.findClass "ShopDesks$TellingSet" = some m.cls := findClass_of_methodNamed B.named
  have hlocks := B.notSynchronized
  subst hsz
  have hS : va_S (xA o s.heap.size) s.heap s.heap [] := va_S.rf
  have hW : ∀ i, i < 217 → xA o s.heap.size (o + i) := fun i hi => wA_in hi
  have hl := lv_entry ([.ref (o + (9 + 3 * si))]) (n := 1) (Nat.le_of_ble_eq_true rfl)
  rw [lg_entry_eq]
  generalize (lg_sl ([.ref (o + (9 + 3 * si))]) ++ List.replicate (1 - (lg_sl ([.ref (o + (9 + 3 * si))])).length) Slot.unset).toArray = ls at hl ⊢
  have hl : lv_has ls 1 [(0, .ref (o + (9 + 3 * si)))] := hl
  refine lv_aload_n hx hb d_S_endBatch_0 rfl (lv_at hl 0 rfl) ?_
  refine w_get (C := R_S) (T := F_S) (N := 5) (ci := 2) (v := .int (M.2.2 (9 + 3 * si) 4)) hx hb hts inw_S hown hK hP (9 + 3 * si) (by omega) (SX_s hs) rfl 4 (by decide) (hts _ (al aF_S_23)) rfl d_S_endBatch_1 ?_
  refine lv_iconst (v := -1) hx hb d_S_endBatch_4 (by decide) ?_
  refine lv_icmp_ne (tgt := 10) hx hb d_S_endBatch_5 (by decide) (fun c_1 => ?_) (fun c_1 => ?_)
  · have q := c_1
    refine lv_aload_n hx hb d_S_endBatch_10 rfl (lv_at hl 0 rfl) ?_
    refine lv_iconst (v := -1) hx hb d_S_endBatch_11 (by decide) ?_
    refine w_put (C := R_S) (T := F_S) (N := 5) (ci := 2) (x := (-1)) hx hb hts inw_S ft_S ft_S_ok fn_S hown hK hP hW hS (9 + 3 * si) (by omega) (SX_s hs) rfl 4 (by decide) (hts _ (al aF_S_23)) rfl rfl rfl (Nat.le_of_ble_eq_true rfl) (by rw [wF_r]; exact (SX_s hs).trans rfl) d_S_endBatch_12 (fun H locs hP hS => ?_)
    refine lv_iconst (v := 1) hx hb d_S_endBatch_15 (by decide) ?_
    exact W.zret (v := 1) hx hb hr rfl (fun tz hz9 hW9 => ⟨⟨1, (wF M (9 + 3 * si) 4 (-1)), rfl, Or.inr ⟨rfl, rfl, q⟩, by rw [hz9]; exact hP, va_K.moved hW9.alike hK⟩, hS.F hz9⟩) hS.2.2 d_S_endBatch_16
  · have q := c_1
    refine lv_iconst (v := 0) hx hb d_S_endBatch_8 (by decide) ?_
    exact W.zret (v := 0) hx hb hr rfl (fun tz hz9 hW9 => ⟨⟨0, M, rfl, Or.inl ⟨rfl, rfl, q⟩, by rw [hz9]; exact hP, va_K.moved hW9.alike hK⟩, hS.F hz9⟩) hS.2.2 d_S_endBatch_9
set_option maxHeartbeats 4000000 in
set_option maxRecDepth 100000 in
/-- S_sizeToSee -/
theorem k_S_sizeToSee (l : Launch) (D : va_G) (cA : Nat → ClassId) (o sz : Nat) (M : wM) (si : Nat) (hs : si < 8) : Met l y_S_sizeToSee (wm y_S_sizeToSee c_S_sizeToSee 1 (some .int)) { frames := 0, cells := 0, slots := 0, locals := 0 } (va_Pc [.ref (o + (9 + 3 * si))] (xB D cA o M sz)) (va_Qi (fun r M1 => M1 = M ∧ r = if M.2.2 (9 + 3 * si) 4 = -1 then M.2.2 (9 + 3 * si) 3 else M.2.2 (9 + 3 * si) 4) (xQ D cA o) (xA o sz)) 0 0 (xA o sz) := by
  refine Met.ofW (cc := c_S_sizeToSee) (maxL := 1) (ret := (some .int)) (by decide) rfl ?_
  intro p e s m args below meth c s₁ B hml hv
  obtain ⟨rfl, hsz, hP, hK⟩ := hv
  have hx := B.exec
  have hb := B.bytes
  have hr := B.returns
  have hts := atoms_spec (ws := wm y_S_sizeToSee c_S_sizeToSee 1 (some .int)) B.pre
  have hown : s.vm.findClass "ShopDesks$TellingSet" = some m.cls := findClass_of_methodNamed B.named
  have hlocks := B.notSynchronized
  subst hsz
  have hS : va_S (xA o s.heap.size) s.heap s.heap [] := va_S.rf
  have hW : ∀ i, i < 217 → xA o s.heap.size (o + i) := fun i hi => wA_in hi
  have hl := lv_entry ([.ref (o + (9 + 3 * si))]) (n := 1) (Nat.le_of_ble_eq_true rfl)
  rw [lg_entry_eq]
  generalize (lg_sl ([.ref (o + (9 + 3 * si))]) ++ List.replicate (1 - (lg_sl ([.ref (o + (9 + 3 * si))])).length) Slot.unset).toArray = ls at hl ⊢
  have hl : lv_has ls 1 [(0, .ref (o + (9 + 3 * si)))] := hl
  refine lv_aload_n hx hb d_S_sizeToSee_0 rfl (lv_at hl 0 rfl) ?_
  refine w_get (C := R_S) (T := F_S) (N := 5) (ci := 2) (v := .int (M.2.2 (9 + 3 * si) 4)) hx hb hts inw_S hown hK hP (9 + 3 * si) (by omega) (SX_s hs) rfl 4 (by decide) (hts _ (al aF_S_23)) rfl d_S_sizeToSee_1 ?_
  refine lv_iconst (v := -1) hx hb d_S_sizeToSee_4 (by decide) ?_
  refine lv_icmp_ne (tgt := 15) hx hb d_S_sizeToSee_5 (by decide) (fun c_1 => ?_) (fun c_1 => ?_)
  · have q := c_1
    refine lv_aload_n hx hb d_S_sizeToSee_15 rfl (lv_at hl 0 rfl) ?_
    refine w_get (C := R_S) (T := F_S) (N := 5) (ci := 2) (v := .int (M.2.2 (9 + 3 * si) 4)) hx hb hts inw_S hown hK hP (9 + 3 * si) (by omega) (SX_s hs) rfl 4 (by decide) (hts _ (al aF_S_23)) rfl d_S_sizeToSee_16 ?_
    exact W.iret (v := M.2.2 (9 + 3 * si) 4) hx hb hr (fun tz hz9 hW9 => ⟨⟨M.2.2 (9 + 3 * si) 4, M, rfl, ⟨rfl, (if_neg q).symm⟩, by rw [hz9]; exact hP, va_K.moved hW9.alike hK⟩, hS.F hz9⟩) hS.2.2 d_S_sizeToSee_19
  · have q := c_1
    refine lv_aload_n hx hb d_S_sizeToSee_8 rfl (lv_at hl 0 rfl) ?_
    refine w_get (C := R_S) (T := F_S) (N := 5) (ci := 2) (v := .int (M.2.2 (9 + 3 * si) 3)) hx hb hts inw_S hown hK hP (9 + 3 * si) (by omega) (SX_s hs) rfl 3 (by decide) (hts _ (al aF_S_19)) rfl d_S_sizeToSee_9 ?_
    refine lv_goto (tgt := 19) hx hb d_S_sizeToSee_12 (by decide) ?_
    exact W.iret (v := M.2.2 (9 + 3 * si) 3) hx hb hr (fun tz hz9 hW9 => ⟨⟨M.2.2 (9 + 3 * si) 3, M, rfl, ⟨rfl, (if_pos q).symm⟩, by rw [hz9]; exact hP, va_K.moved hW9.alike hK⟩, hS.F hz9⟩) hS.2.2 d_S_sizeToSee_19
set_option maxHeartbeats 4000000 in
set_option maxRecDepth 100000 in
/-- S_valueOrZero -/
theorem k_S_valueOrZero (l : Launch) (D : va_G) (cA : Nat → ClassId) (o sz : Nat) (M : wM) (si : Nat) (hs : si < 8) (q : Option Nat) (hq : ∀ u, q = some u → u < 300) : Met l y_S_valueOrZero (wm y_S_valueOrZero c_S_valueOrZero 2 (some .long)) { frames := 0, cells := 0, slots := 0, locals := 0 } (va_Pc [.ref (o + (9 + 3 * si)), .int (x_opt q)] (xB D cA o M sz)) (va_Ql (fun r M1 => M1 = M ∧ r = x_val M q) (xQ D cA o) (xA o sz)) 0 0 (xA o sz) := by
  refine Met.ofW (cc := c_S_valueOrZero) (maxL := 2) (ret := (some .long)) (by decide) rfl ?_
  intro p e s m args below meth c s₁ B hml hv
  obtain ⟨rfl, hsz, hP, hK⟩ := hv
  have hx := B.exec
  have hb := B.bytes
  have hr := B.returns
  have hts := atoms_spec (ws := wm y_S_valueOrZero c_S_valueOrZero 2 (some .long)) B.pre
  have hown : s.vm.findClass "ShopDesks$TellingSet" = some m.cls := findClass_of_methodNamed B.named
  have hlocks := B.notSynchronized
  subst hsz
  have hS : va_S (xA o s.heap.size) s.heap s.heap [] := va_S.rf
  have hW : ∀ i, i < 217 → xA o s.heap.size (o + i) := fun i hi => wA_in hi
  have hl := lv_entry ([.ref (o + (9 + 3 * si)), .int (x_opt q)]) (n := 2) (Nat.le_of_ble_eq_true rfl)
  rw [lg_entry_eq]
  generalize (lg_sl ([.ref (o + (9 + 3 * si)), .int (x_opt q)]) ++ List.replicate (2 - (lg_sl ([.ref (o + (9 + 3 * si)), .int (x_opt q)])).length) Slot.unset).toArray = ls at hl ⊢
  have hl : lv_has ls 2 [(0, .ref (o + (9 + 3 * si))), (1, .int (x_opt q))] := hl
  refine lv_iload_n hx hb d_S_valueOrZero_0 rfl (lv_at hl 1 rfl) ?_
  refine lv_iconst (v := -1) hx hb d_S_valueOrZero_1 (by decide) ?_
  refine lv_icmp_ne (tgt := 9) hx hb d_S_valueOrZero_2 (by decide) (fun c_1 => ?_) (fun c_1 => ?_)
  · obtain ⟨u, hu⟩ := x_opt_some c_1
    have hu3 := hq u hu
    refine lv_aload_n hx hb d_S_valueOrZero_9 rfl (lv_at hl 0 rfl) ?_
    refine w_get (C := R_S) (T := F_S) (N := 5) (ci := 2) (v := .ref (o + 1)) hx hb hts inw_S hown hK hP (9 + 3 * si) (by omega) (SX_s hs) rfl 0 (by decide) (hts _ (al aF_S_26)) rfl d_S_valueOrZero_10 ?_
    refine w_get (C := R_T) (T := F_T) (N := 7) (ci := 3) (v := .ref (o + 6)) hx hb hts inw_T hown hK hP 1 (by decide) SX_1 rfl 4 (by decide) (hts _ (al aF_S_75)) rfl d_S_valueOrZero_13 ?_
    refine lv_iload_n hx hb d_S_valueOrZero_16 rfl (lv_at hl 1 rfl) ?_
    refine w_topi (show x_opt q = nI u by rw [hu]; rfl) ?_
    refine w_lald hx hb hK hP 6 1 (by decide) SX_6 rfl (k := u) (by omega) (by decide) d_S_valueOrZero_17 ?_
    exact W.lret (v := M.2.1 6 u) hx hb hr (fun tz hz9 hW9 => ⟨⟨M.2.1 6 u, M, rfl, ⟨rfl, by rw [hu]; rfl⟩, by rw [hz9]; exact hP, va_K.moved hW9.alike hK⟩, hS.F hz9⟩) hS.2.2 d_S_valueOrZero_18
  · have hn := x_opt_none hq c_1
    refine lv_lconst (v := 0) hx hb d_S_valueOrZero_5 (by decide) ?_
    refine lv_goto (tgt := 18) hx hb d_S_valueOrZero_6 (by decide) ?_
    exact W.lret (v := 0) hx hb hr (fun tz hz9 hW9 => ⟨⟨0, M, rfl, ⟨rfl, by rw [hn]; rfl⟩, by rw [hz9]; exact hP, va_K.moved hW9.alike hK⟩, hS.F hz9⟩) hS.2.2 d_S_valueOrZero_18
set_option maxHeartbeats 4000000 in
set_option maxRecDepth 100000 in
/-- S_latest -/
theorem k_S_latest (l : Launch) (D : va_G) (cA : Nat → ClassId) (o sz : Nat) (M : wM) (si : Nat) (hs : si < 8) (od : Nat → Nat) (f : Nat) (hf : f ≤ 300) (hod : ∀ j, j < f → M.1 (9 + 3 * si + 1) j = nI (od j) ∧ od j < 300) (th kd : Int32) (tm : Int64) : Met l y_S_latest (wm y_S_latest c_S_latest 9 (some .int)) { frames := 1, cells := 0, slots := 0, locals := 25 } (va_Pc [.ref (o + (9 + 3 * si)), .int th, .int kd, .long tm, .int (nI f)] (xB D cA o M sz)) (va_Qi (fun r M1 => M1 = M ∧ r = x_opt (x_lat M od th kd tm f)) (xQ D cA o) (xA o sz)) 0 0 (xA o sz) := by
  refine Met.ofW (cc := c_S_latest) (maxL := 9) (ret := (some .int)) (by decide) rfl ?_
  intro p e s m args below meth c s₁ B hml hv
  obtain ⟨rfl, hsz, hP, hK⟩ := hv
  have hx := B.exec
  have hb := B.bytes
  have hr := B.returns
  have hts := atoms_spec (ws := wm y_S_latest c_S_latest 9 (some .int)) B.pre
  have hown : s.vm.findClass "ShopDesks$TellingSet" = some m.cls := findClass_of_methodNamed B.named
  have hlocks := B.notSynchronized
  subst hsz
  have hS : va_S (xA o s.heap.size) s.heap s.heap [] := va_S.rf
  have hW : ∀ i, i < 217 → xA o s.heap.size (o + i) := fun i hi => wA_in hi
  have hl := lv_entry ([.ref (o + (9 + 3 * si)), .int th, .int kd, .long tm, .int (nI f)]) (n := 9) (Nat.le_of_ble_eq_true rfl)
  rw [lg_entry_eq]
  generalize (lg_sl ([.ref (o + (9 + 3 * si)), .int th, .int kd, .long tm, .int (nI f)]) ++ List.replicate (9 - (lg_sl ([.ref (o + (9 + 3 * si)), .int th, .int kd, .long tm, .int (nI f)])).length) Slot.unset).toArray = ls at hl ⊢
  have hl : lv_has ls 9 [(0, .ref (o + (9 + 3 * si))), (1, .int th), (2, .int kd), (3, .long tm), (5, .int (nI f))] := hl
  refine lv_iconst (v := -1) hx hb d_S_latest_0 (by decide) ?_
  refine lv_istore (lv' := [(6, .int (-1)), (0, .ref (o + (9 + 3 * si))), (1, .int th), (2, .int kd), (3, .long tm), (5, .int (nI f))]) hx hb d_S_latest_1 hl (by decide) rfl (fun ls hl => ?_)
  refine lv_iconst (v := 0) hx hb d_S_latest_3 (by decide) ?_
  refine lv_istore (lv' := [(7, .int 0), (6, .int (-1)), (0, .ref (o + (9 + 3 * si))), (1, .int th), (2, .int kd), (3, .long tm), (5, .int (nI f))]) hx hb d_S_latest_4 hl (by decide) rfl (fun ls hl => ?_)
  have lp6 : ∀ (fuel : Nat) (k : Nat) (la : Int32), f - k < fuel → (k ≤ f) → (la = x_opt (x_lat M od th kd tm k)) → ∀ (H : Heap) (locs : List Loc), wP D cls_ (SX o cA) o 217 M H → va_S (xA o s.heap.size) s.heap H locs → ∀ (ls : Array Slot), lv_has ls 9 [(0, .ref (o + (9 + 3 * si))), (1, .int th), (2, .int kd), (3, .long tm), (5, .int (nI f)), (6, .int la), (7, .int (nI k))] → W p l e (headSpec (wm y_S_latest c_S_latest 9 (some .int)) { frames := 1, cells := 0, slots := 0, locals := 25 }).room s m ([.ref (o + (9 + 3 * si)), .int th, .int kd, .long tm, .int (nI f)] : List Value).toArray below meth c H locs 0 0 (MQ below (va_Qi (fun r M1 => M1 = M ∧ r = x_opt (x_lat M od th kd tm f)) (xQ D cA o) (xA o s.heap.size)) ([.ref (o + (9 + 3 * si)), .int th, .int kd, .long tm, .int (nI f)] : List Value).toArray s 0 0 (xA o s.heap.size)) (F0 m 6 ls []) := by
    intro fuel
    induction fuel with
    | zero => intro k la hfu; exact absurd hfu (Nat.not_lt_zero _)
    | succ fuel ih =>
      intro k la hfu hk hla H locs hP hS ls hl
      refine lv_iload hx hb d_S_latest_6 (lv_at hl 6 rfl) ?_
      refine lv_iload hx hb d_S_latest_8 (lv_at hl 4 rfl) ?_
      refine lv_icmp_ge (tgt := 67) hx hb d_S_latest_10 (by decide) (fun c_1 => ?_) (fun c_1 => ?_)
      · have hkf : f ≤ k := i_le (by omega) (by omega) c_1
        refine lv_iload hx hb d_S_latest_67 (lv_at hl 5 rfl) ?_
        exact W.iret (v := la) hx hb hr (fun tz hz9 hW9 => ⟨⟨la, M, rfl, ⟨rfl, by rw [hla, show k = f by omega]⟩, by rw [hz9]; exact hP, va_K.moved hW9.alike hK⟩, hS.F hz9⟩) hS.2.2 d_S_latest_69
      · have hkf : k < f := i_nle (by omega) (by omega) c_1
        have hod3 := (hod k hkf).2
        refine lv_aload_n hx hb d_S_latest_13 rfl (lv_at hl 0 rfl) ?_
        refine w_get (C := R_S) (T := F_S) (N := 5) (ci := 2) (v := .ref (o + (9 + 3 * si + 1))) hx hb hts inw_S hown hK hP (9 + 3 * si) (by omega) (SX_s hs) rfl 1 (by decide) (hts _ (al aF_S_9)) rfl d_S_latest_14 ?_
        refine lv_iload hx hb d_S_latest_17 (lv_at hl 6 rfl) ?_
        refine w_iald hx hb hK hP (9 + 3 * si + 1) 0 (by omega) (SX_so hs) rfl (k := k) (by omega) (by decide) d_S_latest_19 ?_
        refine w_topi ((hod k hkf).1) ?_
        refine lv_istore (lv' := [(8, .int (nI (od k))), (0, .ref (o + (9 + 3 * si))), (1, .int th), (2, .int kd), (3, .long tm), (5, .int (nI f)), (6, .int la), (7, .int (nI k))]) hx hb d_S_latest_20 hl (by decide) rfl (fun ls hl => ?_)
        refine lv_aload_n hx hb d_S_latest_22 rfl (lv_at hl 1 rfl) ?_
        refine w_get (C := R_S) (T := F_S) (N := 5) (ci := 2) (v := .ref (o + 1)) hx hb hts inw_S hown hK hP (9 + 3 * si) (by omega) (SX_s hs) rfl 0 (by decide) (hts _ (al aF_S_26)) rfl d_S_latest_23 ?_
        refine lv_iload hx hb d_S_latest_26 (lv_at hl 0 rfl) ?_
        refine lv_iload_n hx hb d_S_latest_28 rfl (lv_at hl 2 rfl) ?_
        refine lv_iload_n hx hb d_S_latest_29 rfl (lv_at hl 3 rfl) ?_
        refine lv_lload_n hx hb d_S_latest_30 rfl (lv_at hl 4 rfl) ?_
        refine w_Vi ⟨hx, hb, hml, hown, hts⟩ (k_T_holds l D cA o _ M (od k) hod3 th kd tm) (kV hts 4 aK_T_holds aM_S_71 aI_T_holds aV_T_holds aN_T nm_T_holds rfl rfl ⟨(Nat.le_of_ble_eq_true rfl), (Nat.le_of_ble_eq_true rfl)⟩) hK hP (by decide) SX_1 rfl rfl hl.1 rfl (Nat.le_of_ble_eq_true rfl) d_S_latest_31 ⟨(Nat.le_of_ble_eq_true rfl), (Nat.le_of_ble_eq_true rfl)⟩ hS (fun q h => wA_le hS.1 h) (fun r_2 M_2 H locs hw_2 hP hzc hkc hS => ?_)
        rw [hw_2.1] at hP
        refine w_topi hw_2.2 ?_
        refine lv_if_eq (tgt := 61) hx hb d_S_latest_34 (by decide) (fun c_3 => ?_) (fun c_3 => ?_)
        · have hh := b2i_0 c_3
          refine lv_iinc (v := nI (k + 1)) (lv' := [(7, .int (nI (k + 1))), (8, .int (nI (od k))), (0, .ref (o + (9 + 3 * si))), (1, .int th), (2, .int kd), (3, .long tm), (5, .int (nI f)), (6, .int la)]) hx hb d_S_latest_61 hl (k := 7) rfl (w_inc k) (by decide) rfl (fun ls hl => ?_)
          refine lv_goto (tgt := 6) hx hb d_S_latest_64 (by decide) ?_
          exact ih (k + 1) la (by omega) hkf (by rw [x_lat_f hh]; exact hla) _ _ hP hS ls (lv_sub hl [2, 3, 4, 5, 6, 7, 0] rfl)
        · have hh := b2i_1 c_3
          refine lv_iload hx hb d_S_latest_37 (lv_at hl 6 rfl) ?_
          refine lv_iconst (v := -1) hx hb d_S_latest_39 (by decide) ?_
          refine lv_icmp_eq (tgt := 57) hx hb d_S_latest_40 (by decide) (fun c_4 => ?_) (fun c_4 => ?_)
          · have hn1 := c_4
            refine lv_iload hx hb d_S_latest_57 (lv_at hl 0 rfl) ?_
            refine lv_istore (lv' := [(6, .int (nI (od k))), (8, .int (nI (od k))), (0, .ref (o + (9 + 3 * si))), (1, .int th), (2, .int kd), (3, .long tm), (5, .int (nI f)), (7, .int (nI k))]) hx hb d_S_latest_59 hl (by decide) rfl (fun ls hl => ?_)
            refine lv_iinc (v := nI (k + 1)) (lv' := [(7, .int (nI (k + 1))), (6, .int (nI (od k))), (8, .int (nI (od k))), (0, .ref (o + (9 + 3 * si))), (1, .int th), (2, .int kd), (3, .long tm), (5, .int (nI f))]) hx hb d_S_latest_61 hl (k := 7) rfl (w_inc k) (by decide) rfl (fun ls hl => ?_)
            refine lv_goto (tgt := 6) hx hb d_S_latest_64 (by decide) ?_
            exact ih (k + 1) (nI (od k)) (by omega) hkf (by rw [x_lat_n hh (x_opt_none (x_lat_lt (fun j h => (hod j h).2) k hk) (by rw [← hla]; exact hn1))]; rfl) _ _ hP hS ls (lv_sub hl [3, 4, 5, 6, 7, 1, 0] rfl)
          · obtain ⟨u, hu⟩ := x_opt_some (by rw [← hla]; exact c_4)
            have hu3 := x_lat_lt (fun j h => (hod j h).2) k hk u hu
            have hlu : la = nI u := by rw [hla, hu]; rfl
            refine lv_aload_n hx hb d_S_latest_43 rfl (lv_at hl 1 rfl) ?_
            refine w_get (C := R_S) (T := F_S) (N := 5) (ci := 2) (v := .ref (o + 1)) hx hb hts inw_S hown hK hP (9 + 3 * si) (by omega) (SX_s hs) rfl 0 (by decide) (hts _ (al aF_S_26)) rfl d_S_latest_44 ?_
            refine lv_iload hx hb d_S_latest_47 (lv_at hl 0 rfl) ?_
            refine lv_iload hx hb d_S_latest_49 (lv_at hl 6 rfl) ?_
            refine w_topi hlu ?_
            refine w_Vi ⟨hx, hb, hml, hown, hts⟩ (k_T_isLater l D cA o _ M (od k) u hod3 hu3) (kV hts 2 aK_T_isLater aM_S_78 aI_T_isLater aV_T_isLater aN_T nm_T_isLater rfl rfl ⟨(Nat.le_of_ble_eq_true rfl), (Nat.le_of_ble_eq_true rfl)⟩) hK hP (by decide) SX_1 rfl rfl hl.1 rfl (Nat.le_of_ble_eq_true rfl) d_S_latest_51 ⟨(Nat.le_of_ble_eq_true rfl), (Nat.le_of_ble_eq_true rfl)⟩ hS (fun q h => wA_le hS.1 h) (fun r_5 M_5 H locs hw_5 hP hzc hkc hS => ?_)
            rw [hw_5.1] at hP
            refine w_topi hw_5.2 ?_
            refine lv_if_eq (tgt := 61) hx hb d_S_latest_54 (by decide) (fun c_6 => ?_) (fun c_6 => ?_)
            · have hlt := c_6
              refine lv_iinc (v := nI (k + 1)) (lv' := [(7, .int (nI (k + 1))), (8, .int (nI (od k))), (0, .ref (o + (9 + 3 * si))), (1, .int th), (2, .int kd), (3, .long tm), (5, .int (nI f)), (6, .int la)]) hx hb d_S_latest_61 hl (k := 7) rfl (w_inc k) (by decide) rfl (fun ls hl => ?_)
              refine lv_goto (tgt := 6) hx hb d_S_latest_64 (by decide) ?_
              exact ih (k + 1) la (by omega) hkf (by rw [x_lat_e hu (b2i_0 hlt)]; rw [hla, hu]) _ _ hP hS ls (lv_sub hl [2, 3, 4, 5, 6, 7, 0] rfl)
            · have hlt := c_6
              refine lv_iload hx hb d_S_latest_57 (lv_at hl 0 rfl) ?_
              refine lv_istore (lv' := [(6, .int (nI (od k))), (8, .int (nI (od k))), (0, .ref (o + (9 + 3 * si))), (1, .int th), (2, .int kd), (3, .long tm), (5, .int (nI f)), (7, .int (nI k))]) hx hb d_S_latest_59 hl (by decide) rfl (fun ls hl => ?_)
              refine lv_iinc (v := nI (k + 1)) (lv' := [(7, .int (nI (k + 1))), (6, .int (nI (od k))), (8, .int (nI (od k))), (0, .ref (o + (9 + 3 * si))), (1, .int th), (2, .int kd), (3, .long tm), (5, .int (nI f))]) hx hb d_S_latest_61 hl (k := 7) rfl (w_inc k) (by decide) rfl (fun ls hl => ?_)
              refine lv_goto (tgt := 6) hx hb d_S_latest_64 (by decide) ?_
              exact ih (k + 1) (nI (od k)) (by omega) hkf (by rw [x_lat_l hh hu (b2i_1 hlt)]; rfl) _ _ hP hS ls (lv_sub hl [3, 4, 5, 6, 7, 1, 0] rfl)
  exact lp6 ((f - 0) + 1) 0 (-1) (Nat.lt_succ_self _) (Nat.zero_le _) rfl _ _ hP hS ls (lv_sub hl [2, 3, 4, 5, 6, 1, 0] rfl)
set_option maxHeartbeats 4000000 in
set_option maxRecDepth 100000 in
/-- S_settling -/
theorem k_S_settling (l : Launch) (D : va_G) (cA : Nat → ClassId) (o sz : Nat) (M : wM) (si : Nat) (hs : si < 8) (od : Nat → Nat) (f : Nat) (hf : f ≤ 300) (hod : ∀ j, j < f → M.1 (9 + 3 * si + 1) j = nI (od j) ∧ od j < 300) (th : Int32) (tm : Int64) : Met l y_S_settling (wm y_S_settling c_S_settling 7 (some .int)) { frames := 2, cells := 0, slots := 0, locals := 53 } (va_Pc [.ref (o + (9 + 3 * si)), .int th, .long tm, .int (nI f)] (xB D cA o M sz)) (va_Qi (fun r M1 => M1 = M ∧ r = x_opt (x_settle M od th tm f)) (xQ D cA o) (xA o sz)) 0 0 (xA o sz) := by
  refine Met.ofW (cc := c_S_settling) (maxL := 7) (ret := (some .int)) (by decide) rfl ?_
  intro p e s m args below meth c s₁ B hml hv
  obtain ⟨rfl, hsz, hP, hK⟩ := hv
  have hx := B.exec
  have hb := B.bytes
  have hr := B.returns
  have hts := atoms_spec (ws := wm y_S_settling c_S_settling 7 (some .int)) B.pre
  have hown : s.vm.findClass "ShopDesks$TellingSet" = some m.cls := findClass_of_methodNamed B.named
  have hlocks := B.notSynchronized
  subst hsz
  have hS : va_S (xA o s.heap.size) s.heap s.heap [] := va_S.rf
  have hW : ∀ i, i < 217 → xA o s.heap.size (o + i) := fun i hi => wA_in hi
  have hl := lv_entry ([.ref (o + (9 + 3 * si)), .int th, .long tm, .int (nI f)]) (n := 7) (Nat.le_of_ble_eq_true rfl)
  rw [lg_entry_eq]
  generalize (lg_sl ([.ref (o + (9 + 3 * si)), .int th, .long tm, .int (nI f)]) ++ List.replicate (7 - (lg_sl ([.ref (o + (9 + 3 * si)), .int th, .long tm, .int (nI f)])).length) Slot.unset).toArray = ls at hl ⊢
  have hl : lv_has ls 7 [(0, .ref (o + (9 + 3 * si))), (1, .int th), (2, .long tm), (4, .int (nI f))] := hl
  refine lv_aload_n hx hb d_S_settling_0 rfl (lv_at hl 0 rfl) ?_
  refine lv_iload_n hx hb d_S_settling_1 rfl (lv_at hl 1 rfl) ?_
  refine lv_iconst (v := 3) hx hb d_S_settling_2 (by decide) ?_
  refine lv_lload_n hx hb d_S_settling_3 rfl (lv_at hl 2 rfl) ?_
  refine lv_iload hx hb d_S_settling_4 (lv_at hl 3 rfl) ?_
  refine w_Vi ⟨hx, hb, hml, hown, hts⟩ (k_S_latest l D cA o _ M si hs od f hf hod th 3 tm) (kV hts 4 aK_S_latest aM_S_53 aI_S_latest aV_S_latest aN_S nm_S_latest rfl rfl ⟨(Nat.le_of_ble_eq_true rfl), (Nat.le_of_ble_eq_true rfl)⟩) hK hP (by omega) (SX_s hs) rfl rfl hl.1 rfl (Nat.le_of_ble_eq_true rfl) d_S_settling_6 ⟨(Nat.le_of_ble_eq_true rfl), (Nat.le_of_ble_eq_true rfl)⟩ hS (fun q h => wA_le hS.1 h) (fun r_1 M_1 H locs hw_1 hP hzc hkc hS => ?_)
  rw [hw_1.1] at hP
  refine w_topi hw_1.2 ?_
  refine lv_istore (lv' := [(5, .int (x_opt (x_lat M od th 3 tm f))), (0, .ref (o + (9 + 3 * si))), (1, .int th), (2, .long tm), (4, .int (nI f))]) hx hb d_S_settling_9 hl (by decide) rfl (fun ls hl => ?_)
  refine lv_aload_n hx hb d_S_settling_11 rfl (lv_at hl 1 rfl) ?_
  refine lv_iload_n hx hb d_S_settling_12 rfl (lv_at hl 2 rfl) ?_
  refine lv_iconst (v := 2) hx hb d_S_settling_13 (by decide) ?_
  refine lv_lload_n hx hb d_S_settling_14 rfl (lv_at hl 3 rfl) ?_
  refine lv_iload hx hb d_S_settling_15 (lv_at hl 4 rfl) ?_
  refine w_Vi ⟨hx, hb, hml, hown, hts⟩ (k_S_latest l D cA o _ M si hs od f hf hod th 2 tm) (kV hts 4 aK_S_latest aM_S_53 aI_S_latest aV_S_latest aN_S nm_S_latest rfl rfl ⟨(Nat.le_of_ble_eq_true rfl), (Nat.le_of_ble_eq_true rfl)⟩) hK hP (by omega) (SX_s hs) rfl rfl hl.1 rfl (Nat.le_of_ble_eq_true rfl) d_S_settling_17 ⟨(Nat.le_of_ble_eq_true rfl), (Nat.le_of_ble_eq_true rfl)⟩ hS (fun q h => wA_le hS.1 h) (fun r_2 M_2 H locs hw_2 hP hzc hkc hS => ?_)
  rw [hw_2.1] at hP
  refine w_topi hw_2.2 ?_
  refine lv_istore (lv' := [(6, .int (x_opt (x_lat M od th 2 tm f))), (5, .int (x_opt (x_lat M od th 3 tm f))), (0, .ref (o + (9 + 3 * si))), (1, .int th), (2, .long tm), (4, .int (nI f))]) hx hb d_S_settling_20 hl (by decide) rfl (fun ls hl => ?_)
  refine lv_iload hx hb d_S_settling_22 (lv_at hl 1 rfl) ?_
  refine lv_iconst (v := -1) hx hb d_S_settling_24 (by decide) ?_
  refine lv_icmp_eq (tgt := 34) hx hb d_S_settling_25 (by decide) (fun c_3 => ?_) (fun c_3 => ?_)
  · have hn3 := x_opt_none (x_lat_lt (fun j h => (hod j h).2) f (Nat.le_refl f)) c_3
    refine lv_iload hx hb d_S_settling_34 (lv_at hl 1 rfl) ?_
    exact W.iret (v := x_opt (x_lat M od th 3 tm f)) hx hb hr (fun tz hz9 hW9 => ⟨⟨x_opt (x_lat M od th 3 tm f), M, rfl, ⟨rfl, by unfold x_settle; rw [hn3]⟩, by rw [hz9]; exact hP, va_K.moved hW9.alike hK⟩, hS.F hz9⟩) hS.2.2 d_S_settling_36
  · obtain ⟨a, ha⟩ := x_opt_some c_3
    have ha3 := (x_lat_lt (fun j h => (hod j h).2) f (Nat.le_refl f)) a ha
    refine lv_iload hx hb d_S_settling_28 (lv_at hl 0 rfl) ?_
    refine lv_iconst (v := -1) hx hb d_S_settling_30 (by decide) ?_
    refine lv_icmp_ne (tgt := 37) hx hb d_S_settling_31 (by decide) (fun c_4 => ?_) (fun c_4 => ?_)
    · obtain ⟨b, hb2⟩ := x_opt_some c_4
      have hb3 := (x_lat_lt (fun j h => (hod j h).2) f (Nat.le_refl f)) b hb2
      refine lv_aload_n hx hb d_S_settling_37 rfl (lv_at hl 2 rfl) ?_
      refine w_get (C := R_S) (T := F_S) (N := 5) (ci := 2) (v := .ref (o + 1)) hx hb hts inw_S hown hK hP (9 + 3 * si) (by omega) (SX_s hs) rfl 0 (by decide) (hts _ (al aF_S_26)) rfl d_S_settling_38 ?_
      refine w_get (C := R_T) (T := F_T) (N := 7) (ci := 3) (v := .ref (o + 7)) hx hb hts inw_T hown hK hP 1 (by decide) SX_1 rfl 5 (by decide) (hts _ (al aF_S_82)) rfl d_S_settling_41 ?_
      refine lv_iload hx hb d_S_settling_44 (lv_at hl 1 rfl) ?_
      refine w_topi (show x_opt (x_lat M od th 3 tm f) = nI a by rw [ha]; rfl) ?_
      refine w_lald hx hb hK hP 7 1 (by decide) SX_7 rfl (k := a) (by omega) (by decide) d_S_settling_46 ?_
      refine lv_aload_n hx hb d_S_settling_47 rfl (lv_at hl 2 rfl) ?_
      refine w_get (C := R_S) (T := F_S) (N := 5) (ci := 2) (v := .ref (o + 1)) hx hb hts inw_S hown hK hP (9 + 3 * si) (by omega) (SX_s hs) rfl 0 (by decide) (hts _ (al aF_S_26)) rfl d_S_settling_48 ?_
      refine w_get (C := R_T) (T := F_T) (N := 7) (ci := 3) (v := .ref (o + 7)) hx hb hts inw_T hown hK hP 1 (by decide) SX_1 rfl 5 (by decide) (hts _ (al aF_S_82)) rfl d_S_settling_51 ?_
      refine lv_iload hx hb d_S_settling_54 (lv_at hl 0 rfl) ?_
      refine w_topi (show x_opt (x_lat M od th 2 tm f) = nI b by rw [hb2]; rfl) ?_
      refine w_lald hx hb hK hP 7 1 (by decide) SX_7 rfl (k := b) (by omega) (by decide) d_S_settling_56 ?_
      refine W.lcmp hx hb d_S_settling_57 ?_
      refine lv_if_lt (tgt := 66) hx hb d_S_settling_58 (by decide) (fun c_5 => ?_) (fun c_5 => ?_)
      · rw [lg_cmp_lt] at c_5
        have q := c_5
        refine lv_iconst (v := -1) hx hb d_S_settling_66 (by decide) ?_
        exact W.iret (v := (-1)) hx hb hr (fun tz hz9 hW9 => ⟨⟨(-1), M, rfl, ⟨rfl, by unfold x_settle; rw [ha, hb2]; dsimp only; rw [if_pos q]; rfl⟩, by rw [hz9]; exact hP, va_K.moved hW9.alike hK⟩, hS.F hz9⟩) hS.2.2 d_S_settling_67
      · rw [lg_cmp_lt] at c_5
        have q := c_5
        refine lv_iload hx hb d_S_settling_61 (lv_at hl 1 rfl) ?_
        refine lv_goto (tgt := 67) hx hb d_S_settling_63 (by decide) ?_
        exact W.iret (v := x_opt (x_lat M od th 3 tm f)) hx hb hr (fun tz hz9 hW9 => ⟨⟨x_opt (x_lat M od th 3 tm f), M, rfl, ⟨rfl, by unfold x_settle; rw [ha, hb2]; dsimp only; rw [if_neg q]⟩, by rw [hz9]; exact hP, va_K.moved hW9.alike hK⟩, hS.F hz9⟩) hS.2.2 d_S_settling_67
    · have hn2 := x_opt_none (x_lat_lt (fun j h => (hod j h).2) f (Nat.le_refl f)) c_4
      refine lv_iload hx hb d_S_settling_34 (lv_at hl 1 rfl) ?_
      exact W.iret (v := x_opt (x_lat M od th 3 tm f)) hx hb hr (fun tz hz9 hW9 => ⟨⟨x_opt (x_lat M od th 3 tm f), M, rfl, ⟨rfl, by unfold x_settle; rw [ha, hn2]⟩, by rw [hz9]; exact hP, va_K.moved hW9.alike hK⟩, hS.F hz9⟩) hS.2.2 d_S_settling_36
set_option maxHeartbeats 4000000 in
set_option maxRecDepth 100000 in
/-- S_hasUnlikeMarks -/
theorem k_S_hasUnlikeMarks (l : Launch) (D : va_G) (cA : Nat → ClassId) (o sz : Nat) (M : wM) (si : Nat) (hs : si < 8) (od : Nat → Nat) (f : Nat) (hf : f ≤ 300) (hod : ∀ j, j < f → M.1 (9 + 3 * si + 1) j = nI (od j) ∧ od j < 300) (th : Int32) (tm : Int64) : Met l y_S_hasUnlikeMarks (wm y_S_hasUnlikeMarks c_S_hasUnlikeMarks 7 (some .boolean)) { frames := 2, cells := 0, slots := 0, locals := 53 } (va_Pc [.ref (o + (9 + 3 * si)), .int th, .long tm, .int (nI f)] (xB D cA o M sz)) (va_Qi (fun r M1 => M1 = M ∧ r = b2i (x_unlike M od th tm f)) (xQ D cA o) (xA o sz)) 0 0 (xA o sz) := by
  refine Met.ofW (cc := c_S_hasUnlikeMarks) (maxL := 7) (ret := (some .boolean)) (by decide) rfl ?_
  intro p e s m args below meth c s₁ B hml hv
  obtain ⟨rfl, hsz, hP, hK⟩ := hv
  have hx := B.exec
  have hb := B.bytes
  have hr := B.returns
  have hts := atoms_spec (ws := wm y_S_hasUnlikeMarks c_S_hasUnlikeMarks 7 (some .boolean)) B.pre
  have hown : s.vm.findClass "ShopDesks$TellingSet" = some m.cls := findClass_of_methodNamed B.named
  have hlocks := B.notSynchronized
  subst hsz
  have hS : va_S (xA o s.heap.size) s.heap s.heap [] := va_S.rf
  have hW : ∀ i, i < 217 → xA o s.heap.size (o + i) := fun i hi => wA_in hi
  have hl := lv_entry ([.ref (o + (9 + 3 * si)), .int th, .long tm, .int (nI f)]) (n := 7) (Nat.le_of_ble_eq_true rfl)
  rw [lg_entry_eq]
  generalize (lg_sl ([.ref (o + (9 + 3 * si)), .int th, .long tm, .int (nI f)]) ++ List.replicate (7 - (lg_sl ([.ref (o + (9 + 3 * si)), .int th, .long tm, .int (nI f)])).length) Slot.unset).toArray = ls at hl ⊢
  have hl : lv_has ls 7 [(0, .ref (o + (9 + 3 * si))), (1, .int th), (2, .long tm), (4, .int (nI f))] := hl
  refine lv_aload_n hx hb d_S_hasUnlikeMarks_0 rfl (lv_at hl 0 rfl) ?_
  refine lv_iload_n hx hb d_S_hasUnlikeMarks_1 rfl (lv_at hl 1 rfl) ?_
  refine lv_iconst (v := 2) hx hb d_S_hasUnlikeMarks_2 (by decide) ?_
  refine lv_lload_n hx hb d_S_hasUnlikeMarks_3 rfl (lv_at hl 2 rfl) ?_
  refine lv_iload hx hb d_S_hasUnlikeMarks_4 (lv_at hl 3 rfl) ?_
  refine w_Vi ⟨hx, hb, hml, hown, hts⟩ (k_S_latest l D cA o _ M si hs od f hf hod th 2 tm) (kV hts 4 aK_S_latest aM_S_53 aI_S_latest aV_S_latest aN_S nm_S_latest rfl rfl ⟨(Nat.le_of_ble_eq_true rfl), (Nat.le_of_ble_eq_true rfl)⟩) hK hP (by omega) (SX_s hs) rfl rfl hl.1 rfl (Nat.le_of_ble_eq_true rfl) d_S_hasUnlikeMarks_6 ⟨(Nat.le_of_ble_eq_true rfl), (Nat.le_of_ble_eq_true rfl)⟩ hS (fun q h => wA_le hS.1 h) (fun r_1 M_1 H locs hw_1 hP hzc hkc hS => ?_)
  rw [hw_1.1] at hP
  refine w_topi hw_1.2 ?_
  refine lv_istore (lv' := [(5, .int (x_opt (x_lat M od th 2 tm f))), (0, .ref (o + (9 + 3 * si))), (1, .int th), (2, .long tm), (4, .int (nI f))]) hx hb d_S_hasUnlikeMarks_9 hl (by decide) rfl (fun ls hl => ?_)
  refine lv_iload hx hb d_S_hasUnlikeMarks_11 (lv_at hl 0 rfl) ?_
  refine lv_iconst (v := -1) hx hb d_S_hasUnlikeMarks_13 (by decide) ?_
  refine lv_icmp_ne (tgt := 19) hx hb d_S_hasUnlikeMarks_14 (by decide) (fun c_2 => ?_) (fun c_2 => ?_)
  · obtain ⟨u, hu⟩ := x_opt_some c_2
    have hu3 := (x_lat_lt (fun j h => (hod j h).2) f (Nat.le_refl f)) u hu
    refine lv_iconst (v := 0) hx hb d_S_hasUnlikeMarks_19 (by decide) ?_
    refine lv_istore (lv' := [(6, .int 0), (5, .int (x_opt (x_lat M od th 2 tm f))), (0, .ref (o + (9 + 3 * si))), (1, .int th), (2, .long tm), (4, .int (nI f))]) hx hb d_S_hasUnlikeMarks_20 hl (by decide) rfl (fun ls hl => ?_)
    have lp22 : ∀ (fuel : Nat) (k : Nat), f - k < fuel → (k ≤ f) → (x_anyU M od th tm u k = false) → ∀ (H : Heap) (locs : List Loc), wP D cls_ (SX o cA) o 217 M H → va_S (xA o s.heap.size) s.heap H locs → ∀ (ls : Array Slot), lv_has ls 7 [(0, .ref (o + (9 + 3 * si))), (1, .int th), (2, .long tm), (4, .int (nI f)), (5, .int (x_opt (x_lat M od th 2 tm f))), (6, .int (nI k))] → W p l e (headSpec (wm y_S_hasUnlikeMarks c_S_hasUnlikeMarks 7 (some .boolean)) { frames := 2, cells := 0, slots := 0, locals := 53 }).room s m ([.ref (o + (9 + 3 * si)), .int th, .long tm, .int (nI f)] : List Value).toArray below meth c H locs 0 0 (MQ below (va_Qi (fun r M1 => M1 = M ∧ r = b2i (x_unlike M od th tm f)) (xQ D cA o) (xA o s.heap.size)) ([.ref (o + (9 + 3 * si)), .int th, .long tm, .int (nI f)] : List Value).toArray s 0 0 (xA o s.heap.size)) (F0 m 22 ls []) := by
      intro fuel
      induction fuel with
      | zero => intro k hfu; exact absurd hfu (Nat.not_lt_zero _)
      | succ fuel ih =>
        intro k hfu hk hno H locs hP hS ls hl
        refine lv_iload hx hb d_S_hasUnlikeMarks_22 (lv_at hl 5 rfl) ?_
        refine lv_iload hx hb d_S_hasUnlikeMarks_24 (lv_at hl 3 rfl) ?_
        refine lv_icmp_ge (tgt := 86) hx hb d_S_hasUnlikeMarks_26 (by decide) (fun c_3 => ?_) (fun c_3 => ?_)
        · have hkf : f ≤ k := i_le (by omega) (by omega) c_3
          refine lv_iconst (v := 0) hx hb d_S_hasUnlikeMarks_86 (by decide) ?_
          exact W.zret (v := 0) hx hb hr rfl (fun tz hz9 hW9 => ⟨⟨0, M, rfl, ⟨rfl, by unfold x_unlike; rw [hu]; dsimp only; rw [show f = k by omega, hno]; rfl⟩, by rw [hz9]; exact hP, va_K.moved hW9.alike hK⟩, hS.F hz9⟩) hS.2.2 d_S_hasUnlikeMarks_87
        · have hkf : k < f := i_nle (by omega) (by omega) c_3
          have hod3 := (hod k hkf).2
          refine lv_aload_n hx hb d_S_hasUnlikeMarks_29 rfl (lv_at hl 0 rfl) ?_
          refine w_get (C := R_S) (T := F_S) (N := 5) (ci := 2) (v := .ref (o + 1)) hx hb hts inw_S hown hK hP (9 + 3 * si) (by omega) (SX_s hs) rfl 0 (by decide) (hts _ (al aF_S_26)) rfl d_S_hasUnlikeMarks_30 ?_
          refine lv_aload_n hx hb d_S_hasUnlikeMarks_33 rfl (lv_at hl 0 rfl) ?_
          refine w_get (C := R_S) (T := F_S) (N := 5) (ci := 2) (v := .ref (o + (9 + 3 * si + 1))) hx hb hts inw_S hown hK hP (9 + 3 * si) (by omega) (SX_s hs) rfl 1 (by decide) (hts _ (al aF_S_9)) rfl d_S_hasUnlikeMarks_34 ?_
          refine lv_iload hx hb d_S_hasUnlikeMarks_37 (lv_at hl 5 rfl) ?_
          refine w_iald hx hb hK hP (9 + 3 * si + 1) 0 (by omega) (SX_so hs) rfl (k := k) (by omega) (by decide) d_S_hasUnlikeMarks_39 ?_
          refine w_topi ((hod k hkf).1) ?_
          refine lv_iload_n hx hb d_S_hasUnlikeMarks_40 rfl (lv_at hl 1 rfl) ?_
          refine lv_iconst (v := 2) hx hb d_S_hasUnlikeMarks_41 (by decide) ?_
          refine lv_lload_n hx hb d_S_hasUnlikeMarks_42 rfl (lv_at hl 2 rfl) ?_
          refine w_Vi ⟨hx, hb, hml, hown, hts⟩ (k_T_holds l D cA o _ M (od k) hod3 th 2 tm) (kV hts 4 aK_T_holds aM_S_71 aI_T_holds aV_T_holds aN_T nm_T_holds rfl rfl ⟨(Nat.le_of_ble_eq_true rfl), (Nat.le_of_ble_eq_true rfl)⟩) hK hP (by decide) SX_1 rfl rfl hl.1 rfl (Nat.le_of_ble_eq_true rfl) d_S_hasUnlikeMarks_43 ⟨(Nat.le_of_ble_eq_true rfl), (Nat.le_of_ble_eq_true rfl)⟩ hS (fun q h => wA_le hS.1 h) (fun r_4 M_4 H locs hw_4 hP hzc hkc hS => ?_)
          rw [hw_4.1] at hP
          refine w_topi hw_4.2 ?_
          refine lv_if_eq (tgt := 80) hx hb d_S_hasUnlikeMarks_46 (by decide) (fun c_5 => ?_) (fun c_5 => ?_)
          · have hh := b2i_0 c_5
            refine lv_iinc (v := nI (k + 1)) (lv' := [(6, .int (nI (k + 1))), (0, .ref (o + (9 + 3 * si))), (1, .int th), (2, .long tm), (4, .int (nI f)), (5, .int (x_opt (x_lat M od th 2 tm f)))]) hx hb d_S_hasUnlikeMarks_80 hl (k := 5) rfl (w_inc k) (by decide) rfl (fun ls hl => ?_)
            refine lv_goto (tgt := 22) hx hb d_S_hasUnlikeMarks_83 (by decide) ?_
            exact ih (k + 1) (by omega) hkf (by unfold x_anyU; simp [hno, hh]) _ _ hP hS ls (lv_sub hl [1, 2, 3, 4, 5, 0] rfl)
          · have hh := b2i_1 c_5
            refine lv_aload_n hx hb d_S_hasUnlikeMarks_49 rfl (lv_at hl 0 rfl) ?_
            refine w_get (C := R_S) (T := F_S) (N := 5) (ci := 2) (v := .ref (o + 1)) hx hb hts inw_S hown hK hP (9 + 3 * si) (by omega) (SX_s hs) rfl 0 (by decide) (hts _ (al aF_S_26)) rfl d_S_hasUnlikeMarks_50 ?_
            refine w_get (C := R_T) (T := F_T) (N := 7) (ci := 3) (v := .ref (o + 6)) hx hb hts inw_T hown hK hP 1 (by decide) SX_1 rfl 4 (by decide) (hts _ (al aF_S_75)) rfl d_S_hasUnlikeMarks_53 ?_
            refine lv_aload_n hx hb d_S_hasUnlikeMarks_56 rfl (lv_at hl 0 rfl) ?_
            refine w_get (C := R_S) (T := F_S) (N := 5) (ci := 2) (v := .ref (o + (9 + 3 * si + 1))) hx hb hts inw_S hown hK hP (9 + 3 * si) (by omega) (SX_s hs) rfl 1 (by decide) (hts _ (al aF_S_9)) rfl d_S_hasUnlikeMarks_57 ?_
            refine lv_iload hx hb d_S_hasUnlikeMarks_60 (lv_at hl 5 rfl) ?_
            refine w_iald hx hb hK hP (9 + 3 * si + 1) 0 (by omega) (SX_so hs) rfl (k := k) (by omega) (by decide) d_S_hasUnlikeMarks_62 ?_
            refine w_topi ((hod k hkf).1) ?_
            refine w_lald hx hb hK hP 6 1 (by decide) SX_6 rfl (k := (od k)) (by omega) (by decide) d_S_hasUnlikeMarks_63 ?_
            refine lv_aload_n hx hb d_S_hasUnlikeMarks_64 rfl (lv_at hl 0 rfl) ?_
            refine w_get (C := R_S) (T := F_S) (N := 5) (ci := 2) (v := .ref (o + 1)) hx hb hts inw_S hown hK hP (9 + 3 * si) (by omega) (SX_s hs) rfl 0 (by decide) (hts _ (al aF_S_26)) rfl d_S_hasUnlikeMarks_65 ?_
            refine w_get (C := R_T) (T := F_T) (N := 7) (ci := 3) (v := .ref (o + 6)) hx hb hts inw_T hown hK hP 1 (by decide) SX_1 rfl 4 (by decide) (hts _ (al aF_S_75)) rfl d_S_hasUnlikeMarks_68 ?_
            refine lv_iload hx hb d_S_hasUnlikeMarks_71 (lv_at hl 4 rfl) ?_
            refine w_topi (show x_opt (x_lat M od th 2 tm f) = nI u by rw [hu]; rfl) ?_
            refine w_lald hx hb hK hP 6 1 (by decide) SX_6 rfl (k := u) (by omega) (by decide) d_S_hasUnlikeMarks_73 ?_
            refine W.lcmp hx hb d_S_hasUnlikeMarks_74 ?_
            refine lv_if_eq (tgt := 80) hx hb d_S_hasUnlikeMarks_75 (by decide) (fun c_6 => ?_) (fun c_6 => ?_)
            · rw [lg_cmp_eq] at c_6
              have hv := c_6
              refine lv_iinc (v := nI (k + 1)) (lv' := [(6, .int (nI (k + 1))), (0, .ref (o + (9 + 3 * si))), (1, .int th), (2, .long tm), (4, .int (nI f)), (5, .int (x_opt (x_lat M od th 2 tm f)))]) hx hb d_S_hasUnlikeMarks_80 hl (k := 5) rfl (w_inc k) (by decide) rfl (fun ls hl => ?_)
              refine lv_goto (tgt := 22) hx hb d_S_hasUnlikeMarks_83 (by decide) ?_
              exact ih (k + 1) (by omega) hkf (by unfold x_anyU; simp [hno, hv]) _ _ hP hS ls (lv_sub hl [1, 2, 3, 4, 5, 0] rfl)
            · rw [lg_cmp_eq] at c_6
              have hv := c_6
              refine lv_iconst (v := 1) hx hb d_S_hasUnlikeMarks_78 (by decide) ?_
              exact W.zret (v := 1) hx hb hr rfl (fun tz hz9 hW9 => ⟨⟨1, M, rfl, ⟨rfl, by unfold x_unlike; rw [hu]; dsimp only; rw [x_anyU_mono (k := k + 1) (by unfold x_anyU; simp [hh, hv]) f hkf]; rfl⟩, by rw [hz9]; exact hP, va_K.moved hW9.alike hK⟩, hS.F hz9⟩) hS.2.2 d_S_hasUnlikeMarks_79
    exact lp22 ((f - 0) + 1) 0 (Nat.lt_succ_self _) (Nat.zero_le _) rfl _ _ hP hS ls (lv_sub hl [2, 3, 4, 5, 1, 0] rfl)
  · have hn := x_opt_none (x_lat_lt (fun j h => (hod j h).2) f (Nat.le_refl f)) c_2
    refine lv_iconst (v := 0) hx hb d_S_hasUnlikeMarks_17 (by decide) ?_
    exact W.zret (v := 0) hx hb hr rfl (fun tz hz9 hW9 => ⟨⟨0, M, rfl, ⟨rfl, by unfold x_unlike; rw [hn]; rfl⟩, by rw [hz9]; exact hP, va_K.moved hW9.alike hK⟩, hS.F hz9⟩) hS.2.2 d_S_hasUnlikeMarks_18
set_option maxHeartbeats 4000000 in
set_option maxRecDepth 100000 in
/-- S_sumOfCounts -/
theorem k_S_sumOfCounts (l : Launch) (D : va_G) (cA : Nat → ClassId) (o sz : Nat) (M : wM) (si : Nat) (hs : si < 8) (od : Nat → Nat) (f : Nat) (hf : f ≤ 300) (hod : ∀ j, j < f → M.1 (9 + 3 * si + 1) j = nI (od j) ∧ od j < 300) (th : Int32) (tm : Int64) : Met l y_S_sumOfCounts (wm y_S_sumOfCounts c_S_sumOfCounts 8 (some .long)) { frames := 1, cells := 0, slots := 0, locals := 25 } (va_Pc [.ref (o + (9 + 3 * si)), .int th, .long tm, .int (nI f)] (xB D cA o M sz)) (va_Ql (fun r M1 => M1 = M ∧ r = x_sum M od th tm f) (xQ D cA o) (xA o sz)) 0 0 (xA o sz) := by
  refine Met.ofW (cc := c_S_sumOfCounts) (maxL := 8) (ret := (some .long)) (by decide) rfl ?_
  intro p e s m args below meth c s₁ B hml hv
  obtain ⟨rfl, hsz, hP, hK⟩ := hv
  have hx := B.exec
  have hb := B.bytes
  have hr := B.returns
  have hts := atoms_spec (ws := wm y_S_sumOfCounts c_S_sumOfCounts 8 (some .long)) B.pre
  have hown : s.vm.findClass "ShopDesks$TellingSet" = some m.cls := findClass_of_methodNamed B.named
  have hlocks := B.notSynchronized
  subst hsz
  have hS : va_S (xA o s.heap.size) s.heap s.heap [] := va_S.rf
  have hW : ∀ i, i < 217 → xA o s.heap.size (o + i) := fun i hi => wA_in hi
  have hl := lv_entry ([.ref (o + (9 + 3 * si)), .int th, .long tm, .int (nI f)]) (n := 8) (Nat.le_of_ble_eq_true rfl)
  rw [lg_entry_eq]
  generalize (lg_sl ([.ref (o + (9 + 3 * si)), .int th, .long tm, .int (nI f)]) ++ List.replicate (8 - (lg_sl ([.ref (o + (9 + 3 * si)), .int th, .long tm, .int (nI f)])).length) Slot.unset).toArray = ls at hl ⊢
  have hl : lv_has ls 8 [(0, .ref (o + (9 + 3 * si))), (1, .int th), (2, .long tm), (4, .int (nI f))] := hl
  refine lv_lconst (v := 0) hx hb d_S_sumOfCounts_0 (by decide) ?_
  refine lv_lstore (lv' := [(5, .long 0), (0, .ref (o + (9 + 3 * si))), (1, .int th), (2, .long tm), (4, .int (nI f))]) hx hb d_S_sumOfCounts_1 hl (by decide) rfl (fun ls hl => ?_)
  refine lv_iconst (v := 0) hx hb d_S_sumOfCounts_3 (by decide) ?_
  refine lv_istore (lv' := [(7, .int 0), (5, .long 0), (0, .ref (o + (9 + 3 * si))), (1, .int th), (2, .long tm), (4, .int (nI f))]) hx hb d_S_sumOfCounts_4 hl (by decide) rfl (fun ls hl => ?_)
  have lp6 : ∀ (fuel : Nat) (k : Nat) (sm : Int64), f - k < fuel → (k ≤ f) → (sm = x_sum M od th tm k) → ∀ (H : Heap) (locs : List Loc), wP D cls_ (SX o cA) o 217 M H → va_S (xA o s.heap.size) s.heap H locs → ∀ (ls : Array Slot), lv_has ls 8 [(0, .ref (o + (9 + 3 * si))), (1, .int th), (2, .long tm), (4, .int (nI f)), (5, .long sm), (7, .int (nI k))] → W p l e (headSpec (wm y_S_sumOfCounts c_S_sumOfCounts 8 (some .long)) { frames := 1, cells := 0, slots := 0, locals := 25 }).room s m ([.ref (o + (9 + 3 * si)), .int th, .long tm, .int (nI f)] : List Value).toArray below meth c H locs 0 0 (MQ below (va_Ql (fun r M1 => M1 = M ∧ r = x_sum M od th tm f) (xQ D cA o) (xA o s.heap.size)) ([.ref (o + (9 + 3 * si)), .int th, .long tm, .int (nI f)] : List Value).toArray s 0 0 (xA o s.heap.size)) (F0 m 6 ls []) := by
    intro fuel
    induction fuel with
    | zero => intro k sm hfu; exact absurd hfu (Nat.not_lt_zero _)
    | succ fuel ih =>
      intro k sm hfu hk hsm H locs hP hS ls hl
      refine lv_iload hx hb d_S_sumOfCounts_6 (lv_at hl 5 rfl) ?_
      refine lv_iload hx hb d_S_sumOfCounts_8 (lv_at hl 3 rfl) ?_
      refine lv_icmp_ge (tgt := 59) hx hb d_S_sumOfCounts_10 (by decide) (fun c_1 => ?_) (fun c_1 => ?_)
      · have hkf : f ≤ k := i_le (by omega) (by omega) c_1
        refine lv_lload hx hb d_S_sumOfCounts_59 (lv_at hl 4 rfl) ?_
        exact W.lret (v := sm) hx hb hr (fun tz hz9 hW9 => ⟨⟨sm, M, rfl, ⟨rfl, by rw [hsm, show k = f by omega]⟩, by rw [hz9]; exact hP, va_K.moved hW9.alike hK⟩, hS.F hz9⟩) hS.2.2 d_S_sumOfCounts_61
      · have hkf : k < f := i_nle (by omega) (by omega) c_1
        have hod3 := (hod k hkf).2
        refine lv_aload_n hx hb d_S_sumOfCounts_13 rfl (lv_at hl 0 rfl) ?_
        refine w_get (C := R_S) (T := F_S) (N := 5) (ci := 2) (v := .ref (o + 1)) hx hb hts inw_S hown hK hP (9 + 3 * si) (by omega) (SX_s hs) rfl 0 (by decide) (hts _ (al aF_S_26)) rfl d_S_sumOfCounts_14 ?_
        refine lv_aload_n hx hb d_S_sumOfCounts_17 rfl (lv_at hl 0 rfl) ?_
        refine w_get (C := R_S) (T := F_S) (N := 5) (ci := 2) (v := .ref (o + (9 + 3 * si + 1))) hx hb hts inw_S hown hK hP (9 + 3 * si) (by omega) (SX_s hs) rfl 1 (by decide) (hts _ (al aF_S_9)) rfl d_S_sumOfCounts_18 ?_
        refine lv_iload hx hb d_S_sumOfCounts_21 (lv_at hl 5 rfl) ?_
        refine w_iald hx hb hK hP (9 + 3 * si + 1) 0 (by omega) (SX_so hs) rfl (k := k) (by omega) (by decide) d_S_sumOfCounts_23 ?_
        refine w_topi ((hod k hkf).1) ?_
        refine lv_iload_n hx hb d_S_sumOfCounts_24 rfl (lv_at hl 1 rfl) ?_
        refine lv_iconst (v := 0) hx hb d_S_sumOfCounts_25 (by decide) ?_
        refine lv_lload_n hx hb d_S_sumOfCounts_26 rfl (lv_at hl 2 rfl) ?_
        refine w_Vi ⟨hx, hb, hml, hown, hts⟩ (k_T_holds l D cA o _ M (od k) hod3 th 0 tm) (kV hts 4 aK_T_holds aM_S_71 aI_T_holds aV_T_holds aN_T nm_T_holds rfl rfl ⟨(Nat.le_of_ble_eq_true rfl), (Nat.le_of_ble_eq_true rfl)⟩) hK hP (by decide) SX_1 rfl rfl hl.1 rfl (Nat.le_of_ble_eq_true rfl) d_S_sumOfCounts_27 ⟨(Nat.le_of_ble_eq_true rfl), (Nat.le_of_ble_eq_true rfl)⟩ hS (fun q h => wA_le hS.1 h) (fun r_2 M_2 H locs hw_2 hP hzc hkc hS => ?_)
        rw [hw_2.1] at hP
        refine w_topi hw_2.2 ?_
        refine lv_if_eq (tgt := 53) hx hb d_S_sumOfCounts_30 (by decide) (fun c_3 => ?_) (fun c_3 => ?_)
        · have hh := b2i_0 c_3
          refine lv_iinc (v := nI (k + 1)) (lv' := [(7, .int (nI (k + 1))), (0, .ref (o + (9 + 3 * si))), (1, .int th), (2, .long tm), (4, .int (nI f)), (5, .long sm)]) hx hb d_S_sumOfCounts_53 hl (k := 5) rfl (w_inc k) (by decide) rfl (fun ls hl => ?_)
          refine lv_goto (tgt := 6) hx hb d_S_sumOfCounts_56 (by decide) ?_
          exact ih (k + 1) sm (by omega) hkf (by rw [x_sum_f hh]; exact hsm) _ _ hP hS ls (lv_sub hl [1, 2, 3, 4, 5, 0] rfl)
        · have hh := b2i_1 c_3
          refine lv_lload hx hb d_S_sumOfCounts_33 (lv_at hl 4 rfl) ?_
          refine lv_aload_n hx hb d_S_sumOfCounts_35 rfl (lv_at hl 0 rfl) ?_
          refine w_get (C := R_S) (T := F_S) (N := 5) (ci := 2) (v := .ref (o + 1)) hx hb hts inw_S hown hK hP (9 + 3 * si) (by omega) (SX_s hs) rfl 0 (by decide) (hts _ (al aF_S_26)) rfl d_S_sumOfCounts_36 ?_
          refine w_get (C := R_T) (T := F_T) (N := 7) (ci := 3) (v := .ref (o + 6)) hx hb hts inw_T hown hK hP 1 (by decide) SX_1 rfl 4 (by decide) (hts _ (al aF_S_75)) rfl d_S_sumOfCounts_39 ?_
          refine lv_aload_n hx hb d_S_sumOfCounts_42 rfl (lv_at hl 0 rfl) ?_
          refine w_get (C := R_S) (T := F_S) (N := 5) (ci := 2) (v := .ref (o + (9 + 3 * si + 1))) hx hb hts inw_S hown hK hP (9 + 3 * si) (by omega) (SX_s hs) rfl 1 (by decide) (hts _ (al aF_S_9)) rfl d_S_sumOfCounts_43 ?_
          refine lv_iload hx hb d_S_sumOfCounts_46 (lv_at hl 5 rfl) ?_
          refine w_iald hx hb hK hP (9 + 3 * si + 1) 0 (by omega) (SX_so hs) rfl (k := k) (by omega) (by decide) d_S_sumOfCounts_48 ?_
          refine w_topi ((hod k hkf).1) ?_
          refine w_lald hx hb hK hP 6 1 (by decide) SX_6 rfl (k := (od k)) (by omega) (by decide) d_S_sumOfCounts_49 ?_
          refine lv_ladd hx hb d_S_sumOfCounts_50 ?_
          refine lv_lstore (lv' := [(5, .long (sm + (M.2.1 6 (od k)))), (0, .ref (o + (9 + 3 * si))), (1, .int th), (2, .long tm), (4, .int (nI f)), (7, .int (nI k))]) hx hb d_S_sumOfCounts_51 hl (by decide) rfl (fun ls hl => ?_)
          refine lv_iinc (v := nI (k + 1)) (lv' := [(7, .int (nI (k + 1))), (5, .long (sm + (M.2.1 6 (od k)))), (0, .ref (o + (9 + 3 * si))), (1, .int th), (2, .long tm), (4, .int (nI f))]) hx hb d_S_sumOfCounts_53 hl (k := 5) rfl (w_inc k) (by decide) rfl (fun ls hl => ?_)
          refine lv_goto (tgt := 6) hx hb d_S_sumOfCounts_56 (by decide) ?_
          exact ih (k + 1) (sm + (M.2.1 6 (od k))) (by omega) hkf (by rw [x_sum_t hh, hsm]) _ _ hP hS ls (lv_sub hl [2, 3, 4, 5, 1, 0] rfl)
  exact lp6 ((f - 0) + 1) 0 0 (Nat.lt_succ_self _) (Nat.zero_le _) rfl _ _ hP hS ls (lv_sub hl [2, 3, 4, 5, 1, 0] rfl)
set_option maxHeartbeats 4000000 in
set_option maxRecDepth 100000 in
/-- S_knownMark -/
theorem k_S_knownMark (l : Launch) (D : va_G) (cA : Nat → ClassId) (o sz : Nat) (M : wM) (si : Nat) (hs : si < 8) (od : Nat → Nat) (f : Nat) (hf : f ≤ 300) (hod : ∀ j, j < f → M.1 (9 + 3 * si + 1) j = nI (od j) ∧ od j < 300) (th : Int32) (tm : Int64) : Met l y_S_knownMark (wm y_S_knownMark c_S_knownMark 6 (some .long)) { frames := 3, cells := 0, slots := 0, locals := 79 } (va_Pc [.ref (o + (9 + 3 * si)), .int th, .long tm, .int (nI f)] (xB D cA o M sz)) (va_Ql (fun r M1 => M1 = M ∧ r = x_kmark M od th tm f) (xQ D cA o) (xA o sz)) 0 0 (xA o sz) := by
  refine Met.ofW (cc := c_S_knownMark) (maxL := 6) (ret := (some .long)) (by decide) rfl ?_
  intro p e s m args below meth c s₁ B hml hv
  obtain ⟨rfl, hsz, hP, hK⟩ := hv
  have hx := B.exec
  have hb := B.bytes
  have hr := B.returns
  have hts := atoms_spec (ws := wm y_S_knownMark c_S_knownMark 6 (some .long)) B.pre
  have hown : s.vm.findClass "ShopDesks$TellingSet" = some m.cls := findClass_of_methodNamed B.named
  have hlocks := B.notSynchronized
  subst hsz
  have hS : va_S (xA o s.heap.size) s.heap s.heap [] := va_S.rf
  have hW : ∀ i, i < 217 → xA o s.heap.size (o + i) := fun i hi => wA_in hi
  have hl := lv_entry ([.ref (o + (9 + 3 * si)), .int th, .long tm, .int (nI f)]) (n := 6) (Nat.le_of_ble_eq_true rfl)
  rw [lg_entry_eq]
  generalize (lg_sl ([.ref (o + (9 + 3 * si)), .int th, .long tm, .int (nI f)]) ++ List.replicate (6 - (lg_sl ([.ref (o + (9 + 3 * si)), .int th, .long tm, .int (nI f)])).length) Slot.unset).toArray = ls at hl ⊢
  have hl : lv_has ls 6 [(0, .ref (o + (9 + 3 * si))), (1, .int th), (2, .long tm), (4, .int (nI f))] := hl
  refine lv_aload_n hx hb d_S_knownMark_0 rfl (lv_at hl 0 rfl) ?_
  refine lv_iload_n hx hb d_S_knownMark_1 rfl (lv_at hl 1 rfl) ?_
  refine lv_lload_n hx hb d_S_knownMark_2 rfl (lv_at hl 2 rfl) ?_
  refine lv_iload hx hb d_S_knownMark_3 (lv_at hl 3 rfl) ?_
  refine w_Vi ⟨hx, hb, hml, hown, hts⟩ (k_S_settling l D cA o _ M si hs od f hf hod th tm) (kV hts 3 aK_S_settling aM_S_63 aI_S_settling aV_S_settling aN_S nm_S_settling rfl rfl ⟨(Nat.le_of_ble_eq_true rfl), (Nat.le_of_ble_eq_true rfl)⟩) hK hP (by omega) (SX_s hs) rfl rfl hl.1 rfl (Nat.le_of_ble_eq_true rfl) d_S_knownMark_5 ⟨(Nat.le_of_ble_eq_true rfl), (Nat.le_of_ble_eq_true rfl)⟩ hS (fun q h => wA_le hS.1 h) (fun r_1 M_1 H locs hw_1 hP hzc hkc hS => ?_)
  rw [hw_1.1] at hP
  refine w_topi hw_1.2 ?_
  refine lv_istore (lv' := [(5, .int (x_opt (x_settle M od th tm f))), (0, .ref (o + (9 + 3 * si))), (1, .int th), (2, .long tm), (4, .int (nI f))]) hx hb d_S_knownMark_8 hl (by decide) rfl (fun ls hl => ?_)
  refine lv_iload hx hb d_S_knownMark_10 (lv_at hl 0 rfl) ?_
  refine lv_iconst (v := -1) hx hb d_S_knownMark_12 (by decide) ?_
  refine lv_icmp_eq (tgt := 27) hx hb d_S_knownMark_13 (by decide) (fun c_2 => ?_) (fun c_2 => ?_)
  · have hn := x_opt_none (x_settle_lt (fun j h => (hod j h).2)) c_2
    refine lv_aload_n hx hb d_S_knownMark_27 rfl (lv_at hl 1 rfl) ?_
    refine lv_iload_n hx hb d_S_knownMark_28 rfl (lv_at hl 2 rfl) ?_
    refine lv_lload_n hx hb d_S_knownMark_29 rfl (lv_at hl 3 rfl) ?_
    refine lv_iload hx hb d_S_knownMark_30 (lv_at hl 4 rfl) ?_
    refine w_Vi ⟨hx, hb, hml, hown, hts⟩ (k_S_hasUnlikeMarks l D cA o _ M si hs od f hf hod th tm) (kV hts 3 aK_S_hasUnlikeMarks aM_S_67 aI_S_hasUnlikeMarks aV_S_hasUnlikeMarks aN_S nm_S_hasUnlikeMarks rfl rfl ⟨(Nat.le_of_ble_eq_true rfl), (Nat.le_of_ble_eq_true rfl)⟩) hK hP (by omega) (SX_s hs) rfl rfl hl.1 rfl (Nat.le_of_ble_eq_true rfl) d_S_knownMark_32 ⟨(Nat.le_of_ble_eq_true rfl), (Nat.le_of_ble_eq_true rfl)⟩ hS (fun q h => wA_le hS.1 h) (fun r_3 M_3 H locs hw_3 hP hzc hkc hS => ?_)
    rw [hw_3.1] at hP
    refine w_topi hw_3.2 ?_
    refine lv_if_eq (tgt := 40) hx hb d_S_knownMark_35 (by decide) (fun c_4 => ?_) (fun c_4 => ?_)
    · have hh := b2i_0 c_4
      refine lv_aload_n hx hb d_S_knownMark_40 rfl (lv_at hl 1 rfl) ?_
      refine lv_aload_n hx hb d_S_knownMark_41 rfl (lv_at hl 1 rfl) ?_
      refine lv_iload_n hx hb d_S_knownMark_42 rfl (lv_at hl 2 rfl) ?_
      refine lv_iconst (v := 2) hx hb d_S_knownMark_43 (by decide) ?_
      refine lv_lload_n hx hb d_S_knownMark_44 rfl (lv_at hl 3 rfl) ?_
      refine lv_iload hx hb d_S_knownMark_45 (lv_at hl 4 rfl) ?_
      refine w_Vi ⟨hx, hb, hml, hown, hts⟩ (k_S_latest l D cA o _ M si hs od f hf hod th 2 tm) (kV hts 4 aK_S_latest aM_S_53 aI_S_latest aV_S_latest aN_S nm_S_latest rfl rfl ⟨(Nat.le_of_ble_eq_true rfl), (Nat.le_of_ble_eq_true rfl)⟩) hK hP (by omega) (SX_s hs) rfl rfl hl.1 rfl (Nat.le_of_ble_eq_true rfl) d_S_knownMark_47 ⟨(Nat.le_of_ble_eq_true rfl), (Nat.le_of_ble_eq_true rfl)⟩ hS (fun q h => wA_le hS.1 h) (fun r_5 M_5 H locs hw_5 hP hzc hkc hS => ?_)
      rw [hw_5.1] at hP
      refine w_topi hw_5.2 ?_
      refine w_Vl ⟨hx, hb, hml, hown, hts⟩ (k_S_valueOrZero l D cA o _ M si hs (x_lat M od th 2 tm f) (x_lat_lt (fun j h => (hod j h).2) f (Nat.le_refl f))) (kV hts 1 aK_S_valueOrZero aM_S_57 aI_S_valueOrZero aV_S_valueOrZero aN_S nm_S_valueOrZero rfl rfl ⟨(Nat.le_of_ble_eq_true rfl), (Nat.le_of_ble_eq_true rfl)⟩) hK hP (by omega) (SX_s hs) rfl rfl hl.1 rfl (Nat.le_of_ble_eq_true rfl) d_S_knownMark_50 ⟨(Nat.le_of_ble_eq_true rfl), (Nat.le_of_ble_eq_true rfl)⟩ hS (fun q h => wA_le hS.1 h) (fun r_6 M_6 H locs hw_6 hP hzc hkc hS => ?_)
      rw [hw_6.1] at hP
      refine w_topl hw_6.2 ?_
      exact W.lret (v := x_val M (x_lat M od th 2 tm f)) hx hb hr (fun tz hz9 hW9 => ⟨⟨x_val M (x_lat M od th 2 tm f), M, rfl, ⟨rfl, by unfold x_kmark; rw [hn, hh]; rfl⟩, by rw [hz9]; exact hP, va_K.moved hW9.alike hK⟩, hS.F hz9⟩) hS.2.2 d_S_knownMark_53
    · have hh := b2i_1 c_4
      refine lv_lconst (v := 0) hx hb d_S_knownMark_38 (by decide) ?_
      exact W.lret (v := 0) hx hb hr (fun tz hz9 hW9 => ⟨⟨0, M, rfl, ⟨rfl, by unfold x_kmark; rw [hn, hh]; rfl⟩, by rw [hz9]; exact hP, va_K.moved hW9.alike hK⟩, hS.F hz9⟩) hS.2.2 d_S_knownMark_39
  · obtain ⟨a, ha⟩ := x_opt_some c_2
    have ha3 := x_settle_lt (fun j h => (hod j h).2) a ha
    refine lv_aload_n hx hb d_S_knownMark_16 rfl (lv_at hl 1 rfl) ?_
    refine w_get (C := R_S) (T := F_S) (N := 5) (ci := 2) (v := .ref (o + 1)) hx hb hts inw_S hown hK hP (9 + 3 * si) (by omega) (SX_s hs) rfl 0 (by decide) (hts _ (al aF_S_26)) rfl d_S_knownMark_17 ?_
    refine w_get (C := R_T) (T := F_T) (N := 7) (ci := 3) (v := .ref (o + 6)) hx hb hts inw_T hown hK hP 1 (by decide) SX_1 rfl 4 (by decide) (hts _ (al aF_S_75)) rfl d_S_knownMark_20 ?_
    refine lv_iload hx hb d_S_knownMark_23 (lv_at hl 0 rfl) ?_
    refine w_topi (show x_opt (x_settle M od th tm f) = nI a by rw [ha]; rfl) ?_
    refine w_lald hx hb hK hP 6 1 (by decide) SX_6 rfl (k := a) (by omega) (by decide) d_S_knownMark_25 ?_
    exact W.lret (v := M.2.1 6 a) hx hb hr (fun tz hz9 hW9 => ⟨⟨M.2.1 6 a, M, rfl, ⟨rfl, by unfold x_kmark; rw [ha]⟩, by rw [hz9]; exact hP, va_K.moved hW9.alike hK⟩, hS.F hz9⟩) hS.2.2 d_S_knownMark_26
set_option maxHeartbeats 4000000 in
set_option maxRecDepth 100000 in
/-- S_known -/
theorem k_S_known (l : Launch) (D : va_G) (cA : Nat → ClassId) (o sz : Nat) (M : wM) (si : Nat) (hs : si < 8) (od : Nat → Nat) (f : Nat) (hf : f ≤ 300) (hod : ∀ j, j < f → M.1 (9 + 3 * si + 1) j = nI (od j) ∧ od j < 300) (th kd : Int32) (tm : Int64) : Met l y_S_known (wm y_S_known c_S_known 6 (some .long)) { frames := 4, cells := 0, slots := 0, locals := 104 } (va_Pc [.ref (o + (9 + 3 * si)), .int th, .int kd, .long tm, .int (nI f)] (xB D cA o M sz)) (va_Ql (fun r M1 => M1 = M ∧ r = x_known M od th kd tm f) (xQ D cA o) (xA o sz)) 0 0 (xA o sz) := by
  refine Met.ofW (cc := c_S_known) (maxL := 6) (ret := (some .long)) (by decide) rfl ?_
  intro p e s m args below meth c s₁ B hml hv
  obtain ⟨rfl, hsz, hP, hK⟩ := hv
  have hx := B.exec
  have hb := B.bytes
  have hr := B.returns
  have hts := atoms_spec (ws := wm y_S_known c_S_known 6 (some .long)) B.pre
  have hown : s.vm.findClass "ShopDesks$TellingSet" = some m.cls := findClass_of_methodNamed B.named
  have hlocks := B.notSynchronized
  subst hsz
  have hS : va_S (xA o s.heap.size) s.heap s.heap [] := va_S.rf
  have hW : ∀ i, i < 217 → xA o s.heap.size (o + i) := fun i hi => wA_in hi
  have hl := lv_entry ([.ref (o + (9 + 3 * si)), .int th, .int kd, .long tm, .int (nI f)]) (n := 6) (Nat.le_of_ble_eq_true rfl)
  rw [lg_entry_eq]
  generalize (lg_sl ([.ref (o + (9 + 3 * si)), .int th, .int kd, .long tm, .int (nI f)]) ++ List.replicate (6 - (lg_sl ([.ref (o + (9 + 3 * si)), .int th, .int kd, .long tm, .int (nI f)])).length) Slot.unset).toArray = ls at hl ⊢
  have hl : lv_has ls 6 [(0, .ref (o + (9 + 3 * si))), (1, .int th), (2, .int kd), (3, .long tm), (5, .int (nI f))] := hl
  refine lv_iload_n hx hb d_S_known_0 rfl (lv_at hl 2 rfl) ?_
  refine lv_if_ne (tgt := 13) hx hb d_S_known_1 (by decide) (fun c_1 => ?_) (fun c_1 => ?_)
  · have q0 := c_1
    refine lv_iload_n hx hb d_S_known_13 rfl (lv_at hl 2 rfl) ?_
    refine lv_iconst (v := 2) hx hb d_S_known_14 (by decide) ?_
    refine lv_icmp_ne (tgt := 27) hx hb d_S_known_15 (by decide) (fun c_2 => ?_) (fun c_2 => ?_)
    · have q2 := c_2
      refine lv_aload_n hx hb d_S_known_27 rfl (lv_at hl 0 rfl) ?_
      refine lv_aload_n hx hb d_S_known_28 rfl (lv_at hl 0 rfl) ?_
      refine lv_iload_n hx hb d_S_known_29 rfl (lv_at hl 1 rfl) ?_
      refine lv_iload_n hx hb d_S_known_30 rfl (lv_at hl 2 rfl) ?_
      refine lv_lload_n hx hb d_S_known_31 rfl (lv_at hl 3 rfl) ?_
      refine lv_iload hx hb d_S_known_32 (lv_at hl 4 rfl) ?_
      refine w_Vi ⟨hx, hb, hml, hown, hts⟩ (k_S_latest l D cA o _ M si hs od f hf hod th kd tm) (kV hts 4 aK_S_latest aM_S_53 aI_S_latest aV_S_latest aN_S nm_S_latest rfl rfl ⟨(Nat.le_of_ble_eq_true rfl), (Nat.le_of_ble_eq_true rfl)⟩) hK hP (by omega) (SX_s hs) rfl rfl hl.1 rfl (Nat.le_of_ble_eq_true rfl) d_S_known_34 ⟨(Nat.le_of_ble_eq_true rfl), (Nat.le_of_ble_eq_true rfl)⟩ hS (fun q h => wA_le hS.1 h) (fun r_3 M_3 H locs hw_3 hP hzc hkc hS => ?_)
      rw [hw_3.1] at hP
      refine w_topi hw_3.2 ?_
      refine w_Vl ⟨hx, hb, hml, hown, hts⟩ (k_S_valueOrZero l D cA o _ M si hs (x_lat M od th kd tm f) (x_lat_lt (fun j h => (hod j h).2) f (Nat.le_refl f))) (kV hts 1 aK_S_valueOrZero aM_S_57 aI_S_valueOrZero aV_S_valueOrZero aN_S nm_S_valueOrZero rfl rfl ⟨(Nat.le_of_ble_eq_true rfl), (Nat.le_of_ble_eq_true rfl)⟩) hK hP (by omega) (SX_s hs) rfl rfl hl.1 rfl (Nat.le_of_ble_eq_true rfl) d_S_known_37 ⟨(Nat.le_of_ble_eq_true rfl), (Nat.le_of_ble_eq_true rfl)⟩ hS (fun q h => wA_le hS.1 h) (fun r_4 M_4 H locs hw_4 hP hzc hkc hS => ?_)
      rw [hw_4.1] at hP
      refine w_topl hw_4.2 ?_
      exact W.lret (v := x_val M (x_lat M od th kd tm f)) hx hb hr (fun tz hz9 hW9 => ⟨⟨x_val M (x_lat M od th kd tm f), M, rfl, ⟨rfl, by unfold x_known; rw [if_neg q0, if_neg q2]⟩, by rw [hz9]; exact hP, va_K.moved hW9.alike hK⟩, hS.F hz9⟩) hS.2.2 d_S_known_40
    · have q2 := c_2
      refine lv_aload_n hx hb d_S_known_18 rfl (lv_at hl 0 rfl) ?_
      refine lv_iload_n hx hb d_S_known_19 rfl (lv_at hl 1 rfl) ?_
      refine lv_lload_n hx hb d_S_known_20 rfl (lv_at hl 3 rfl) ?_
      refine lv_iload hx hb d_S_known_21 (lv_at hl 4 rfl) ?_
      refine w_Vl ⟨hx, hb, hml, hown, hts⟩ (k_S_knownMark l D cA o _ M si hs od f hf hod th tm) (kV hts 3 aK_S_knownMark aM_S_50 aI_S_knownMark aV_S_knownMark aN_S nm_S_knownMark rfl rfl ⟨(Nat.le_of_ble_eq_true rfl), (Nat.le_of_ble_eq_true rfl)⟩) hK hP (by omega) (SX_s hs) rfl rfl hl.1 rfl (Nat.le_of_ble_eq_true rfl) d_S_known_23 ⟨(Nat.le_of_ble_eq_true rfl), (Nat.le_of_ble_eq_true rfl)⟩ hS (fun q h => wA_le hS.1 h) (fun r_5 M_5 H locs hw_5 hP hzc hkc hS => ?_)
      rw [hw_5.1] at hP
      refine w_topl hw_5.2 ?_
      exact W.lret (v := x_kmark M od th tm f) hx hb hr (fun tz hz9 hW9 => ⟨⟨x_kmark M od th tm f, M, rfl, ⟨rfl, by unfold x_known; rw [if_neg q0, if_pos q2]⟩, by rw [hz9]; exact hP, va_K.moved hW9.alike hK⟩, hS.F hz9⟩) hS.2.2 d_S_known_26
  · have q0 := c_1
    refine lv_aload_n hx hb d_S_known_4 rfl (lv_at hl 0 rfl) ?_
    refine lv_iload_n hx hb d_S_known_5 rfl (lv_at hl 1 rfl) ?_
    refine lv_lload_n hx hb d_S_known_6 rfl (lv_at hl 3 rfl) ?_
    refine lv_iload hx hb d_S_known_7 (lv_at hl 4 rfl) ?_
    refine w_Vl ⟨hx, hb, hml, hown, hts⟩ (k_S_sumOfCounts l D cA o _ M si hs od f hf hod th tm) (kV hts 3 aK_S_sumOfCounts aM_S_46 aI_S_sumOfCounts aV_S_sumOfCounts aN_S nm_S_sumOfCounts rfl rfl ⟨(Nat.le_of_ble_eq_true rfl), (Nat.le_of_ble_eq_true rfl)⟩) hK hP (by omega) (SX_s hs) rfl rfl hl.1 rfl (Nat.le_of_ble_eq_true rfl) d_S_known_9 ⟨(Nat.le_of_ble_eq_true rfl), (Nat.le_of_ble_eq_true rfl)⟩ hS (fun q h => wA_le hS.1 h) (fun r_6 M_6 H locs hw_6 hP hzc hkc hS => ?_)
    rw [hw_6.1] at hP
    refine w_topl hw_6.2 ?_
    exact W.lret (v := x_sum M od th tm f) hx hb hr (fun tz hz9 hW9 => ⟨⟨x_sum M od th tm f, M, rfl, ⟨rfl, by unfold x_known; rw [if_pos q0]⟩, by rw [hz9]; exact hP, va_K.moved hW9.alike hK⟩, hS.F hz9⟩) hS.2.2 d_S_known_12
set_option maxHeartbeats 4000000 in
set_option maxRecDepth 100000 in
/-- S_isInConflict -/
theorem k_S_isInConflict (l : Launch) (D : va_G) (cA : Nat → ClassId) (o sz : Nat) (M : wM) (si : Nat) (hs : si < 8) (od : Nat → Nat) (z : Nat) (hf : z ≤ 300) (ez : M.2.2 (9 + 3 * si) 3 = nI z) (hod : ∀ j, j < z → M.1 (9 + 3 * si + 1) j = nI (od j) ∧ od j < 300) (th : Int32) : Met l y_S_isInConflict (wm y_S_isInConflict c_S_isInConflict 2 (some .boolean)) { frames := 3, cells := 0, slots := 0, locals := 79 } (va_Pc [.ref (o + (9 + 3 * si)), .int th] (xB D cA o M sz)) (va_Qi (fun r M1 => M1 = M ∧ r = b2i (x_conf M od th z)) (xQ D cA o) (xA o sz)) 0 0 (xA o sz) := by
  refine Met.ofW (cc := c_S_isInConflict) (maxL := 2) (ret := (some .boolean)) (by decide) rfl ?_
  intro p e s m args below meth c s₁ B hml hv
  obtain ⟨rfl, hsz, hP, hK⟩ := hv
  have hx := B.exec
  have hb := B.bytes
  have hr := B.returns
  have hts := atoms_spec (ws := wm y_S_isInConflict c_S_isInConflict 2 (some .boolean)) B.pre
  have hown : s.vm.findClass "ShopDesks$TellingSet" = some m.cls := findClass_of_methodNamed B.named
  have hlocks := B.notSynchronized
  subst hsz
  have hS : va_S (xA o s.heap.size) s.heap s.heap [] := va_S.rf
  have hW : ∀ i, i < 217 → xA o s.heap.size (o + i) := fun i hi => wA_in hi
  have hl := lv_entry ([.ref (o + (9 + 3 * si)), .int th]) (n := 2) (Nat.le_of_ble_eq_true rfl)
  rw [lg_entry_eq]
  generalize (lg_sl ([.ref (o + (9 + 3 * si)), .int th]) ++ List.replicate (2 - (lg_sl ([.ref (o + (9 + 3 * si)), .int th])).length) Slot.unset).toArray = ls at hl ⊢
  have hl : lv_has ls 2 [(0, .ref (o + (9 + 3 * si))), (1, .int th)] := hl
  refine lv_aload_n hx hb d_S_isInConflict_0 rfl (lv_at hl 0 rfl) ?_
  refine lv_iload_n hx hb d_S_isInConflict_1 rfl (lv_at hl 1 rfl) ?_
  refine lv_ldc2 (v := 9223372036854775807) hx hb hown (hts _ (al aL_S_61)) d_S_isInConflict_2 ?_
  refine lv_aload_n hx hb d_S_isInConflict_5 rfl (lv_at hl 0 rfl) ?_
  refine w_get (C := R_S) (T := F_S) (N := 5) (ci := 2) (v := .int (M.2.2 (9 + 3 * si) 3)) hx hb hts inw_S hown hK hP (9 + 3 * si) (by omega) (SX_s hs) rfl 3 (by decide) (hts _ (al aF_S_19)) rfl d_S_isInConflict_6 ?_
  refine w_topi ez ?_
  refine w_Vi ⟨hx, hb, hml, hown, hts⟩ (k_S_settling l D cA o _ M si hs od z hf hod th 9223372036854775807) (kV hts 3 aK_S_settling aM_S_63 aI_S_settling aV_S_settling aN_S nm_S_settling rfl rfl ⟨(Nat.le_of_ble_eq_true rfl), (Nat.le_of_ble_eq_true rfl)⟩) hK hP (by omega) (SX_s hs) rfl rfl hl.1 rfl (Nat.le_of_ble_eq_true rfl) d_S_isInConflict_9 ⟨(Nat.le_of_ble_eq_true rfl), (Nat.le_of_ble_eq_true rfl)⟩ hS (fun q h => wA_le hS.1 h) (fun r_1 M_1 H locs hw_1 hP hzc hkc hS => ?_)
  rw [hw_1.1] at hP
  refine w_topi hw_1.2 ?_
  refine lv_iconst (v := -1) hx hb d_S_isInConflict_12 (by decide) ?_
  refine lv_icmp_ne (tgt := 35) hx hb d_S_isInConflict_13 (by decide) (fun c_2 => ?_) (fun c_2 => ?_)
  · obtain ⟨a, ha⟩ := x_opt_some c_2
    refine lv_iconst (v := 0) hx hb d_S_isInConflict_35 (by decide) ?_
    exact W.zret (v := 0) hx hb hr rfl (fun tz hz9 hW9 => ⟨⟨0, M, rfl, ⟨rfl, by unfold x_conf; rw [ha]; rfl⟩, by rw [hz9]; exact hP, va_K.moved hW9.alike hK⟩, hS.F hz9⟩) hS.2.2 d_S_isInConflict_36
  · have hn := x_opt_none (x_settle_lt (fun j h => (hod j h).2)) c_2
    refine lv_aload_n hx hb d_S_isInConflict_16 rfl (lv_at hl 0 rfl) ?_
    refine lv_iload_n hx hb d_S_isInConflict_17 rfl (lv_at hl 1 rfl) ?_
    refine lv_ldc2 (v := 9223372036854775807) hx hb hown (hts _ (al aL_S_61)) d_S_isInConflict_18 ?_
    refine lv_aload_n hx hb d_S_isInConflict_21 rfl (lv_at hl 0 rfl) ?_
    refine w_get (C := R_S) (T := F_S) (N := 5) (ci := 2) (v := .int (M.2.2 (9 + 3 * si) 3)) hx hb hts inw_S hown hK hP (9 + 3 * si) (by omega) (SX_s hs) rfl 3 (by decide) (hts _ (al aF_S_19)) rfl d_S_isInConflict_22 ?_
    refine w_topi ez ?_
    refine w_Vi ⟨hx, hb, hml, hown, hts⟩ (k_S_hasUnlikeMarks l D cA o _ M si hs od z hf hod th 9223372036854775807) (kV hts 3 aK_S_hasUnlikeMarks aM_S_67 aI_S_hasUnlikeMarks aV_S_hasUnlikeMarks aN_S nm_S_hasUnlikeMarks rfl rfl ⟨(Nat.le_of_ble_eq_true rfl), (Nat.le_of_ble_eq_true rfl)⟩) hK hP (by omega) (SX_s hs) rfl rfl hl.1 rfl (Nat.le_of_ble_eq_true rfl) d_S_isInConflict_25 ⟨(Nat.le_of_ble_eq_true rfl), (Nat.le_of_ble_eq_true rfl)⟩ hS (fun q h => wA_le hS.1 h) (fun r_3 M_3 H locs hw_3 hP hzc hkc hS => ?_)
    rw [hw_3.1] at hP
    refine w_topi hw_3.2 ?_
    refine lv_if_eq (tgt := 35) hx hb d_S_isInConflict_28 (by decide) (fun c_4 => ?_) (fun c_4 => ?_)
    · have hh := b2i_0 c_4
      refine lv_iconst (v := 0) hx hb d_S_isInConflict_35 (by decide) ?_
      exact W.zret (v := 0) hx hb hr rfl (fun tz hz9 hW9 => ⟨⟨0, M, rfl, ⟨rfl, by unfold x_conf; rw [hn, hh]; rfl⟩, by rw [hz9]; exact hP, va_K.moved hW9.alike hK⟩, hS.F hz9⟩) hS.2.2 d_S_isInConflict_36
    · have hh := b2i_1 c_4
      refine lv_iconst (v := 1) hx hb d_S_isInConflict_31 (by decide) ?_
      refine lv_goto (tgt := 36) hx hb d_S_isInConflict_32 (by decide) ?_
      exact W.zret (v := 1) hx hb hr rfl (fun tz hz9 hW9 => ⟨⟨1, M, rfl, ⟨rfl, by unfold x_conf; rw [hn, hh]; rfl⟩, by rw [hz9]; exact hP, va_K.moved hW9.alike hK⟩, hS.F hz9⟩) hS.2.2 d_S_isInConflict_36

