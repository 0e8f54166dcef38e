/-! the reference: what its sets say -/
def y_lat (M : wM) (od : Nat → Nat) (th kd : Int32) (tm : Int64) : Nat → Option Nat
  | 0 => none
  | k + 1 => if y_hold M (od k) th kd tm = true then some (y_pick M (y_lat M od th kd tm k) (od k)) else y_lat M od th kd tm k
theorem y_lat_t {M : wM} {od : Nat → Nat} {th kd : Int32} {tm : Int64} {k : Nat} (h : y_hold M (od k) th kd tm = true) : y_lat M od th kd tm (k + 1) = some (y_pick M (y_lat M od th kd tm k) (od k)) := by rw [y_lat, if_pos h]
theorem y_lat_f {M : wM} {od : Nat → Nat} {th kd : Int32} {tm : Int64} {k : Nat} (h : y_hold M (od k) th kd tm = false) : y_lat M od th kd tm (k + 1) = y_lat M od th kd tm k := by rw [y_lat, if_neg (by rw [h]; decide)]
theorem y_lat_lt {M : wM} {od : Nat → Nat} {th kd : Int32} {tm : Int64} {f : Nat} (h : ∀ j, j < f → od j < 300) : ∀ k, k ≤ f → ∀ u, y_lat M od th kd tm k = some u → u < 300 := by
  intro k
  induction k with
  | zero => intro _ u hu; cases hu
  | succ k ih =>
    intro hk u hu
    have ih := ih (by omega)
    cases hh : y_hold M (od k) th kd tm with
    | false => rw [y_lat_f hh] at hu; exact ih u hu
    | true =>
      rw [y_lat_t hh] at hu
      cases hu
      unfold y_pick
      cases hq : y_lat M od th kd tm k with
      | none => exact h k (by omega)
      | some a =>
        dsimp only
        split
        · exact ih a hq
        · exact h k (by omega)
theorem x_opt_ge {q : Option Nat} (h : 0 ≤ x_opt q) : ∃ u, q = some u := by
  cases q with
  | none => exact absurd h (by decide)
  | some u => exact ⟨u, rfl⟩
theorem x_opt_nge {q : Option Nat} (hq : ∀ u, q = some u → u < 300) (h : ¬ 0 ≤ x_opt q) : q = none := by
  cases q with
  | none => rfl
  | some u => exact absurd (nI_pos' (by have := hq u rfl; omega)) h
def y_bef (M : wM) (q : Option Nat) (t : Nat) : Bool := match q with
  | none => false
  | some a => decide (M.2.1 6 a < M.2.1 6 t)
def y_dif (M : wM) (q : Option Nat) (t : Nat) : Bool := match q with
  | none => false
  | some a => decide (¬ M.2.1 5 a = M.2.1 5 t)
def y_set (M : wM) (od : Nat → Nat) (th : Int32) (tm : Int64) (q : Option Nat) : Nat → Bool
  | 0 => q.isSome
  | k + 1 => y_set M od th tm q k && !(y_hold M (od k) th 2 tm && y_bef M q (od k))
def y_settled (M : wM) (od : Nat → Nat) (th : Int32) (tm : Int64) (f : Nat) : Bool := y_set M od th tm (y_lat M od th 3 tm f) f
def y_unl (M : wM) (od : Nat → Nat) (th : Int32) (tm : Int64) : Nat → Bool × Option Nat
  | 0 => (false, none)
  | k + 1 => if y_hold M (od k) th 2 tm = true then ((y_unl M od th tm k).1 || y_dif M (y_unl M od th tm k).2 (od k), some (od k)) else y_unl M od th tm k
theorem y_unl_f {M : wM} {od : Nat → Nat} {th : Int32} {tm : Int64} {k : Nat} (h : y_hold M (od k) th 2 tm = false) : y_unl M od th tm (k + 1) = y_unl M od th tm k := by rw [y_unl, if_neg (by rw [h]; decide)]
theorem y_unl_t {M : wM} {od : Nat → Nat} {th : Int32} {tm : Int64} {k : Nat} {b : Bool} {q : Option Nat} (h : y_hold M (od k) th 2 tm = true) (e : (b, q) = y_unl M od th tm k) : y_unl M od th tm (k + 1) = (b || y_dif M q (od k), some (od k)) := by rw [y_unl, if_pos h, ← e]
theorem y_unl_lt {M : wM} {od : Nat → Nat} {th : Int32} {tm : Int64} {f : Nat} (h : ∀ j, j < f → od j < 300) : ∀ k, k ≤ f → ∀ u, (y_unl M od th tm k).2 = some u → u < 300 := by
  intro k
  induction k with
  | zero => intro _ u hu; cases hu
  | succ k ih =>
    intro hk u hu
    cases hh : y_hold M (od k) th 2 tm with
    | false => rw [y_unl_f hh] at hu; exact ih (by omega) u hu
    | true =>
      rw [y_unl, if_pos hh] at hu
      cases hu
      exact h k (by omega)
def y_unlike (M : wM) (od : Nat → Nat) (th : Int32) (tm : Int64) (f : Nat) : Bool := (y_unl M od th tm f).1
def y_sum (M : wM) (od : Nat → Nat) (th : Int32) (tm : Int64) : Nat → Int64
  | 0 => 0
  | k + 1 => y_sum M od th tm k + (if y_hold M (od k) th 0 tm = true then M.2.1 5 (od k) else 0)
def y_val (M : wM) (q : Option Nat) : Int64 := match q with
  | none => 0
  | some u => M.2.1 5 u
def y_known (M : wM) (od : Nat → Nat) (th kd : Int32) (tm : Int64) (f : Nat) : Int64 := if kd = 0 then y_sum M od th tm f else if kd = 2 then (if y_settled M od th tm f = true then y_val M (y_lat M od th 3 tm f) else if y_unlike M od th tm f = true then 0 else y_val M (y_lat M od th 2 tm f)) else y_val M (y_lat M od th kd tm f)
def y_has (od : Nat → Nat) (t : Nat) : Nat → Bool
  | 0 => false
  | k + 1 => y_has od t k || decide (od k = t)
theorem y_set_none {M : wM} {od : Nat → Nat} {th : Int32} {tm : Int64} (k : Nat) : y_set M od th tm none k = false := by
  induction k with
  | zero => rfl
  | succ k ih => rw [y_set, ih]; rfl
set_option maxHeartbeats 4000000 in
set_option maxRecDepth 100000 in
/-- M_latest -/
theorem k_M_latest (l : Launch) (D : va_G) (cA : Nat → ClassId) (o sz : Nat) (M : wM) (si : Nat) (hs : si < 8) (od : Nat → Nat) (f : Nat) (hf : f ≤ 300) (hod : ∀ j, j < f → M.1 8 (300 * si + j) = nI (od j) ∧ od j < 300) (th kd : Int32) (tm : Int64) : Met l y_M_latest (wm y_M_latest c_M_latest 10 (some .int)) { frames := 2, cells := 0, slots := 0, locals := 45 } (va_Pc [.ref (o + 0), .int (nI si), .int (nI f), .int th, .int kd, .long tm] (mB D cA o M sz)) (va_Qi (fun r M1 => M1 = M ∧ r = x_opt (y_lat M od th kd tm f)) (mQ D cA o) (mA o sz)) 0 0 (mA o sz) := by
  refine Met.ofW (cc := c_M_latest) (maxL := 10) (ret := (some .int)) (by decide) rfl ?_
  intro p e s m args below meth c s₁ B hml hv
  obtain ⟨rfl, hsz, hP, hK⟩ := hv
  have hx := B.exec
  have hb := B.bytes
  have hr := B.returns
  have hts := atoms_spec (ws := wm y_M_latest c_M_latest 10 (some .int)) B.pre
  have hown : s.vm.findClass "ShopDesksModel" = some m.cls := findClass_of_methodNamed B.named
  have hlocks := B.notSynchronized
  subst hsz
  have hS : va_S (mA o s.heap.size) s.heap s.heap [] := va_S.rf
  have hW : ∀ i, i < 17 → mA o s.heap.size (o + i) := fun i hi => wA_in hi
  have hl := lv_entry ([.ref (o + 0), .int (nI si), .int (nI f), .int th, .int kd, .long tm]) (n := 10) (Nat.le_of_ble_eq_true rfl)
  rw [lg_entry_eq]
  generalize (lg_sl ([.ref (o + 0), .int (nI si), .int (nI f), .int th, .int kd, .long tm]) ++ List.replicate (10 - (lg_sl ([.ref (o + 0), .int (nI si), .int (nI f), .int th, .int kd, .long tm])).length) Slot.unset).toArray = ls at hl ⊢
  have hl : lv_has ls 10 [(0, .ref (o + 0)), (1, .int (nI si)), (2, .int (nI f)), (3, .int th), (4, .int kd), (5, .long tm)] := hl
  refine lv_iconst (v := -1) hx hb d_M_latest_0 (by decide) ?_
  refine lv_istore (lv' := [(7, .int (-1)), (0, .ref (o + 0)), (1, .int (nI si)), (2, .int (nI f)), (3, .int th), (4, .int kd), (5, .long tm)]) hx hb d_M_latest_1 hl (by decide) rfl (fun ls hl => ?_)
  refine lv_iconst (v := 0) hx hb d_M_latest_3 (by decide) ?_
  refine lv_istore (lv' := [(8, .int 0), (7, .int (-1)), (0, .ref (o + 0)), (1, .int (nI si)), (2, .int (nI f)), (3, .int th), (4, .int kd), (5, .long tm)]) hx hb d_M_latest_4 hl (by decide) rfl (fun ls hl => ?_)
  have lp6 : ∀ (fuel : Nat) (k : Nat) (la : Int32), f - k < fuel → (k ≤ f) → (la = x_opt (y_lat M od th kd tm k)) → ∀ (H : Heap) (locs : List Loc), wP D cls_ (SM o cA) o 17 M H → va_S (mA o s.heap.size) s.heap H locs → ∀ (ls : Array Slot), lv_has ls 10 [(0, .ref (o + 0)), (1, .int (nI si)), (2, .int (nI f)), (3, .int th), (4, .int kd), (5, .long tm), (7, .int la), (8, .int (nI k))] → W p l e (headSpec (wm y_M_latest c_M_latest 10 (some .int)) { frames := 2, cells := 0, slots := 0, locals := 45 }).room s m ([.ref (o + 0), .int (nI si), .int (nI f), .int th, .int kd, .long tm] : List Value).toArray below meth c H locs 0 0 (MQ below (va_Qi (fun r M1 => M1 = M ∧ r = x_opt (y_lat M od th kd tm f)) (mQ D cA o) (mA o s.heap.size)) ([.ref (o + 0), .int (nI si), .int (nI f), .int th, .int kd, .long tm] : List Value).toArray s 0 0 (mA o s.heap.size)) (F0 m 6 ls []) := by
    intro fuel
    induction fuel with
    | zero => intro k la hfu; exact absurd hfu (Nat.not_lt_zero _)
    | succ fuel ih =>
      intro k la hfu hk hla H locs hP hS ls hl
      refine lv_iload hx hb d_M_latest_6 (lv_at hl 7 rfl) ?_
      refine lv_iload_n hx hb d_M_latest_8 rfl (lv_at hl 2 rfl) ?_
      refine lv_icmp_ge (tgt := 62) hx hb d_M_latest_9 (by decide) (fun c_1 => ?_) (fun c_1 => ?_)
      · have hkf : f ≤ k := i_le (by omega) (by omega) c_1
        refine lv_iload hx hb d_M_latest_62 (lv_at hl 6 rfl) ?_
        refine w_topi hla ?_
        exact W.iret (v := x_opt (y_lat M od th kd tm k)) hx hb hr (fun tz hz9 hW9 => ⟨⟨x_opt (y_lat M od th kd tm k), M, rfl, ⟨rfl, by rw [show k = f by omega]⟩, by rw [hz9]; exact hP, va_K.moved hW9.alike hK⟩, hS.F hz9⟩) hS.2.2 d_M_latest_64
      · have hkf : k < f := i_nle (by omega) (by omega) c_1
        have hod3 := (hod k hkf).2
        refine lv_aload_n hx hb d_M_latest_12 rfl (lv_at hl 0 rfl) ?_
        refine w_get (C := R_M) (T := F_M) (N := 22) (ci := 5) (v := .ref (o + 8)) hx hb hts inw_M hown hK hP 0 (by decide) SM_0 rfl 10 (by decide) (hts _ (al aF_M_32)) rfl d_M_latest_13 ?_
        refine lv_sipush (v := 300) hx hb d_M_latest_16 (by decide) ?_
        refine lv_iload_n hx hb d_M_latest_19 rfl (lv_at hl 1 rfl) ?_
        refine lv_imul hx hb d_M_latest_20 ?_
        refine lv_iload hx hb d_M_latest_21 (lv_at hl 7 rfl) ?_
        refine lv_iadd hx hb d_M_latest_23 ?_
        refine w_topi (y_idx 300 si k) ?_
        refine w_iald hx hb hK hP 8 0 (by decide) SM_8 rfl (k := (300 * si + k)) (by omega) (by decide) d_M_latest_24 ?_
        refine w_topi ((hod k hkf).1) ?_
        refine lv_istore (lv' := [(9, .int (nI (od k))), (0, .ref (o + 0)), (1, .int (nI si)), (2, .int (nI f)), (3, .int th), (4, .int kd), (5, .long tm), (7, .int la), (8, .int (nI k))]) hx hb d_M_latest_25 hl (by decide) rfl (fun ls hl => ?_)
        refine lv_aload_n hx hb d_M_latest_27 rfl (lv_at hl 1 rfl) ?_
        refine lv_iload hx hb d_M_latest_28 (lv_at hl 0 rfl) ?_
        refine lv_iload_n hx hb d_M_latest_30 rfl (lv_at hl 4 rfl) ?_
        refine lv_iload hx hb d_M_latest_31 (lv_at hl 5 rfl) ?_
        refine lv_lload hx hb d_M_latest_33 (lv_at hl 6 rfl) ?_
        refine w_Vi ⟨hx, hb, hml, hown, hts⟩ (k_M_speaks l D cA o _ M (od k) hod3 th kd tm) (kV hts 4 aK_M_speaks aM_M_104 aI_M_speaks aV_M_speaks aN_M nm_M_speaks rfl rfl ⟨(Nat.le_of_ble_eq_true rfl), (Nat.le_of_ble_eq_true rfl)⟩) hK hP (by decide) SM_0 rfl rfl hl.1 rfl (Nat.le_of_ble_eq_true rfl) d_M_latest_35 ⟨(Nat.le_of_ble_eq_true rfl), (Nat.le_of_ble_eq_true rfl)⟩ hS (fun q h => wA_le hS.1 h) (fun r_2 M_2 H locs hw_2 hP hzc hkc hS => ?_)
        rw [hw_2.1] at hP
        refine w_topi hw_2.2 ?_
        refine lv_if_eq (tgt := 52) hx hb d_M_latest_38 (by decide) (fun c_3 => ?_) (fun c_3 => ?_)
        · have hh := b2i_0 c_3
          refine lv_iload hx hb d_M_latest_52 (lv_at hl 7 rfl) ?_
          refine w_topi hla ?_
          refine lv_istore (lv' := [(7, .int (x_opt (y_lat M od th kd tm k))), (9, .int (nI (od k))), (0, .ref (o + 0)), (1, .int (nI si)), (2, .int (nI f)), (3, .int th), (4, .int kd), (5, .long tm), (8, .int (nI k))]) hx hb d_M_latest_54 hl (by decide) rfl (fun ls hl => ?_)
          refine lv_iinc (v := nI (k + 1)) (lv' := [(8, .int (nI (k + 1))), (7, .int (x_opt (y_lat M od th kd tm k))), (9, .int (nI (od k))), (0, .ref (o + 0)), (1, .int (nI si)), (2, .int (nI f)), (3, .int th), (4, .int kd), (5, .long tm)]) hx hb d_M_latest_56 hl (k := 8) rfl (w_inc k) (by decide) rfl (fun ls hl => ?_)
          refine lv_goto (tgt := 6) hx hb d_M_latest_59 (by decide) ?_
          exact ih (k + 1) (x_opt (y_lat M od th kd tm k)) (by omega) hkf (by rw [y_lat_f hh]) _ _ hP hS ls (lv_sub hl [3, 4, 5, 6, 7, 8, 1, 0] rfl)
        · have hh := b2i_1 c_3
          refine lv_aload_n hx hb d_M_latest_41 rfl (lv_at hl 1 rfl) ?_
          refine lv_iload hx hb d_M_latest_42 (lv_at hl 7 rfl) ?_
          refine w_topi hla ?_
          refine lv_iload hx hb d_M_latest_44 (lv_at hl 0 rfl) ?_
          refine w_Vi ⟨hx, hb, hml, hown, hts⟩ (k_M_later l D cA o _ M (y_lat M od th kd tm k) (y_lat_lt (fun j h => (hod j h).2) k hk) (od k) hod3) (kV hts 2 aK_M_later aM_M_108 aI_M_later aV_M_later aN_M nm_M_later rfl rfl ⟨(Nat.le_of_ble_eq_true rfl), (Nat.le_of_ble_eq_true rfl)⟩) hK hP (by decide) SM_0 rfl rfl hl.1 rfl (Nat.le_of_ble_eq_true rfl) d_M_latest_46 ⟨(Nat.le_of_ble_eq_true rfl), (Nat.le_of_ble_eq_true rfl)⟩ hS (fun q h => wA_le hS.1 h) (fun r_4 M_4 H locs hw_4 hP hzc hkc hS => ?_)
          rw [hw_4.1] at hP
          refine w_topi hw_4.2 ?_
          refine lv_goto (tgt := 54) hx hb d_M_latest_49 (by decide) ?_
          refine lv_istore (lv' := [(7, .int (nI (y_pick M (y_lat M od th kd tm k) (od k)))), (9, .int (nI (od k))), (0, .ref (o + 0)), (1, .int (nI si)), (2, .int (nI f)), (3, .int th), (4, .int kd), (5, .long tm), (8, .int (nI k))]) hx hb d_M_latest_54 hl (by decide) rfl (fun ls hl => ?_)
          refine lv_iinc (v := nI (k + 1)) (lv' := [(8, .int (nI (k + 1))), (7, .int (nI (y_pick M (y_lat M od th kd tm k) (od k)))), (9, .int (nI (od k))), (0, .ref (o + 0)), (1, .int (nI si)), (2, .int (nI f)), (3, .int th), (4, .int kd), (5, .long tm)]) hx hb d_M_latest_56 hl (k := 8) rfl (w_inc k) (by decide) rfl (fun ls hl => ?_)
          refine lv_goto (tgt := 6) hx hb d_M_latest_59 (by decide) ?_
          exact ih (k + 1) (nI (y_pick M (y_lat M od th kd tm k) (od k))) (by omega) hkf (by rw [y_lat_t hh]; rfl) _ _ hP hS ls (lv_sub hl [3, 4, 5, 6, 7, 8, 1, 0] rfl)
  exact lp6 ((f - 0) + 1) 0 (-1) (Nat.lt_succ_self _) (Nat.zero_le _) rfl _ _ hP hS ls (lv_sub hl [2, 3, 4, 5, 6, 7, 1, 0] rfl)
set_option maxHeartbeats 4000000 in
set_option maxRecDepth 100000 in
/-- M_isSettled -/
theorem k_M_isSettled (l : Launch) (D : va_G) (cA : Nat → ClassId) (o sz : Nat) (M : wM) (si : Nat) (hs : si < 8) (od : Nat → Nat) (f : Nat) (hf : f ≤ 300) (hod : ∀ j, j < f → M.1 8 (300 * si + j) = nI (od j) ∧ od j < 300) (th : Int32) (tm : Int64) : Met l y_M_isSettled (wm y_M_isSettled c_M_isSettled 10 (some .boolean)) { frames := 3, cells := 0, slots := 0, locals := 74 } (va_Pc [.ref (o + 0), .int (nI si), .int (nI f), .int th, .long tm] (mB D cA o M sz)) (va_Qi (fun r M1 => M1 = M ∧ r = b2i (y_settled M od th tm f)) (mQ D cA o) (mA o sz)) 0 0 (mA o sz) := by
  refine Met.ofW (cc := c_M_isSettled) (maxL := 10) (ret := (some .boolean)) (by decide) rfl ?_
  intro p e s m args below meth c s₁ B hml hv
  obtain ⟨rfl, hsz, hP, hK⟩ := hv
  have hx := B.exec
  have hb := B.bytes
  have hr := B.returns
  have hts := atoms_spec (ws := wm y_M_isSettled c_M_isSettled 10 (some .boolean)) B.pre
  have hown : s.vm.findClass "ShopDesksModel" = some m.cls := findClass_of_methodNamed B.named
  have hlocks := B.notSynchronized
  subst hsz
  have hS : va_S (mA o s.heap.size) s.heap s.heap [] := va_S.rf
  have hW : ∀ i, i < 17 → mA o s.heap.size (o + i) := fun i hi => wA_in hi
  have hl := lv_entry ([.ref (o + 0), .int (nI si), .int (nI f), .int th, .long tm]) (n := 10) (Nat.le_of_ble_eq_true rfl)
  rw [lg_entry_eq]
  generalize (lg_sl ([.ref (o + 0), .int (nI si), .int (nI f), .int th, .long tm]) ++ List.replicate (10 - (lg_sl ([.ref (o + 0), .int (nI si), .int (nI f), .int th, .long tm])).length) Slot.unset).toArray = ls at hl ⊢
  have hl : lv_has ls 10 [(0, .ref (o + 0)), (1, .int (nI si)), (2, .int (nI f)), (3, .int th), (4, .long tm)] := hl
  refine lv_aload_n hx hb d_M_isSettled_0 rfl (lv_at hl 0 rfl) ?_
  refine lv_iload_n hx hb d_M_isSettled_1 rfl (lv_at hl 1 rfl) ?_
  refine lv_iload_n hx hb d_M_isSettled_2 rfl (lv_at hl 2 rfl) ?_
  refine lv_iload_n hx hb d_M_isSettled_3 rfl (lv_at hl 3 rfl) ?_
  refine lv_iconst (v := 3) hx hb d_M_isSettled_4 (by decide) ?_
  refine lv_lload hx hb d_M_isSettled_5 (lv_at hl 4 rfl) ?_
  refine w_Vi ⟨hx, hb, hml, hown, hts⟩ (k_M_latest l D cA o _ M si hs od f hf hod th 3 tm) (kV hts 5 aK_M_latest aM_M_112 aI_M_latest aV_M_latest aN_M nm_M_latest rfl rfl ⟨(Nat.le_of_ble_eq_true rfl), (Nat.le_of_ble_eq_true rfl)⟩) hK hP (by decide) SM_0 rfl rfl hl.1 rfl (Nat.le_of_ble_eq_true rfl) d_M_isSettled_7 ⟨(Nat.le_of_ble_eq_true rfl), (Nat.le_of_ble_eq_true rfl)⟩ hS (fun q h => wA_le hS.1 h) (fun r_1 M_1 H locs hw_1 hP hzc hkc hS => ?_)
  rw [hw_1.1] at hP
  refine w_topi hw_1.2 ?_
  refine lv_istore (lv' := [(6, .int (x_opt (y_lat M od th 3 tm f))), (0, .ref (o + 0)), (1, .int (nI si)), (2, .int (nI f)), (3, .int th), (4, .long tm)]) hx hb d_M_isSettled_10 hl (by decide) rfl (fun ls hl => ?_)
  refine lv_iload hx hb d_M_isSettled_12 (lv_at hl 0 rfl) ?_
  have lp27 : ∀ (fuel : Nat) (k : Nat) (bb : Bool), f - k < fuel → (k ≤ f) → (bb = y_set M od th tm (y_lat M od th 3 tm f) k) → ∀ (H : Heap) (locs : List Loc), wP D cls_ (SM o cA) o 17 M H → va_S (mA o s.heap.size) s.heap H locs → ∀ (ls : Array Slot), lv_has ls 10 [(0, .ref (o + 0)), (1, .int (nI si)), (2, .int (nI f)), (3, .int th), (4, .long tm), (6, .int (x_opt (y_lat M od th 3 tm f))), (7, .int (b2i bb)), (8, .int (nI k))] → W p l e (headSpec (wm y_M_isSettled c_M_isSettled 10 (some .boolean)) { frames := 3, cells := 0, slots := 0, locals := 74 }).room s m ([.ref (o + 0), .int (nI si), .int (nI f), .int th, .long tm] : List Value).toArray below meth c H locs 0 0 (MQ below (va_Qi (fun r M1 => M1 = M ∧ r = b2i (y_settled M od th tm f)) (mQ D cA o) (mA o s.heap.size)) ([.ref (o + 0), .int (nI si), .int (nI f), .int th, .long tm] : List Value).toArray s 0 0 (mA o s.heap.size)) (F0 m 27 ls []) := by
    intro fuel
    induction fuel with
    | zero => intro k bb hfu; exact absurd hfu (Nat.not_lt_zero _)
    | succ fuel ih =>
      intro k bb hfu hk hbb H locs hP hS ls hl
      refine lv_iload hx hb d_M_isSettled_27 (lv_at hl 7 rfl) ?_
      refine lv_iload_n hx hb d_M_isSettled_29 rfl (lv_at hl 2 rfl) ?_
      refine lv_icmp_ge (tgt := 97) hx hb d_M_isSettled_30 (by decide) (fun c_2 => ?_) (fun c_2 => ?_)
      · have hkf : f ≤ k := i_le (by omega) (by omega) c_2
        refine lv_iload hx hb d_M_isSettled_97 (lv_at hl 6 rfl) ?_
        exact W.zret (v := b2i bb) hx hb hr (b2i_nar _) (fun tz hz9 hW9 => ⟨⟨b2i bb, M, rfl, ⟨rfl, by unfold y_settled; rw [hbb, show k = f by omega]⟩, by rw [hz9]; exact hP, va_K.moved hW9.alike hK⟩, hS.F hz9⟩) hS.2.2 d_M_isSettled_99
      · have hkf : k < f := i_nle (by omega) (by omega) c_2
        have hod3 := (hod k hkf).2
        refine lv_aload_n hx hb d_M_isSettled_33 rfl (lv_at hl 0 rfl) ?_
        refine w_get (C := R_M) (T := F_M) (N := 22) (ci := 5) (v := .ref (o + 8)) hx hb hts inw_M hown hK hP 0 (by decide) SM_0 rfl 10 (by decide) (hts _ (al aF_M_32)) rfl d_M_isSettled_34 ?_
        refine lv_sipush (v := 300) hx hb d_M_isSettled_37 (by decide) ?_
        refine lv_iload_n hx hb d_M_isSettled_40 rfl (lv_at hl 1 rfl) ?_
        refine lv_imul hx hb d_M_isSettled_41 ?_
        refine lv_iload hx hb d_M_isSettled_42 (lv_at hl 7 rfl) ?_
        refine lv_iadd hx hb d_M_isSettled_44 ?_
        refine w_topi (y_idx 300 si k) ?_
        refine w_iald hx hb hK hP 8 0 (by decide) SM_8 rfl (k := (300 * si + k)) (by omega) (by decide) d_M_isSettled_45 ?_
        refine w_topi ((hod k hkf).1) ?_
        refine lv_istore (lv' := [(9, .int (nI (od k))), (0, .ref (o + 0)), (1, .int (nI si)), (2, .int (nI f)), (3, .int th), (4, .long tm), (6, .int (x_opt (y_lat M od th 3 tm f))), (7, .int (b2i bb)), (8, .int (nI k))]) hx hb d_M_isSettled_46 hl (by decide) rfl (fun ls hl => ?_)
        refine lv_iload hx hb d_M_isSettled_48 (lv_at hl 7 rfl) ?_
        refine lv_if_eq (tgt := 88) hx hb d_M_isSettled_50 (by decide) (fun c_3 => ?_) (fun c_3 => ?_)
        · have hbt := b2i_0 c_3
          refine lv_iconst (v := 0) hx hb d_M_isSettled_88 (by decide) ?_
          refine lv_istore (lv' := [(7, .int 0), (9, .int (nI (od k))), (0, .ref (o + 0)), (1, .int (nI si)), (2, .int (nI f)), (3, .int th), (4, .long tm), (6, .int (x_opt (y_lat M od th 3 tm f))), (8, .int (nI k))]) hx hb d_M_isSettled_89 hl (by decide) rfl (fun ls hl => ?_)
          refine lv_iinc (v := nI (k + 1)) (lv' := [(8, .int (nI (k + 1))), (7, .int 0), (9, .int (nI (od k))), (0, .ref (o + 0)), (1, .int (nI si)), (2, .int (nI f)), (3, .int th), (4, .long tm), (6, .int (x_opt (y_lat M od th 3 tm f)))]) hx hb d_M_isSettled_91 hl (k := 8) rfl (w_inc k) (by decide) rfl (fun ls hl => ?_)
          refine lv_goto (tgt := 27) hx hb d_M_isSettled_94 (by decide) ?_
          exact ih (k + 1) false (by omega) hkf (by rw [y_set, ← hbb, hbt]; rfl) _ _ hP hS ls (lv_sub hl [3, 4, 5, 6, 7, 8, 1, 0] rfl)
        · have hbt := b2i_1 c_3
          refine lv_aload_n hx hb d_M_isSettled_53 rfl (lv_at hl 1 rfl) ?_
          refine lv_iload hx hb d_M_isSettled_54 (lv_at hl 0 rfl) ?_
          refine lv_iload_n hx hb d_M_isSettled_56 rfl (lv_at hl 4 rfl) ?_
          refine lv_iconst (v := 2) hx hb d_M_isSettled_57 (by decide) ?_
          refine lv_lload hx hb d_M_isSettled_58 (lv_at hl 5 rfl) ?_
          refine w_Vi ⟨hx, hb, hml, hown, hts⟩ (k_M_speaks l D cA o _ M (od k) hod3 th 2 tm) (kV hts 4 aK_M_speaks aM_M_104 aI_M_speaks aV_M_speaks aN_M nm_M_speaks rfl rfl ⟨(Nat.le_of_ble_eq_true rfl), (Nat.le_of_ble_eq_true rfl)⟩) hK hP (by decide) SM_0 rfl rfl hl.1 rfl (Nat.le_of_ble_eq_true rfl) d_M_isSettled_60 ⟨(Nat.le_of_ble_eq_true rfl), (Nat.le_of_ble_eq_true rfl)⟩ hS (fun q h => wA_le hS.1 h) (fun r_4 M_4 H locs hw_4 hP hzc hkc hS => ?_)
          rw [hw_4.1] at hP
          refine w_topi hw_4.2 ?_
          refine lv_if_eq (tgt := 84) hx hb d_M_isSettled_63 (by decide) (fun c_5 => ?_) (fun c_5 => ?_)
          · have hh := b2i_0 c_5
            refine lv_iconst (v := 1) hx hb d_M_isSettled_84 (by decide) ?_
            refine lv_goto (tgt := 89) hx hb d_M_isSettled_85 (by decide) ?_
            refine lv_istore (lv' := [(7, .int 1), (9, .int (nI (od k))), (0, .ref (o + 0)), (1, .int (nI si)), (2, .int (nI f)), (3, .int th), (4, .long tm), (6, .int (x_opt (y_lat M od th 3 tm f))), (8, .int (nI k))]) hx hb d_M_isSettled_89 hl (by decide) rfl (fun ls hl => ?_)
            refine lv_iinc (v := nI (k + 1)) (lv' := [(8, .int (nI (k + 1))), (7, .int 1), (9, .int (nI (od k))), (0, .ref (o + 0)), (1, .int (nI si)), (2, .int (nI f)), (3, .int th), (4, .long tm), (6, .int (x_opt (y_lat M od th 3 tm f)))]) hx hb d_M_isSettled_91 hl (k := 8) rfl (w_inc k) (by decide) rfl (fun ls hl => ?_)
            refine lv_goto (tgt := 27) hx hb d_M_isSettled_94 (by decide) ?_
            exact ih (k + 1) true (by omega) hkf (by rw [y_set, ← hbb, hbt, hh]; rfl) _ _ hP hS ls (lv_sub hl [3, 4, 5, 6, 7, 8, 1, 0] rfl)
          · have hh := b2i_1 c_5
            obtain ⟨u, hu⟩ : ∃ u, y_lat M od th 3 tm f = some u := by
              cases hq : y_lat M od th 3 tm f with
              | none => exact absurd (hbb.symm.trans hbt) (by rw [hq, y_set_none]; decide)
              | some u => exact ⟨u, rfl⟩
            have hu3 := y_lat_lt (fun j h => (hod j h).2) f (Nat.le_refl f) u hu
            have hux : x_opt (y_lat M od th 3 tm f) = nI u := by rw [hu]; rfl
            refine lv_aload_n hx hb d_M_isSettled_66 rfl (lv_at hl 1 rfl) ?_
            refine w_get (C := R_M) (T := F_M) (N := 22) (ci := 5) (v := .ref (o + 6)) hx hb hts inw_M hown hK hP 0 (by decide) SM_0 rfl 7 (by decide) (hts _ (al aF_M_26)) rfl d_M_isSettled_67 ?_
            refine lv_iload hx hb d_M_isSettled_70 (lv_at hl 6 rfl) ?_
            refine w_topi hux ?_
            refine w_lald hx hb hK hP 6 1 (by decide) SM_6 rfl (k := u) (by omega) (by decide) d_M_isSettled_72 ?_
            refine lv_aload_n hx hb d_M_isSettled_73 rfl (lv_at hl 1 rfl) ?_
            refine w_get (C := R_M) (T := F_M) (N := 22) (ci := 5) (v := .ref (o + 6)) hx hb hts inw_M hown hK hP 0 (by decide) SM_0 rfl 7 (by decide) (hts _ (al aF_M_26)) rfl d_M_isSettled_74 ?_
            refine lv_iload hx hb d_M_isSettled_77 (lv_at hl 0 rfl) ?_
            refine w_lald hx hb hK hP 6 1 (by decide) SM_6 rfl (k := (od k)) (by omega) (by decide) d_M_isSettled_79 ?_
            refine W.lcmp hx hb d_M_isSettled_80 ?_
            refine lv_if_lt (tgt := 88) hx hb d_M_isSettled_81 (by decide) (fun c_6 => ?_) (fun c_6 => ?_)
            · rw [lg_cmp_lt] at c_6
              have q1 := c_6
              refine lv_iconst (v := 0) hx hb d_M_isSettled_88 (by decide) ?_
              refine lv_istore (lv' := [(7, .int 0), (9, .int (nI (od k))), (0, .ref (o + 0)), (1, .int (nI si)), (2, .int (nI f)), (3, .int th), (4, .long tm), (6, .int (x_opt (y_lat M od th 3 tm f))), (8, .int (nI k))]) hx hb d_M_isSettled_89 hl (by decide) rfl (fun ls hl => ?_)
              refine lv_iinc (v := nI (k + 1)) (lv' := [(8, .int (nI (k + 1))), (7, .int 0), (9, .int (nI (od k))), (0, .ref (o + 0)), (1, .int (nI si)), (2, .int (nI f)), (3, .int th), (4, .long tm), (6, .int (x_opt (y_lat M od th 3 tm f)))]) hx hb d_M_isSettled_91 hl (k := 8) rfl (w_inc k) (by decide) rfl (fun ls hl => ?_)
              refine lv_goto (tgt := 27) hx hb d_M_isSettled_94 (by decide) ?_
              exact ih (k + 1) false (by omega) hkf (by rw [y_set, ← hbb, hbt, hh, hu]; simp [y_bef, q1]) _ _ hP hS ls (lv_sub hl [3, 4, 5, 6, 7, 8, 1, 0] rfl)
            · rw [lg_cmp_lt] at c_6
              have q1 := c_6
              refine lv_iconst (v := 1) hx hb d_M_isSettled_84 (by decide) ?_
              refine lv_goto (tgt := 89) hx hb d_M_isSettled_85 (by decide) ?_
              refine lv_istore (lv' := [(7, .int 1), (9, .int (nI (od k))), (0, .ref (o + 0)), (1, .int (nI si)), (2, .int (nI f)), (3, .int th), (4, .long tm), (6, .int (x_opt (y_lat M od th 3 tm f))), (8, .int (nI k))]) hx hb d_M_isSettled_89 hl (by decide) rfl (fun ls hl => ?_)
              refine lv_iinc (v := nI (k + 1)) (lv' := [(8, .int (nI (k + 1))), (7, .int 1), (9, .int (nI (od k))), (0, .ref (o + 0)), (1, .int (nI si)), (2, .int (nI f)), (3, .int th), (4, .long tm), (6, .int (x_opt (y_lat M od th 3 tm f)))]) hx hb d_M_isSettled_91 hl (k := 8) rfl (w_inc k) (by decide) rfl (fun ls hl => ?_)
              refine lv_goto (tgt := 27) hx hb d_M_isSettled_94 (by decide) ?_
              exact ih (k + 1) true (by omega) hkf (by rw [y_set, ← hbb, hbt, hh, hu]; simp [y_bef, q1]) _ _ hP hS ls (lv_sub hl [3, 4, 5, 6, 7, 8, 1, 0] rfl)
  refine lv_if_lt (tgt := 21) hx hb d_M_isSettled_14 (by decide) (fun c_7 => ?_) (fun c_7 => ?_)
  · have hn := x_opt_lt (y_lat_lt (fun j h => (hod j h).2) f (Nat.le_refl f)) c_7
    refine lv_iconst (v := 0) hx hb d_M_isSettled_21 (by decide) ?_
    refine lv_istore (lv' := [(7, .int 0), (6, .int (x_opt (y_lat M od th 3 tm f))), (0, .ref (o + 0)), (1, .int (nI si)), (2, .int (nI f)), (3, .int th), (4, .long tm)]) hx hb d_M_isSettled_22 hl (by decide) rfl (fun ls hl => ?_)
    refine lv_iconst (v := 0) hx hb d_M_isSettled_24 (by decide) ?_
    refine lv_istore (lv' := [(8, .int 0), (7, .int 0), (6, .int (x_opt (y_lat M od th 3 tm f))), (0, .ref (o + 0)), (1, .int (nI si)), (2, .int (nI f)), (3, .int th), (4, .long tm)]) hx hb d_M_isSettled_25 hl (by decide) rfl (fun ls hl => ?_)
    exact lp27 ((f - 0) + 1) 0 false (Nat.lt_succ_self _) (Nat.zero_le _) (by rw [y_set, hn]; rfl) _ _ hP hS ls (lv_sub hl [3, 4, 5, 6, 7, 2, 1, 0] rfl)
  · obtain ⟨u, hu⟩ := x_opt_nlt c_7
    refine lv_iconst (v := 1) hx hb d_M_isSettled_17 (by decide) ?_
    refine lv_goto (tgt := 22) hx hb d_M_isSettled_18 (by decide) ?_
    refine lv_istore (lv' := [(7, .int 1), (6, .int (x_opt (y_lat M od th 3 tm f))), (0, .ref (o + 0)), (1, .int (nI si)), (2, .int (nI f)), (3, .int th), (4, .long tm)]) hx hb d_M_isSettled_22 hl (by decide) rfl (fun ls hl => ?_)
    refine lv_iconst (v := 0) hx hb d_M_isSettled_24 (by decide) ?_
    refine lv_istore (lv' := [(8, .int 0), (7, .int 1), (6, .int (x_opt (y_lat M od th 3 tm f))), (0, .ref (o + 0)), (1, .int (nI si)), (2, .int (nI f)), (3, .int th), (4, .long tm)]) hx hb d_M_isSettled_25 hl (by decide) rfl (fun ls hl => ?_)
    exact lp27 ((f - 0) + 1) 0 true (Nat.lt_succ_self _) (Nat.zero_le _) (by rw [y_set, hu]; rfl) _ _ hP hS ls (lv_sub hl [3, 4, 5, 6, 7, 2, 1, 0] rfl)
set_option maxHeartbeats 4000000 in
set_option maxRecDepth 100000 in
/-- M_areUnlike -/
theorem k_M_areUnlike (l : Launch) (D : va_G) (cA : Nat → ClassId) (o sz : Nat) (M : wM) (si : Nat) (hs : si < 8) (od : Nat → Nat) (f : Nat) (hf : f ≤ 300) (hod : ∀ j, j < f → M.1 8 (300 * si + j) = nI (od j) ∧ od j < 300) (th : Int32) (tm : Int64) : Met l y_M_areUnlike (wm y_M_areUnlike c_M_areUnlike 10 (some .boolean)) { frames := 1, cells := 0, slots := 0, locals := 25 } (va_Pc [.ref (o + 0), .int (nI si), .int (nI f), .int th, .long tm] (mB D cA o M sz)) (va_Qi (fun r M1 => M1 = M ∧ r = b2i (y_unlike M od th tm f)) (mQ D cA o) (mA o sz)) 0 0 (mA o sz) := by
  refine Met.ofW (cc := c_M_areUnlike) (maxL := 10) (ret := (some .boolean)) (by decide) rfl ?_
  intro p e s m args below meth c s₁ B hml hv
  obtain ⟨rfl, hsz, hP, hK⟩ := hv
  have hx := B.exec
  have hb := B.bytes
  have hr := B.returns
  have hts := atoms_spec (ws := wm y_M_areUnlike c_M_areUnlike 10 (some .boolean)) B.pre
  have hown : s.vm.findClass "ShopDesksModel" = some m.cls := findClass_of_methodNamed B.named
  have hlocks := B.notSynchronized
  subst hsz
  have hS : va_S (mA o s.heap.size) s.heap s.heap [] := va_S.rf
  have hW : ∀ i, i < 17 → mA o s.heap.size (o + i) := fun i hi => wA_in hi
  have hl := lv_entry ([.ref (o + 0), .int (nI si), .int (nI f), .int th, .long tm]) (n := 10) (Nat.le_of_ble_eq_true rfl)
  rw [lg_entry_eq]
  generalize (lg_sl ([.ref (o + 0), .int (nI si), .int (nI f), .int th, .long tm]) ++ List.replicate (10 - (lg_sl ([.ref (o + 0), .int (nI si), .int (nI f), .int th, .long tm])).length) Slot.unset).toArray = ls at hl ⊢
  have hl : lv_has ls 10 [(0, .ref (o + 0)), (1, .int (nI si)), (2, .int (nI f)), (3, .int th), (4, .long tm)] := hl
  refine lv_iconst (v := 0) hx hb d_M_areUnlike_0 (by decide) ?_
  refine lv_istore (lv' := [(6, .int 0), (0, .ref (o + 0)), (1, .int (nI si)), (2, .int (nI f)), (3, .int th), (4, .long tm)]) hx hb d_M_areUnlike_1 hl (by decide) rfl (fun ls hl => ?_)
  refine lv_iconst (v := -1) hx hb d_M_areUnlike_3 (by decide) ?_
  refine lv_istore (lv' := [(7, .int (-1)), (6, .int 0), (0, .ref (o + 0)), (1, .int (nI si)), (2, .int (nI f)), (3, .int th), (4, .long tm)]) hx hb d_M_areUnlike_4 hl (by decide) rfl (fun ls hl => ?_)
  refine lv_iconst (v := 0) hx hb d_M_areUnlike_6 (by decide) ?_
  refine lv_istore (lv' := [(8, .int 0), (7, .int (-1)), (6, .int 0), (0, .ref (o + 0)), (1, .int (nI si)), (2, .int (nI f)), (3, .int th), (4, .long tm)]) hx hb d_M_areUnlike_7 hl (by decide) rfl (fun ls hl => ?_)
  have lp9 : ∀ (fuel : Nat) (k : Nat) (bb : Bool) (qq : Option Nat), f - k < fuel → (k ≤ f) → ((bb, qq) = y_unl M od th tm k) → ∀ (H : Heap) (locs : List Loc), wP D cls_ (SM o cA) o 17 M H → va_S (mA o s.heap.size) s.heap H locs → ∀ (ls : Array Slot), lv_has ls 10 [(0, .ref (o + 0)), (1, .int (nI si)), (2, .int (nI f)), (3, .int th), (4, .long tm), (6, .int (b2i bb)), (7, .int (x_opt qq)), (8, .int (nI k))] → W p l e (headSpec (wm y_M_areUnlike c_M_areUnlike 10 (some .boolean)) { frames := 1, cells := 0, slots := 0, locals := 25 }).room s m ([.ref (o + 0), .int (nI si), .int (nI f), .int th, .long tm] : List Value).toArray below meth c H locs 0 0 (MQ below (va_Qi (fun r M1 => M1 = M ∧ r = b2i (y_unlike M od th tm f)) (mQ D cA o) (mA o s.heap.size)) ([.ref (o + 0), .int (nI si), .int (nI f), .int th, .long tm] : List Value).toArray s 0 0 (mA o s.heap.size)) (F0 m 9 ls []) := by
    intro fuel
    induction fuel with
    | zero => intro k bb qq hfu; exact absurd hfu (Nat.not_lt_zero _)
    | succ fuel ih =>
      intro k bb qq hfu hk hbq H locs hP hS ls hl
      refine lv_iload hx hb d_M_areUnlike_9 (lv_at hl 7 rfl) ?_
      refine lv_iload_n hx hb d_M_areUnlike_11 rfl (lv_at hl 2 rfl) ?_
      refine lv_icmp_ge (tgt := 88) hx hb d_M_areUnlike_12 (by decide) (fun c_1 => ?_) (fun c_1 => ?_)
      · have hkf : f ≤ k := i_le (by omega) (by omega) c_1
        refine lv_iload hx hb d_M_areUnlike_88 (lv_at hl 5 rfl) ?_
        exact W.zret (v := b2i bb) hx hb hr (b2i_nar _) (fun tz hz9 hW9 => ⟨⟨b2i bb, M, rfl, ⟨rfl, by unfold y_unlike; rw [← show k = f by omega, ← hbq]⟩, by rw [hz9]; exact hP, va_K.moved hW9.alike hK⟩, hS.F hz9⟩) hS.2.2 d_M_areUnlike_90
      · have hkf : k < f := i_nle (by omega) (by omega) c_1
        have hod3 := (hod k hkf).2
        refine lv_aload_n hx hb d_M_areUnlike_15 rfl (lv_at hl 0 rfl) ?_
        refine w_get (C := R_M) (T := F_M) (N := 22) (ci := 5) (v := .ref (o + 8)) hx hb hts inw_M hown hK hP 0 (by decide) SM_0 rfl 10 (by decide) (hts _ (al aF_M_32)) rfl d_M_areUnlike_16 ?_
        refine lv_sipush (v := 300) hx hb d_M_areUnlike_19 (by decide) ?_
        refine lv_iload_n hx hb d_M_areUnlike_22 rfl (lv_at hl 1 rfl) ?_
        refine lv_imul hx hb d_M_areUnlike_23 ?_
        refine lv_iload hx hb d_M_areUnlike_24 (lv_at hl 7 rfl) ?_
        refine lv_iadd hx hb d_M_areUnlike_26 ?_
        refine w_topi (y_idx 300 si k) ?_
        refine w_iald hx hb hK hP 8 0 (by decide) SM_8 rfl (k := (300 * si + k)) (by omega) (by decide) d_M_areUnlike_27 ?_
        refine w_topi ((hod k hkf).1) ?_
        refine lv_istore (lv' := [(9, .int (nI (od k))), (0, .ref (o + 0)), (1, .int (nI si)), (2, .int (nI f)), (3, .int th), (4, .long tm), (6, .int (b2i bb)), (7, .int (x_opt qq)), (8, .int (nI k))]) hx hb d_M_areUnlike_28 hl (by decide) rfl (fun ls hl => ?_)
        refine lv_aload_n hx hb d_M_areUnlike_30 rfl (lv_at hl 1 rfl) ?_
        refine lv_iload hx hb d_M_areUnlike_31 (lv_at hl 0 rfl) ?_
        refine lv_iload_n hx hb d_M_areUnlike_33 rfl (lv_at hl 4 rfl) ?_
        refine lv_iconst (v := 2) hx hb d_M_areUnlike_34 (by decide) ?_
        refine lv_lload hx hb d_M_areUnlike_35 (lv_at hl 5 rfl) ?_
        refine w_Vi ⟨hx, hb, hml, hown, hts⟩ (k_M_speaks l D cA o _ M (od k) hod3 th 2 tm) (kV hts 4 aK_M_speaks aM_M_104 aI_M_speaks aV_M_speaks aN_M nm_M_speaks rfl rfl ⟨(Nat.le_of_ble_eq_true rfl), (Nat.le_of_ble_eq_true rfl)⟩) hK hP (by decide) SM_0 rfl rfl hl.1 rfl (Nat.le_of_ble_eq_true rfl) d_M_areUnlike_37 ⟨(Nat.le_of_ble_eq_true rfl), (Nat.le_of_ble_eq_true rfl)⟩ hS (fun q h => wA_le hS.1 h) (fun r_2 M_2 H locs hw_2 hP hzc hkc hS => ?_)
        rw [hw_2.1] at hP
        refine w_topi hw_2.2 ?_
        refine lv_if_eq (tgt := 82) hx hb d_M_areUnlike_40 (by decide) (fun c_3 => ?_) (fun c_3 => ?_)
        · have hh := b2i_0 c_3
          refine lv_iinc (v := nI (k + 1)) (lv' := [(8, .int (nI (k + 1))), (9, .int (nI (od k))), (0, .ref (o + 0)), (1, .int (nI si)), (2, .int (nI f)), (3, .int th), (4, .long tm), (6, .int (b2i bb)), (7, .int (x_opt qq))]) hx hb d_M_areUnlike_82 hl (k := 8) rfl (w_inc k) (by decide) rfl (fun ls hl => ?_)
          refine lv_goto (tgt := 9) hx hb d_M_areUnlike_85 (by decide) ?_
          exact ih (k + 1) bb qq (by omega) hkf (by rw [y_unl_f hh]; exact hbq) _ _ hP hS ls (lv_sub hl [2, 3, 4, 5, 6, 7, 8, 0] rfl)
        · have hh := b2i_1 c_3
          have hqlt : ∀ u, qq = some u → u < 300 := fun u e => y_unl_lt (fun j h => (hod j h).2) k hk u (by rw [← hbq]; exact e)
          refine lv_iload hx hb d_M_areUnlike_43 (lv_at hl 6 rfl) ?_
          refine lv_if_ne (tgt := 71) hx hb d_M_areUnlike_45 (by decide) (fun c_4 => ?_) (fun c_4 => ?_)
          · have hbt := b2i_1 c_4
            refine lv_iconst (v := 1) hx hb d_M_areUnlike_71 (by decide) ?_
            refine lv_goto (tgt := 76) hx hb d_M_areUnlike_72 (by decide) ?_
            refine lv_istore (lv' := [(6, .int 1), (9, .int (nI (od k))), (0, .ref (o + 0)), (1, .int (nI si)), (2, .int (nI f)), (3, .int th), (4, .long tm), (7, .int (x_opt qq)), (8, .int (nI k))]) hx hb d_M_areUnlike_76 hl (by decide) rfl (fun ls hl => ?_)
            refine lv_iload hx hb d_M_areUnlike_78 (lv_at hl 1 rfl) ?_
            refine lv_istore (lv' := [(7, .int (nI (od k))), (6, .int 1), (9, .int (nI (od k))), (0, .ref (o + 0)), (1, .int (nI si)), (2, .int (nI f)), (3, .int th), (4, .long tm), (8, .int (nI k))]) hx hb d_M_areUnlike_80 hl (by decide) rfl (fun ls hl => ?_)
            refine lv_iinc (v := nI (k + 1)) (lv' := [(8, .int (nI (k + 1))), (7, .int (nI (od k))), (6, .int 1), (9, .int (nI (od k))), (0, .ref (o + 0)), (1, .int (nI si)), (2, .int (nI f)), (3, .int th), (4, .long tm)]) hx hb d_M_areUnlike_82 hl (k := 8) rfl (w_inc k) (by decide) rfl (fun ls hl => ?_)
            refine lv_goto (tgt := 9) hx hb d_M_areUnlike_85 (by decide) ?_
            exact ih (k + 1) true (some (od k)) (by omega) hkf (by rw [y_unl_t hh hbq, hbt]; rfl) _ _ hP hS ls (lv_sub hl [4, 5, 6, 7, 8, 2, 1, 0] rfl)
          · have hbt := b2i_0 c_4
            refine lv_iload hx hb d_M_areUnlike_48 (lv_at hl 7 rfl) ?_
            refine lv_if_lt (tgt := 75) hx hb d_M_areUnlike_50 (by decide) (fun c_5 => ?_) (fun c_5 => ?_)
            · have hn := x_opt_lt hqlt c_5
              refine lv_iconst (v := 0) hx hb d_M_areUnlike_75 (by decide) ?_
              refine lv_istore (lv' := [(6, .int 0), (9, .int (nI (od k))), (0, .ref (o + 0)), (1, .int (nI si)), (2, .int (nI f)), (3, .int th), (4, .long tm), (7, .int (x_opt qq)), (8, .int (nI k))]) hx hb d_M_areUnlike_76 hl (by decide) rfl (fun ls hl => ?_)
              refine lv_iload hx hb d_M_areUnlike_78 (lv_at hl 1 rfl) ?_
              refine lv_istore (lv' := [(7, .int (nI (od k))), (6, .int 0), (9, .int (nI (od k))), (0, .ref (o + 0)), (1, .int (nI si)), (2, .int (nI f)), (3, .int th), (4, .long tm), (8, .int (nI k))]) hx hb d_M_areUnlike_80 hl (by decide) rfl (fun ls hl => ?_)
              refine lv_iinc (v := nI (k + 1)) (lv' := [(8, .int (nI (k + 1))), (7, .int (nI (od k))), (6, .int 0), (9, .int (nI (od k))), (0, .ref (o + 0)), (1, .int (nI si)), (2, .int (nI f)), (3, .int th), (4, .long tm)]) hx hb d_M_areUnlike_82 hl (k := 8) rfl (w_inc k) (by decide) rfl (fun ls hl => ?_)
              refine lv_goto (tgt := 9) hx hb d_M_areUnlike_85 (by decide) ?_
              exact ih (k + 1) false (some (od k)) (by omega) hkf (by rw [y_unl_t hh hbq, hbt, hn]; rfl) _ _ hP hS ls (lv_sub hl [4, 5, 6, 7, 8, 2, 1, 0] rfl)
            · obtain ⟨u, hu⟩ := x_opt_nlt c_5
              have hu3 := hqlt u hu
              have hux : x_opt qq = nI u := by rw [hu]; rfl
              refine lv_aload_n hx hb d_M_areUnlike_53 rfl (lv_at hl 1 rfl) ?_
              refine w_get (C := R_M) (T := F_M) (N := 22) (ci := 5) (v := .ref (o + 5)) hx hb hts inw_M hown hK hP 0 (by decide) SM_0 rfl 6 (by decide) (hts _ (al aF_M_23)) rfl d_M_areUnlike_54 ?_
              refine lv_iload hx hb d_M_areUnlike_57 (lv_at hl 7 rfl) ?_
              refine w_topi hux ?_
              refine w_lald hx hb hK hP 5 1 (by decide) SM_5 rfl (k := u) (by omega) (by decide) d_M_areUnlike_59 ?_
              refine lv_aload_n hx hb d_M_areUnlike_60 rfl (lv_at hl 1 rfl) ?_
              refine w_get (C := R_M) (T := F_M) (N := 22) (ci := 5) (v := .ref (o + 5)) hx hb hts inw_M hown hK hP 0 (by decide) SM_0 rfl 6 (by decide) (hts _ (al aF_M_23)) rfl d_M_areUnlike_61 ?_
              refine lv_iload hx hb d_M_areUnlike_64 (lv_at hl 0 rfl) ?_
              refine w_lald hx hb hK hP 5 1 (by decide) SM_5 rfl (k := (od k)) (by omega) (by decide) d_M_areUnlike_66 ?_
              refine W.lcmp hx hb d_M_areUnlike_67 ?_
              refine lv_if_eq (tgt := 75) hx hb d_M_areUnlike_68 (by decide) (fun c_6 => ?_) (fun c_6 => ?_)
              · rw [lg_cmp_eq] at c_6
                have q1 := c_6
                refine lv_iconst (v := 0) hx hb d_M_areUnlike_75 (by decide) ?_
                refine lv_istore (lv' := [(6, .int 0), (9, .int (nI (od k))), (0, .ref (o + 0)), (1, .int (nI si)), (2, .int (nI f)), (3, .int th), (4, .long tm), (7, .int (x_opt qq)), (8, .int (nI k))]) hx hb d_M_areUnlike_76 hl (by decide) rfl (fun ls hl => ?_)
                refine lv_iload hx hb d_M_areUnlike_78 (lv_at hl 1 rfl) ?_
                refine lv_istore (lv' := [(7, .int (nI (od k))), (6, .int 0), (9, .int (nI (od k))), (0, .ref (o + 0)), (1, .int (nI si)), (2, .int (nI f)), (3, .int th), (4, .long tm), (8, .int (nI k))]) hx hb d_M_areUnlike_80 hl (by decide) rfl (fun ls hl => ?_)
                refine lv_iinc (v := nI (k + 1)) (lv' := [(8, .int (nI (k + 1))), (7, .int (nI (od k))), (6, .int 0), (9, .int (nI (od k))), (0, .ref (o + 0)), (1, .int (nI si)), (2, .int (nI f)), (3, .int th), (4, .long tm)]) hx hb d_M_areUnlike_82 hl (k := 8) rfl (w_inc k) (by decide) rfl (fun ls hl => ?_)
                refine lv_goto (tgt := 9) hx hb d_M_areUnlike_85 (by decide) ?_
                exact ih (k + 1) false (some (od k)) (by omega) hkf (by rw [y_unl_t hh hbq, hbt, hu]; simp [y_dif, q1]) _ _ hP hS ls (lv_sub hl [4, 5, 6, 7, 8, 2, 1, 0] rfl)
              · rw [lg_cmp_eq] at c_6
                have q1 := c_6
                refine lv_iconst (v := 1) hx hb d_M_areUnlike_71 (by decide) ?_
                refine lv_goto (tgt := 76) hx hb d_M_areUnlike_72 (by decide) ?_
                refine lv_istore (lv' := [(6, .int 1), (9, .int (nI (od k))), (0, .ref (o + 0)), (1, .int (nI si)), (2, .int (nI f)), (3, .int th), (4, .long tm), (7, .int (x_opt qq)), (8, .int (nI k))]) hx hb d_M_areUnlike_76 hl (by decide) rfl (fun ls hl => ?_)
                refine lv_iload hx hb d_M_areUnlike_78 (lv_at hl 1 rfl) ?_
                refine lv_istore (lv' := [(7, .int (nI (od k))), (6, .int 1), (9, .int (nI (od k))), (0, .ref (o + 0)), (1, .int (nI si)), (2, .int (nI f)), (3, .int th), (4, .long tm), (8, .int (nI k))]) hx hb d_M_areUnlike_80 hl (by decide) rfl (fun ls hl => ?_)
                refine lv_iinc (v := nI (k + 1)) (lv' := [(8, .int (nI (k + 1))), (7, .int (nI (od k))), (6, .int 1), (9, .int (nI (od k))), (0, .ref (o + 0)), (1, .int (nI si)), (2, .int (nI f)), (3, .int th), (4, .long tm)]) hx hb d_M_areUnlike_82 hl (k := 8) rfl (w_inc k) (by decide) rfl (fun ls hl => ?_)
                refine lv_goto (tgt := 9) hx hb d_M_areUnlike_85 (by decide) ?_
                exact ih (k + 1) true (some (od k)) (by omega) hkf (by rw [y_unl_t hh hbq, hbt, hu]; simp [y_dif, q1]) _ _ hP hS ls (lv_sub hl [4, 5, 6, 7, 8, 2, 1, 0] rfl)
  exact lp9 ((f - 0) + 1) 0 false none (Nat.lt_succ_self _) (Nat.zero_le _) rfl _ _ hP hS ls (lv_sub hl [3, 4, 5, 6, 7, 2, 1, 0] rfl)
set_option maxHeartbeats 4000000 in
set_option maxRecDepth 100000 in
/-- M_known -/
theorem k_M_known (l : Launch) (D : va_G) (cA : Nat → ClassId) (o sz : Nat) (M : wM) (si : Nat) (hs : si < 8) (od : Nat → Nat) (f : Nat) (hf : f ≤ 300) (hod : ∀ j, j < f → M.1 8 (300 * si + j) = nI (od j) ∧ od j < 300) (th kd : Int32) (tm : Int64) : Met l y_M_known (wm y_M_known c_M_known 11 (some .long)) { frames := 4, cells := 0, slots := 0, locals := 103 } (va_Pc [.ref (o + 0), .int (nI si), .int (nI f), .int th, .int kd, .long tm] (mB D cA o M sz)) (va_Ql (fun r M1 => M1 = M ∧ r = y_known M od th kd tm f) (mQ D cA o) (mA o sz)) 0 0 (mA o sz) := by
  refine Met.ofW (cc := c_M_known) (maxL := 11) (ret := (some .long)) (by decide) rfl ?_
  intro p e s m args below meth c s₁ B hml hv
  obtain ⟨rfl, hsz, hP, hK⟩ := hv
  have hx := B.exec
  have hb := B.bytes
  have hr := B.returns
  have hts := atoms_spec (ws := wm y_M_known c_M_known 11 (some .long)) B.pre
  have hown : s.vm.findClass "ShopDesksModel" = some m.cls := findClass_of_methodNamed B.named
  have hlocks := B.notSynchronized
  subst hsz
  have hS : va_S (mA o s.heap.size) s.heap s.heap [] := va_S.rf
  have hW : ∀ i, i < 17 → mA o s.heap.size (o + i) := fun i hi => wA_in hi
  have hl := lv_entry ([.ref (o + 0), .int (nI si), .int (nI f), .int th, .int kd, .long tm]) (n := 11) (Nat.le_of_ble_eq_true rfl)
  rw [lg_entry_eq]
  generalize (lg_sl ([.ref (o + 0), .int (nI si), .int (nI f), .int th, .int kd, .long tm]) ++ List.replicate (11 - (lg_sl ([.ref (o + 0), .int (nI si), .int (nI f), .int th, .int kd, .long tm])).length) Slot.unset).toArray = ls at hl ⊢
  have hl : lv_has ls 11 [(0, .ref (o + 0)), (1, .int (nI si)), (2, .int (nI f)), (3, .int th), (4, .int kd), (5, .long tm)] := hl
  refine lv_iload hx hb d_M_known_0 (lv_at hl 4 rfl) ?_
  refine lv_if_ne (tgt := 70) hx hb d_M_known_2 (by decide) (fun c_1 => ?_) (fun c_1 => ?_)
  · have q0 := c_1
    refine lv_iload hx hb d_M_known_70 (lv_at hl 4 rfl) ?_
    refine lv_istore (lv' := [(7, .int kd), (0, .ref (o + 0)), (1, .int (nI si)), (2, .int (nI f)), (3, .int th), (4, .int kd), (5, .long tm)]) hx hb d_M_known_72 hl (by decide) rfl (fun ls hl => ?_)
    refine lv_iload hx hb d_M_known_74 (lv_at hl 5 rfl) ?_
    refine lv_iconst (v := 2) hx hb d_M_known_76 (by decide) ?_
    refine lv_icmp_ne (tgt := 98) hx hb d_M_known_77 (by decide) (fun c_2 => ?_) (fun c_2 => ?_)
    · have q2 := c_2
      refine lv_iload hx hb d_M_known_98 (lv_at hl 5 rfl) ?_
      refine lv_iconst (v := 2) hx hb d_M_known_100 (by decide) ?_
      refine lv_icmp_ne (tgt := 118) hx hb d_M_known_101 (by decide) (fun c_3 => ?_) (fun c_3 => ?_)
      · refine lv_aload_n hx hb d_M_known_118 rfl (lv_at hl 1 rfl) ?_
        refine lv_iload_n hx hb d_M_known_119 rfl (lv_at hl 2 rfl) ?_
        refine lv_iload_n hx hb d_M_known_120 rfl (lv_at hl 3 rfl) ?_
        refine lv_iload_n hx hb d_M_known_121 rfl (lv_at hl 4 rfl) ?_
        refine lv_iload hx hb d_M_known_122 (lv_at hl 0 rfl) ?_
        refine lv_lload hx hb d_M_known_124 (lv_at hl 6 rfl) ?_
        refine w_Vi ⟨hx, hb, hml, hown, hts⟩ (k_M_latest l D cA o _ M si hs od f hf hod th kd tm) (kV hts 5 aK_M_latest aM_M_112 aI_M_latest aV_M_latest aN_M nm_M_latest rfl rfl ⟨(Nat.le_of_ble_eq_true rfl), (Nat.le_of_ble_eq_true rfl)⟩) hK hP (by decide) SM_0 rfl rfl hl.1 rfl (Nat.le_of_ble_eq_true rfl) d_M_known_126 ⟨(Nat.le_of_ble_eq_true rfl), (Nat.le_of_ble_eq_true rfl)⟩ hS (fun q h => wA_le hS.1 h) (fun r_4 M_4 H locs hw_4 hP hzc hkc hS => ?_)
        rw [hw_4.1] at hP
        refine w_topi hw_4.2 ?_
        refine lv_istore (lv' := [(8, .int (x_opt (y_lat M od th kd tm f))), (7, .int kd), (0, .ref (o + 0)), (1, .int (nI si)), (2, .int (nI f)), (3, .int th), (4, .int kd), (5, .long tm)]) hx hb d_M_known_129 hl (by decide) rfl (fun ls hl => ?_)
        refine lv_iload hx hb d_M_known_131 (lv_at hl 0 rfl) ?_
        refine lv_if_ge (tgt := 140) hx hb d_M_known_133 (by decide) (fun c_5 => ?_) (fun c_5 => ?_)
        · obtain ⟨u, hu⟩ := x_opt_ge c_5
          have hu3 := y_lat_lt (fun j h => (hod j h).2) f (Nat.le_refl f) u hu
          refine lv_aload_n hx hb d_M_known_140 rfl (lv_at hl 2 rfl) ?_
          refine w_get (C := R_M) (T := F_M) (N := 22) (ci := 5) (v := .ref (o + 5)) hx hb hts inw_M hown hK hP 0 (by decide) SM_0 rfl 6 (by decide) (hts _ (al aF_M_23)) rfl d_M_known_141 ?_
          refine lv_iload hx hb d_M_known_144 (lv_at hl 0 rfl) ?_
          refine w_topi (show x_opt (y_lat M od th kd tm f) = nI u by rw [hu]; rfl) ?_
          refine w_lald hx hb hK hP 5 1 (by decide) SM_5 rfl (k := u) (by omega) (by decide) d_M_known_146 ?_
          exact W.lret (v := M.2.1 5 u) hx hb hr (fun tz hz9 hW9 => ⟨⟨M.2.1 5 u, M, rfl, ⟨rfl, by unfold y_known; rw [if_neg q0, if_neg q2, hu]; rfl⟩, by rw [hz9]; exact hP, va_K.moved hW9.alike hK⟩, hS.F hz9⟩) hS.2.2 d_M_known_147
        · have hn := x_opt_nge (y_lat_lt (fun j h => (hod j h).2) f (Nat.le_refl f)) c_5
          refine lv_lconst (v := 0) hx hb d_M_known_136 (by decide) ?_
          refine lv_goto (tgt := 147) hx hb d_M_known_137 (by decide) ?_
          exact W.lret (v := 0) hx hb hr (fun tz hz9 hW9 => ⟨⟨0, M, rfl, ⟨rfl, by unfold y_known; rw [if_neg q0, if_neg q2, hn]; rfl⟩, by rw [hz9]; exact hP, va_K.moved hW9.alike hK⟩, hS.F hz9⟩) hS.2.2 d_M_known_147
      · exact absurd c_3 q2
    · have q2 := c_2
      refine lv_aload_n hx hb d_M_known_80 rfl (lv_at hl 1 rfl) ?_
      refine lv_iload_n hx hb d_M_known_81 rfl (lv_at hl 2 rfl) ?_
      refine lv_iload_n hx hb d_M_known_82 rfl (lv_at hl 3 rfl) ?_
      refine lv_iload_n hx hb d_M_known_83 rfl (lv_at hl 4 rfl) ?_
      refine lv_lload hx hb d_M_known_84 (lv_at hl 6 rfl) ?_
      refine w_Vi ⟨hx, hb, hml, hown, hts⟩ (k_M_isSettled l D cA o _ M si hs od f hf hod th tm) (kV hts 4 aK_M_isSettled aM_M_116 aI_M_isSettled aV_M_isSettled aN_M nm_M_isSettled rfl rfl ⟨(Nat.le_of_ble_eq_true rfl), (Nat.le_of_ble_eq_true rfl)⟩) hK hP (by decide) SM_0 rfl rfl hl.1 rfl (Nat.le_of_ble_eq_true rfl) d_M_known_86 ⟨(Nat.le_of_ble_eq_true rfl), (Nat.le_of_ble_eq_true rfl)⟩ hS (fun q h => wA_le hS.1 h) (fun r_6 M_6 H locs hw_6 hP hzc hkc hS => ?_)
      rw [hw_6.1] at hP
      refine w_topi hw_6.2 ?_
      refine lv_if_eq (tgt := 98) hx hb d_M_known_89 (by decide) (fun c_7 => ?_) (fun c_7 => ?_)
      · have qs := b2i_0 c_7
        refine lv_iload hx hb d_M_known_98 (lv_at hl 5 rfl) ?_
        refine lv_iconst (v := 2) hx hb d_M_known_100 (by decide) ?_
        refine lv_icmp_ne (tgt := 118) hx hb d_M_known_101 (by decide) (fun c_8 => ?_) (fun c_8 => ?_)
        · exact absurd q2 c_8
        · refine lv_aload_n hx hb d_M_known_104 rfl (lv_at hl 1 rfl) ?_
          refine lv_iload_n hx hb d_M_known_105 rfl (lv_at hl 2 rfl) ?_
          refine lv_iload_n hx hb d_M_known_106 rfl (lv_at hl 3 rfl) ?_
          refine lv_iload_n hx hb d_M_known_107 rfl (lv_at hl 4 rfl) ?_
          refine lv_lload hx hb d_M_known_108 (lv_at hl 6 rfl) ?_
          refine w_Vi ⟨hx, hb, hml, hown, hts⟩ (k_M_areUnlike l D cA o _ M si hs od f hf hod th tm) (kV hts 4 aK_M_areUnlike aM_M_119 aI_M_areUnlike aV_M_areUnlike aN_M nm_M_areUnlike rfl rfl ⟨(Nat.le_of_ble_eq_true rfl), (Nat.le_of_ble_eq_true rfl)⟩) hK hP (by decide) SM_0 rfl rfl hl.1 rfl (Nat.le_of_ble_eq_true rfl) d_M_known_110 ⟨(Nat.le_of_ble_eq_true rfl), (Nat.le_of_ble_eq_true rfl)⟩ hS (fun q h => wA_le hS.1 h) (fun r_9 M_9 H locs hw_9 hP hzc hkc hS => ?_)
          rw [hw_9.1] at hP
          refine w_topi hw_9.2 ?_
          refine lv_if_eq (tgt := 118) hx hb d_M_known_113 (by decide) (fun c_10 => ?_) (fun c_10 => ?_)
          · have qu := b2i_0 c_10
            refine lv_aload_n hx hb d_M_known_118 rfl (lv_at hl 1 rfl) ?_
            refine lv_iload_n hx hb d_M_known_119 rfl (lv_at hl 2 rfl) ?_
            refine lv_iload_n hx hb d_M_known_120 rfl (lv_at hl 3 rfl) ?_
            refine lv_iload_n hx hb d_M_known_121 rfl (lv_at hl 4 rfl) ?_
            refine lv_iload hx hb d_M_known_122 (lv_at hl 0 rfl) ?_
            refine lv_lload hx hb d_M_known_124 (lv_at hl 6 rfl) ?_
            refine w_Vi ⟨hx, hb, hml, hown, hts⟩ (k_M_latest l D cA o _ M si hs od f hf hod th kd tm) (kV hts 5 aK_M_latest aM_M_112 aI_M_latest aV_M_latest aN_M nm_M_latest rfl rfl ⟨(Nat.le_of_ble_eq_true rfl), (Nat.le_of_ble_eq_true rfl)⟩) hK hP (by decide) SM_0 rfl rfl hl.1 rfl (Nat.le_of_ble_eq_true rfl) d_M_known_126 ⟨(Nat.le_of_ble_eq_true rfl), (Nat.le_of_ble_eq_true rfl)⟩ hS (fun q h => wA_le hS.1 h) (fun r_11 M_11 H locs hw_11 hP hzc hkc hS => ?_)
            rw [hw_11.1] at hP
            refine w_topi hw_11.2 ?_
            refine lv_istore (lv' := [(8, .int (x_opt (y_lat M od th kd tm f))), (7, .int kd), (0, .ref (o + 0)), (1, .int (nI si)), (2, .int (nI f)), (3, .int th), (4, .int kd), (5, .long tm)]) hx hb d_M_known_129 hl (by decide) rfl (fun ls hl => ?_)
            refine lv_iload hx hb d_M_known_131 (lv_at hl 0 rfl) ?_
            refine lv_if_ge (tgt := 140) hx hb d_M_known_133 (by decide) (fun c_12 => ?_) (fun c_12 => ?_)
            · obtain ⟨u, hu⟩ := x_opt_ge c_12
              have hu3 := y_lat_lt (fun j h => (hod j h).2) f (Nat.le_refl f) u hu
              refine lv_aload_n hx hb d_M_known_140 rfl (lv_at hl 2 rfl) ?_
              refine w_get (C := R_M) (T := F_M) (N := 22) (ci := 5) (v := .ref (o + 5)) hx hb hts inw_M hown hK hP 0 (by decide) SM_0 rfl 6 (by decide) (hts _ (al aF_M_23)) rfl d_M_known_141 ?_
              refine lv_iload hx hb d_M_known_144 (lv_at hl 0 rfl) ?_
              refine w_topi (show x_opt (y_lat M od th kd tm f) = nI u by rw [hu]; rfl) ?_
              refine w_lald hx hb hK hP 5 1 (by decide) SM_5 rfl (k := u) (by omega) (by decide) d_M_known_146 ?_
              exact W.lret (v := M.2.1 5 u) hx hb hr (fun tz hz9 hW9 => ⟨⟨M.2.1 5 u, M, rfl, ⟨rfl, by unfold y_known; rw [if_neg q0, if_pos q2, qs, qu, ← q2, hu]; rfl⟩, by rw [hz9]; exact hP, va_K.moved hW9.alike hK⟩, hS.F hz9⟩) hS.2.2 d_M_known_147
            · have hn := x_opt_nge (y_lat_lt (fun j h => (hod j h).2) f (Nat.le_refl f)) c_12
              refine lv_lconst (v := 0) hx hb d_M_known_136 (by decide) ?_
              refine lv_goto (tgt := 147) hx hb d_M_known_137 (by decide) ?_
              exact W.lret (v := 0) hx hb hr (fun tz hz9 hW9 => ⟨⟨0, M, rfl, ⟨rfl, by unfold y_known; rw [if_neg q0, if_pos q2, qs, qu, ← q2, hn]; rfl⟩, by rw [hz9]; exact hP, va_K.moved hW9.alike hK⟩, hS.F hz9⟩) hS.2.2 d_M_known_147
          · have qu := b2i_1 c_10
            refine lv_lconst (v := 0) hx hb d_M_known_116 (by decide) ?_
            exact W.lret (v := 0) hx hb hr (fun tz hz9 hW9 => ⟨⟨0, M, rfl, ⟨rfl, by unfold y_known; rw [if_neg q0, if_pos q2, qs, qu]; rfl⟩, by rw [hz9]; exact hP, va_K.moved hW9.alike hK⟩, hS.F hz9⟩) hS.2.2 d_M_known_117
      · have qs := b2i_1 c_7
        refine lv_iconst (v := 3) hx hb d_M_known_92 (by decide) ?_
        refine lv_istore (lv' := [(7, .int 3), (0, .ref (o + 0)), (1, .int (nI si)), (2, .int (nI f)), (3, .int th), (4, .int kd), (5, .long tm)]) hx hb d_M_known_93 hl (by decide) rfl (fun ls hl => ?_)
        refine lv_goto (tgt := 118) hx hb d_M_known_95 (by decide) ?_
        refine lv_aload_n hx hb d_M_known_118 rfl (lv_at hl 1 rfl) ?_
        refine lv_iload_n hx hb d_M_known_119 rfl (lv_at hl 2 rfl) ?_
        refine lv_iload_n hx hb d_M_known_120 rfl (lv_at hl 3 rfl) ?_
        refine lv_iload_n hx hb d_M_known_121 rfl (lv_at hl 4 rfl) ?_
        refine lv_iload hx hb d_M_known_122 (lv_at hl 0 rfl) ?_
        refine lv_lload hx hb d_M_known_124 (lv_at hl 6 rfl) ?_
        refine w_Vi ⟨hx, hb, hml, hown, hts⟩ (k_M_latest l D cA o _ M si hs od f hf hod th 3 tm) (kV hts 5 aK_M_latest aM_M_112 aI_M_latest aV_M_latest aN_M nm_M_latest rfl rfl ⟨(Nat.le_of_ble_eq_true rfl), (Nat.le_of_ble_eq_true rfl)⟩) hK hP (by decide) SM_0 rfl rfl hl.1 rfl (Nat.le_of_ble_eq_true rfl) d_M_known_126 ⟨(Nat.le_of_ble_eq_true rfl), (Nat.le_of_ble_eq_true rfl)⟩ hS (fun q h => wA_le hS.1 h) (fun r_13 M_13 H locs hw_13 hP hzc hkc hS => ?_)
        rw [hw_13.1] at hP
        refine w_topi hw_13.2 ?_
        refine lv_istore (lv' := [(8, .int (x_opt (y_lat M od th 3 tm f))), (7, .int 3), (0, .ref (o + 0)), (1, .int (nI si)), (2, .int (nI f)), (3, .int th), (4, .int kd), (5, .long tm)]) hx hb d_M_known_129 hl (by decide) rfl (fun ls hl => ?_)
        refine lv_iload hx hb d_M_known_131 (lv_at hl 0 rfl) ?_
        refine lv_if_ge (tgt := 140) hx hb d_M_known_133 (by decide) (fun c_14 => ?_) (fun c_14 => ?_)
        · obtain ⟨u, hu⟩ := x_opt_ge c_14
          have hu3 := y_lat_lt (fun j h => (hod j h).2) f (Nat.le_refl f) u hu
          refine lv_aload_n hx hb d_M_known_140 rfl (lv_at hl 2 rfl) ?_
          refine w_get (C := R_M) (T := F_M) (N := 22) (ci := 5) (v := .ref (o + 5)) hx hb hts inw_M hown hK hP 0 (by decide) SM_0 rfl 6 (by decide) (hts _ (al aF_M_23)) rfl d_M_known_141 ?_
          refine lv_iload hx hb d_M_known_144 (lv_at hl 0 rfl) ?_
          refine w_topi (show x_opt (y_lat M od th 3 tm f) = nI u by rw [hu]; rfl) ?_
          refine w_lald hx hb hK hP 5 1 (by decide) SM_5 rfl (k := u) (by omega) (by decide) d_M_known_146 ?_
          exact W.lret (v := M.2.1 5 u) hx hb hr (fun tz hz9 hW9 => ⟨⟨M.2.1 5 u, M, rfl, ⟨rfl, by unfold y_known; rw [if_neg q0, if_pos q2, qs, hu]; rfl⟩, by rw [hz9]; exact hP, va_K.moved hW9.alike hK⟩, hS.F hz9⟩) hS.2.2 d_M_known_147
        · have hn := x_opt_nge (y_lat_lt (fun j h => (hod j h).2) f (Nat.le_refl f)) c_14
          refine lv_lconst (v := 0) hx hb d_M_known_136 (by decide) ?_
          refine lv_goto (tgt := 147) hx hb d_M_known_137 (by decide) ?_
          exact W.lret (v := 0) hx hb hr (fun tz hz9 hW9 => ⟨⟨0, M, rfl, ⟨rfl, by unfold y_known; rw [if_neg q0, if_pos q2, qs, hn]; rfl⟩, by rw [hz9]; exact hP, va_K.moved hW9.alike hK⟩, hS.F hz9⟩) hS.2.2 d_M_known_147
  · have q0 := c_1
    refine lv_lconst (v := 0) hx hb d_M_known_5 (by decide) ?_
    refine lv_lstore (lv' := [(7, .long 0), (0, .ref (o + 0)), (1, .int (nI si)), (2, .int (nI f)), (3, .int th), (4, .int kd), (5, .long tm)]) hx hb d_M_known_6 hl (by decide) rfl (fun ls hl => ?_)
    refine lv_iconst (v := 0) hx hb d_M_known_8 (by decide) ?_
    refine lv_istore (lv' := [(9, .int 0), (7, .long 0), (0, .ref (o + 0)), (1, .int (nI si)), (2, .int (nI f)), (3, .int th), (4, .int kd), (5, .long tm)]) hx hb d_M_known_9 hl (by decide) rfl (fun ls hl => ?_)
    have lp11 : ∀ (fuel : Nat) (k : Nat) (sm : Int64), f - k < fuel → (k ≤ f) → (sm = y_sum M od th tm k) → ∀ (H : Heap) (locs : List Loc), wP D cls_ (SM o cA) o 17 M H → va_S (mA o s.heap.size) s.heap H locs → ∀ (ls : Array Slot), lv_has ls 11 [(0, .ref (o + 0)), (1, .int (nI si)), (2, .int (nI f)), (3, .int th), (4, .int kd), (5, .long tm), (7, .long sm), (9, .int (nI k))] → W p l e (headSpec (wm y_M_known c_M_known 11 (some .long)) { frames := 4, cells := 0, slots := 0, locals := 103 }).room s m ([.ref (o + 0), .int (nI si), .int (nI f), .int th, .int kd, .long tm] : List Value).toArray below meth c H locs 0 0 (MQ below (va_Ql (fun r M1 => M1 = M ∧ r = y_known M od th kd tm f) (mQ D cA o) (mA o s.heap.size)) ([.ref (o + 0), .int (nI si), .int (nI f), .int th, .int kd, .long tm] : List Value).toArray s 0 0 (mA o s.heap.size)) (F0 m 11 ls []) := by
      intro fuel
      induction fuel with
      | zero => intro k sm hfu; exact absurd hfu (Nat.not_lt_zero _)
      | succ fuel ih =>
        intro k sm hfu hk hsm H locs hP hS ls hl
        refine lv_iload hx hb d_M_known_11 (lv_at hl 7 rfl) ?_
        refine lv_iload_n hx hb d_M_known_13 rfl (lv_at hl 2 rfl) ?_
        refine lv_icmp_ge (tgt := 67) hx hb d_M_known_14 (by decide) (fun c_15 => ?_) (fun c_15 => ?_)
        · have hkf : f ≤ k := i_le (by omega) (by omega) c_15
          refine lv_lload hx hb d_M_known_67 (lv_at hl 6 rfl) ?_
          exact W.lret (v := sm) hx hb hr (fun tz hz9 hW9 => ⟨⟨sm, M, rfl, ⟨rfl, by unfold y_known; rw [if_pos q0, hsm, show k = f by omega]⟩, by rw [hz9]; exact hP, va_K.moved hW9.alike hK⟩, hS.F hz9⟩) hS.2.2 d_M_known_69
        · have hkf : k < f := i_nle (by omega) (by omega) c_15
          have hod3 := (hod k hkf).2
          refine lv_aload_n hx hb d_M_known_17 rfl (lv_at hl 0 rfl) ?_
          refine w_get (C := R_M) (T := F_M) (N := 22) (ci := 5) (v := .ref (o + 8)) hx hb hts inw_M hown hK hP 0 (by decide) SM_0 rfl 10 (by decide) (hts _ (al aF_M_32)) rfl d_M_known_18 ?_
          refine lv_sipush (v := 300) hx hb d_M_known_21 (by decide) ?_
          refine lv_iload_n hx hb d_M_known_24 rfl (lv_at hl 1 rfl) ?_
          refine lv_imul hx hb d_M_known_25 ?_
          refine lv_iload hx hb d_M_known_26 (lv_at hl 7 rfl) ?_
          refine lv_iadd hx hb d_M_known_28 ?_
          refine w_topi (y_idx 300 si k) ?_
          refine w_iald hx hb hK hP 8 0 (by decide) SM_8 rfl (k := (300 * si + k)) (by omega) (by decide) d_M_known_29 ?_
          refine w_topi ((hod k hkf).1) ?_
          refine lv_istore (lv' := [(10, .int (nI (od k))), (0, .ref (o + 0)), (1, .int (nI si)), (2, .int (nI f)), (3, .int th), (4, .int kd), (5, .long tm), (7, .long sm), (9, .int (nI k))]) hx hb d_M_known_30 hl (by decide) rfl (fun ls hl => ?_)
          refine lv_lload hx hb d_M_known_32 (lv_at hl 7 rfl) ?_
          refine lv_aload_n hx hb d_M_known_34 rfl (lv_at hl 1 rfl) ?_
          refine lv_iload hx hb d_M_known_35 (lv_at hl 0 rfl) ?_
          refine lv_iload_n hx hb d_M_known_37 rfl (lv_at hl 4 rfl) ?_
          refine lv_iconst (v := 0) hx hb d_M_known_38 (by decide) ?_
          refine lv_lload hx hb d_M_known_39 (lv_at hl 6 rfl) ?_
          refine w_Vi ⟨hx, hb, hml, hown, hts⟩ (k_M_speaks l D cA o _ M (od k) hod3 th 0 tm) (kV hts 4 aK_M_speaks aM_M_104 aI_M_speaks aV_M_speaks aN_M nm_M_speaks rfl rfl ⟨(Nat.le_of_ble_eq_true rfl), (Nat.le_of_ble_eq_true rfl)⟩) hK hP (by decide) SM_0 rfl rfl hl.1 rfl (Nat.le_of_ble_eq_true rfl) d_M_known_41 ⟨(Nat.le_of_ble_eq_true rfl), (Nat.le_of_ble_eq_true rfl)⟩ hS (fun q h => wA_le hS.1 h) (fun r_16 M_16 H locs hw_16 hP hzc hkc hS => ?_)
          rw [hw_16.1] at hP
          refine w_topi hw_16.2 ?_
          refine lv_if_eq (tgt := 57) hx hb d_M_known_44 (by decide) (fun c_17 => ?_) (fun c_17 => ?_)
          · have hh := b2i_0 c_17
            refine lv_lconst (v := 0) hx hb d_M_known_57 (by decide) ?_
            refine lv_ladd hx hb d_M_known_58 ?_
            refine lv_lstore (lv' := [(7, .long (sm + 0)), (10, .int (nI (od k))), (0, .ref (o + 0)), (1, .int (nI si)), (2, .int (nI f)), (3, .int th), (4, .int kd), (5, .long tm), (9, .int (nI k))]) hx hb d_M_known_59 hl (by decide) rfl (fun ls hl => ?_)
            refine lv_iinc (v := nI (k + 1)) (lv' := [(9, .int (nI (k + 1))), (7, .long (sm + 0)), (10, .int (nI (od k))), (0, .ref (o + 0)), (1, .int (nI si)), (2, .int (nI f)), (3, .int th), (4, .int kd), (5, .long tm)]) hx hb d_M_known_61 hl (k := 8) rfl (w_inc k) (by decide) rfl (fun ls hl => ?_)
            refine lv_goto (tgt := 11) hx hb d_M_known_64 (by decide) ?_
            exact ih (k + 1) (sm + 0) (by omega) hkf (by rw [hsm, y_sum, if_neg (by rw [hh]; decide)]) _ _ hP hS ls (lv_sub hl [3, 4, 5, 6, 7, 8, 1, 0] rfl)
          · have hh := b2i_1 c_17
            refine lv_aload_n hx hb d_M_known_47 rfl (lv_at hl 1 rfl) ?_
            refine w_get (C := R_M) (T := F_M) (N := 22) (ci := 5) (v := .ref (o + 5)) hx hb hts inw_M hown hK hP 0 (by decide) SM_0 rfl 6 (by decide) (hts _ (al aF_M_23)) rfl d_M_known_48 ?_
            refine lv_iload hx hb d_M_known_51 (lv_at hl 0 rfl) ?_
            refine w_lald hx hb hK hP 5 1 (by decide) SM_5 rfl (k := (od k)) (by omega) (by decide) d_M_known_53 ?_
            refine lv_goto (tgt := 58) hx hb d_M_known_54 (by decide) ?_
            refine lv_ladd hx hb d_M_known_58 ?_
            refine lv_lstore (lv' := [(7, .long (sm + (M.2.1 5 (od k)))), (10, .int (nI (od k))), (0, .ref (o + 0)), (1, .int (nI si)), (2, .int (nI f)), (3, .int th), (4, .int kd), (5, .long tm), (9, .int (nI k))]) hx hb d_M_known_59 hl (by decide) rfl (fun ls hl => ?_)
            refine lv_iinc (v := nI (k + 1)) (lv' := [(9, .int (nI (k + 1))), (7, .long (sm + (M.2.1 5 (od k)))), (10, .int (nI (od k))), (0, .ref (o + 0)), (1, .int (nI si)), (2, .int (nI f)), (3, .int th), (4, .int kd), (5, .long tm)]) hx hb d_M_known_61 hl (k := 8) rfl (w_inc k) (by decide) rfl (fun ls hl => ?_)
            refine lv_goto (tgt := 11) hx hb d_M_known_64 (by decide) ?_
            exact ih (k + 1) (sm + (M.2.1 5 (od k))) (by omega) hkf (by rw [hsm, y_sum, if_pos hh]) _ _ hP hS ls (lv_sub hl [3, 4, 5, 6, 7, 8, 1, 0] rfl)
    exact lp11 ((f - 0) + 1) 0 0 (Nat.lt_succ_self _) (Nat.zero_le _) rfl _ _ hP hS ls (lv_sub hl [2, 3, 4, 5, 6, 7, 1, 0] rfl)
set_option maxHeartbeats 4000000 in
set_option maxRecDepth 100000 in
/-- M_has -/
theorem k_M_has (l : Launch) (D : va_G) (cA : Nat → ClassId) (o sz : Nat) (M : wM) (si : Nat) (hs : si < 8) (od : Nat → Nat) (z : Nat) (hz : z ≤ 300) (ez : M.1 7 si = nI z) (hod : ∀ j, j < z → M.1 8 (300 * si + j) = nI (od j) ∧ od j < 300) (t : Nat) (ht : t < 300) : Met l y_M_has (wm y_M_has c_M_has 5 (some .boolean)) { frames := 0, cells := 0, slots := 0, locals := 0 } (va_Pc [.ref (o + 0), .int (nI si), .int (nI t)] (mB D cA o M sz)) (va_Qi (fun r M1 => M1 = M ∧ r = b2i (y_has od t z)) (mQ D cA o) (mA o sz)) 0 0 (mA o sz) := by
  refine Met.ofW (cc := c_M_has) (maxL := 5) (ret := (some .boolean)) (by decide) rfl ?_
  intro p e s m args below meth c s₁ B hml hv
  obtain ⟨rfl, hsz, hP, hK⟩ := hv
  have hx := B.exec
  have hb := B.bytes
  have hr := B.returns
  have hts := atoms_spec (ws := wm y_M_has c_M_has 5 (some .boolean)) B.pre
  have hown : s.vm.findClass "ShopDesksModel" = some m.cls := findClass_of_methodNamed B.named
  have hlocks := B.notSynchronized
  subst hsz
  have hS : va_S (mA o s.heap.size) s.heap s.heap [] := va_S.rf
  have hW : ∀ i, i < 17 → mA o s.heap.size (o + i) := fun i hi => wA_in hi
  have hl := lv_entry ([.ref (o + 0), .int (nI si), .int (nI t)]) (n := 5) (Nat.le_of_ble_eq_true rfl)
  rw [lg_entry_eq]
  generalize (lg_sl ([.ref (o + 0), .int (nI si), .int (nI t)]) ++ List.replicate (5 - (lg_sl ([.ref (o + 0), .int (nI si), .int (nI t)])).length) Slot.unset).toArray = ls at hl ⊢
  have hl : lv_has ls 5 [(0, .ref (o + 0)), (1, .int (nI si)), (2, .int (nI t))] := hl
  refine lv_iconst (v := 0) hx hb d_M_has_0 (by decide) ?_
  refine lv_istore_n (lv' := [(3, .int 0), (0, .ref (o + 0)), (1, .int (nI si)), (2, .int (nI t))]) hx hb d_M_has_1 rfl hl (by decide) rfl (fun ls hl => ?_)
  refine lv_iconst (v := 0) hx hb d_M_has_2 (by decide) ?_
  refine lv_istore (lv' := [(4, .int 0), (3, .int 0), (0, .ref (o + 0)), (1, .int (nI si)), (2, .int (nI t))]) hx hb d_M_has_3 hl (by decide) rfl (fun ls hl => ?_)
  have lp5 : ∀ (fuel : Nat) (k : Nat) (bb : Bool), z - k < fuel → (k ≤ z) → (bb = y_has od t k) → ∀ (ls : Array Slot), lv_has ls 5 [(0, .ref (o + 0)), (1, .int (nI si)), (2, .int (nI t)), (3, .int (b2i bb)), (4, .int (nI k))] → W p l e (headSpec (wm y_M_has c_M_has 5 (some .boolean)) { frames := 0, cells := 0, slots := 0, locals := 0 }).room s m ([.ref (o + 0), .int (nI si), .int (nI t)] : List Value).toArray below meth c s.heap [] 0 0 (MQ below (va_Qi (fun r M1 => M1 = M ∧ r = b2i (y_has od t z)) (mQ D cA o) (mA o s.heap.size)) ([.ref (o + 0), .int (nI si), .int (nI t)] : List Value).toArray s 0 0 (mA o s.heap.size)) (F0 m 5 ls []) := by
    intro fuel
    induction fuel with
    | zero => intro k bb hfu; exact absurd hfu (Nat.not_lt_zero _)
    | succ fuel ih =>
      intro k bb hfu hk hbb ls hl
      refine lv_iload hx hb d_M_has_5 (lv_at hl 4 rfl) ?_
      refine lv_aload_n hx hb d_M_has_7 rfl (lv_at hl 0 rfl) ?_
      refine w_get (C := R_M) (T := F_M) (N := 22) (ci := 5) (v := .ref (o + 7)) hx hb hts inw_M hown hK hP 0 (by decide) SM_0 rfl 9 (by decide) (hts _ (al aF_M_29)) rfl d_M_has_8 ?_
      refine lv_iload_n hx hb d_M_has_11 rfl (lv_at hl 1 rfl) ?_
      refine w_iald hx hb hK hP 7 0 (by decide) SM_7 rfl (k := si) (by omega) (by decide) d_M_has_12 ?_
      refine w_topi ez ?_
      refine lv_icmp_ge (tgt := 49) hx hb d_M_has_13 (by decide) (fun c_1 => ?_) (fun c_1 => ?_)
      · have hkf : z ≤ k := i_le (by omega) (by omega) c_1
        refine lv_iload_n hx hb d_M_has_49 rfl (lv_at hl 3 rfl) ?_
        exact W.zret (v := b2i bb) hx hb hr (b2i_nar _) (fun tz hz9 hW9 => ⟨⟨b2i bb, M, rfl, ⟨rfl, by rw [hbb, show k = z by omega]⟩, by rw [hz9]; exact hP, va_K.moved hW9.alike hK⟩, hS.F hz9⟩) hS.2.2 d_M_has_50
      · have hkf : k < z := i_nle (by omega) (by omega) c_1
        have hod3 := (hod k hkf).2
        refine lv_iload_n hx hb d_M_has_16 rfl (lv_at hl 3 rfl) ?_
        refine lv_if_ne (tgt := 37) hx hb d_M_has_17 (by decide) (fun c_2 => ?_) (fun c_2 => ?_)
        · have hbt := b2i_1 c_2
          refine lv_iconst (v := 1) hx hb d_M_has_37 (by decide) ?_
          refine lv_goto (tgt := 42) hx hb d_M_has_38 (by decide) ?_
          refine lv_istore_n (lv' := [(3, .int 1), (0, .ref (o + 0)), (1, .int (nI si)), (2, .int (nI t)), (4, .int (nI k))]) hx hb d_M_has_42 rfl hl (by decide) rfl (fun ls hl => ?_)
          refine lv_iinc (v := nI (k + 1)) (lv' := [(4, .int (nI (k + 1))), (3, .int 1), (0, .ref (o + 0)), (1, .int (nI si)), (2, .int (nI t))]) hx hb d_M_has_43 hl (k := 4) rfl (w_inc k) (by decide) rfl (fun ls hl => ?_)
          refine lv_goto (tgt := 5) hx hb d_M_has_46 (by decide) ?_
          exact ih (k + 1) true (by omega) hkf (by rw [y_has, ← hbb, hbt]; rfl) ls (lv_sub hl [2, 3, 4, 1, 0] rfl)
        · have hbt := b2i_0 c_2
          refine lv_aload_n hx hb d_M_has_20 rfl (lv_at hl 0 rfl) ?_
          refine w_get (C := R_M) (T := F_M) (N := 22) (ci := 5) (v := .ref (o + 8)) hx hb hts inw_M hown hK hP 0 (by decide) SM_0 rfl 10 (by decide) (hts _ (al aF_M_32)) rfl d_M_has_21 ?_
          refine lv_sipush (v := 300) hx hb d_M_has_24 (by decide) ?_
          refine lv_iload_n hx hb d_M_has_27 rfl (lv_at hl 1 rfl) ?_
          refine lv_imul hx hb d_M_has_28 ?_
          refine lv_iload hx hb d_M_has_29 (lv_at hl 4 rfl) ?_
          refine lv_iadd hx hb d_M_has_31 ?_
          refine w_topi (y_idx 300 si k) ?_
          refine w_iald hx hb hK hP 8 0 (by decide) SM_8 rfl (k := (300 * si + k)) (by omega) (by decide) d_M_has_32 ?_
          refine w_topi ((hod k hkf).1) ?_
          refine lv_iload_n hx hb d_M_has_33 rfl (lv_at hl 2 rfl) ?_
          refine lv_icmp_ne (tgt := 41) hx hb d_M_has_34 (by decide) (fun c_3 => ?_) (fun c_3 => ?_)
          · have q1 : ¬ od k = t := fun e => c_3 (by rw [e])
            refine lv_iconst (v := 0) hx hb d_M_has_41 (by decide) ?_
            refine lv_istore_n (lv' := [(3, .int 0), (0, .ref (o + 0)), (1, .int (nI si)), (2, .int (nI t)), (4, .int (nI k))]) hx hb d_M_has_42 rfl hl (by decide) rfl (fun ls hl => ?_)
            refine lv_iinc (v := nI (k + 1)) (lv' := [(4, .int (nI (k + 1))), (3, .int 0), (0, .ref (o + 0)), (1, .int (nI si)), (2, .int (nI t))]) hx hb d_M_has_43 hl (k := 4) rfl (w_inc k) (by decide) rfl (fun ls hl => ?_)
            refine lv_goto (tgt := 5) hx hb d_M_has_46 (by decide) ?_
            exact ih (k + 1) false (by omega) hkf (by rw [y_has, ← hbb, hbt]; simp [q1]) ls (lv_sub hl [2, 3, 4, 1, 0] rfl)
          · have q1 : od k = t := (nI_eq (by omega) (by omega)).mp c_3
            refine lv_iconst (v := 1) hx hb d_M_has_37 (by decide) ?_
            refine lv_goto (tgt := 42) hx hb d_M_has_38 (by decide) ?_
            refine lv_istore_n (lv' := [(3, .int 1), (0, .ref (o + 0)), (1, .int (nI si)), (2, .int (nI t)), (4, .int (nI k))]) hx hb d_M_has_42 rfl hl (by decide) rfl (fun ls hl => ?_)
            refine lv_iinc (v := nI (k + 1)) (lv' := [(4, .int (nI (k + 1))), (3, .int 1), (0, .ref (o + 0)), (1, .int (nI si)), (2, .int (nI t))]) hx hb d_M_has_43 hl (k := 4) rfl (w_inc k) (by decide) rfl (fun ls hl => ?_)
            refine lv_goto (tgt := 5) hx hb d_M_has_46 (by decide) ?_
            exact ih (k + 1) true (by omega) hkf (by rw [y_has, ← hbb, hbt]; simp [q1]) ls (lv_sub hl [2, 3, 4, 1, 0] rfl)
  exact lp5 ((z - 0) + 1) 0 false (Nat.lt_succ_self _) (Nat.zero_le _) rfl ls (lv_sub hl [2, 3, 4, 1, 0] rfl)
set_option maxHeartbeats 4000000 in
set_option maxRecDepth 100000 in
/-- M_add -/
theorem k_M_add (l : Launch) (D : va_G) (cA : Nat → ClassId) (o sz : Nat) (M : wM) (si : Nat) (hs : si < 8) (z : Nat) (hz : z ≤ 300) (ez : M.1 7 si = nI z) (hz3 : z < 300) (t : Nat) : Met l y_M_add (wm y_M_add c_M_add 3 (none)) { frames := 0, cells := 0, slots := 0, locals := 0 } (va_Pc [.ref (o + 0), .int (nI si), .int (nI t)] (mB D cA o M sz)) (va_Qv (fun M1 => M1 = wI (wI M 8 (300 * si + z) (nI t)) 7 si (nI (z + 1))) (mQ D cA o) (mA o sz)) 0 0 (mA o sz) := by
  refine Met.ofW (cc := c_M_add) (maxL := 3) (ret := (none)) (by decide) rfl ?_
  intro p e s m args below meth c s₁ B hml hv
  obtain ⟨rfl, hsz, hP, hK⟩ := hv
  have hx := B.exec
  have hb := B.bytes
  have hr := B.returns
  have hts := atoms_spec (ws := wm y_M_add c_M_add 3 (none)) B.pre
  have hown : s.vm.findClass "ShopDesksModel" = some m.cls := findClass_of_methodNamed B.named
  have hlocks := B.notSynchronized
  subst hsz
  have hS : va_S (mA o s.heap.size) s.heap s.heap [] := va_S.rf
  have hW : ∀ i, i < 17 → mA o s.heap.size (o + i) := fun i hi => wA_in hi
  have hl := lv_entry ([.ref (o + 0), .int (nI si), .int (nI t)]) (n := 3) (Nat.le_of_ble_eq_true rfl)
  rw [lg_entry_eq]
  generalize (lg_sl ([.ref (o + 0), .int (nI si), .int (nI t)]) ++ List.replicate (3 - (lg_sl ([.ref (o + 0), .int (nI si), .int (nI t)])).length) Slot.unset).toArray = ls at hl ⊢
  have hl : lv_has ls 3 [(0, .ref (o + 0)), (1, .int (nI si)), (2, .int (nI t))] := hl
  refine lv_aload_n hx hb d_M_add_0 rfl (lv_at hl 0 rfl) ?_
  refine w_get (C := R_M) (T := F_M) (N := 22) (ci := 5) (v := .ref (o + 8)) hx hb hts inw_M hown hK hP 0 (by decide) SM_0 rfl 10 (by decide) (hts _ (al aF_M_32)) rfl d_M_add_1 ?_
  refine lv_sipush (v := 300) hx hb d_M_add_4 (by decide) ?_
  refine lv_iload_n hx hb d_M_add_7 rfl (lv_at hl 1 rfl) ?_
  refine lv_imul hx hb d_M_add_8 ?_
  refine lv_aload_n hx hb d_M_add_9 rfl (lv_at hl 0 rfl) ?_
  refine w_get (C := R_M) (T := F_M) (N := 22) (ci := 5) (v := .ref (o + 7)) hx hb hts inw_M hown hK hP 0 (by decide) SM_0 rfl 9 (by decide) (hts _ (al aF_M_29)) rfl d_M_add_10 ?_
  refine lv_iload_n hx hb d_M_add_13 rfl (lv_at hl 1 rfl) ?_
  refine w_iald hx hb hK hP 7 0 (by decide) SM_7 rfl (k := si) (by omega) (by decide) d_M_add_14 ?_
  refine w_topi ez ?_
  refine lv_iadd hx hb d_M_add_15 ?_
  refine w_topi (y_idx 300 si z) ?_
  refine lv_iload_n hx hb d_M_add_16 rfl (lv_at hl 2 rfl) ?_
  refine w_iast hx hb hK hP hW hS 8 0 (by decide) (fun _ => SM_8) rfl (k := (300 * si + z)) (by omega) (by decide) d_M_add_17 (fun H locs hP hS => ?_)
  refine lv_aload_n hx hb d_M_add_18 rfl (lv_at hl 0 rfl) ?_
  refine w_get (C := R_M) (T := F_M) (N := 22) (ci := 5) (v := .ref (o + 7)) hx hb hts inw_M hown hK hP 0 (by decide) SM_0 rfl 9 (by decide) (hts _ (al aF_M_29)) rfl d_M_add_19 ?_
  refine lv_iload_n hx hb d_M_add_22 rfl (lv_at hl 1 rfl) ?_
  refine lv_dup2_11 hx hb d_M_add_23 rfl rfl ?_
  refine w_iald hx hb hK hP 7 0 (by decide) SM_7 rfl (k := si) (by omega) (by decide) d_M_add_24 ?_
  refine w_topi (wI_ne (by omega)) ?_
  refine w_topi ez ?_
  refine lv_iconst (v := 1) hx hb d_M_add_25 (by decide) ?_
  refine lv_iadd hx hb d_M_add_26 ?_
  refine w_topi ((nI_succ z).symm) ?_
  refine w_iast hx hb hK hP hW hS 7 0 (by decide) (fun _ => SM_7) rfl (k := si) (by omega) (by decide) d_M_add_27 (fun H locs hP hS => ?_)
  exact W.vret hx hb hr (fun tz hz9 hW9 => ⟨⟨(wI (wI M 8 (300 * si + z) (nI t)) 7 si (nI (z + 1))), rfl, rfl, by rw [hz9]; exact hP, va_K.moved hW9.alike hK⟩, hS.F hz9⟩) hS.2.2 d_M_add_28
set_option maxHeartbeats 4000000 in
set_option maxRecDepth 100000 in
/-- M_open -/
theorem k_M_open (l : Launch) (D : va_G) (cA : Nat → ClassId) (o sz : Nat) (M : wM) (ec : Nat) (hec : ec < 60) (eec : M.2.2 0 13 = nI ec) (day : Int32) : Met l y_M_open (wm y_M_open c_M_open 2 (some .int)) { frames := 0, cells := 0, slots := 0, locals := 0 } (va_Pc [.ref (o + 0), .int day] (mB D cA o M sz)) (va_Qi (fun r M1 => M1 = wF (wI M 11 ec day) 0 13 (nI (ec + 1)) ∧ r = nI ec) (mQ D cA o) (mA o sz)) 0 0 (mA o sz) := by
  refine Met.ofW (cc := c_M_open) (maxL := 2) (ret := (some .int)) (by decide) rfl ?_
  intro p e s m args below meth c s₁ B hml hv
  obtain ⟨rfl, hsz, hP, hK⟩ := hv
  have hx := B.exec
  have hb := B.bytes
  have hr := B.returns
  have hts := atoms_spec (ws := wm y_M_open c_M_open 2 (some .int)) B.pre
  have hown : s.vm.findClass "ShopDesksModel" = some m.cls := findClass_of_methodNamed B.named
  have hlocks := B.notSynchronized
  subst hsz
  have hS : va_S (mA o s.heap.size) s.heap s.heap [] := va_S.rf
  have hW : ∀ i, i < 17 → mA o s.heap.size (o + i) := fun i hi => wA_in hi
  have hl := lv_entry ([.ref (o + 0), .int day]) (n := 2) (Nat.le_of_ble_eq_true rfl)
  rw [lg_entry_eq]
  generalize (lg_sl ([.ref (o + 0), .int day]) ++ List.replicate (2 - (lg_sl ([.ref (o + 0), .int day])).length) Slot.unset).toArray = ls at hl ⊢
  have hl : lv_has ls 2 [(0, .ref (o + 0)), (1, .int day)] := hl
  refine lv_aload_n hx hb d_M_open_0 rfl (lv_at hl 0 rfl) ?_
  refine w_get (C := R_M) (T := F_M) (N := 22) (ci := 5) (v := .ref (o + 11)) hx hb hts inw_M hown hK hP 0 (by decide) SM_0 rfl 14 (by decide) (hts _ (al aF_M_42)) rfl d_M_open_1 ?_
  refine lv_aload_n hx hb d_M_open_4 rfl (lv_at hl 0 rfl) ?_
  refine w_get (C := R_M) (T := F_M) (N := 22) (ci := 5) (v := .int (M.2.2 0 13)) hx hb hts inw_M hown hK hP 0 (by decide) SM_0 rfl 13 (by decide) (hts _ (al aF_M_138)) rfl d_M_open_5 ?_
  refine w_topi eec ?_
  refine lv_iload_n hx hb d_M_open_8 rfl (lv_at hl 1 rfl) ?_
  refine w_iast hx hb hK hP hW hS 11 0 (by decide) (fun _ => SM_11) rfl (k := ec) (by omega) (by decide) d_M_open_9 (fun H locs hP hS => ?_)
  refine lv_aload_n hx hb d_M_open_10 rfl (lv_at hl 0 rfl) ?_
  refine lv_dup hx hb d_M_open_11 rfl ?_
  refine w_get (C := R_M) (T := F_M) (N := 22) (ci := 5) (v := .int (M.2.2 0 13)) hx hb hts inw_M hown hK hP 0 (by decide) SM_0 rfl 13 (by decide) (hts _ (al aF_M_138)) rfl d_M_open_12 ?_
  refine w_topi eec ?_
  refine lv_iconst (v := 1) hx hb d_M_open_15 (by decide) ?_
  refine lv_iadd hx hb d_M_open_16 ?_
  refine w_topi ((nI_succ ec).symm) ?_
  refine w_put (C := R_M) (T := F_M) (N := 22) (ci := 5) (x := nI (ec + 1)) hx hb hts inw_M ft_M ft_M_ok fn_M hown hK hP hW hS 0 (by decide) SM_0 rfl 13 (by decide) (hts _ (al aF_M_138)) rfl rfl rfl (Nat.le_of_ble_eq_true rfl) (by rw [wF_r]; exact SM_0.trans rfl) d_M_open_17 (fun H locs hP hS => ?_)
  refine lv_aload_n hx hb d_M_open_20 rfl (lv_at hl 0 rfl) ?_
  refine w_get (C := R_M) (T := F_M) (N := 22) (ci := 5) (v := .int (nI (ec + 1))) hx hb hts inw_M hown hK hP 0 (by decide) SM_0 rfl 13 (by decide) (hts _ (al aF_M_138)) rfl d_M_open_21 ?_
  refine lv_iconst (v := 1) hx hb d_M_open_24 (by decide) ?_
  refine lv_isub hx hb d_M_open_25 ?_
  refine w_topi (i_sub1 ec) ?_
  exact W.iret (v := nI ec) hx hb hr (fun tz hz9 hW9 => ⟨⟨nI ec, (wF (wI M 11 ec day) 0 13 (nI (ec + 1))), rfl, ⟨rfl, rfl⟩, by rw [hz9]; exact hP, va_K.moved hW9.alike hK⟩, hS.F hz9⟩) hS.2.2 d_M_open_26
set_option maxHeartbeats 4000000 in
set_option maxRecDepth 100000 in
/-- M_addRow -/
theorem k_M_addRow (l : Launch) (D : va_G) (cA : Nat → ClassId) (o sz : Nat) (M : wM) (ej : Nat) (hj : ej < 60) (rc : Nat) (hrc : rc < 6) (erc : M.1 12 ej = nI rc) (ac : Int32) (ce : Int64) : Met l y_M_addRow (wm y_M_addRow c_M_addRow 5 (none)) { frames := 0, cells := 0, slots := 0, locals := 0 } (va_Pc [.ref (o + 0), .int (nI ej), .int ac, .long ce] (mB D cA o M sz)) (va_Qv (fun M1 => M1 = wI (wL (wI M 13 (6 * ej + rc) ac) 14 (6 * ej + rc) ce) 12 ej (nI (rc + 1))) (mQ D cA o) (mA o sz)) 0 0 (mA o sz) := by
  refine Met.ofW (cc := c_M_addRow) (maxL := 5) (ret := (none)) (by decide) rfl ?_
  intro p e s m args below meth c s₁ B hml hv
  obtain ⟨rfl, hsz, hP, hK⟩ := hv
  have hx := B.exec
  have hb := B.bytes
  have hr := B.returns
  have hts := atoms_spec (ws := wm y_M_addRow c_M_addRow 5 (none)) B.pre
  have hown : s.vm.findClass "ShopDesksModel" = some m.cls := findClass_of_methodNamed B.named
  have hlocks := B.notSynchronized
  subst hsz
  have hS : va_S (mA o s.heap.size) s.heap s.heap [] := va_S.rf
  have hW : ∀ i, i < 17 → mA o s.heap.size (o + i) := fun i hi => wA_in hi
  have hl := lv_entry ([.ref (o + 0), .int (nI ej), .int ac, .long ce]) (n := 5) (Nat.le_of_ble_eq_true rfl)
  rw [lg_entry_eq]
  generalize (lg_sl ([.ref (o + 0), .int (nI ej), .int ac, .long ce]) ++ List.replicate (5 - (lg_sl ([.ref (o + 0), .int (nI ej), .int ac, .long ce])).length) Slot.unset).toArray = ls at hl ⊢
  have hl : lv_has ls 5 [(0, .ref (o + 0)), (1, .int (nI ej)), (2, .int ac), (3, .long ce)] := hl
  refine lv_aload_n hx hb d_M_addRow_0 rfl (lv_at hl 0 rfl) ?_
  refine w_get (C := R_M) (T := F_M) (N := 22) (ci := 5) (v := .ref (o + 13)) hx hb hts inw_M hown hK hP 0 (by decide) SM_0 rfl 16 (by decide) (hts _ (al aF_M_48)) rfl d_M_addRow_1 ?_
  refine lv_bipush (v := 6) hx hb d_M_addRow_4 (by decide) ?_
  refine lv_iload_n hx hb d_M_addRow_6 rfl (lv_at hl 1 rfl) ?_
  refine lv_imul hx hb d_M_addRow_7 ?_
  refine lv_aload_n hx hb d_M_addRow_8 rfl (lv_at hl 0 rfl) ?_
  refine w_get (C := R_M) (T := F_M) (N := 22) (ci := 5) (v := .ref (o + 12)) hx hb hts inw_M hown hK hP 0 (by decide) SM_0 rfl 15 (by decide) (hts _ (al aF_M_45)) rfl d_M_addRow_9 ?_
  refine lv_iload_n hx hb d_M_addRow_12 rfl (lv_at hl 1 rfl) ?_
  refine w_iald hx hb hK hP 12 0 (by decide) SM_12 rfl (k := ej) (by omega) (by decide) d_M_addRow_13 ?_
  refine w_topi erc ?_
  refine lv_iadd hx hb d_M_addRow_14 ?_
  refine w_topi (y_idx 6 ej rc) ?_
  refine lv_iload_n hx hb d_M_addRow_15 rfl (lv_at hl 2 rfl) ?_
  refine w_iast hx hb hK hP hW hS 13 0 (by decide) (fun _ => SM_13) rfl (k := (6 * ej + rc)) (by omega) (by decide) d_M_addRow_16 (fun H locs hP hS => ?_)
  refine lv_aload_n hx hb d_M_addRow_17 rfl (lv_at hl 0 rfl) ?_
  refine w_get (C := R_M) (T := F_M) (N := 22) (ci := 5) (v := .ref (o + 14)) hx hb hts inw_M hown hK hP 0 (by decide) SM_0 rfl 17 (by decide) (hts _ (al aF_M_51)) rfl d_M_addRow_18 ?_
  refine lv_bipush (v := 6) hx hb d_M_addRow_21 (by decide) ?_
  refine lv_iload_n hx hb d_M_addRow_23 rfl (lv_at hl 1 rfl) ?_
  refine lv_imul hx hb d_M_addRow_24 ?_
  refine lv_aload_n hx hb d_M_addRow_25 rfl (lv_at hl 0 rfl) ?_
  refine w_get (C := R_M) (T := F_M) (N := 22) (ci := 5) (v := .ref (o + 12)) hx hb hts inw_M hown hK hP 0 (by decide) SM_0 rfl 15 (by decide) (hts _ (al aF_M_45)) rfl d_M_addRow_26 ?_
  refine lv_iload_n hx hb d_M_addRow_29 rfl (lv_at hl 1 rfl) ?_
  refine w_iald hx hb hK hP 12 0 (by decide) SM_12 rfl (k := ej) (by omega) (by decide) d_M_addRow_30 ?_
  refine w_topi (wI_ne (by omega)) ?_
  refine w_topi erc ?_
  refine lv_iadd hx hb d_M_addRow_31 ?_
  refine w_topi (y_idx 6 ej rc) ?_
  refine lv_lload_n hx hb d_M_addRow_32 rfl (lv_at hl 3 rfl) ?_
  refine w_last hx hb hK hP hW hS 14 1 (by decide) (fun _ => SM_14) rfl (k := (6 * ej + rc)) (by omega) (by decide) d_M_addRow_33 (fun H locs hP hS => ?_)
  refine lv_aload_n hx hb d_M_addRow_34 rfl (lv_at hl 0 rfl) ?_
  refine w_get (C := R_M) (T := F_M) (N := 22) (ci := 5) (v := .ref (o + 12)) hx hb hts inw_M hown hK hP 0 (by decide) SM_0 rfl 15 (by decide) (hts _ (al aF_M_45)) rfl d_M_addRow_35 ?_
  refine lv_iload_n hx hb d_M_addRow_38 rfl (lv_at hl 1 rfl) ?_
  refine lv_dup2_11 hx hb d_M_addRow_39 rfl rfl ?_
  refine w_iald hx hb hK hP 12 0 (by decide) SM_12 rfl (k := ej) (by omega) (by decide) d_M_addRow_40 ?_
  refine w_topi ((wL_toI).trans (wI_ne (by omega))) ?_
  refine w_topi erc ?_
  refine lv_iconst (v := 1) hx hb d_M_addRow_41 (by decide) ?_
  refine lv_iadd hx hb d_M_addRow_42 ?_
  refine w_topi ((nI_succ rc).symm) ?_
  refine w_iast hx hb hK hP hW hS 12 0 (by decide) (fun _ => SM_12) rfl (k := ej) (by omega) (by decide) d_M_addRow_43 (fun H locs hP hS => ?_)
  exact W.vret hx hb hr (fun tz hz9 hW9 => ⟨⟨(wI (wL (wI M 13 (6 * ej + rc) ac) 14 (6 * ej + rc) ce) 12 ej (nI (rc + 1))), rfl, rfl, by rw [hz9]; exact hP, va_K.moved hW9.alike hK⟩, hS.F hz9⟩) hS.2.2 d_M_addRow_44
set_option maxHeartbeats 4000000 in
set_option maxRecDepth 100000 in
/-- M_closeNow -/
theorem k_M_closeNow (l : Launch) (D : va_G) (cA : Nat → ClassId) (o sz : Nat) (M : wM) (ln ej : Nat) (hj : ej < 60) (eln : M.2.2 0 20 = nI ln) : Met l y_M_closeNow (wm y_M_closeNow c_M_closeNow 2 (none)) { frames := 0, cells := 0, slots := 0, locals := 0 } (va_Pc [.ref (o + 0), .int (nI ej)] (mB D cA o M sz)) (va_Qv (fun M1 => M1 = wI (wF M 0 20 (nI (ln + 1))) 15 ej (nI (ln + 1))) (mQ D cA o) (mA o sz)) 0 0 (mA o sz) := by
  refine Met.ofW (cc := c_M_closeNow) (maxL := 2) (ret := (none)) (by decide) rfl ?_
  intro p e s m args below meth c s₁ B hml hv
  obtain ⟨rfl, hsz, hP, hK⟩ := hv
  have hx := B.exec
  have hb := B.bytes
  have hr := B.returns
  have hts := atoms_spec (ws := wm y_M_closeNow c_M_closeNow 2 (none)) B.pre
  have hown : s.vm.findClass "ShopDesksModel" = some m.cls := findClass_of_methodNamed B.named
  have hlocks := B.notSynchronized
  subst hsz
  have hS : va_S (mA o s.heap.size) s.heap s.heap [] := va_S.rf
  have hW : ∀ i, i < 17 → mA o s.heap.size (o + i) := fun i hi => wA_in hi
  have hl := lv_entry ([.ref (o + 0), .int (nI ej)]) (n := 2) (Nat.le_of_ble_eq_true rfl)
  rw [lg_entry_eq]
  generalize (lg_sl ([.ref (o + 0), .int (nI ej)]) ++ List.replicate (2 - (lg_sl ([.ref (o + 0), .int (nI ej)])).length) Slot.unset).toArray = ls at hl ⊢
  have hl : lv_has ls 2 [(0, .ref (o + 0)), (1, .int (nI ej))] := hl
  refine lv_aload_n hx hb d_M_closeNow_0 rfl (lv_at hl 0 rfl) ?_
  refine lv_dup hx hb d_M_closeNow_1 rfl ?_
  refine w_get (C := R_M) (T := F_M) (N := 22) (ci := 5) (v := .int (M.2.2 0 20)) hx hb hts inw_M hown hK hP 0 (by decide) SM_0 rfl 20 (by decide) (hts _ (al aF_M_156)) rfl d_M_closeNow_2 ?_
  refine w_topi eln ?_
  refine lv_iconst (v := 1) hx hb d_M_closeNow_5 (by decide) ?_
  refine lv_iadd hx hb d_M_closeNow_6 ?_
  refine w_topi ((nI_succ ln).symm) ?_
  refine w_put (C := R_M) (T := F_M) (N := 22) (ci := 5) (x := nI (ln + 1)) hx hb hts inw_M ft_M ft_M_ok fn_M hown hK hP hW hS 0 (by decide) SM_0 rfl 20 (by decide) (hts _ (al aF_M_156)) rfl rfl rfl (Nat.le_of_ble_eq_true rfl) (by rw [wF_r]; exact SM_0.trans rfl) d_M_closeNow_7 (fun H locs hP hS => ?_)
  refine lv_aload_n hx hb d_M_closeNow_10 rfl (lv_at hl 0 rfl) ?_
  refine w_get (C := R_M) (T := F_M) (N := 22) (ci := 5) (v := .ref (o + 15)) hx hb hts inw_M hown hK hP 0 (by decide) SM_0 rfl 18 (by decide) (hts _ (al aF_M_54)) rfl d_M_closeNow_11 ?_
  refine lv_iload_n hx hb d_M_closeNow_14 rfl (lv_at hl 1 rfl) ?_
  refine lv_aload_n hx hb d_M_closeNow_15 rfl (lv_at hl 0 rfl) ?_
  refine w_get (C := R_M) (T := F_M) (N := 22) (ci := 5) (v := .int (nI (ln + 1))) hx hb hts inw_M hown hK hP 0 (by decide) SM_0 rfl 20 (by decide) (hts _ (al aF_M_156)) rfl d_M_closeNow_16 ?_
  refine w_iast hx hb hK hP hW hS 15 0 (by decide) (fun _ => SM_15) rfl (k := ej) (by omega) (by decide) d_M_closeNow_19 (fun H locs hP hS => ?_)
  exact W.vret hx hb hr (fun tz hz9 hW9 => ⟨⟨(wI (wF M 0 20 (nI (ln + 1))) 15 ej (nI (ln + 1))), rfl, rfl, by rw [hz9]; exact hP, va_K.moved hW9.alike hK⟩, hS.F hz9⟩) hS.2.2 d_M_closeNow_20

