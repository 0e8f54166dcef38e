/-! the law's loop: its head, its switch, its end -/
theorem lc_sub {L : Nat} (hL : L < 2147483648) : (Int32.ofNat L - 10).toInt = (L : Int) - 10 := by
  have h1 : (Int32.ofNat L).toInt = (L : Int) := nI_toInt (show L < 2 ^ 31 by omega)
  rw [Int32.toInt_sub, h1, show (10 : Int32).toInt = 10 by decide]
  exact Int.bmod_eq_of_le (by omega) (by omega)
theorem lc_gt {L i : Nat} (hL : L < 2147483648) (hi : i < 2147483648) : (Int32.ofNat L - 10 < nI i) ↔ ¬ i + 10 ≤ L := by
  rw [Int32.lt_iff_toInt_lt, lc_sub hL, nI_toInt (show i < 2 ^ 31 by omega)]
  omega
theorem lw_head {p : Program} {l : Launch} {e : Env} {s : State} {m : MethodId} {args : Array Value} {below : List Frame} {meth : Method} {c : Code} {D : va_G} {cA : Nat → ClassId} {o o2 qo b L : Nat} {xs : Nat → Int32} (C : LC p l s m args c D cA o o2 qo b L xs) {Q : State → Prop} {H : Heap} {locs : List Loc} {cells slots : Nat} {ls : Array Slot} {ix : Nat} (hix : ix < 2147483648) (hS : va_S (fun q => o ≤ q) s.heap H locs) (hl : lv_has ls 8 [(0, .ref b), (1, .ref (o + 0)), (2, .ref (o2 + 0)), (3, .ref qo), (4, .int (nI ix))])
    (ke : ¬ ix + 10 ≤ L → W p l e room_1 s m args below meth c H locs cells slots Q (F0 m 1121 ls [])) (ki : ix + 10 ≤ L → W p l e room_1 s m args below meth c H locs cells slots Q (F0 m 33 ls [])) : W p l e room_1 s m args below meth c H locs cells slots Q (F0 m 23 ls []) := by
  obtain ⟨hx, hb, hml, hown, hts, hK, hG, hN, hX, hbl, hl9, ho, ho2, hqo, hL⟩ := C
  refine lv_iload hx hb d_W_law_23 (lv_at hl 4 rfl) ?_
  refine lv_aload_n hx hb d_W_law_25 rfl (lv_at hl 0 rfl) ?_
  refine va_slen (A := fun q => o ≤ q) hx hb hX hbl (fun h => by omega) hS d_W_law_26 ?_
  refine lv_bipush (v := 10) hx hb d_W_law_27 (by decide) ?_
  refine lv_isub hx hb d_W_law_29 ?_
  refine lv_icmp_gt (tgt := 1121) hx hb d_W_law_30 (by decide) (fun c_1 => ?_) (fun c_1 => ?_)
  · exact ke ((lc_gt hL hix).mp c_1)
  · exact ki (Decidable.byContradiction fun h => c_1 ((lc_gt hL hix).mpr h))
theorem lw_tail {p : Program} {l : Launch} {e : Env} {s : State} {m : MethodId} {args : Array Value} {below : List Frame} {meth : Method} {c : Code} {D : va_G} {cA : Nat → ClassId} {o o2 qo b L : Nat} {xs : Nat → Int32} (C : LC p l s m args c D cA o o2 qo b L xs) {Q : State → Prop} {H : Heap} {locs : List Loc} {cells slots : Nat} {ls : Array Slot} {ix : Nat} (hl : lv_has ls 8 [(0, .ref b), (1, .ref (o + 0)), (2, .ref (o2 + 0)), (3, .ref qo), (4, .int (nI ix))])
    (kk : ∀ ls1 : Array Slot, lv_has ls1 8 [(0, .ref b), (1, .ref (o + 0)), (2, .ref (o2 + 0)), (3, .ref qo), (4, .int (nI (ix + 10)))] → W p l e room_1 s m args below meth c H locs cells slots Q (F0 m 23 ls1 [])) : W p l e room_1 s m args below meth c H locs cells slots Q (F0 m 1115 ls []) := by
  obtain ⟨hx, hb, hml, hown, hts, hK, hG, hN, hX, hbl, hl9, ho, ho2, hqo, hL⟩ := C
  refine lv_iinc (v := nI (ix + 10)) (lv' := [(4, .int (nI (ix + 10))), (0, .ref b), (1, .ref (o + 0)), (2, .ref (o2 + 0)), (3, .ref qo)]) hx hb d_W_law_1115 hl (k := 4) rfl (lc_add ix 10 rfl) (by decide) rfl (fun ls hl => ?_)
  refine lv_goto (tgt := 23) hx hb d_W_law_1118 (by decide) ?_
  exact kk ls (lv_sub hl [1, 2, 3, 4, 0] rfl)
theorem sw17 (x : Int32) : (x.toInt < 0 ∨ 16 < x.toInt) ∨ ∃ k : Nat, k < 17 ∧ x = nI k := by
  by_cases h : x.toInt < 0 ∨ 16 < x.toInt
  · exact Or.inl h
  · refine Or.inr ⟨x.toInt.toNat, by omega, ?_⟩
    apply Int32.toInt_inj.mp
    rw [nI_toInt (by omega)]
    omega
theorem lw_switch {p : Program} {l : Launch} {e : Env} {s : State} {m : MethodId} {args : Array Value} {below : List Frame} {meth : Method} {c : Code} {D : va_G} {cA : Nat → ClassId} {o o2 qo b L : Nat} {xs : Nat → Int32} (C : LC p l s m args c D cA o o2 qo b L xs) {Q : State → Prop} {H : Heap} {locs : List Loc} {cells slots : Nat} {ls : Array Slot} {ix : Nat} (hi : ix + 10 ≤ L) (hS : va_S (fun q => o ≤ q) s.heap H locs) (hl : lv_has ls 8 [(0, .ref b), (1, .ref (o + 0)), (2, .ref (o2 + 0)), (3, .ref qo), (4, .int (nI ix))])
    (kd : W p l e room_1 s m args below meth c H locs cells slots Q (F0 m 1115 ls []))
    (k0 : W p l e room_1 s m args below meth c H locs cells slots Q (F0 m 124 ls [])) (k1 : W p l e room_1 s m args below meth c H locs cells slots Q (F0 m 316 ls [])) (k2 : W p l e room_1 s m args below meth c H locs cells slots Q (F0 m 344 ls [])) (k3 : W p l e room_1 s m args below meth c H locs cells slots Q (F0 m 384 ls [])) (k4 : W p l e room_1 s m args below meth c H locs cells slots Q (F0 m 424 ls [])) (k5 : W p l e room_1 s m args below meth c H locs cells slots Q (F0 m 520 ls [])) (k6 : W p l e room_1 s m args below meth c H locs cells slots Q (F0 m 560 ls [])) (k7 : W p l e room_1 s m args below meth c H locs cells slots Q (F0 m 588 ls [])) (k8 : W p l e room_1 s m args below meth c H locs cells slots Q (F0 m 652 ls [])) (k9 : W p l e room_1 s m args below meth c H locs cells slots Q (F0 m 708 ls [])) (k10 : W p l e room_1 s m args below meth c H locs cells slots Q (F0 m 776 ls [])) (k11 : W p l e room_1 s m args below meth c H locs cells slots Q (F0 m 867 ls [])) (k12 : W p l e room_1 s m args below meth c H locs cells slots Q (F0 m 895 ls [])) (k13 : W p l e room_1 s m args below meth c H locs cells slots Q (F0 m 979 ls [])) (k14 : W p l e room_1 s m args below meth c H locs cells slots Q (F0 m 1007 ls [])) (k15 : W p l e room_1 s m args below meth c H locs cells slots Q (F0 m 1047 ls [])) (k16 : W p l e room_1 s m args below meth c H locs cells slots Q (F0 m 1075 ls [])) : W p l e room_1 s m args below meth c H locs cells slots Q (F0 m 33 ls []) := by
  obtain ⟨hx, hb, hml, hown, hts, hK, hG, hN, hX, hbl, hl9, ho, ho2, hqo, hL⟩ := C
  refine lv_aload_n hx hb d_W_law_33 rfl (lv_at hl 0 rfl) ?_
  refine lv_iload hx hb d_W_law_34 (lv_at hl 4 rfl) ?_
  refine lc_ld hx hb hX hbl ho hS (i := ix) (by omega) hL d_W_law_36 ?_
  refine lv_bipush (v := 31) hx hb d_W_law_37 (by decide) ?_
  refine lv_iand hx hb d_W_law_39 ?_
  rcases sw17 (xs ix &&& 31) with h | ⟨k, hk, h⟩
  · exact lv_tableOut (tgt := 1115) hx hb d_W_law_40 h (by decide) kd
  · rw [h]
    rcases (show k = 0 ∨ k = 1 ∨ k = 2 ∨ k = 3 ∨ k = 4 ∨ k = 5 ∨ k = 6 ∨ k = 7 ∨ k = 8 ∨ k = 9 ∨ k = 10 ∨ k = 11 ∨ k = 12 ∨ k = 13 ∨ k = 14 ∨ k = 15 ∨ k = 16 by omega) with rfl | rfl | rfl | rfl | rfl | rfl | rfl | rfl | rfl | rfl | rfl | rfl | rfl | rfl | rfl | rfl | rfl
    · exact lv_tableIn (off := 84) (tgt := 124) hx hb d_W_law_40 (by decide) (by decide) rfl (by decide) k0
    · exact lv_tableIn (off := 276) (tgt := 316) hx hb d_W_law_40 (by decide) (by decide) rfl (by decide) k1
    · exact lv_tableIn (off := 304) (tgt := 344) hx hb d_W_law_40 (by decide) (by decide) rfl (by decide) k2
    · exact lv_tableIn (off := 344) (tgt := 384) hx hb d_W_law_40 (by decide) (by decide) rfl (by decide) k3
    · exact lv_tableIn (off := 384) (tgt := 424) hx hb d_W_law_40 (by decide) (by decide) rfl (by decide) k4
    · exact lv_tableIn (off := 480) (tgt := 520) hx hb d_W_law_40 (by decide) (by decide) rfl (by decide) k5
    · exact lv_tableIn (off := 520) (tgt := 560) hx hb d_W_law_40 (by decide) (by decide) rfl (by decide) k6
    · exact lv_tableIn (off := 548) (tgt := 588) hx hb d_W_law_40 (by decide) (by decide) rfl (by decide) k7
    · exact lv_tableIn (off := 612) (tgt := 652) hx hb d_W_law_40 (by decide) (by decide) rfl (by decide) k8
    · exact lv_tableIn (off := 668) (tgt := 708) hx hb d_W_law_40 (by decide) (by decide) rfl (by decide) k9
    · exact lv_tableIn (off := 736) (tgt := 776) hx hb d_W_law_40 (by decide) (by decide) rfl (by decide) k10
    · exact lv_tableIn (off := 827) (tgt := 867) hx hb d_W_law_40 (by decide) (by decide) rfl (by decide) k11
    · exact lv_tableIn (off := 855) (tgt := 895) hx hb d_W_law_40 (by decide) (by decide) rfl (by decide) k12
    · exact lv_tableIn (off := 939) (tgt := 979) hx hb d_W_law_40 (by decide) (by decide) rfl (by decide) k13
    · exact lv_tableIn (off := 967) (tgt := 1007) hx hb d_W_law_40 (by decide) (by decide) rfl (by decide) k14
    · exact lv_tableIn (off := 1007) (tgt := 1047) hx hb d_W_law_40 (by decide) (by decide) rfl (by decide) k15
    · exact lv_tableIn (off := 1035) (tgt := 1075) hx hb d_W_law_40 (by decide) (by decide) rfl (by decide) k16
theorem lw_start {p : Program} {l : Launch} {e : Env} {s : State} {m : MethodId} {args : Array Value} {below : List Frame} {meth : Method} {c : Code} {D : va_G} {cA : Nat → ClassId} {o o2 qo b L : Nat} {xs : Nat → Int32} (C : LC p l s m args c D cA o o2 qo b L xs) (hgn : gN s) {Q : State → Prop} {ls : Array Slot} (hl : lv_has ls 8 [(0, .ref b)])
    (kk : ∀ (H : Heap) (locs : List Loc) (ls1 : Array Slot), xP D cA o m0X H → nP D cA o2 m0M H → oP D cA qo (fun _ => 0) H → va_S (fun q => o ≤ q) s.heap H locs → lv_has ls1 8 [(0, .ref b), (1, .ref (o + 0)), (2, .ref (o2 + 0)), (3, .ref qo), (4, .int (nI 0))] → W p l e room_1 s m args below meth c H locs 235 13157 Q (F0 m 23 ls1 [])) : W p l e room_1 s m args below meth c s.heap [] 0 0 Q (F0 m 0 ls []) := by
  obtain ⟨hx, hb, hml, hown, hts, hK, hG0, hN0, hX, hbl, hl9, ho, ho2, hqo, hL⟩ := C
  have hN := hgn
  have hA : ∀ q, o ≤ q → (fun q => o ≤ q) q := fun _ h => h
  have hS : va_S (fun q => o ≤ q) s.heap s.heap [] := va_S.rf
  have hG : gP D cls_ (fun _ => .inr (0, [])) o 0 s.heap := ⟨by omega, fun i hi => absurd hi (Nat.not_lt_zero i)⟩
  refine g_new (C := R_X) (T := F_X) (N := 5) (ci := 4) (fs := dX) hx hb hts inw_X ft_X ft_X_ok hown (hts _ (al aC_W_8)) (hts _ (al aT_X)) (hts _ (al aN_X)) hK hG hS rfl df_X (Nat.le_of_ble_eq_true rfl) (Nat.le_of_ble_eq_true rfl) d_W_law_0 (fun H hG hS => ?_)
  refine lv_dup hx hb d_W_law_3 rfl ?_
  refine g_callv (E := fun _ => .inr (0, [])) (E1 := EXf cA (o + 0)) (k := 217) (va_runI (As := []) (rest := [.ref (o + 0)]) ⟨hx, hb, hml, hown, hts⟩ (k_X_init l D cA (o + 0) ) (kI hts 0 aK_X_init aM_W_77 aI_X_init aN_X rfl nm_X_init rfl rfl ⟨(Nat.le_of_ble_eq_true rfl), (Nat.le_of_ble_eq_true rfl)⟩) (gB_pre hK hN hG) rfl rfl hl.1 rfl (lv_room (Nat.le_of_ble_eq_true rfl)) d_W_law_4 ⟨(Nat.le_of_ble_eq_true rfl), (Nat.le_of_ble_eq_true rfl)⟩) hG hS hA (fun H locs hG hS => ?_)
  refine lv_astore_n (lv' := [(1, .ref (o + 0)), (0, .ref b)]) hx hb d_W_law_7 rfl hl (by decide) rfl (fun ls hl => ?_)
  refine g_new (C := R_M) (T := F_M) (N := 22) (ci := 5) (fs := dM) hx hb hts inw_M ft_M ft_M_ok hown (hts _ (al aC_W_78)) (hts _ (al aT_M)) (hts _ (al aN_M)) hK hG hS rfl df_M (Nat.le_of_ble_eq_true rfl) (Nat.le_of_ble_eq_true rfl) d_W_law_8 (fun H hG hS => ?_)
  refine lv_dup hx hb d_W_law_11 rfl ?_
  refine g_callv (E := gj (fun _ => .inr (0, [])) 0 (EXf cA (o + 0))) (E1 := fun i => SM (o + 217) cA i (m0M.1 i) (m0M.2.1 i) (m0M.2.2 i)) (k := 17) (va_runI (As := []) (rest := [.ref (o + 217)]) ⟨hx, hb, hml, hown, hts⟩ (k_M_init l D cA (o + 217) ) (kI hts 0 aK_M_init aM_W_80 aI_M_init aN_M rfl nm_M_init rfl rfl ⟨(Nat.le_of_ble_eq_true rfl), (Nat.le_of_ble_eq_true rfl)⟩) (gB_pre hK hN hG) rfl rfl hl.1 rfl (lv_room (Nat.le_of_ble_eq_true rfl)) d_W_law_12 ⟨(Nat.le_of_ble_eq_true rfl), (Nat.le_of_ble_eq_true rfl)⟩) hG hS hA (fun H locs hG hS => ?_)
  refine lv_astore_n (lv' := [(2, .ref (o + 217)), (1, .ref (o + 0)), (0, .ref b)]) hx hb d_W_law_15 rfl hl (by decide) rfl (fun ls hl => ?_)
  refine lv_iconst (v := 1) hx hb d_W_law_16 (by decide) ?_
  refine g_newa (atype := .long) (ty := .long) (N' := 1) (a0 := (1, .inr (.inl (fun _ => 0)))) hx hb (hts _ (al aA_long)) rfl hK hG hS 1 rfl (fun h9 => h9) rfl (by decide) (pk_cl 1) (Nat.le_of_ble_eq_true rfl) (Nat.le_of_ble_eq_true rfl) (Nat.le_of_ble_eq_true rfl) d_W_law_17 (fun H hG hS => ?_)
  refine lv_astore_n (lv' := [(3, .ref (o + 234)), (2, .ref (o + 217)), (1, .ref (o + 0)), (0, .ref b)]) hx hb d_W_law_19 rfl hl (by decide) rfl (fun ls hl => ?_)
  refine lv_iconst (v := 0) hx hb d_W_law_20 (by decide) ?_
  refine lv_istore (lv' := [(4, .int 0), (3, .ref (o + 234)), (2, .ref (o + 217)), (1, .ref (o + 0)), (0, .ref b)]) hx hb d_W_law_21 hl (by decide) rfl (fun ls hl => ?_)
  subst ho2
  subst hqo
  refine kk _ _ ls (wP_of (fun i hi => ?_)) (wP_of (fun i hi => ?_)) ?_ hS (lv_sub hl [4, 3, 2, 1, 0] rfl)
  · have h1 := hG.2 i (by omega)
    rw [gu_ne (by omega), gj_lt (by omega), gj_ge (show i = 0 + i by omega)] at h1
    exact h1
  · have h1 := hG.2 (217 + i) (by omega)
    rw [gu_ne (by omega), gj_ge (show 217 + i = 217 + i from rfl), ← Nat.add_assoc] at h1
    exact h1
  · have h1 := hG.2 234 (by omega)
    rw [gu_s] at h1
    exact h1

