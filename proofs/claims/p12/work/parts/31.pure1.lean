/-! counting -/
def cnt (p : Nat → Bool) : Nat → Nat
  | 0 => 0
  | k + 1 => if p k = true then cnt p k + 1 else cnt p k
theorem cnt_le (p : Nat → Bool) : ∀ k, cnt p k ≤ k
  | 0 => Nat.le_refl _
  | k + 1 => by
    have := cnt_le p k
    unfold cnt
    split <;> omega
theorem cnt_lt {p : Nat → Bool} {j : Nat} (h : p j = false) : ∀ k, j < k → cnt p k < k
  | 0, hj => absurd hj (Nat.not_lt_zero _)
  | k + 1, hj => by
    have h1 := cnt_le p k
    unfold cnt
    by_cases e : j = k
    · subst e
      rw [if_neg (by rw [h]; decide)]
      omega
    · have := cnt_lt h k (by omega)
      split <;> omega
theorem cnt_eq {p q : Nat → Bool} : ∀ k, (∀ j, j < k → p j = q j) → cnt p k = cnt q k
  | 0, _ => rfl
  | k + 1, h => by
    unfold cnt
    rw [h k (by omega), cnt_eq k (fun j hj => h j (by omega))]
theorem cnt_up {p q : Nat → Bool} {i : Nat} (h0 : p i = false) (h1 : q i = true) (ho : ∀ j, j ≠ i → q j = p j) : ∀ k, i < k → cnt q k = cnt p k + 1
  | 0, hi => absurd hi (Nat.not_lt_zero _)
  | k + 1, hi => by
    unfold cnt
    by_cases e : i = k
    · subst e
      rw [if_pos h1, if_neg (by rw [h0]; decide), cnt_eq i (fun j hj => ho j (by omega))]
    · rw [ho k (fun z => e z.symm), cnt_up h0 h1 ho k (by omega)]
      split <;> rfl
/-! THE LEDGERS of the class and of the reference say the same -/
def IL (M N : wM) (ec : Nat) (rc : Nat → Nat) (ln : Nat) (en : Nat → Nat) : Prop := (ec ≤ 60) ∧ (M.2.2 34 2 = nI ec) ∧ (N.2.2 0 13 = nI ec) ∧ (∀ j, j < 60 → rc j ≤ 6 ∧ M.2.2 (37 + 3 * j) 2 = nI (rc j) ∧ N.1 12 j = nI (rc j)) ∧ (∀ j, ec ≤ j → j < 60 → rc j = 0) ∧ (M.2.2 34 3 = nI ln) ∧ (N.2.2 0 20 = nI ln) ∧ (cnt (fun j => decide (¬ M.2.2 (37 + 3 * j) 4 = 0)) ec = ln) ∧ (∀ j, ec ≤ j → j < 60 → M.2.2 (37 + 3 * j) 4 = 0 ∧ M.2.2 (37 + 3 * j) 5 = 0 ∧ M.2.2 (37 + 3 * j) 6 = 0 ∧ N.1 15 j = 0 ∧ N.1 16 j = 0) ∧ (∀ j, j < ec → ∃ m, m ≤ ln ∧ M.2.2 (37 + 3 * j) 4 = nI m ∧ N.1 15 j = nI m ∧ (1 ≤ m → en m = j)) ∧ (∀ m, 1 ≤ m → m ≤ ln → en m < ec ∧ M.1 36 m = nI (en m) ∧ N.1 15 (en m) = nI m) ∧ (∀ j, j < ec → M.2.2 (37 + 3 * j) 3 = N.1 11 j) ∧ (∀ j, j < 60 → ∀ r, r < rc j → M.1 (37 + 3 * j + 1) r = N.1 13 (6 * j + r) ∧ M.2.1 (37 + 3 * j + 2) r = N.2.1 14 (6 * j + r)) ∧ (∀ j, j < ec → ((M.2.2 (37 + 3 * j) 5 = 0 ∧ M.2.2 (37 + 3 * j) 6 = 0) ↔ N.1 16 j = 0)) ∧ (M.2.2 34 4 = N.2.2 0 21)
theorem IL.hec {M N : wM} {ec : Nat} {rc : Nat → Nat} {ln : Nat} {en : Nat → Nat} (h : IL M N ec rc ln en) : ec ≤ 60 := h.1
theorem IL.xec {M N : wM} {ec : Nat} {rc : Nat → Nat} {ln : Nat} {en : Nat → Nat} (h : IL M N ec rc ln en) : M.2.2 34 2 = nI ec := h.2.1
theorem IL.yec {M N : wM} {ec : Nat} {rc : Nat → Nat} {ln : Nat} {en : Nat → Nat} (h : IL M N ec rc ln en) : N.2.2 0 13 = nI ec := h.2.2.1
theorem IL.hrc {M N : wM} {ec : Nat} {rc : Nat → Nat} {ln : Nat} {en : Nat → Nat} (h : IL M N ec rc ln en) : ∀ j, j < 60 → rc j ≤ 6 ∧ M.2.2 (37 + 3 * j) 2 = nI (rc j) ∧ N.1 12 j = nI (rc j) := h.2.2.2.1
theorem IL.rc0 {M N : wM} {ec : Nat} {rc : Nat → Nat} {ln : Nat} {en : Nat → Nat} (h : IL M N ec rc ln en) : ∀ j, ec ≤ j → j < 60 → rc j = 0 := h.2.2.2.2.1
theorem IL.xln {M N : wM} {ec : Nat} {rc : Nat → Nat} {ln : Nat} {en : Nat → Nat} (h : IL M N ec rc ln en) : M.2.2 34 3 = nI ln := h.2.2.2.2.2.1
theorem IL.yln {M N : wM} {ec : Nat} {rc : Nat → Nat} {ln : Nat} {en : Nat → Nat} (h : IL M N ec rc ln en) : N.2.2 0 20 = nI ln := h.2.2.2.2.2.2.1
theorem IL.cl {M N : wM} {ec : Nat} {rc : Nat → Nat} {ln : Nat} {en : Nat → Nat} (h : IL M N ec rc ln en) : cnt (fun j => decide (¬ M.2.2 (37 + 3 * j) 4 = 0)) ec = ln := h.2.2.2.2.2.2.2.1
theorem IL.cl0 {M N : wM} {ec : Nat} {rc : Nat → Nat} {ln : Nat} {en : Nat → Nat} (h : IL M N ec rc ln en) : ∀ j, ec ≤ j → j < 60 → M.2.2 (37 + 3 * j) 4 = 0 ∧ M.2.2 (37 + 3 * j) 5 = 0 ∧ M.2.2 (37 + 3 * j) 6 = 0 ∧ N.1 15 j = 0 ∧ N.1 16 j = 0 := h.2.2.2.2.2.2.2.2.1
theorem IL.num {M N : wM} {ec : Nat} {rc : Nat → Nat} {ln : Nat} {en : Nat → Nat} (h : IL M N ec rc ln en) : ∀ j, j < ec → ∃ m, m ≤ ln ∧ M.2.2 (37 + 3 * j) 4 = nI m ∧ N.1 15 j = nI m ∧ (1 ≤ m → en m = j) := h.2.2.2.2.2.2.2.2.2.1
theorem IL.hen {M N : wM} {ec : Nat} {rc : Nat → Nat} {ln : Nat} {en : Nat → Nat} (h : IL M N ec rc ln en) : ∀ m, 1 ≤ m → m ≤ ln → en m < ec ∧ M.1 36 m = nI (en m) ∧ N.1 15 (en m) = nI m := h.2.2.2.2.2.2.2.2.2.2.1
theorem IL.day {M N : wM} {ec : Nat} {rc : Nat → Nat} {ln : Nat} {en : Nat → Nat} (h : IL M N ec rc ln en) : ∀ j, j < ec → M.2.2 (37 + 3 * j) 3 = N.1 11 j := h.2.2.2.2.2.2.2.2.2.2.2.1
theorem IL.rows {M N : wM} {ec : Nat} {rc : Nat → Nat} {ln : Nat} {en : Nat → Nat} (h : IL M N ec rc ln en) : ∀ j, j < 60 → ∀ r, r < rc j → M.1 (37 + 3 * j + 1) r = N.1 13 (6 * j + r) ∧ M.2.1 (37 + 3 * j + 2) r = N.2.1 14 (6 * j + r) := h.2.2.2.2.2.2.2.2.2.2.2.2.1
theorem IL.rev {M N : wM} {ec : Nat} {rc : Nat → Nat} {ln : Nat} {en : Nat → Nat} (h : IL M N ec rc ln en) : ∀ j, j < ec → ((M.2.2 (37 + 3 * j) 5 = 0 ∧ M.2.2 (37 + 3 * j) 6 = 0) ↔ N.1 16 j = 0) := h.2.2.2.2.2.2.2.2.2.2.2.2.2.1
theorem IL.mon {M N : wM} {ec : Nat} {rc : Nat → Nat} {ln : Nat} {en : Nat → Nat} (h : IL M N ec rc ln en) : M.2.2 34 4 = N.2.2 0 21 := h.2.2.2.2.2.2.2.2.2.2.2.2.2.2
theorem IL.mk {M N : wM} {ec : Nat} {rc : Nat → Nat} {ln : Nat} {en : Nat → Nat} (hec9 : ec ≤ 60) (xec9 : M.2.2 34 2 = nI ec) (yec9 : N.2.2 0 13 = nI ec) (hrc9 : ∀ j, j < 60 → rc j ≤ 6 ∧ M.2.2 (37 + 3 * j) 2 = nI (rc j) ∧ N.1 12 j = nI (rc j)) (rc09 : ∀ j, ec ≤ j → j < 60 → rc j = 0) (xln9 : M.2.2 34 3 = nI ln) (yln9 : N.2.2 0 20 = nI ln) (cl9 : cnt (fun j => decide (¬ M.2.2 (37 + 3 * j) 4 = 0)) ec = ln) (cl09 : ∀ j, ec ≤ j → j < 60 → M.2.2 (37 + 3 * j) 4 = 0 ∧ M.2.2 (37 + 3 * j) 5 = 0 ∧ M.2.2 (37 + 3 * j) 6 = 0 ∧ N.1 15 j = 0 ∧ N.1 16 j = 0) (num9 : ∀ j, j < ec → ∃ m, m ≤ ln ∧ M.2.2 (37 + 3 * j) 4 = nI m ∧ N.1 15 j = nI m ∧ (1 ≤ m → en m = j)) (hen9 : ∀ m, 1 ≤ m → m ≤ ln → en m < ec ∧ M.1 36 m = nI (en m) ∧ N.1 15 (en m) = nI m) (day9 : ∀ j, j < ec → M.2.2 (37 + 3 * j) 3 = N.1 11 j) (rows9 : ∀ j, j < 60 → ∀ r, r < rc j → M.1 (37 + 3 * j + 1) r = N.1 13 (6 * j + r) ∧ M.2.1 (37 + 3 * j + 2) r = N.2.1 14 (6 * j + r)) (rev9 : ∀ j, j < ec → ((M.2.2 (37 + 3 * j) 5 = 0 ∧ M.2.2 (37 + 3 * j) 6 = 0) ↔ N.1 16 j = 0)) (mon9 : M.2.2 34 4 = N.2.2 0 21) : IL M N ec rc ln en := ⟨hec9, xec9, yec9, hrc9, rc09, xln9, yln9, cl9, cl09, num9, hen9, day9, rows9, rev9, mon9⟩
/-- the part of the memory that the ledger is -/
def sameL (M M' : wM) : Prop := M'.2.2 34 = M.2.2 34 ∧ M'.1 36 = M.1 36 ∧ ∀ j, j < 60 → M'.2.2 (37 + 3 * j) = M.2.2 (37 + 3 * j) ∧ M'.1 (37 + 3 * j + 1) = M.1 (37 + 3 * j + 1) ∧ M'.2.1 (37 + 3 * j + 2) = M.2.1 (37 + 3 * j + 2)
def sameLn (N N' : wM) : Prop := N'.2.2 0 13 = N.2.2 0 13 ∧ N'.2.2 0 20 = N.2.2 0 20 ∧ N'.2.2 0 21 = N.2.2 0 21 ∧ N'.1 11 = N.1 11 ∧ N'.1 12 = N.1 12 ∧ N'.1 13 = N.1 13 ∧ N'.1 15 = N.1 15 ∧ N'.1 16 = N.1 16 ∧ N'.2.1 14 = N.2.1 14
theorem IL.kept {M N M' N' : wM} {ec : Nat} {rc : Nat → Nat} {ln : Nat} {en : Nat → Nat} (h : IL M N ec rc ln en) (hM : sameL M M') (hN : sameLn N N') : IL M' N' ec rc ln en := by
  obtain ⟨m1, m2, m3⟩ := hM
  obtain ⟨n1, n2, n3, n4, n5, n6, n7, n8, n9⟩ := hN
  have hj : ∀ j, j < ec → j < 60 := fun j hj => Nat.lt_of_lt_of_le hj h.hec
  refine (IL.mk (h.hec) (by rw [m1]; exact h.xec) (by rw [n1]; exact h.yec) (fun j a => by rw [(m3 j a).1, n5]; exact h.hrc j a) (h.rc0) (by rw [m1]; exact h.xln) (by rw [n2]; exact h.yln) ?_ (fun j a b => by rw [(m3 j b).1, n7, n8]; exact h.cl0 j a b) (fun j a => by rw [(m3 j (hj j a)).1, n7]; exact h.num j a) (fun m a b => by rw [m2, n7]; exact h.hen m a b) (fun j a => by rw [(m3 j (hj j a)).1, n4]; exact h.day j a) (fun j a r b => by rw [(m3 j a).2.1, (m3 j a).2.2, n6, n9]; exact h.rows j a r b) (fun j a => by rw [(m3 j (hj j a)).1, n8]; exact h.rev j a) (by rw [m1, n3]; exact h.mon))
  rw [← h.cl]
  exact cnt_eq ec (fun j a => by rw [(m3 j (hj j a)).1])
/-- an entry that is not closed: there is room for a number -/
theorem IL.room {M N : wM} {ec : Nat} {rc : Nat → Nat} {ln : Nat} {en : Nat → Nat} (h : IL M N ec rc ln en) : ∀ j, j < ec → M.2.2 (37 + 3 * j) 4 = 0 → ln < 60 := by
  intro j hj h0
  have h1 := cnt_lt (p := fun j => decide (¬ M.2.2 (37 + 3 * j) 4 = 0)) (j := j) (by simp [h0]) ec hj
  rw [h.cl] at h1
  have := h.hec
  omega
theorem IL.ln_le {M N : wM} {ec : Nat} {rc : Nat → Nat} {ln : Nat} {en : Nat → Nat} (h : IL M N ec rc ln en) : ln ≤ ec := by
  rw [← h.cl]; exact cnt_le _ _
theorem IL.uniq {M N : wM} {ec : Nat} {rc : Nat → Nat} {ln : Nat} {en : Nat → Nat} (h : IL M N ec rc ln en) {m : Nat} (h1 : 1 ≤ m) (h2 : m ≤ ln) : ∀ j, j < en m → ¬ N.1 15 j = nI m := by
  intro j hj e
  have hl := h.ln_le
  have hc := h.hec
  have hb := (h.hen m h1 h2).1
  obtain ⟨m', a, b, c, d⟩ := h.num j (by omega)
  rw [c] at e
  have e' := (nI_eq (a := m') (b := m) (by omega) (by omega)).mp e
  subst e'
  have := d h1
  omega
/-- closeMonth -/
theorem IL.month {M N : wM} {ec : Nat} {rc : Nat → Nat} {ln : Nat} {en : Nat → Nat} (h : IL M N ec rc ln en) (x : Int32) : IL (wF M 34 4 x) (wF N 0 21 x) ec rc ln en := by
  have e : ∀ j, (wF M 34 4 x).2.2 (37 + 3 * j) = M.2.2 (37 + 3 * j) := fun j => up2_o _ _ _ _ (by omega)
  refine (IL.mk (h.hec) (by rw [wF_k (by decide)]; exact h.xec) (by rw [wF_k (by decide)]; exact h.yec) (fun j a => by rw [e]; exact h.hrc j a) (h.rc0) (by rw [wF_k (by decide)]; exact h.xln) (by rw [wF_k (by decide)]; exact h.yln) ?_ (fun j a b => by rw [e]; exact h.cl0 j a b) (fun j a => by rw [e]; exact h.num j a) (h.hen) (fun j a => by rw [e]; exact h.day j a) (h.rows) (fun j a => by rw [e]; exact h.rev j a) (wF_s.trans wF_s.symm))
  rw [← h.cl]
  exact cnt_eq ec (fun j a => by rw [e])
/-- entry -/
theorem IL.opened {M N : wM} {ec : Nat} {rc : Nat → Nat} {ln : Nat} {en : Nat → Nat} (h : IL M N ec rc ln en) (hlt : ec < 60) (dy : Int32) : IL (x_opened M ec dy) (wF (wI N 11 ec dy) 0 13 (nI (ec + 1))) (ec + 1) rc ln en := by
  have e : ∀ j k, k ≠ 3 → (x_opened M ec dy).2.2 (37 + 3 * j) k = M.2.2 (37 + 3 * j) k := fun j k hk => (wF_ne (by omega)).trans (wF_k hk)
  have e3 : ∀ j, j ≠ ec → (x_opened M ec dy).2.2 (37 + 3 * j) 3 = M.2.2 (37 + 3 * j) 3 := fun j hj => (wF_ne (by omega)).trans (wF_ne (by omega))
  have e34 : ∀ k, k ≠ 2 → (x_opened M ec dy).2.2 34 k = M.2.2 34 k := fun k hk => (wF_k hk).trans (wF_ne (by omega))
  have f0 : ∀ k, k ≠ 13 → (wF (wI N 11 ec dy) 0 13 (nI (ec + 1))).2.2 0 k = N.2.2 0 k := fun k hk => (wF_k hk).trans wI_toF
  have f1 : ∀ a, a ≠ 11 → (wF (wI N 11 ec dy) 0 13 (nI (ec + 1))).1 a = N.1 a := fun a ha => up2_o _ _ _ _ ha
  refine (IL.mk (by omega) (wF_s) (wF_s) (fun j a => ?_) (fun j a b => h.rc0 j (by omega) b) ?_ ?_ ?_ (fun j a b => ?_) (fun j a => ?_) (fun m a b => ?_) (fun j a => ?_) (fun j a r b => ?_) (fun j a => ?_) ?_)
  · rw [e j 2 (by decide), f1 12 (by decide)]; exact h.hrc j a
  · rw [e34 3 (by decide)]; exact h.xln
  · rw [f0 20 (by decide)]; exact h.yln
  · rw [cnt_eq (q := fun j => decide (¬ M.2.2 (37 + 3 * j) 4 = 0)) (ec + 1) (fun j _ => by rw [e j 4 (by decide)])]
    unfold cnt
    rw [if_neg (by simp [(h.cl0 ec (Nat.le_refl _) hlt).1])]
    exact h.cl
  · rw [e j 4 (by decide), e j 5 (by decide), e j 6 (by decide), f1 15 (by decide), f1 16 (by decide)]; exact h.cl0 j (by omega) b
  · rw [e j 4 (by decide), f1 15 (by decide)]
    by_cases ej : j = ec
    · subst ej
      have := h.cl0 j (Nat.le_refl _) hlt
      exact ⟨0, Nat.zero_le _, by rw [nI_0]; exact this.1, by rw [nI_0]; exact this.2.2.2.1, fun z => absurd z (by decide)⟩
    · exact h.num j (by omega)
  · rw [f1 15 (by decide)]
    obtain ⟨a1, a2, a3⟩ := h.hen m a b
    exact ⟨by omega, a2, a3⟩
  · by_cases ej : j = ec
    · subst ej
      exact ((wF_ne (by omega)).trans wF_s).trans (wF_toI.trans wI_s).symm
    · rw [e3 j ej]
      exact (h.day j (by omega)).trans (wF_toI.trans (wI_k ej)).symm
  · rw [f1 13 (by decide)]; exact h.rows j a r b
  · rw [e j 5 (by decide), e j 6 (by decide), f1 16 (by decide)]
    by_cases ej : j = ec
    · subst ej
      have := h.cl0 j (Nat.le_refl _) hlt
      exact ⟨fun _ => this.2.2.2.2, fun _ => ⟨this.2.1, this.2.2.1⟩⟩
    · exact h.rev j (by omega)
  · rw [e34 4 (by decide), f0 21 (by decide)]; exact h.mon
/-- row -/
theorem IL.row {M N : wM} {ec : Nat} {rc : Nat → Nat} {ln : Nat} {en : Nat → Nat} (h : IL M N ec rc ln en) {k : Nat} (hk : k < ec) (h6 : rc k < 6) (ac : Int32) (ce : Int64) : IL (x_row M k (rc k) ac ce) (y_row N k (rc k) ac ce) ec (fun j => if j = k then rc k + 1 else rc j) ln en := by
  have hc := h.hec
  have e : ∀ j q, q ≠ 2 → (x_row M k (rc k) ac ce).2.2 (37 + 3 * j) q = M.2.2 (37 + 3 * j) q := fun j q hq => wF_k hq
  have e34 : (x_row M k (rc k) ac ce).2.2 34 = M.2.2 34 := up2_o _ _ _ _ (by omega)
  have f1 : ∀ a, a ≠ 12 → a ≠ 13 → (y_row N k (rc k) ac ce).1 a = N.1 a := fun a h1 h2 => (up2_o _ _ _ _ h1).trans (up2_o _ _ _ _ h2)
  have e36 : (x_row M k (rc k) ac ce).1 36 = M.1 36 := up2_o _ _ _ _ (by omega)
  refine (IL.mk (h.hec) (by rw [e34]; exact h.xec) (h.yec) (fun j a => ?_) (fun j a b => ?_) (by rw [e34]; exact h.xln) (h.yln) ?_ (fun j a b => ?_) (fun j a => ?_) (fun m a b => ?_) (fun j a => ?_) (fun j a r b => ?_) (fun j a => ?_) (by rw [e34]; exact h.mon))
  · by_cases ej : j = k
    · subst ej
      rw [if_pos rfl]
      exact ⟨by omega, wF_s, wI_s⟩
    · rw [if_neg ej]
      obtain ⟨a1, a2, a3⟩ := h.hrc j a
      exact ⟨a1, (wF_ne (by omega)).trans a2, (wI_k ej).trans (wL_toI.trans ((wI_ne (by decide)).trans a3))⟩
  · rw [if_neg (by omega)]; exact h.rc0 j a b
  · rw [← h.cl]
    exact cnt_eq ec (fun j _ => by rw [e j 4 (by decide)])
  · rw [e j 4 (by decide), e j 5 (by decide), e j 6 (by decide), f1 15 (by decide) (by decide), f1 16 (by decide) (by decide)]; exact h.cl0 j a b
  · rw [e j 4 (by decide), f1 15 (by decide) (by decide)]; exact h.num j a
  · rw [e36, f1 15 (by decide) (by decide)]; exact h.hen m a b
  · rw [e j 3 (by decide), f1 11 (by decide) (by decide)]; exact h.day j a
  · by_cases ej : j = k
    · subst ej
      rw [if_pos rfl] at b
      by_cases er : r = rc j
      · subst er
        exact ⟨(wF_toI.trans (wL_toI.trans wI_s)).trans ((wI_ne (by decide)).trans (wL_toI.trans wI_s)).symm, (wF_toL.trans wL_s).trans (wI_toL.trans wL_s).symm⟩
      · obtain ⟨a1, a2⟩ := h.rows j a r (by omega)
        exact ⟨(wF_toI.trans (wL_toI.trans (wI_k er))).trans (a1.trans ((wI_ne (by decide)).trans (wL_toI.trans (wI_k (by omega)))).symm), (wF_toL.trans ((wL_k er).trans wI_toL)).trans (a2.trans (wI_toL.trans ((wL_k (by omega)).trans wI_toL)).symm)⟩
    · rw [if_neg ej] at b
      obtain ⟨a1, a2⟩ := h.rows j a r b
      have := h.hrc j a
      exact ⟨(wF_toI.trans (wL_toI.trans (wI_ne (by omega)))).trans (a1.trans ((wI_ne (by decide)).trans (wL_toI.trans (wI_k (by omega)))).symm), (wF_toL.trans ((wL_ne (by omega)).trans wI_toL)).trans (a2.trans (wI_toL.trans ((wL_k (by omega)).trans wI_toL)).symm)⟩
  · rw [e j 5 (by decide), e j 6 (by decide), f1 16 (by decide) (by decide)]; exact h.rev j a
/-- close -/
theorem IL.numbered {M N : wM} {ec : Nat} {rc : Nat → Nat} {ln : Nat} {en : Nat → Nat} (h : IL M N ec rc ln en) {k : Nat} (hk : k < ec) (h0 : M.2.2 (37 + 3 * k) 4 = 0) : IL (x_numbered M ln k) (y_numbered N ln k) ec rc (ln + 1) (fun m => if m = ln + 1 then k else en m) := by
  have hc := h.hec
  have hl := h.ln_le
  have hlt := h.room k hk h0
  have e : ∀ j q, q ≠ 4 → (x_numbered M ln k).2.2 (37 + 3 * j) q = M.2.2 (37 + 3 * j) q := fun j q hq => wI_toF.trans ((wF_k hq).trans (wF_ne (by omega)))
  have e4 : ∀ j, j ≠ k → (x_numbered M ln k).2.2 (37 + 3 * j) 4 = M.2.2 (37 + 3 * j) 4 := fun j hj => wI_toF.trans ((wF_ne (by omega)).trans (wF_ne (by omega)))
  have e4k : (x_numbered M ln k).2.2 (37 + 3 * k) 4 = nI (ln + 1) := wI_toF.trans wF_s
  have e34 : ∀ q, q ≠ 3 → (x_numbered M ln k).2.2 34 q = M.2.2 34 q := fun q hq => wI_toF.trans ((wF_ne (by omega)).trans (wF_k hq))
  have e36 : ∀ a, a ≠ 36 → (x_numbered M ln k).1 a = M.1 a := fun a ha => up2_o _ _ _ _ ha
  have f0 : ∀ q, q ≠ 20 → (y_numbered N ln k).2.2 0 q = N.2.2 0 q := fun q hq => wI_toF.trans (wF_k hq)
  have f1 : ∀ a, a ≠ 15 → (y_numbered N ln k).1 a = N.1 a := fun a ha => up2_o _ _ _ _ ha
  have f15 : ∀ j, j ≠ k → (y_numbered N ln k).1 15 j = N.1 15 j := fun j hj => (wI_k hj).trans wF_toI
  have f15k : (y_numbered N ln k).1 15 k = nI (ln + 1) := wI_s
  have hnz : ¬ nI (ln + 1) = 0 := nI_ne0 (by omega) (by omega)
  refine (IL.mk (h.hec) (by rw [e34 2 (by decide)]; exact h.xec) (by rw [f0 13 (by decide)]; exact h.yec) (fun j a => ?_) (h.rc0) (wI_toF.trans ((wF_ne (by omega)).trans wF_s)) (wI_toF.trans wF_s) ?_ (fun j a b => ?_) (fun j a => ?_) (fun m a b => ?_) (fun j a => ?_) (fun j a r b => ?_) (fun j a => ?_) (by rw [e34 4 (by decide), f0 21 (by decide)]; exact h.mon))
  · rw [e j 2 (by decide), f1 12 (by decide)]; exact h.hrc j a
  · exact (cnt_up (p := fun j => decide (¬ M.2.2 (37 + 3 * j) 4 = 0)) (i := k) (by simp [h0]) (by simp [e4k, hnz]) (fun j hj => by rw [e4 j hj]) ec hk).trans (by rw [h.cl])
  · rw [e4 j (by omega), e j 5 (by decide), e j 6 (by decide), f15 j (by omega), f1 16 (by decide)]; exact h.cl0 j a b
  · by_cases ej : j = k
    · subst ej
      exact ⟨ln + 1, Nat.le_refl _, e4k, f15k, fun _ => if_pos rfl⟩
    · rw [e4 j ej, f15 j ej]
      obtain ⟨m, a1, a2, a3, a4⟩ := h.num j a
      exact ⟨m, by omega, a2, a3, fun z => by rw [if_neg (by omega)]; exact a4 z⟩
  · by_cases em : m = ln + 1
    · subst em
      rw [if_pos rfl]
      exact ⟨hk, wI_s, f15k⟩
    · rw [if_neg em]
      obtain ⟨a1, a2, a3⟩ := h.hen m a (by omega)
      refine ⟨a1, (wI_k em).trans (wF_toI.trans (wF_toI.trans a2)), ?_⟩
      rw [f15 _ ?_]
      · exact a3
      · intro z
        obtain ⟨m', b1, b2, b3, b4⟩ := h.num k hk
        rw [z] at a3
        rw [b2, ← nI_0] at h0
        have m0 := (nI_eq (a := m') (b := 0) (by omega) (by omega)).mp h0
        subst m0
        rw [b3] at a3
        have := (nI_eq (a := 0) (b := m) (by omega) (by omega)).mp a3
        omega
  · rw [e j 3 (by decide), f1 11 (by decide)]; exact h.day j a
  · rw [e36 _ (by omega), f1 13 (by decide)]; exact h.rows j a r b
  · rw [e j 5 (by decide), e j 6 (by decide), f1 16 (by decide)]; exact h.rev j a
/-- the two marks of a reversal -/
theorem IL.marked {M N : wM} {ec : Nat} {rc : Nat → Nat} {ln : Nat} {en : Nat → Nat} (h : IL M N ec rc ln en) {i k : Nat} (hi : i < ec) (hk : k < ec) : IL (wF (wF M (37 + 3 * i) 6 1) (37 + 3 * k) 5 1) (y_marked N i k) ec rc ln en := by
  have hc := h.hec
  have e : ∀ j q, q ≠ 5 → q ≠ 6 → (wF (wF M (37 + 3 * i) 6 1) (37 + 3 * k) 5 1).2.2 (37 + 3 * j) q = M.2.2 (37 + 3 * j) q := fun j q h5 h6 => (wF_k h5).trans (wF_k h6)
  have e5 : ∀ j, j ≠ k → (wF (wF M (37 + 3 * i) 6 1) (37 + 3 * k) 5 1).2.2 (37 + 3 * j) 5 = M.2.2 (37 + 3 * j) 5 := fun j hj => (wF_ne (by omega)).trans (wF_k (by decide))
  have e6 : ∀ j, j ≠ i → (wF (wF M (37 + 3 * i) 6 1) (37 + 3 * k) 5 1).2.2 (37 + 3 * j) 6 = M.2.2 (37 + 3 * j) 6 := fun j hj => (wF_k (by decide)).trans (wF_ne (by omega))
  have e34 : (wF (wF M (37 + 3 * i) 6 1) (37 + 3 * k) 5 1).2.2 34 = M.2.2 34 := (up2_o _ _ _ _ (by omega)).trans (up2_o _ _ _ _ (by omega))
  have f1 : ∀ a, a ≠ 16 → (y_marked N i k).1 a = N.1 a := fun a h1 => (up2_o _ _ _ _ h1).trans (up2_o _ _ _ _ h1)
  have f16 : ∀ j, j ≠ i → j ≠ k → (y_marked N i k).1 16 j = N.1 16 j := fun j h1 h2 => (wI_k h1).trans (wI_k h2)
  refine (IL.mk (h.hec) (by rw [e34]; exact h.xec) (h.yec) (fun j a => ?_) (h.rc0) (by rw [e34]; exact h.xln) (h.yln) ?_ (fun j a b => ?_) (fun j a => ?_) (fun m a b => ?_) (fun j a => ?_) (fun j a r b => ?_) (fun j a => ?_) (by rw [e34]; exact h.mon))
  · rw [e j 2 (by decide) (by decide), f1 12 (by decide)]; exact h.hrc j a
  · rw [← h.cl]
    exact cnt_eq ec (fun j _ => by rw [e j 4 (by decide) (by decide)])
  · rw [e j 4 (by decide) (by decide), e5 j (by omega), e6 j (by omega), f1 15 (by decide), f16 j (by omega) (by omega)]; exact h.cl0 j a b
  · rw [e j 4 (by decide) (by decide), f1 15 (by decide)]; exact h.num j a
  · rw [f1 15 (by decide)]; exact h.hen m a b
  · rw [e j 3 (by decide) (by decide), f1 11 (by decide)]; exact h.day j a
  · rw [f1 13 (by decide)]; exact h.rows j a r b
  · by_cases ei : j = i
    · subst ei
      have h1 : (wF (wF M (37 + 3 * j) 6 1) (37 + 3 * k) 5 1).2.2 (37 + 3 * j) 6 = 1 := (wF_k (by decide)).trans wF_s
      have h2 : (y_marked N j k).1 16 j = 1 := wI_s
      rw [h1, h2]
      exact ⟨fun z => absurd z.2 (by decide), fun z => absurd z (by decide)⟩
    · by_cases ek : j = k
      · subst ek
        have h1 : (wF (wF M (37 + 3 * i) 6 1) (37 + 3 * j) 5 1).2.2 (37 + 3 * j) 5 = 1 := wF_s
        have h2 : (y_marked N i j).1 16 j = 1 := (wI_k ei).trans wI_s
        rw [h1, h2]
        exact ⟨fun z => absurd z.1 (by decide), fun z => absurd z (by decide)⟩
      · rw [e5 j ek, e6 j ei, f16 j ei ek]; exact h.rev j a
theorem IL.turn {M N : wM} {ec : Nat} {rc : Nat → Nat} {ln : Nat} {en : Nat → Nat} (h : IL M N ec rc ln en) {i k : Nat} (hi : i < ec) (hk : k < ec) (hik : i ≠ k) (hi0 : rc i = 0) : ∀ q, q ≤ rc k → IL (x_turn M i k q) (y_turn N i k q) ec (fun j => if j = i then q else rc j) ln en
  | 0, _ => by
    have e : (fun j => if j = i then 0 else rc j) = rc := by
      funext j
      by_cases ej : j = i
      · rw [if_pos ej, ej, hi0]
      · rw [if_neg ej]
    rw [e]
    exact h
  | q + 1, hq => by
    have ih := IL.turn h hi hk hik hi0 q (by omega)
    have hc := h.hec
    have h6 := (h.hrc k (by omega)).1
    have hr := h.rows k (by omega) q (by omega)
    have st := ih.row (k := i) hi (by rw [if_pos rfl]; omega) (M.1 (37 + 3 * k + 1) q) (-(M.2.1 (37 + 3 * k + 2) q))
    rw [if_pos rfl] at st
    have e : (fun j => if j = i then q + 1 else if j = i then q else rc j) = fun j => if j = i then q + 1 else rc j := by
      funext j
      by_cases ej : j = i
      · rw [if_pos ej, if_pos ej]
      · rw [if_neg ej, if_neg ej, if_neg ej]
    have ey : y_turn N i k (q + 1) = y_row (y_turn N i k q) i q (M.1 (37 + 3 * k + 1) q) (-(M.2.1 (37 + 3 * k + 2) q)) := by
      rw [hr.1, hr.2]; rfl
    rw [ey, ← e]
    exact st
/-- reverse -/
theorem IL.reversed {M N : wM} {ec : Nat} {rc : Nat → Nat} {ln : Nat} {en : Nat → Nat} (h : IL M N ec rc ln en) {k : Nat} (hk : k < ec) (hlt : ec < 60) (dy : Int32) : IL (x_reversed M ec k (rc k) ln dy) (y_reversed N ec k (rc k) ln dy) (ec + 1) (fun j => if j = ec then rc k else rc j) (ln + 1) (fun m => if m = ln + 1 then ec else en m) := by
  have h0 : IL M (wF (wF N 0 0 0) 0 0 0) ec rc ln en := h.kept ⟨rfl, rfl, fun _ _ => ⟨rfl, rfl, rfl⟩⟩ ⟨rfl, rfl, rfl, rfl, rfl, rfl, rfl, rfl, rfl⟩
  have h1 := h0.opened hlt dy
  have h2 := h1.turn (i := ec) (k := k) (by omega) (by omega) (by omega) (h.rc0 ec (Nat.le_refl _) hlt) (rc k) (Nat.le_refl _)
  have h3 := h2.marked (i := ec) (k := k) (by omega) (by omega)
  have e4 : (wF (wF (x_turn (x_opened M ec dy) ec k (rc k)) (37 + 3 * ec) 6 1) (37 + 3 * k) 5 1).2.2 (37 + 3 * ec) 4 = 0 := by
    have q1 := (h2.num ec (by omega))
    have q0 : ∀ q, (x_turn (x_opened M ec dy) ec k q).2.2 (37 + 3 * ec) 4 = M.2.2 (37 + 3 * ec) 4 := by
      intro q
      induction q with
      | zero => exact (wF_ne (by omega)).trans (wF_k (by decide))
      | succ q ih => exact (wF_k (by decide)).trans ih
    exact (wF_k (by decide)).trans ((wF_k (by decide)).trans ((q0 _).trans (h.cl0 ec (Nat.le_refl _) hlt).1))
  exact h3.numbered (k := ec) (by omega) e4
/-! what the two say of entries -/
theorem IL.closed {M N : wM} {ec : Nat} {rc : Nat → Nat} {ln : Nat} {en : Nat → Nat} (h : IL M N ec rc ln en) {j : Nat} (hj : j < ec) : (M.2.2 (37 + 3 * j) 4 = 0) ↔ ¬ 0 < N.1 15 j := by
  obtain ⟨m, a1, a2, a3, a4⟩ := h.num j hj
  have hl := h.ln_le
  have hc := h.hec
  rw [a2, a3, ← nI_0, nI_eq (by omega) (by omega), nI_ltI (by omega) (by omega)]
  omega
theorem IL.tot {M N : wM} {ec : Nat} {rc : Nat → Nat} {ln : Nat} {en : Nat → Nat} (h : IL M N ec rc ln en) {j : Nat} (hj : j < 60) : ∀ k, k ≤ rc j → x_tot M j k = y_tot N j k
  | 0, _ => rfl
  | k + 1, hk => by
    rw [x_tot, y_tot, IL.tot h hj k (by omega), (h.rows j hj k (by omega)).2]
theorem IL.inb {M N : wM} {ec : Nat} {rc : Nat → Nat} {ln : Nat} {en : Nat → Nat} (h : IL M N ec rc ln en) {j : Nat} (hj : j < ec) (ac dy : Int32) (acc : Int64) : ∀ k, k ≤ rc j → y_inb N ac dy j acc k = if ¬ M.2.2 (37 + 3 * j) 4 = 0 ∧ M.2.2 (37 + 3 * j) 3 ≤ dy then acc + x_esum M j ac k else acc
  | 0, _ => by
    rw [y_inb, x_esum, Int64.add_zero, ite_self]
  | k + 1, hk => by
    have hc := h.hec
    have hr := h.rows j (by omega) k (by omega)
    have hcl := h.closed hj
    rw [y_inb, IL.inb h hj ac dy acc k (by omega), x_esum, h.day j hj, ← hr.1, ← hr.2]
    by_cases h1 : M.2.2 (37 + 3 * j) 4 = 0
    · have h2 := hcl.mp h1
      simp [h1, h2]
    · have h2 : 0 < N.1 15 j := Decidable.byContradiction fun z => h1 (hcl.mpr z)
      by_cases h3 : N.1 11 j ≤ dy
      · by_cases h4 : M.1 (37 + 3 * j + 1) k = ac
        · simp [h1, h2, h3, h4, Int64.add_assoc]
        · simp [h1, h2, h3, h4]
      · simp [h1, h2, h3]
theorem IL.bal {M N : wM} {ec : Nat} {rc : Nat → Nat} {ln : Nat} {en : Nat → Nat} (h : IL M N ec rc ln en) (ac dy : Int32) : ∀ k, k ≤ ec → x_bal M rc ac dy k = y_bal N rc ac dy k
  | 0, _ => rfl
  | k + 1, hk => by
    rw [x_bal, y_bal, h.inb (by omega) ac dy _ (rc k) (Nat.le_refl _), IL.bal h ac dy k (by omega)]
/-! THE SETS of the class and of the reference hold the same, in the same order -/
def IS (M N : wM) (n sc : Nat) (z : Nat → Nat) (od : Nat → Nat → Nat) (bs : Nat → Nat) : Prop := (n ≤ 300) ∧ (sc ≤ 8) ∧ (M.2.2 0 2 = nI sc) ∧ (N.2.2 0 8 = nI sc) ∧ (∀ s, s < 8 → M.2.2 (9 + 3 * s) 3 = nI (z s) ∧ N.1 7 s = nI (z s)) ∧ (∀ s, s < 8 → cnt (fun t => decide (¬ M.1 (9 + 3 * s + 2) t = 0)) 300 = z s) ∧ (∀ s, s < 8 → ∀ j, j < z s → M.1 (9 + 3 * s + 1) j = nI (od s j) ∧ N.1 8 (300 * s + j) = nI (od s j) ∧ od s j < n) ∧ (∀ s, s < 8 → ∀ t, (¬ M.1 (9 + 3 * s + 2) t = 0) ↔ ∃ j, j < z s ∧ od s j = t) ∧ (∀ s, s < 8 → ∀ i j, i < z s → j < z s → od s i = od s j → i = j) ∧ (∀ s, sc ≤ s → s < 8 → z s = 0 ∧ M.2.2 (9 + 3 * s) 4 = -1 ∧ N.1 9 s = 0 ∧ bs s = 0) ∧ (∀ s, s < sc → (M.2.2 (9 + 3 * s) 4 = -1 ∧ N.1 9 s = -1 ∧ bs s = z s) ∨ (M.2.2 (9 + 3 * s) 4 = nI (bs s) ∧ N.1 9 s = nI (bs s) ∧ bs s ≤ z s))
theorem IS.hn {M N : wM} {n sc : Nat} {z : Nat → Nat} {od : Nat → Nat → Nat} {bs : Nat → Nat} (h : IS M N n sc z od bs) : n ≤ 300 := h.1
theorem IS.hsc {M N : wM} {n sc : Nat} {z : Nat → Nat} {od : Nat → Nat → Nat} {bs : Nat → Nat} (h : IS M N n sc z od bs) : sc ≤ 8 := h.2.1
theorem IS.xsc {M N : wM} {n sc : Nat} {z : Nat → Nat} {od : Nat → Nat → Nat} {bs : Nat → Nat} (h : IS M N n sc z od bs) : M.2.2 0 2 = nI sc := h.2.2.1
theorem IS.ysc {M N : wM} {n sc : Nat} {z : Nat → Nat} {od : Nat → Nat → Nat} {bs : Nat → Nat} (h : IS M N n sc z od bs) : N.2.2 0 8 = nI sc := h.2.2.2.1
theorem IS.hz {M N : wM} {n sc : Nat} {z : Nat → Nat} {od : Nat → Nat → Nat} {bs : Nat → Nat} (h : IS M N n sc z od bs) : ∀ s, s < 8 → M.2.2 (9 + 3 * s) 3 = nI (z s) ∧ N.1 7 s = nI (z s) := h.2.2.2.2.1
theorem IS.cz {M N : wM} {n sc : Nat} {z : Nat → Nat} {od : Nat → Nat → Nat} {bs : Nat → Nat} (h : IS M N n sc z od bs) : ∀ s, s < 8 → cnt (fun t => decide (¬ M.1 (9 + 3 * s + 2) t = 0)) 300 = z s := h.2.2.2.2.2.1
theorem IS.hod {M N : wM} {n sc : Nat} {z : Nat → Nat} {od : Nat → Nat → Nat} {bs : Nat → Nat} (h : IS M N n sc z od bs) : ∀ s, s < 8 → ∀ j, j < z s → M.1 (9 + 3 * s + 1) j = nI (od s j) ∧ N.1 8 (300 * s + j) = nI (od s j) ∧ od s j < n := h.2.2.2.2.2.2.1
theorem IS.mem {M N : wM} {n sc : Nat} {z : Nat → Nat} {od : Nat → Nat → Nat} {bs : Nat → Nat} (h : IS M N n sc z od bs) : ∀ s, s < 8 → ∀ t, (¬ M.1 (9 + 3 * s + 2) t = 0) ↔ ∃ j, j < z s ∧ od s j = t := h.2.2.2.2.2.2.2.1
theorem IS.inj {M N : wM} {n sc : Nat} {z : Nat → Nat} {od : Nat → Nat → Nat} {bs : Nat → Nat} (h : IS M N n sc z od bs) : ∀ s, s < 8 → ∀ i j, i < z s → j < z s → od s i = od s j → i = j := h.2.2.2.2.2.2.2.2.1
theorem IS.z0 {M N : wM} {n sc : Nat} {z : Nat → Nat} {od : Nat → Nat → Nat} {bs : Nat → Nat} (h : IS M N n sc z od bs) : ∀ s, sc ≤ s → s < 8 → z s = 0 ∧ M.2.2 (9 + 3 * s) 4 = -1 ∧ N.1 9 s = 0 ∧ bs s = 0 := h.2.2.2.2.2.2.2.2.2.1
theorem IS.bat {M N : wM} {n sc : Nat} {z : Nat → Nat} {od : Nat → Nat → Nat} {bs : Nat → Nat} (h : IS M N n sc z od bs) : ∀ s, s < sc → (M.2.2 (9 + 3 * s) 4 = -1 ∧ N.1 9 s = -1 ∧ bs s = z s) ∨ (M.2.2 (9 + 3 * s) 4 = nI (bs s) ∧ N.1 9 s = nI (bs s) ∧ bs s ≤ z s) := h.2.2.2.2.2.2.2.2.2.2
theorem IS.mk {M N : wM} {n sc : Nat} {z : Nat → Nat} {od : Nat → Nat → Nat} {bs : Nat → Nat} (hn9 : n ≤ 300) (hsc9 : sc ≤ 8) (xsc9 : M.2.2 0 2 = nI sc) (ysc9 : N.2.2 0 8 = nI sc) (hz9 : ∀ s, s < 8 → M.2.2 (9 + 3 * s) 3 = nI (z s) ∧ N.1 7 s = nI (z s)) (cz9 : ∀ s, s < 8 → cnt (fun t => decide (¬ M.1 (9 + 3 * s + 2) t = 0)) 300 = z s) (hod9 : ∀ s, s < 8 → ∀ j, j < z s → M.1 (9 + 3 * s + 1) j = nI (od s j) ∧ N.1 8 (300 * s + j) = nI (od s j) ∧ od s j < n) (mem9 : ∀ s, s < 8 → ∀ t, (¬ M.1 (9 + 3 * s + 2) t = 0) ↔ ∃ j, j < z s ∧ od s j = t) (inj9 : ∀ s, s < 8 → ∀ i j, i < z s → j < z s → od s i = od s j → i = j) (z09 : ∀ s, sc ≤ s → s < 8 → z s = 0 ∧ M.2.2 (9 + 3 * s) 4 = -1 ∧ N.1 9 s = 0 ∧ bs s = 0) (bat9 : ∀ s, s < sc → (M.2.2 (9 + 3 * s) 4 = -1 ∧ N.1 9 s = -1 ∧ bs s = z s) ∨ (M.2.2 (9 + 3 * s) 4 = nI (bs s) ∧ N.1 9 s = nI (bs s) ∧ bs s ≤ z s)) : IS M N n sc z od bs := ⟨hn9, hsc9, xsc9, ysc9, hz9, cz9, hod9, mem9, inj9, z09, bat9⟩
def sameS (M M' : wM) : Prop := M'.2.2 0 2 = M.2.2 0 2 ∧ ∀ s, s < 8 → M'.2.2 (9 + 3 * s) = M.2.2 (9 + 3 * s) ∧ M'.1 (9 + 3 * s + 1) = M.1 (9 + 3 * s + 1) ∧ M'.1 (9 + 3 * s + 2) = M.1 (9 + 3 * s + 2)
def sameSn (N N' : wM) : Prop := N'.2.2 0 8 = N.2.2 0 8 ∧ N'.1 7 = N.1 7 ∧ N'.1 8 = N.1 8 ∧ N'.1 9 = N.1 9
section
variable {M N M' N' : wM} {n sc : Nat} {z : Nat → Nat} {od : Nat → Nat → Nat} {bs : Nat → Nat}
theorem IS.z_le (h : IS M N n sc z od bs) {s : Nat} (hs : s < 8) : z s ≤ 300 := by
  rw [← h.cz s hs]; exact cnt_le _ _
theorem IS.kept (h : IS M N n sc z od bs) (hM : sameS M M') (hN : sameSn N N') : IS M' N' n sc z od bs := by
  obtain ⟨m1, m2⟩ := hM
  obtain ⟨n1, n2, n3, n4⟩ := hN
  have h8 : ∀ s, s < sc → s < 8 := fun s hs => Nat.lt_of_lt_of_le hs h.hsc
  exact (IS.mk (h.hn) (h.hsc) (by rw [m1]; exact h.xsc) (by rw [n1]; exact h.ysc) (fun s a => by rw [(m2 s a).1, n2]; exact h.hz s a) (fun s a => by rw [(m2 s a).2.2]; exact h.cz s a) (fun s a j b => by rw [(m2 s a).2.1, n3]; exact h.hod s a j b) (fun s a t => by rw [(m2 s a).2.2]; exact h.mem s a t) (h.inj) (fun s a b => by rw [(m2 s b).1, n4]; exact h.z0 s a b) (fun s a => by rw [(m2 s (h8 s a)).1, n4]; exact h.bat s a))
theorem IS.grow (h : IS M N n sc z od bs) {n' : Nat} (h1 : n ≤ n') (h2 : n' ≤ 300) : IS M N n' sc z od bs :=
  (IS.mk (h2) (h.hsc) (h.xsc) (h.ysc) (h.hz) (h.cz) (fun s a j b => by obtain ⟨p, q, r⟩ := h.hod s a j b; exact ⟨p, q, by omega⟩) (h.mem) (h.inj) (h.z0) (h.bat))
theorem IS.xs (h : IS M N n sc z od bs) : xSets M z od := fun s hs => ⟨h.z_le hs, (h.hz s hs).1, fun j hj => ⟨(h.hod s hs j hj).1, Nat.lt_of_lt_of_le (h.hod s hs j hj).2.2 h.hn⟩⟩
theorem IS.ys (h : IS M N n sc z od bs) : ySets N z od := fun s hs => ⟨h.z_le hs, (h.hz s hs).2, fun j hj => ⟨(h.hod s hs j hj).2.1, Nat.lt_of_lt_of_le (h.hod s hs j hj).2.2 h.hn⟩⟩
theorem IS.e0 (h : IS M N n sc z od bs) : ∀ s, sc ≤ s → s < 8 → M.2.2 (9 + 3 * s) 3 = nI 0 := fun s a b => by rw [(h.hz s b).1, (h.z0 s a b).1]
theorem nI_pos9 {k : Nat} (h : k ≤ 300) : ¬ nI k < 0 := nI_pos (by omega)
theorem nI_ne9 {k : Nat} (h : k ≤ 300) : ¬ nI k = -1 := nI_nm1 (by omega)
theorem IS.xb (h : IS M N n sc z od bs) : ∀ s, s < 8 → bs s ≤ z s ∧ (if M.2.2 (9 + 3 * s) 4 = -1 then M.2.2 (9 + 3 * s) 3 else M.2.2 (9 + 3 * s) 4) = nI (bs s) := by
  intro s hs
  by_cases h1 : s < sc
  · rcases h.bat s h1 with ⟨a, b, c⟩ | ⟨a, b, c⟩
    · rw [if_pos a, (h.hz s hs).1, c]; exact ⟨Nat.le_refl _, rfl⟩
    · have := h.z_le hs
      rw [a, if_neg (nI_ne9 (by omega))]; exact ⟨c, rfl⟩
  · obtain ⟨a, b, c, d⟩ := h.z0 s (by omega) hs
    rw [if_pos b, (h.hz s hs).1, a, d]; exact ⟨Nat.le_refl _, rfl⟩
theorem IS.yb (h : IS M N n sc z od bs) : ∀ s, s < 8 → bs s ≤ z s ∧ (N.1 9 s < 0 → bs s = z s) ∧ (¬ N.1 9 s < 0 → N.1 9 s = nI (bs s)) := by
  intro s hs
  have hz := h.z_le hs
  by_cases h1 : s < sc
  · rcases h.bat s h1 with ⟨a, b, c⟩ | ⟨a, b, c⟩
    · exact ⟨by omega, fun _ => c, fun q => absurd (by rw [b]; decide) q⟩
    · exact ⟨c, fun q => absurd (by rw [← b]; exact q) (nI_pos9 (k := bs s) (by omega)), fun _ => b⟩
  · obtain ⟨a, b, c, d⟩ := h.z0 s (by omega) hs
    exact ⟨by omega, fun _ => by omega, fun _ => by rw [c, d, nI_0]⟩
/-! membership -/
theorem y_has_iff {o : Nat → Nat} {t : Nat} : ∀ k, y_has o t k = true ↔ ∃ j, j < k ∧ o j = t
  | 0 => ⟨fun q => Bool.noConfusion q, fun q => by obtain ⟨j, hj, -⟩ := q; exact absurd hj (Nat.not_lt_zero _)⟩
  | k + 1 => by
    rw [y_has, Bool.or_eq_true, y_has_iff k, decide_eq_true_eq]
    constructor
    · rintro (⟨j, a, b⟩ | b)
      · exact ⟨j, by omega, b⟩
      · exact ⟨k, by omega, b⟩
    · rintro ⟨j, a, b⟩
      by_cases e : j = k
      · exact Or.inr (e ▸ b)
      · exact Or.inl ⟨j, by omega, b⟩
/-! join -/
def IJ (M N : wM) (n si : Nat) (oa : Nat → Nat) (za : Nat) (Mk Nk : wM) (O : Nat → Nat) (Z : Nat) : Prop := (za ≤ Z) ∧ (Mk.2.2 (9 + 3 * si) 3 = nI Z) ∧ (Nk.1 7 si = nI Z) ∧ (cnt (fun t => decide (¬ Mk.1 (9 + 3 * si + 2) t = 0)) 300 = Z) ∧ (∀ j, j < Z → Mk.1 (9 + 3 * si + 1) j = nI (O j) ∧ Nk.1 8 (300 * si + j) = nI (O j) ∧ O j < n) ∧ (∀ t, (¬ Mk.1 (9 + 3 * si + 2) t = 0) ↔ ∃ j, j < Z ∧ O j = t) ∧ (∀ i j, i < Z → j < Z → O i = O j → i = j) ∧ (∀ j, j < za → O j = oa j) ∧ (∀ a, a ≠ 9 + 3 * si + 1 → a ≠ 9 + 3 * si + 2 → Mk.1 a = M.1 a) ∧ (Mk.2.1 = M.2.1) ∧ (∀ a b, (a ≠ 9 + 3 * si ∨ b ≠ 3) → Mk.2.2 a b = M.2.2 a b) ∧ (∀ a, a ≠ 7 → a ≠ 8 → Nk.1 a = N.1 a) ∧ (Nk.2 = N.2) ∧ (∀ j, j ≠ si → Nk.1 7 j = N.1 7 j) ∧ (∀ i, (i < 300 * si ∨ 300 * si + 300 ≤ i) → Nk.1 8 i = N.1 8 i)
theorem IJ.le {M N : wM} {n si : Nat} {oa : Nat → Nat} {za : Nat} {Mk Nk : wM} {O : Nat → Nat} {Z : Nat} (h : IJ M N n si oa za Mk Nk O Z) : za ≤ Z := h.1
theorem IJ.zx {M N : wM} {n si : Nat} {oa : Nat → Nat} {za : Nat} {Mk Nk : wM} {O : Nat → Nat} {Z : Nat} (h : IJ M N n si oa za Mk Nk O Z) : Mk.2.2 (9 + 3 * si) 3 = nI Z := h.2.1
theorem IJ.zy {M N : wM} {n si : Nat} {oa : Nat → Nat} {za : Nat} {Mk Nk : wM} {O : Nat → Nat} {Z : Nat} (h : IJ M N n si oa za Mk Nk O Z) : Nk.1 7 si = nI Z := h.2.2.1
theorem IJ.cz {M N : wM} {n si : Nat} {oa : Nat → Nat} {za : Nat} {Mk Nk : wM} {O : Nat → Nat} {Z : Nat} (h : IJ M N n si oa za Mk Nk O Z) : cnt (fun t => decide (¬ Mk.1 (9 + 3 * si + 2) t = 0)) 300 = Z := h.2.2.2.1
theorem IJ.jo {M N : wM} {n si : Nat} {oa : Nat → Nat} {za : Nat} {Mk Nk : wM} {O : Nat → Nat} {Z : Nat} (h : IJ M N n si oa za Mk Nk O Z) : ∀ j, j < Z → Mk.1 (9 + 3 * si + 1) j = nI (O j) ∧ Nk.1 8 (300 * si + j) = nI (O j) ∧ O j < n := h.2.2.2.2.1
theorem IJ.mem {M N : wM} {n si : Nat} {oa : Nat → Nat} {za : Nat} {Mk Nk : wM} {O : Nat → Nat} {Z : Nat} (h : IJ M N n si oa za Mk Nk O Z) : ∀ t, (¬ Mk.1 (9 + 3 * si + 2) t = 0) ↔ ∃ j, j < Z ∧ O j = t := h.2.2.2.2.2.1
theorem IJ.inj {M N : wM} {n si : Nat} {oa : Nat → Nat} {za : Nat} {Mk Nk : wM} {O : Nat → Nat} {Z : Nat} (h : IJ M N n si oa za Mk Nk O Z) : ∀ i j, i < Z → j < Z → O i = O j → i = j := h.2.2.2.2.2.2.1
theorem IJ.pre {M N : wM} {n si : Nat} {oa : Nat → Nat} {za : Nat} {Mk Nk : wM} {O : Nat → Nat} {Z : Nat} (h : IJ M N n si oa za Mk Nk O Z) : ∀ j, j < za → O j = oa j := h.2.2.2.2.2.2.2.1
theorem IJ.fx1 {M N : wM} {n si : Nat} {oa : Nat → Nat} {za : Nat} {Mk Nk : wM} {O : Nat → Nat} {Z : Nat} (h : IJ M N n si oa za Mk Nk O Z) : ∀ a, a ≠ 9 + 3 * si + 1 → a ≠ 9 + 3 * si + 2 → Mk.1 a = M.1 a := h.2.2.2.2.2.2.2.2.1
theorem IJ.fx2 {M N : wM} {n si : Nat} {oa : Nat → Nat} {za : Nat} {Mk Nk : wM} {O : Nat → Nat} {Z : Nat} (h : IJ M N n si oa za Mk Nk O Z) : Mk.2.1 = M.2.1 := h.2.2.2.2.2.2.2.2.2.1
theorem IJ.fx3 {M N : wM} {n si : Nat} {oa : Nat → Nat} {za : Nat} {Mk Nk : wM} {O : Nat → Nat} {Z : Nat} (h : IJ M N n si oa za Mk Nk O Z) : ∀ a b, (a ≠ 9 + 3 * si ∨ b ≠ 3) → Mk.2.2 a b = M.2.2 a b := h.2.2.2.2.2.2.2.2.2.2.1
theorem IJ.fy1 {M N : wM} {n si : Nat} {oa : Nat → Nat} {za : Nat} {Mk Nk : wM} {O : Nat → Nat} {Z : Nat} (h : IJ M N n si oa za Mk Nk O Z) : ∀ a, a ≠ 7 → a ≠ 8 → Nk.1 a = N.1 a := h.2.2.2.2.2.2.2.2.2.2.2.1
theorem IJ.fy2 {M N : wM} {n si : Nat} {oa : Nat → Nat} {za : Nat} {Mk Nk : wM} {O : Nat → Nat} {Z : Nat} (h : IJ M N n si oa za Mk Nk O Z) : Nk.2 = N.2 := h.2.2.2.2.2.2.2.2.2.2.2.2.1
theorem IJ.fy3 {M N : wM} {n si : Nat} {oa : Nat → Nat} {za : Nat} {Mk Nk : wM} {O : Nat → Nat} {Z : Nat} (h : IJ M N n si oa za Mk Nk O Z) : ∀ j, j ≠ si → Nk.1 7 j = N.1 7 j := h.2.2.2.2.2.2.2.2.2.2.2.2.2.1
theorem IJ.fy4 {M N : wM} {n si : Nat} {oa : Nat → Nat} {za : Nat} {Mk Nk : wM} {O : Nat → Nat} {Z : Nat} (h : IJ M N n si oa za Mk Nk O Z) : ∀ i, (i < 300 * si ∨ 300 * si + 300 ≤ i) → Nk.1 8 i = N.1 8 i := h.2.2.2.2.2.2.2.2.2.2.2.2.2.2
theorem IJ.mk {M N : wM} {n si : Nat} {oa : Nat → Nat} {za : Nat} {Mk Nk : wM} {O : Nat → Nat} {Z : Nat} (le9 : za ≤ Z) (zx9 : Mk.2.2 (9 + 3 * si) 3 = nI Z) (zy9 : Nk.1 7 si = nI Z) (cz9 : cnt (fun t => decide (¬ Mk.1 (9 + 3 * si + 2) t = 0)) 300 = Z) (jo9 : ∀ j, j < Z → Mk.1 (9 + 3 * si + 1) j = nI (O j) ∧ Nk.1 8 (300 * si + j) = nI (O j) ∧ O j < n) (mem9 : ∀ t, (¬ Mk.1 (9 + 3 * si + 2) t = 0) ↔ ∃ j, j < Z ∧ O j = t) (inj9 : ∀ i j, i < Z → j < Z → O i = O j → i = j) (pre9 : ∀ j, j < za → O j = oa j) (fx19 : ∀ a, a ≠ 9 + 3 * si + 1 → a ≠ 9 + 3 * si + 2 → Mk.1 a = M.1 a) (fx29 : Mk.2.1 = M.2.1) (fx39 : ∀ a b, (a ≠ 9 + 3 * si ∨ b ≠ 3) → Mk.2.2 a b = M.2.2 a b) (fy19 : ∀ a, a ≠ 7 → a ≠ 8 → Nk.1 a = N.1 a) (fy29 : Nk.2 = N.2) (fy39 : ∀ j, j ≠ si → Nk.1 7 j = N.1 7 j) (fy49 : ∀ i, (i < 300 * si ∨ 300 * si + 300 ≤ i) → Nk.1 8 i = N.1 8 i) : IJ M N n si oa za Mk Nk O Z := ⟨le9, zx9, zy9, cz9, jo9, mem9, inj9, pre9, fx19, fx29, fx39, fy19, fy29, fy39, fy49⟩
theorem IJ.le300 {si za Z : Nat} {oa O : Nat → Nat} {Mk Nk : wM} (h : IJ M N n si oa za Mk Nk O Z) : Z ≤ 300 := by
  rw [← h.cz]; exact cnt_le _ _
theorem IS.join (h : IS M N n sc z od bs) {si ti : Nat} (hs : si < 8) (ht : ti < 8) : ∀ k, k ≤ z ti →
    IJ M N n si (od si) (z si) (x_jM M si (od ti) (z si) k) (y_jM N si (od si) (z si) (od ti) k) (y_jO N si (od si) (z si) (od ti) k) (y_jZ N si (od si) (z si) (od ti) k) ∧ x_jZ M si (od ti) (z si) k = y_jZ N si (od si) (z si) (od ti) k ∧ ((x_jM M si (od ti) (z si) k).1 (9 + 3 * si + 2) (od ti k) = 0 ↔ y_has (y_jO N si (od si) (z si) (od ti) k) (od ti k) (y_jZ N si (od si) (z si) (od ti) k) = false)
  | 0, _ => by
    have hj : IJ M N n si (od si) (z si) (x_jM M si (od ti) (z si) 0) (y_jM N si (od si) (z si) (od ti) 0) (y_jO N si (od si) (z si) (od ti) 0) (y_jZ N si (od si) (z si) (od ti) 0) :=
      (IJ.mk (Nat.le_refl _) ((h.hz si hs).1) ((h.hz si hs).2) (h.cz si hs) (h.hod si hs) (h.mem si hs) (h.inj si hs) (fun _ _ => rfl) (fun _ _ _ => rfl) (rfl) (fun _ _ _ => rfl) (fun _ _ _ => rfl) (rfl) (fun _ _ => rfl) (fun _ _ => rfl))
    refine ⟨hj, rfl, ?_⟩
    rw [← Decidable.not_not (p := (x_jM M si (od ti) (z si) 0).1 (9 + 3 * si + 2) (od ti 0) = 0), hj.mem, ← y_has_iff, Bool.not_eq_true]
  | k + 1, hk => by
    obtain ⟨ih, iz, ib⟩ := IS.join h hs ht k (by omega)
    have key : IJ M N n si (od si) (z si) (x_jM M si (od ti) (z si) (k + 1)) (y_jM N si (od si) (z si) (od ti) (k + 1)) (y_jO N si (od si) (z si) (od ti) (k + 1)) (y_jZ N si (od si) (z si) (od ti) (k + 1)) ∧ x_jZ M si (od ti) (z si) (k + 1) = y_jZ N si (od si) (z si) (od ti) (k + 1) := by
      by_cases e : (x_jM M si (od ti) (z si) k).1 (9 + 3 * si + 2) (od ti k) = 0
      · have e2 := ib.mp e
        have ht9 : od ti k < n := (h.hod ti ht k (by omega)).2.2
        have hn := h.hn
        rw [x_jM_t e, x_jZ_t e, show y_jM N si (od si) (z si) (od ti) (k + 1) = _ from congrArg (fun q => q.1) (y_join_f e2), show y_jO N si (od si) (z si) (od ti) (k + 1) = _ from congrArg (fun q => q.2.1) (y_join_f e2), show y_jZ N si (od si) (z si) (od ti) (k + 1) = _ from congrArg (fun q => q.2.2) (y_join_f e2), iz]
        dsimp only
        generalize x_jM M si (od ti) (z si) k = Mk at *
        generalize y_jM N si (od si) (z si) (od ti) k = Nk at *
        generalize y_jO N si (od si) (z si) (od ti) k = O at *
        generalize y_jZ N si (od si) (z si) (od ti) k = Z at *
        have hZ : Z < 300 := by
          rw [← ih.cz]
          exact cnt_lt (j := od ti k) (by simp [e]) 300 (by omega)
        refine ⟨(IJ.mk (Nat.le_succ_of_le ih.le) (wF_s) (wI_s) ?_ (fun j hj => ?_) (fun t => ?_) (fun i j hi hj q => ?_) (fun j hj => ?_) (fun a a1 a2 => ?_) (ih.fx2) (fun a b q => ?_) (fun a a1 a2 => ?_) (ih.fy2) (fun j hj => ?_) (fun i hi => ?_)), rfl⟩
        · have q1 : (x_add Mk si Z (od ti k)).1 (9 + 3 * si + 2) (od ti k) = 1 := wI_s
          have q2 : ∀ j, j ≠ od ti k → (x_add Mk si Z (od ti k)).1 (9 + 3 * si + 2) j = Mk.1 (9 + 3 * si + 2) j := fun j hj => (wF_toI.trans (wI_k hj)).trans (wI_ne (by omega))
          exact (cnt_up (p := fun t => decide (¬ Mk.1 (9 + 3 * si + 2) t = 0)) (i := od ti k) (by simp [e]) (by simp [q1]) (fun j hj => by rw [q2 j hj]) 300 (by omega)).trans (by rw [ih.cz])
        · by_cases ej : j = Z
          · subst ej
            rw [if_pos rfl]
            exact ⟨wF_toI.trans ((wI_ne (by omega)).trans wI_s), (wI_ne (by decide)).trans wI_s, ht9⟩
          · rw [if_neg ej]
            obtain ⟨a1, a2, a3⟩ := ih.jo j (by omega)
            exact ⟨wF_toI.trans ((wI_ne (by omega)).trans ((wI_k ej).trans a1)), (wI_ne (by decide)).trans ((wI_k (by omega)).trans a2), a3⟩
        · by_cases et : t = od ti k
          · subst et
            have : (x_add Mk si Z (od ti k)).1 (9 + 3 * si + 2) (od ti k) = 1 := wI_s
            rw [this]
            exact ⟨fun _ => ⟨Z, by omega, if_pos rfl⟩, fun _ => by decide⟩
          · have : (x_add Mk si Z (od ti k)).1 (9 + 3 * si + 2) t = Mk.1 (9 + 3 * si + 2) t := (wF_toI.trans (wI_k et)).trans (wI_ne (by omega))
            rw [this, ih.mem]
            constructor
            · rintro ⟨j, a, b⟩
              exact ⟨j, by omega, by rw [if_neg (by omega)]; exact b⟩
            · rintro ⟨j, a, b⟩
              by_cases ej : j = Z
              · rw [if_pos ej] at b; exact absurd b.symm et
              · rw [if_neg ej] at b; exact ⟨j, by omega, b⟩
        · have nm : ∀ i, i < Z → ¬ O i = od ti k := fun i hi q9 => absurd e ((ih.mem _).mpr ⟨i, hi, q9⟩)
          by_cases e1 : i = Z
          · by_cases e3 : j = Z
            · omega
            · rw [if_pos e1, if_neg e3] at q; exact absurd q.symm (nm j (by omega))
          · by_cases e3 : j = Z
            · rw [if_neg e1, if_pos e3] at q; exact absurd q (nm i (by omega))
            · rw [if_neg e1, if_neg e3] at q; exact ih.inj i j (by omega) (by omega) q
        · have := ih.le
          rw [if_neg (by omega)]; exact ih.pre j hj
        · exact (up2_o _ _ _ _ a2).trans ((up2_o _ _ _ _ a1).trans (ih.fx1 a a1 a2))
        · rcases q with q | q
          · exact (wF_ne q).trans (ih.fx3 a b (Or.inl q))
          · exact (wF_k q).trans (ih.fx3 a b (Or.inr q))
        · exact (up2_o _ _ _ _ a1).trans ((up2_o _ _ _ _ a2).trans (ih.fy1 a a1 a2))
        · exact (wI_k hj).trans ((wI_ne (by decide)).trans (ih.fy3 j hj))
        · exact (wI_ne (by decide)).trans ((wI_k (by omega)).trans (ih.fy4 i hi))
      · have e2 : y_has (y_jO N si (od si) (z si) (od ti) k) (od ti k) (y_jZ N si (od si) (z si) (od ti) k) = true := by
          cases hh : y_has (y_jO N si (od si) (z si) (od ti) k) (od ti k) (y_jZ N si (od si) (z si) (od ti) k) with
          | true => rfl
          | false => exact absurd (ib.mpr hh) e
        rw [x_jM_f e, x_jZ_f e, show y_jM N si (od si) (z si) (od ti) (k + 1) = _ from congrArg (fun q => q.1) (y_join_t e2), show y_jO N si (od si) (z si) (od ti) (k + 1) = _ from congrArg (fun q => q.2.1) (y_join_t e2), show y_jZ N si (od si) (z si) (od ti) (k + 1) = _ from congrArg (fun q => q.2.2) (y_join_t e2)]
        exact ⟨ih, iz⟩
    refine ⟨key.1, key.2, ?_⟩
    rw [← Decidable.not_not (p := (x_jM M si (od ti) (z si) (k + 1)).1 (9 + 3 * si + 2) (od ti (k + 1)) = 0), key.1.mem, ← y_has_iff, Bool.not_eq_true]
end
section
variable {M N M' N' : wM} {n sc : Nat} {z : Nat → Nat} {od : Nat → Nat → Nat} {bs : Nat → Nat}
/-- a set joined with itself stays -/
theorem IS.self (h : IS M N n sc z od bs) {si : Nat} (hs : si < 8) : ∀ k, k ≤ z si → y_jZ N si (od si) (z si) (od si) k = z si ∧ x_jZ M si (od si) (z si) k = z si
  | 0, _ => ⟨rfl, rfl⟩
  | k + 1, hk => by
    obtain ⟨i1, i2⟩ := IS.self h hs k (by omega)
    obtain ⟨ij, iz, ib⟩ := h.join hs hs k (by omega)
    have e2 : y_has (y_jO N si (od si) (z si) (od si) k) (od si k) (y_jZ N si (od si) (z si) (od si) k) = true := (y_has_iff _).mpr ⟨k, by omega, ij.pre k (by omega)⟩
    have e : ¬ (x_jM M si (od si) (z si) k).1 (9 + 3 * si + 2) (od si k) = 0 := fun q => by
      have := ib.mp q
      rw [e2] at this
      cases this
    exact ⟨(show y_jZ N si (od si) (z si) (od si) (k + 1) = _ from congrArg (fun q => q.2.2) (y_join_t e2)).trans i1, (x_jZ_f e).trans i2⟩
theorem IS.xj (h : IS M N n sc z od bs) : ∀ s t, s < 8 → t < 8 → xJoinOk M s t (od t) (z s) (z t) := by
  intro si ti hs ht
  refine ⟨fun k hk => ?_, fun k hk e => ?_⟩
  · obtain ⟨ij, iz, ib⟩ := h.join hs ht k hk
    by_cases e : si = ti
    · subst e
      obtain ⟨s1, s2⟩ := h.self hs k hk
      rw [s2]
      have ij2 := ij
      rw [s1] at ij2
      exact ⟨ij2.zx, fun j hj => by rw [(ij2.jo j hj).1, ij2.pre j hj], ij2.zx⟩
    · exact ⟨(ij.fx3 _ _ (Or.inl (by omega))).trans (h.hz ti ht).1, fun j hj => (congrFun (ij.fx1 _ (by omega) (by omega)) j).trans (h.hod ti ht j hj).1, by rw [iz]; exact ij.zx⟩
  · obtain ⟨ij, iz, ib⟩ := h.join hs ht k (by omega)
    have hn := h.hn
    have ht9 := (h.hod ti ht k hk).2.2
    rw [iz, ← ij.cz]
    exact cnt_lt (j := od ti k) (by simp [e]) 300 (by omega)
theorem IS.yj (h : IS M N n sc z od bs) : ∀ s t, s < 8 → t < 8 → yJoinOk N s t (od s) (z s) (od t) (z t) := by
  intro si ti hs ht
  have hn := h.hn
  refine ⟨fun k hk => ?_, fun k hk e => ?_⟩
  · obtain ⟨ij, iz, ib⟩ := h.join hs ht k hk
    have h1 : (y_jM N si (od si) (z si) (od ti) k).1 7 si = nI (y_jZ N si (od si) (z si) (od ti) k) ∧ y_jZ N si (od si) (z si) (od ti) k ≤ 300 ∧ ∀ j, j < y_jZ N si (od si) (z si) (od ti) k → (y_jM N si (od si) (z si) (od ti) k).1 8 (300 * si + j) = nI (y_jO N si (od si) (z si) (od ti) k j) ∧ y_jO N si (od si) (z si) (od ti) k j < 300 :=
      ⟨ij.zy, ij.le300, fun j hj => ⟨(ij.jo j hj).2.1, Nat.lt_of_lt_of_le (ij.jo j hj).2.2 hn⟩⟩
    by_cases e : si = ti
    · subst e
      obtain ⟨s1, s2⟩ := h.self hs k hk
      have ij2 := ij
      rw [s1] at ij2
      refine ⟨ij2.zy, fun j hj => ?_, h1⟩
      obtain ⟨a1, a2, a3⟩ := ij2.jo j hj
      rw [ij2.pre j hj] at a2 a3
      exact ⟨a2, by omega⟩
    · have hz := h.z_le ht
      refine ⟨(ij.fy3 _ (by omega)).trans (h.hz ti ht).2, fun j hj => ⟨(ij.fy4 _ (by omega)).trans (h.hod ti ht j hj).2.1, ?_⟩, h1⟩
      have := (h.hod ti ht j hj).2.2
      omega
  · obtain ⟨ij, iz, ib⟩ := h.join hs ht k (by omega)
    have ht9 := (h.hod ti ht k hk).2.2
    rw [← ij.cz]
    exact cnt_lt (j := od ti k) (by simp [ib.mpr e]) 300 (by omega)
/-- join -/
theorem IS.joined (h : IS M N n sc z od bs) {si ti : Nat} (hs : si < sc) (ht : ti < sc) :
    IS (x_jM M si (od ti) (z si) (z ti)) (y_jM N si (od si) (z si) (od ti) (z ti)) n sc (fun s => if s = si then y_jZ N si (od si) (z si) (od ti) (z ti) else z s) (fun s => if s = si then y_jO N si (od si) (z si) (od ti) (z ti) else od s) (fun s => if s = si then (if M.2.2 (9 + 3 * si) 4 = -1 then y_jZ N si (od si) (z si) (od ti) (z ti) else bs si) else bs s) := by
  have hc := h.hsc
  obtain ⟨ij, -, -⟩ := h.join (show si < 8 by omega) (show ti < 8 by omega) (z ti) (Nat.le_refl _)
  generalize x_jM M si (od ti) (z si) (z ti) = Mk at *
  have fz := congrFun (congrFun (congrArg Prod.snd ij.fy2) 0) 8
  generalize y_jM N si (od si) (z si) (od ti) (z ti) = Nk at *
  generalize y_jO N si (od si) (z si) (od ti) (z ti) = O at *
  generalize y_jZ N si (od si) (z si) (od ti) (z ti) = Z at *
  refine (IS.mk (h.hn) (h.hsc) ((ij.fx3 _ _ (Or.inl (by omega))).trans h.xsc) (fz.trans h.ysc) (fun s hs9 => ?_) (fun s hs9 => ?_) (fun s hs9 j hj => ?_) (fun s hs9 t => ?_) (fun s hs9 i j hi hj q => ?_) (fun s a b => ?_) (fun s a => ?_))
  · by_cases e : s = si
    · subst e; rw [if_pos rfl]; exact ⟨ij.zx, ij.zy⟩
    · rw [if_neg e]; exact ⟨(ij.fx3 _ _ (Or.inl (by omega))).trans (h.hz s hs9).1, (ij.fy3 _ e).trans (h.hz s hs9).2⟩
  · by_cases e : s = si
    · subst e; rw [if_pos rfl]; exact ij.cz
    · rw [if_neg e, ij.fx1 _ (by omega) (by omega)]; exact h.cz s hs9
  · by_cases e : s = si
    · subst e; rw [if_pos rfl] at hj ⊢; exact ij.jo j hj
    · rw [if_neg e] at hj ⊢
      have hz := h.z_le hs9
      obtain ⟨a1, a2, a3⟩ := h.hod s hs9 j hj
      exact ⟨(congrFun (ij.fx1 _ (by omega) (by omega)) j).trans a1, (ij.fy4 _ (by omega)).trans a2, a3⟩
  · by_cases e : s = si
    · subst e; rw [if_pos rfl, if_pos rfl]; exact ij.mem t
    · rw [if_neg e, if_neg e, ij.fx1 _ (by omega) (by omega)]; exact h.mem s hs9 t
  · by_cases e : s = si
    · subst e; rw [if_pos rfl] at hi hj q; exact ij.inj i j hi hj q
    · rw [if_neg e] at hi hj q; exact h.inj s hs9 i j hi hj q
  · rw [if_neg (by omega), if_neg (by omega), ij.fx3 _ _ (Or.inr (by decide)), ij.fy1 9 (by decide) (by decide)]
    exact h.z0 s a b
  · rw [ij.fx3 _ _ (Or.inr (by decide)), ij.fy1 9 (by decide) (by decide)]
    by_cases e : s = si
    · subst e
      rw [if_pos rfl, if_pos rfl]
      rcases h.bat s a with ⟨b1, b2, b3⟩ | ⟨b1, b2, b3⟩
      · exact Or.inl ⟨b1, b2, if_pos b1⟩
      · have hl := ij.le
        have hz := h.z_le (show s < 8 by omega)
        have hne : ¬ M.2.2 (9 + 3 * s) 4 = -1 := by rw [b1]; exact nI_ne9 (by omega)
        rw [if_neg hne]
        exact Or.inr ⟨b1, b2, by omega⟩
    · rw [if_neg e, if_neg e]; exact h.bat s a
/-! set -/
theorem cnt_cut {p : Nat → Bool} {k : Nat} : ∀ m, k ≤ m → cnt (fun t => decide (t < k) && p t) m = cnt p k
  | 0, h => by
    obtain rfl : k = 0 := by omega
    rfl
  | m + 1, h => by
    by_cases e : k = m + 1
    · subst e
      exact cnt_eq _ (fun j hj => by simp [hj])
    · unfold cnt
      rw [if_neg (by simp; omega)]
      rw [cnt_cut m (by omega)]
      cases k with
      | zero => rfl
      | succ k => rfl
theorem oins_mem {o : Nat → Nat} {pl t zz : Nat} (hp : pl ≤ zz) (u : Nat) : (∃ j, j < zz + 1 ∧ x_oins o pl t j = u) ↔ u = t ∨ ∃ j, j < zz ∧ o j = u := by
  constructor
  · rintro ⟨j, a, b⟩
    unfold x_oins at b
    by_cases h1 : j < pl
    · rw [if_pos h1] at b; exact Or.inr ⟨j, by omega, b⟩
    · rw [if_neg h1] at b
      by_cases h2 : j = pl
      · rw [if_pos h2] at b; exact Or.inl b.symm
      · rw [if_neg h2] at b; exact Or.inr ⟨j - 1, by omega, b⟩
  · rintro (rfl | ⟨j, a, b⟩)
    · exact ⟨pl, by omega, by unfold x_oins; rw [if_neg (by omega), if_pos rfl]⟩
    · by_cases h1 : j < pl
      · exact ⟨j, by omega, by unfold x_oins; rw [if_pos h1]; exact b⟩
      · exact ⟨j + 1, by omega, by unfold x_oins; rw [if_neg (by omega), if_neg (by omega)]; exact b⟩
theorem tk_mem {te : Nat → Int32} {nu : Nat → Int64} {tl : Int32} : ∀ (k t : Nat), (∃ j, j < (x_tk te nu tl k).2 ∧ (x_tk te nu tl k).1 j = t) ↔ t < k ∧ te t = tl
  | 0, t => ⟨fun ⟨j, hj, _⟩ => absurd hj (Nat.not_lt_zero _), fun q => absurd q.1 (Nat.not_lt_zero _)⟩
  | k + 1, t => by
    by_cases e : te k = tl
    · rw [x_tk_t e]
      dsimp only
      rw [oins_mem (x_place_le _), tk_mem k t]
      constructor
      · rintro (rfl | ⟨a, b⟩)
        · exact ⟨by omega, e⟩
        · exact ⟨by omega, b⟩
      · rintro ⟨a, b⟩
        by_cases et : t = k
        · exact Or.inl et
        · exact Or.inr ⟨by omega, b⟩
    · rw [x_tk_f e, tk_mem k t]
      constructor
      · rintro ⟨a, b⟩; exact ⟨by omega, b⟩
      · rintro ⟨a, b⟩
        refine ⟨?_, b⟩
        by_cases et : t = k
        · subst et; exact absurd b e
        · omega
theorem oins_inj {o : Nat → Nat} {pl t zz : Nat} (hp : pl ≤ zz) (ho : ∀ i j, i < zz → j < zz → o i = o j → i = j) (ht : ∀ j, j < zz → ¬ o j = t) : ∀ i j, i < zz + 1 → j < zz + 1 → x_oins o pl t i = x_oins o pl t j → i = j := by
  intro i j hi hj q
  unfold x_oins at q
  by_cases a1 : i < pl
  · rw [if_pos a1] at q
    by_cases b1 : j < pl
    · rw [if_pos b1] at q; exact ho i j (by omega) (by omega) q
    · rw [if_neg b1] at q
      by_cases b2 : j = pl
      · rw [if_pos b2] at q; exact absurd q (ht i (by omega))
      · rw [if_neg b2] at q; have := ho i (j - 1) (by omega) (by omega) q; omega
  · rw [if_neg a1] at q
    by_cases a2 : i = pl
    · rw [if_pos a2] at q
      by_cases b1 : j < pl
      · rw [if_pos b1] at q; exact absurd q.symm (ht j (by omega))
      · rw [if_neg b1] at q
        by_cases b2 : j = pl
        · omega
        · rw [if_neg b2] at q; exact absurd q.symm (ht (j - 1) (by omega))
    · rw [if_neg a2] at q
      by_cases b1 : j < pl
      · rw [if_pos b1] at q; have := ho (i - 1) j (by omega) (by omega) q; omega
      · rw [if_neg b1] at q
        by_cases b2 : j = pl
        · rw [if_pos b2] at q; exact absurd q (ht (i - 1) (by omega))
        · rw [if_neg b2] at q; have := ho (i - 1) (j - 1) (by omega) (by omega) q; omega
theorem tk_inj {te : Nat → Int32} {nu : Nat → Int64} {tl : Int32} : ∀ (k i j : Nat), i < (x_tk te nu tl k).2 → j < (x_tk te nu tl k).2 → (x_tk te nu tl k).1 i = (x_tk te nu tl k).1 j → i = j
  | 0, i, j, hi, _, _ => absurd hi (Nat.not_lt_zero _)
  | k + 1, i, j, hi, hj, q => by
    by_cases e : te k = tl
    · rw [x_tk_t e] at hi hj q
      exact oins_inj (x_place_le _) (tk_inj k) (fun m hm z => by have := (x_tk_lt k).2 m hm; omega) i j hi hj q
    · rw [x_tk_f e] at hi hj q
      exact tk_inj k i j hi hj q
theorem tk_cnt {te : Nat → Int32} {nu : Nat → Int64} {tl : Int32} : ∀ k, (x_tk te nu tl k).2 = cnt (fun t => decide (te t = tl)) k
  | 0 => rfl
  | k + 1 => by
    unfold cnt
    by_cases e : te k = tl
    · rw [x_tk_t e, if_pos (by simp [e]), ← tk_cnt (nu := nu) k]
    · rw [x_tk_f e, if_neg (by simp [e]), ← tk_cnt (nu := nu) k]
theorem pl_eq {nu nu' : Nat → Int64} {o : Nat → Nat} {t : Nat} (ht : nu t = nu' t) : ∀ k, (∀ j, j < k → nu (o j) = nu' (o j)) → x_place nu o t k = x_place nu' o t k
  | 0, _ => rfl
  | k + 1, h => by
    unfold x_place
    rw [ht, h k (by omega), pl_eq ht k (fun j hj => h j (by omega))]
theorem tk_eq {te te' : Nat → Int32} {nu nu' : Nat → Int64} {tl : Int32} : ∀ k, (∀ j, j < k → te j = te' j ∧ nu j = nu' j) → x_tk te nu tl k = x_tk te' nu' tl k
  | 0, _ => rfl
  | k + 1, h => by
    have ih := tk_eq (tl := tl) k (fun j hj => h j (by omega))
    have hk := h k (by omega)
    by_cases e : te k = tl
    · have e' : te' k = tl := by rw [← hk.1]; exact e
      rw [x_tk_t e, x_tk_t e', ih]
      have hp : x_place nu (x_tk te' nu' tl k).1 k (x_tk te' nu' tl k).2 = x_place nu' (x_tk te' nu' tl k).1 k (x_tk te' nu' tl k).2 := pl_eq hk.2 _ (fun j hj => (h _ (Nat.lt_succ_of_lt ((x_tk_lt k).2 j hj))).2)
      rw [hp]
    · have e' : ¬ te' k = tl := by rw [← hk.1]; exact e
      rw [x_tk_f e, x_tk_f e', ih]
/-- set -/
theorem IS.taken (h : IS M N n sc z od bs) (h8 : sc < 8) {tl : Int32} (hte : ∀ j, j < n → M.1 2 j = N.1 1 j ∧ M.2.1 3 j = N.2.1 2 j) {M1 N1 : wM} (hM : xTaken M M1 sc tl n) (hN : yTaken (wI (wI (wF N 0 0 0) 7 sc 0) 9 sc (-1)) N1 sc tl n) :
    IS (wF M1 0 2 (nI (sc + 1))) (wF N1 0 8 (nI (sc + 1))) n (sc + 1) (fun s => if s = sc then (x_tk (M.1 2) (M.2.1 3) tl n).2 else z s) (fun s => if s = sc then (x_tk (M.1 2) (M.2.1 3) tl n).1 else od s) (fun s => if s = sc then (x_tk (M.1 2) (M.2.1 3) tl n).2 else bs s) := by
  have hn := h.hn
  obtain ⟨x1, x2, x3, x4, x5⟩ := hM
  obtain ⟨y1, y2, y3, y4, y5, y6, y7⟩ := hN
  have et : x_tk ((wI (wI (wF N 0 0 0) 7 sc 0) 9 sc (-1)).1 1) ((wI (wI (wF N 0 0 0) 7 sc 0) 9 sc (-1)).2.1 2) tl n = x_tk (M.1 2) (M.2.1 3) tl n := by
    refine (tk_eq n (fun j hj => ?_)).symm
    obtain ⟨a, b⟩ := hte j hj
    exact ⟨a.trans ((wI_ne (by decide)).trans (wI_ne (by decide))).symm, b⟩
  rw [et] at y6 y7
  have hfl : ∀ t, M.1 (9 + 3 * sc + 2) t = 0 := fun t => Decidable.byContradiction fun q => by
    obtain ⟨j, a, -⟩ := (h.mem sc h8 t).mp q
    rw [(h.z0 sc (Nat.le_refl _) h8).1] at a
    exact absurd a (Nat.not_lt_zero _)
  have lt9 := x_tk_lt (te := M.1 2) (nu := M.2.1 3) (tl := tl) n
  have hmem := tk_mem (te := M.1 2) (nu := M.2.1 3) (tl := tl) n
  have hcnt := tk_cnt (te := M.1 2) (nu := M.2.1 3) (tl := tl) n
  have hinj := tk_inj (te := M.1 2) (nu := M.2.1 3) (tl := tl) n
  generalize x_tk (M.1 2) (M.2.1 3) tl n = T at *
  have f0 : ∀ a b, a ≠ 0 → (wF M1 0 2 (nI (sc + 1))).2.2 a b = up2 M.2.2 (9 + 3 * sc) 3 (nI T.2) a b := fun a b ha => (wF_ne ha).trans (by rw [x3])
  refine (IS.mk (hn) (by omega) (wF_s) (wF_s) (fun s hs => ?_) (fun s hs => ?_) (fun s hs j hj => ?_) (fun s hs t => ?_) (fun s hs i j hi hj q => ?_) (fun s a b => ?_) (fun s a => ?_))
  · rw [f0 _ _ (by omega)]
    by_cases e : s = sc
    · subst e; rw [if_pos rfl]; exact ⟨up2_s _ _ _ _, y6⟩
    · rw [if_neg e, congrFun (up2_o _ _ _ _ (show 9 + 3 * s ≠ 9 + 3 * sc by omega)) 3]
      exact ⟨(h.hz s hs).1, (y4 s e).trans (((wI_ne (by decide)).trans (wI_k e)).trans (h.hz s hs).2)⟩
  · by_cases e : s = sc
    · subst e
      rw [if_pos rfl, hcnt, ← cnt_cut (k := n) 300 hn]
      refine cnt_eq _ (fun j _ => ?_)
      have q := x4 j
      show decide (¬ M1.1 (9 + 3 * s + 2) j = 0) = _
      rw [q, hfl j]
      by_cases q2 : j < n ∧ M.1 2 j = tl
      · rw [if_pos q2]; simp [q2.1, q2.2]
      · rw [if_neg q2]
        by_cases q3 : j < n
        · have : ¬ M.1 2 j = tl := fun z => q2 ⟨q3, z⟩
          simp [this]
        · simp [q3]
    · rw [if_neg e, ← h.cz s hs]
      refine cnt_eq _ (fun j _ => ?_)
      show decide (¬ M1.1 (9 + 3 * s + 2) j = 0) = _
      rw [x1 _ (by omega) (by omega)]
  · by_cases e : s = sc
    · subst e; rw [if_pos rfl] at hj ⊢
      have := lt9.2 j hj
      exact ⟨x5 j hj, y7 j hj, this⟩
    · rw [if_neg e] at hj ⊢
      obtain ⟨a1, a2, a3⟩ := h.hod s hs j hj
      have hz := h.z_le hs
      by_cases ls : s < sc
      · exact ⟨(congrFun (x1 _ (by omega) (by omega)) j).trans a1, (y5 _ (by omega)).trans (((wI_ne (by decide)).trans (wI_ne (by decide))).trans a2), a3⟩
      · rw [(h.z0 s (by omega) hs).1] at hj; exact absurd hj (Nat.not_lt_zero _)
  · by_cases e : s = sc
    · subst e
      rw [if_pos rfl, if_pos rfl, hmem t]
      show (¬ M1.1 (9 + 3 * s + 2) t = 0) ↔ _
      rw [x4 t, hfl t]
      by_cases q2 : t < n ∧ M.1 2 t = tl
      · rw [if_pos q2]; exact ⟨fun _ => q2, fun _ => by decide⟩
      · rw [if_neg q2]; exact ⟨fun q => absurd rfl q, fun q => absurd q q2⟩
    · rw [if_neg e, if_neg e]
      show (¬ M1.1 (9 + 3 * s + 2) t = 0) ↔ _
      rw [x1 _ (by omega) (by omega)]; exact h.mem s hs t
  · by_cases e : s = sc
    · subst e; rw [if_pos rfl] at hi hj q; exact hinj i j hi hj q
    · rw [if_neg e] at hi hj q; exact h.inj s hs i j hi hj q
  · rw [if_neg (by omega), if_neg (by omega), f0 _ _ (by omega), up2_k _ _ _ _ (show (4 : Nat) ≠ 3 by decide)]
    show z s = 0 ∧ M.2.2 (9 + 3 * s) 4 = -1 ∧ N1.1 9 s = 0 ∧ bs s = 0
    rw [y1 9 (by decide) (by decide), show (wI (wI (wF N 0 0 0) 7 sc 0) 9 sc (-1)).1 9 s = N.1 9 s from (wI_k (by omega)).trans (wI_ne (by decide))]
    exact h.z0 s (by omega) b
  · rw [f0 _ _ (by omega), up2_k _ _ _ _ (show (4 : Nat) ≠ 3 by decide)]
    show (M.2.2 (9 + 3 * s) 4 = -1 ∧ N1.1 9 s = -1 ∧ _) ∨ (M.2.2 (9 + 3 * s) 4 = _ ∧ N1.1 9 s = _ ∧ _)
    rw [y1 9 (by decide) (by decide)]
    by_cases e : s = sc
    · subst e
      rw [if_pos rfl, if_pos rfl]
      exact Or.inl ⟨(h.z0 s (Nat.le_refl _) h8).2.1, wI_s, rfl⟩
    · rw [if_neg e, if_neg e, show (wI (wI (wF N 0 0 0) 7 sc 0) 9 sc (-1)).1 9 s = N.1 9 s from (wI_k (by omega)).trans (wI_ne (by decide))]
      exact h.bat s (by omega)
/-- batch -/
theorem IS.batch (h : IS M N n sc z od bs) {k : Nat} (hk : k < sc) (b : Bool) : IS (wF M (9 + 3 * k) 4 (if b then nI (z k) else -1)) (wI N 9 k (if b then nI (z k) else -1)) n sc z od (fun s => if s = k then z k else bs s) := by
  have hc := h.hsc
  have e4 : ∀ s q, q ≠ 4 → (wF M (9 + 3 * k) 4 (if b then nI (z k) else -1)).2.2 (9 + 3 * s) q = M.2.2 (9 + 3 * s) q := fun s q hq => wF_k hq
  refine (IS.mk (h.hn) (h.hsc) ((wF_ne (by omega)).trans h.xsc) (h.ysc) (fun s hs => ?_) (h.cz) (fun s hs j hj => ?_) (h.mem) (h.inj) (fun s a b9 => ?_) (fun s a => ?_))
  · rw [e4 s 3 (by decide)]; exact ⟨(h.hz s hs).1, (wI_ne (by decide)).trans (h.hz s hs).2⟩
  · obtain ⟨a1, a2, a3⟩ := h.hod s hs j hj
    exact ⟨a1, (wI_ne (by decide)).trans a2, a3⟩
  · obtain ⟨a1, a2, a3, a4⟩ := h.z0 s a b9
    exact ⟨a1, (wF_ne (by omega)).trans a2, (wI_k (by omega)).trans a3, (if_neg (show ¬ s = k by omega)).trans a4⟩
  · by_cases e : s = k
    · subst e
      rw [if_pos rfl, wF_s, wI_s]
      cases b with
      | true => exact Or.inr ⟨rfl, rfl, Nat.le_refl _⟩
      | false => exact Or.inl ⟨rfl, rfl, rfl⟩
    · rw [if_neg e, wF_ne (by omega), wI_k e]; exact h.bat s a
end
/-! THE TELLINGS and the rights of the class and of the reference are the same -/
def IT (M N : wM) (n : Nat) : Prop := (n ≤ 300) ∧ (M.2.2 1 6 = nI n) ∧ (N.2.2 0 1 = nI n) ∧ (∀ j, j < n → M.1 2 j = N.1 1 j ∧ M.2.1 3 j = N.2.1 2 j ∧ M.1 4 j = N.1 3 j ∧ M.1 5 j = N.1 4 j ∧ M.2.1 6 j = N.2.1 5 j ∧ M.2.1 7 j = N.2.1 6 j) ∧ (∀ i j, i < n → j < n → M.1 2 i = M.1 2 j → M.2.1 3 i = M.2.1 3 j → i = j)
theorem IT.hn {M N : wM} {n : Nat} (h : IT M N n) : n ≤ 300 := h.1
theorem IT.xn {M N : wM} {n : Nat} (h : IT M N n) : M.2.2 1 6 = nI n := h.2.1
theorem IT.yn {M N : wM} {n : Nat} (h : IT M N n) : N.2.2 0 1 = nI n := h.2.2.1
theorem IT.eq {M N : wM} {n : Nat} (h : IT M N n) : ∀ j, j < n → M.1 2 j = N.1 1 j ∧ M.2.1 3 j = N.2.1 2 j ∧ M.1 4 j = N.1 3 j ∧ M.1 5 j = N.1 4 j ∧ M.2.1 6 j = N.2.1 5 j ∧ M.2.1 7 j = N.2.1 6 j := h.2.2.2.1
theorem IT.un {M N : wM} {n : Nat} (h : IT M N n) : ∀ i j, i < n → j < n → M.1 2 i = M.1 2 j → M.2.1 3 i = M.2.1 3 j → i = j := h.2.2.2.2
theorem IT.mk {M N : wM} {n : Nat} (hn9 : n ≤ 300) (xn9 : M.2.2 1 6 = nI n) (yn9 : N.2.2 0 1 = nI n) (eq9 : ∀ j, j < n → M.1 2 j = N.1 1 j ∧ M.2.1 3 j = N.2.1 2 j ∧ M.1 4 j = N.1 3 j ∧ M.1 5 j = N.1 4 j ∧ M.2.1 6 j = N.2.1 5 j ∧ M.2.1 7 j = N.2.1 6 j) (un9 : ∀ i j, i < n → j < n → M.1 2 i = M.1 2 j → M.2.1 3 i = M.2.1 3 j → i = j) : IT M N n := ⟨hn9, xn9, yn9, eq9, un9⟩
def sameT (M M' : wM) : Prop := M'.2.2 1 = M.2.2 1 ∧ M'.1 2 = M.1 2 ∧ M'.2.1 3 = M.2.1 3 ∧ M'.1 4 = M.1 4 ∧ M'.1 5 = M.1 5 ∧ M'.2.1 6 = M.2.1 6 ∧ M'.2.1 7 = M.2.1 7
def sameTn (N N' : wM) : Prop := N'.2.2 0 1 = N.2.2 0 1 ∧ N'.1 1 = N.1 1 ∧ N'.2.1 2 = N.2.1 2 ∧ N'.1 3 = N.1 3 ∧ N'.1 4 = N.1 4 ∧ N'.2.1 5 = N.2.1 5 ∧ N'.2.1 6 = N.2.1 6
def IR (M N : wM) : Prop := ∀ a b, a < 4 → b < 4 → M.1 33 (a * 4 + b) = N.1 10 (4 * a + b)
theorem IT.kept {M N M' N' : wM} {n : Nat} (h : IT M N n) (hM : sameT M M') (hN : sameTn N N') : IT M' N' n := by
  obtain ⟨m1, m2, m3, m4, m5, m6, m7⟩ := hM
  obtain ⟨n1, n2, n3, n4, n5, n6, n7⟩ := hN
  exact (IT.mk (h.hn) (by rw [m1]; exact h.xn) (by rw [n1]; exact h.yn) (fun j hj => by rw [m2, m3, m4, m5, m6, m7, n2, n3, n4, n5, n6, n7]; exact h.eq j hj) (fun i j a b => by rw [m2, m3]; exact h.un i j a b))
theorem IT.told {M N : wM} {n : Nat} (h : IT M N n) (hlt : n < 300) (t th kd : Int32) (nu v on : Int64) (hno : ¬ ∃ j, j < n ∧ M.2.1 3 j = nu ∧ M.1 2 j = t) : IT (wF (wL (wL (wI (wI (wL (wI M 2 n t) 3 n nu) 4 n th) 5 n kd) 6 n v) 7 n on) 1 6 (nI (n + 1))) (wF (wL (wL (wI (wI (wL (wI (wF (wF N 0 0 0) 0 0 0) 1 n t) 2 n nu) 3 n th) 4 n kd) 5 n v) 6 n on) 0 1 (nI (n + 1))) (n + 1) := by
  refine (IT.mk (by omega) (wF_s) (wF_s) (fun j hj => ?_) (fun i j hi hj => ?_))
  · by_cases e : j = n
    · subst e
      simp [wF, wL, wI, up2]
    · have := h.eq j (by omega)
      simp [wF, wL, wI, up2, e, this]
  · have g1 : ∀ q, (wF (wL (wL (wI (wI (wL (wI M 2 n t) 3 n nu) 4 n th) 5 n kd) 6 n v) 7 n on) 1 6 (nI (n + 1))).1 2 q = if q = n then t else M.1 2 q := fun q => by simp [wF, wL, wI, up2]
    have g2 : ∀ q, (wF (wL (wL (wI (wI (wL (wI M 2 n t) 3 n nu) 4 n th) 5 n kd) 6 n v) 7 n on) 1 6 (nI (n + 1))).2.1 3 q = if q = n then nu else M.2.1 3 q := fun q => by simp [wF, wL, wI, up2]
    rw [g1, g1, g2, g2]
    intro a b
    by_cases ei : i = n
    · by_cases ej : j = n
      · omega
      · rw [if_pos ei, if_neg ej] at a b; exact absurd ⟨j, by omega, b.symm, a.symm⟩ hno
    · by_cases ej : j = n
      · rw [if_neg ei, if_pos ej] at a b; exact absurd ⟨i, by omega, b, a⟩ hno
      · rw [if_neg ei, if_neg ej] at a b; exact h.un i j (by omega) (by omega) a b
theorem IR.kept {M N M' N' : wM} (h : IR M N) (hM : M'.1 33 = M.1 33) (hN : N'.1 10 = N.1 10) : IR M' N' := fun a b ha hb => by rw [hM, hN]; exact h a b ha hb
theorem IR.put {M N : wM} (h : IR M N) {a b : Nat} (hb : b < 4) (v : Int32) : IR (wI M 33 (a * 4 + b) v) (wI N 10 (4 * a + b) v) := by
  intro a' b' ha' hb'
  by_cases e : a' * 4 + b' = a * 4 + b
  · have e2 : 4 * a' + b' = 4 * a + b := by omega
    rw [e, e2, wI_s, wI_s]
  · rw [wI_k e, wI_k (by omega)]; exact h a' b' ha' hb'
/-- all of it -/
def IV (M N : wM) (n sc : Nat) (z : Nat → Nat) (od : Nat → Nat → Nat) (bs : Nat → Nat) (ec : Nat) (rc : Nat → Nat) (ln : Nat) (en : Nat → Nat) : Prop := (IT M N n) ∧ (IS M N n sc z od bs) ∧ (IR M N) ∧ (IL M N ec rc ln en)
theorem IV.t {M N : wM} {n sc : Nat} {z : Nat → Nat} {od : Nat → Nat → Nat} {bs : Nat → Nat} {ec : Nat} {rc : Nat → Nat} {ln : Nat} {en : Nat → Nat} (h : IV M N n sc z od bs ec rc ln en) : IT M N n := h.1
theorem IV.s {M N : wM} {n sc : Nat} {z : Nat → Nat} {od : Nat → Nat → Nat} {bs : Nat → Nat} {ec : Nat} {rc : Nat → Nat} {ln : Nat} {en : Nat → Nat} (h : IV M N n sc z od bs ec rc ln en) : IS M N n sc z od bs := h.2.1
theorem IV.r {M N : wM} {n sc : Nat} {z : Nat → Nat} {od : Nat → Nat → Nat} {bs : Nat → Nat} {ec : Nat} {rc : Nat → Nat} {ln : Nat} {en : Nat → Nat} (h : IV M N n sc z od bs ec rc ln en) : IR M N := h.2.2.1
theorem IV.l {M N : wM} {n sc : Nat} {z : Nat → Nat} {od : Nat → Nat → Nat} {bs : Nat → Nat} {ec : Nat} {rc : Nat → Nat} {ln : Nat} {en : Nat → Nat} (h : IV M N n sc z od bs ec rc ln en) : IL M N ec rc ln en := h.2.2.2
theorem IV.mk {M N : wM} {n sc : Nat} {z : Nat → Nat} {od : Nat → Nat → Nat} {bs : Nat → Nat} {ec : Nat} {rc : Nat → Nat} {ln : Nat} {en : Nat → Nat} (t9 : IT M N n) (s9 : IS M N n sc z od bs) (r9 : IR M N) (l9 : IL M N ec rc ln en) : IV M N n sc z od bs ec rc ln en := ⟨t9, s9, r9, l9⟩
def IW (M N : wM) : Prop := ∃ (n sc : Nat) (z : Nat → Nat) (od : Nat → Nat → Nat) (bs : Nat → Nat) (ec : Nat) (rc : Nat → Nat) (ln : Nat) (en : Nat → Nat), IV M N n sc z od bs ec rc ln en
section
variable {M N : wM} {n sc : Nat} {z : Nat → Nat} {od : Nat → Nat → Nat} {bs : Nat → Nat} {ec : Nat} {rc : Nat → Nat} {ln : Nat} {en : Nat → Nat}
theorem sT_rfl : sameT M M := ⟨rfl, rfl, rfl, rfl, rfl, rfl, rfl⟩
theorem sS_rfl : sameS M M := ⟨rfl, fun _ _ => ⟨rfl, rfl, rfl⟩⟩
theorem sL_rfl : sameL M M := ⟨rfl, rfl, fun _ _ => ⟨rfl, rfl, rfl⟩⟩
theorem sTn_code {v : Int32} : sameTn N (wF N 0 0 v) := ⟨rfl, rfl, rfl, rfl, rfl, rfl, rfl⟩
theorem sSn_code {v : Int32} : sameSn N (wF N 0 0 v) := ⟨rfl, rfl, rfl, rfl⟩
theorem sLn_code {v : Int32} : sameLn N (wF N 0 0 v) := ⟨rfl, rfl, rfl, rfl, rfl, rfl, rfl, rfl, rfl⟩
/-- the reference's code changes nothing else -/
theorem IV.code (h : IV M N n sc z od bs ec rc ln en) (v : Int32) : IV M (wF N 0 0 v) n sc z od bs ec rc ln en :=
  ⟨h.t.kept sT_rfl sTn_code, h.s.kept sS_rfl sSn_code, h.r.kept rfl rfl, h.l.kept sL_rfl sLn_code⟩
theorem IV.told (h : IV M N n sc z od bs ec rc ln en) (hlt : n < 300) (t th kd : Int32) (nu v on : Int64) (hno : ¬ ∃ j, j < n ∧ M.2.1 3 j = nu ∧ M.1 2 j = t) : IV (wF (wL (wL (wI (wI (wL (wI M 2 n t) 3 n nu) 4 n th) 5 n kd) 6 n v) 7 n on) 1 6 (nI (n + 1))) (wF (wL (wL (wI (wI (wL (wI (wF (wF N 0 0 0) 0 0 0) 1 n t) 2 n nu) 3 n th) 4 n kd) 5 n v) 6 n on) 0 1 (nI (n + 1))) (n + 1) sc z od bs ec rc ln en := by
  refine ⟨h.t.told hlt t th kd nu v on hno, (h.s.grow (n' := n + 1) (by omega) (by omega)).kept ⟨rfl, fun s hs => ?_⟩ ⟨rfl, rfl, rfl, rfl⟩, h.r.kept rfl rfl, h.l.kept ⟨rfl, rfl, fun j hj => ?_⟩ ⟨rfl, rfl, rfl, rfl, rfl, rfl, rfl, rfl, rfl⟩⟩
  · have a1 : 9 + 3 * s ≠ 1 := by omega
    refine ⟨?_, ?_, ?_⟩
    · exact up2_o _ _ _ _ a1
    · funext b
      have q1 : 9 + 3 * s + 1 ≠ 2 := by omega
      have q2 : 9 + 3 * s + 1 ≠ 4 := by omega
      have q3 : 9 + 3 * s + 1 ≠ 5 := by omega
      simp only [wF, wL, wI, up2, if_neg q1, if_neg q2, if_neg q3]
    · funext b
      have q1 : 9 + 3 * s + 2 ≠ 2 := by omega
      have q2 : 9 + 3 * s + 2 ≠ 4 := by omega
      have q3 : 9 + 3 * s + 2 ≠ 5 := by omega
      simp only [wF, wL, wI, up2, if_neg q1, if_neg q2, if_neg q3]
  · have a1 : 37 + 3 * j ≠ 1 := by omega
    refine ⟨up2_o _ _ _ _ a1, ?_, ?_⟩
    · funext b
      have q1 : 37 + 3 * j + 1 ≠ 2 := by omega
      have q2 : 37 + 3 * j + 1 ≠ 4 := by omega
      have q3 : 37 + 3 * j + 1 ≠ 5 := by omega
      simp only [wF, wL, wI, up2, if_neg q1, if_neg q2, if_neg q3]
    · funext b
      have q1 : 37 + 3 * j + 2 ≠ 3 := by omega
      have q2 : 37 + 3 * j + 2 ≠ 6 := by omega
      have q3 : 37 + 3 * j + 2 ≠ 7 := by omega
      simp only [wF, wL, wI, up2, if_neg q1, if_neg q2, if_neg q3]
theorem IV.taken (h : IV M N n sc z od bs ec rc ln en) (h8 : sc < 8) {tl : Int32} {M1 N1 : wM} (hM : xTaken M M1 sc tl n) (hN : yTaken (wI (wI (wF N 0 0 0) 7 sc 0) 9 sc (-1)) N1 sc tl n) : IW (wF M1 0 2 (nI (sc + 1))) (wF N1 0 8 (nI (sc + 1))) := by
  have hs := h.s.taken h8 (fun j hj => ⟨(h.t.eq j hj).1, (h.t.eq j hj).2.1⟩) hM hN
  obtain ⟨x1, x2, x3, x4, x5⟩ := hM
  obtain ⟨y1, y2, y3, y4, y5, y6, y7⟩ := hN
  have g : ∀ a, a ≠ 0 → a ≠ 9 + 3 * sc → (wF M1 0 2 (nI (sc + 1))).2.2 a = M.2.2 a := fun a h1 h2 => (up2_o _ _ _ _ h1).trans (by rw [x3]; exact up2_o _ _ _ _ h2)
  have gy : ∀ b, b ≠ 8 → (wF N1 0 8 (nI (sc + 1))).2.2 0 b = (wF N 0 0 0).2.2 0 b := fun b hb => (wF_k hb).trans (by rw [y3]; rfl)
  have gy1 : ∀ a, a ≠ 7 → a ≠ 8 → a ≠ 9 → (wF N1 0 8 (nI (sc + 1))).1 a = N.1 a := fun a h1 h2 h3 => (y1 a h1 h2).trans ((up2_o _ _ _ _ h3).trans (up2_o _ _ _ _ h1))
  have gy2 : (wF N1 0 8 (nI (sc + 1))).2.1 = N.2.1 := y2
  refine ⟨_, _, _, _, _, ec, rc, ln, en, h.t.kept ⟨g 1 (by decide) (by omega), x1 2 (by omega) (by omega), congrFun x2 3, x1 4 (by omega) (by omega), x1 5 (by omega) (by omega), congrFun x2 6, congrFun x2 7⟩ ⟨(gy 1 (by decide)).trans (wF_k (by decide)), gy1 1 (by decide) (by decide) (by decide), congrFun gy2 2, gy1 3 (by decide) (by decide) (by decide), gy1 4 (by decide) (by decide) (by decide), congrFun gy2 5, congrFun gy2 6⟩, hs, h.r.kept (x1 33 (by omega) (by omega)) (gy1 10 (by decide) (by decide) (by decide)), h.l.kept ⟨g 34 (by decide) (by omega), x1 36 (by omega) (by omega), fun j hj => ⟨g _ (by omega) (by omega), x1 _ (by omega) (by omega), congrFun x2 _⟩⟩ ⟨(gy 13 (by decide)).trans (wF_k (by decide)), (gy 20 (by decide)).trans (wF_k (by decide)), (gy 21 (by decide)).trans (wF_k (by decide)), gy1 11 (by decide) (by decide) (by decide), gy1 12 (by decide) (by decide) (by decide), gy1 13 (by decide) (by decide) (by decide), gy1 15 (by decide) (by decide) (by decide), gy1 16 (by decide) (by decide) (by decide), congrFun gy2 14⟩⟩
theorem IV.joined (h : IV M N n sc z od bs ec rc ln en) {si ti : Nat} (hs : si < sc) (ht : ti < sc) : IW (x_jM M si (od ti) (z si) (z ti)) (y_jM N si (od si) (z si) (od ti) (z ti)) := by
  have hc := h.s.hsc
  have hj := h.s.joined hs ht
  obtain ⟨ij, -, -⟩ := h.s.join (show si < 8 by omega) (show ti < 8 by omega) (z ti) (Nat.le_refl _)
  generalize x_jM M si (od ti) (z si) (z ti) = Mk at *
  have y2 := ij.fy2
  have y1 := ij.fy1
  have g : ∀ a, a ≠ 9 + 3 * si → Mk.2.2 a = M.2.2 a := fun a ha => funext fun b => ij.fx3 a b (Or.inl ha)
  have x1 := ij.fx1
  have x2 := ij.fx2
  generalize y_jM N si (od si) (z si) (od ti) (z ti) = Nk at *
  have e2 : Nk.2.2 = N.2.2 := by rw [y2]
  have e1 : Nk.2.1 = N.2.1 := by rw [y2]
  refine ⟨_, _, _, _, _, ec, rc, ln, en, h.t.kept ⟨g 1 (by omega), x1 2 (by omega) (by omega), congrFun x2 3, x1 4 (by omega) (by omega), x1 5 (by omega) (by omega), congrFun x2 6, congrFun x2 7⟩ ⟨by rw [e2], y1 1 (by decide) (by decide), congrFun e1 2, y1 3 (by decide) (by decide), y1 4 (by decide) (by decide), congrFun e1 5, congrFun e1 6⟩, hj, h.r.kept (x1 33 (by omega) (by omega)) (y1 10 (by decide) (by decide)), h.l.kept ⟨g 34 (by omega), x1 36 (by omega) (by omega), fun j hj => ⟨g _ (by omega), x1 _ (by omega) (by omega), congrFun x2 _⟩⟩ ⟨by rw [e2], by rw [e2], by rw [e2], y1 11 (by decide) (by decide), y1 12 (by decide) (by decide), y1 13 (by decide) (by decide), y1 15 (by decide) (by decide), y1 16 (by decide) (by decide), congrFun e1 14⟩⟩
theorem IV.batch (h : IV M N n sc z od bs ec rc ln en) {k : Nat} (hk : k < sc) (b : Bool) : IW (wF M (9 + 3 * k) 4 (if b then nI (z k) else -1)) (wI N 9 k (if b then nI (z k) else -1)) := by
  have hc := h.s.hsc
  exact ⟨_, _, _, _, _, ec, rc, ln, en, h.t.kept ⟨up2_o _ _ _ _ (by omega), rfl, rfl, rfl, rfl, rfl, rfl⟩ ⟨rfl, rfl, rfl, rfl, rfl, rfl, rfl⟩, h.s.batch hk b, h.r.kept rfl rfl, h.l.kept ⟨up2_o _ _ _ _ (by omega), rfl, fun j hj => ⟨up2_o _ _ _ _ (by omega), rfl, rfl⟩⟩ ⟨rfl, rfl, rfl, rfl, rfl, rfl, rfl, rfl, rfl⟩⟩
theorem IV.right (h : IV M N n sc z od bs ec rc ln en) {a b : Nat} (hb : b < 4) (v : Int32) : IV (wI M 33 (a * 4 + b) v) (wI N 10 (4 * a + b) v) n sc z od bs ec rc ln en :=
  ⟨h.t.kept ⟨rfl, rfl, rfl, rfl, rfl, rfl, rfl⟩ ⟨rfl, rfl, rfl, rfl, rfl, rfl, rfl⟩, h.s.kept ⟨rfl, fun s hs => ⟨rfl, up2_o _ _ _ _ (by omega), up2_o _ _ _ _ (by omega)⟩⟩ ⟨rfl, rfl, rfl, rfl⟩, h.r.put hb v, h.l.kept ⟨rfl, rfl, fun j hj => ⟨rfl, up2_o _ _ _ _ (by omega), rfl⟩⟩ ⟨rfl, rfl, rfl, rfl, rfl, rfl, rfl, rfl, rfl⟩⟩
/-- a change of the ledger's part alone -/
theorem IV.ledger (h : IV M N n sc z od bs ec rc ln en) {M' N' : wM} {ec' : Nat} {rc' : Nat → Nat} {ln' : Nat} {en' : Nat → Nat} (hl : IL M' N' ec' rc' ln' en')
    (x1 : ∀ a, a < 34 → M'.1 a = M.1 a) (x2 : ∀ a, a < 34 → M'.2.1 a = M.2.1 a) (x3 : ∀ a, a < 34 → M'.2.2 a = M.2.2 a) (y1 : ∀ a, a < 11 → N'.1 a = N.1 a) (y2 : ∀ a, a < 11 → N'.2.1 a = N.2.1 a) (y3 : N'.2.2 0 1 = N.2.2 0 1) (y4 : N'.2.2 0 8 = N.2.2 0 8) : IW M' N' :=
  ⟨n, sc, z, od, bs, ec', rc', ln', en', h.t.kept ⟨x3 1 (by decide), x1 2 (by decide), x2 3 (by decide), x1 4 (by decide), x1 5 (by decide), x2 6 (by decide), x2 7 (by decide)⟩ ⟨y3, y1 1 (by decide), y2 2 (by decide), y1 3 (by decide), y1 4 (by decide), y2 5 (by decide), y2 6 (by decide)⟩, h.s.kept ⟨congrFun (x3 0 (by decide)) 2, fun s hs => ⟨x3 _ (by omega), x1 _ (by omega), x1 _ (by omega)⟩⟩ ⟨y4, y1 7 (by decide), y1 8 (by decide), y1 9 (by decide)⟩, h.r.kept (x1 33 (by decide)) (y1 10 (by decide)), hl⟩
end
