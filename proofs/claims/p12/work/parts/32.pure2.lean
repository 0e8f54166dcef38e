theorem cmp_x {α : Type} {cv : α → Int64} {k : Int32} {f : Nat → Int64} {rb : α} {N1 : wM} (hk : k ≠ 0) (h : N1.2.2 0 0 = k) : cmpOk cv k f rb N1 := ⟨h, fun e => absurd e hk⟩
theorem xbn {x n : Int32} (h : xbad x n) (a : xin x n) : False := h.elim a.1 (fun h => h a.2)
theorem xb2 {x n y m : Int32} (h : xbad x n ∨ xbad y m) (a : xin x n) (b : xin y m) : False := h.elim (fun h => xbn h a) (fun h => xbn h b)
theorem n0 {x : Int32} : ¬ xin x (nI 0) := fun h => by
  have h2 := h.2
  rw [nI_0] at h2
  exact h.1 h2
theorem xin4 {x : Int32} {a : Nat} (ha : a < 4) (hx : x = nI a) : xin x 4 := by
  subst hx
  exact ⟨nI_pos (by omega), nI_lt (b := 4) ha (by decide)⟩
theorem r10 {x : Int32} (a : ¬ x < 1) (b : x ≤ nI 0) : False := by
  rw [nI_0] at b
  rw [Int32.lt_iff_toInt_lt, show (1 : Int32).toInt = 1 by decide] at a
  rw [Int32.le_iff_toInt_le, show (0 : Int32).toInt = 0 by decide] at b
  omega
theorem wI_same {M : wM} {i k : Nat} : wI M i k (M.1 i k) = M := by
  have : up2 M.1 i k (M.1 i k) = M.1 := by
    funext a b
    unfold up2
    by_cases h1 : a = i
    · by_cases h2 : b = k
      · rw [if_pos h1, if_pos h2, h1, h2]
      · rw [if_pos h1, if_neg h2]
    · rw [if_neg h1]
  unfold wI
  rw [this]
theorem nI_xin {x : Int32} {k sc : Nat} (hk : k < sc) (hc : sc ≤ 8) (e : x = nI k) : xin x (nI sc) := by
  subst e; exact ⟨nI_pos (by omega), nI_lt hk (by omega)⟩
theorem nI_xin60 {x : Int32} {k sc : Nat} (hk : k < sc) (hc : sc ≤ 60) (e : x = nI k) : xin x (nI sc) := by
  subst e; exact ⟨nI_pos (by omega), nI_lt hk (by omega)⟩
theorem nI_ge1 {x : Int32} {m : Nat} (h1 : 1 ≤ m) (hm : m ≤ 60) (e : x = nI m) : ¬ x < 1 := by
  subst e; exact nI_nlt (b := 1) h1 (by omega)
theorem nI_le_ln {x : Int32} {m ln : Nat} (h1 : m ≤ ln) (hm : ln ≤ 60) (e : x = nI m) : x ≤ nI ln := by
  subst e; exact nI_le h1 (by omega)
theorem y_rev_code {N : wM} {ec ek rc ln : Nat} {day : Int32} : (y_reversed N ec ek rc ln day).2.2 0 0 = 0 := by
  have h : ∀ q, (y_turn (y_opened (wF (wF N 0 0 0) 0 0 0) ec day) ec ek q).2.2 0 0 = 0 := by
    intro q
    induction q with
    | zero => rfl
    | succ q ih => exact ih
  exact h rc
section
variable {M N : wM} {n sc : Nat} {z : Nat → Nat} {od : Nat → Nat → Nat} {bs : Nat → Nat} {ec : Nat} {rc : Nat → Nat} {ln : Nat} {en : Nat → Nat}
theorem IV.w (h : IV M N n sc z od bs ec rc ln en) : IW M N := ⟨_, _, _, _, _, _, _, _, _, h⟩
theorem IV.month (h : IV M N n sc z od bs ec rc ln en) (x : Int32) : IW (wF M 34 4 x) (wF (wF N 0 0 0) 0 21 x) :=
  h.ledger ((h.code 0).l.month x) (fun _ _ => rfl) (fun _ _ => rfl) (fun a ha => up2_o _ _ _ _ (by omega)) (fun _ _ => rfl) (fun _ _ => rfl) rfl rfl
theorem IV.opened (h : IV M N n sc z od bs ec rc ln en) (hlt : ec < 60) (dy : Int32) : IW (x_opened M ec dy) (wF (wI (wF N 0 0 0) 11 ec dy) 0 13 (nI (ec + 1))) :=
  h.ledger ((h.code 0).l.opened hlt dy) (fun _ _ => rfl) (fun _ _ => rfl) (fun a ha => (up2_o _ _ _ _ (by omega)).trans (up2_o _ _ _ _ (by omega))) (fun a ha => up2_o _ _ _ _ (by omega)) (fun _ _ => rfl) rfl rfl
theorem IV.row (h : IV M N n sc z od bs ec rc ln en) {k : Nat} (hk : k < ec) (h6 : rc k < 6) (ac : Int32) (ce : Int64) : IW (x_row M k (rc k) ac ce) (wI (wL (wI (wF N 0 0 0) 13 (6 * k + rc k) ac) 14 (6 * k + rc k) ce) 12 k (nI (rc k + 1))) :=
  h.ledger ((h.code 0).l.row hk h6 ac ce) (fun a ha => up2_o _ _ _ _ (by omega)) (fun a ha => up2_o _ _ _ _ (by omega)) (fun a ha => up2_o _ _ _ _ (by omega)) (fun a ha => (up2_o _ _ _ _ (by omega)).trans (up2_o _ _ _ _ (by omega))) (fun a ha => up2_o _ _ _ _ (by omega)) rfl rfl
theorem IV.numbered (h : IV M N n sc z od bs ec rc ln en) {k : Nat} (hk : k < ec) (h0 : M.2.2 (37 + 3 * k) 4 = 0) : IW (x_numbered M ln k) (wI (wF (wF N 0 0 0) 0 20 (nI (ln + 1))) 15 k (nI (ln + 1))) :=
  h.ledger ((h.code 0).l.numbered hk h0) (fun a ha => up2_o _ _ _ _ (by omega)) (fun _ _ => rfl) (fun a ha => (up2_o _ _ _ _ (by omega)).trans (up2_o _ _ _ _ (by omega))) (fun a ha => up2_o _ _ _ _ (by omega)) (fun _ _ => rfl) rfl rfl
theorem x_turn_f {M : wM} {ej ek : Nat} : ∀ q, (∀ a, a < 34 → (x_turn M ej ek q).1 a = M.1 a) ∧ (∀ a, a < 34 → (x_turn M ej ek q).2.1 a = M.2.1 a) ∧ ∀ a, a < 34 → (x_turn M ej ek q).2.2 a = M.2.2 a
  | 0 => ⟨fun _ _ => rfl, fun _ _ => rfl, fun _ _ => rfl⟩
  | q + 1 => by
    obtain ⟨h1, h2, h3⟩ := x_turn_f (M := M) (ej := ej) (ek := ek) q
    exact ⟨fun a ha => (up2_o _ _ _ _ (by omega)).trans (h1 a ha), fun a ha => (up2_o _ _ _ _ (by omega)).trans (h2 a ha), fun a ha => (up2_o _ _ _ _ (by omega)).trans (h3 a ha)⟩
theorem y_turn_f {M : wM} {ej ek : Nat} : ∀ q, (∀ a, a < 11 → (y_turn M ej ek q).1 a = M.1 a) ∧ (∀ a, a < 11 → (y_turn M ej ek q).2.1 a = M.2.1 a) ∧ (y_turn M ej ek q).2.2 = M.2.2
  | 0 => ⟨fun _ _ => rfl, fun _ _ => rfl, rfl⟩
  | q + 1 => by
    obtain ⟨h1, h2, h3⟩ := y_turn_f (M := M) (ej := ej) (ek := ek) q
    exact ⟨fun a ha => (up2_o _ _ _ _ (by omega)).trans ((up2_o _ _ _ _ (by omega)).trans (h1 a ha)), fun a ha => (up2_o _ _ _ _ (by omega)).trans (h2 a ha), h3⟩
theorem IV.reversed (h : IV M N n sc z od bs ec rc ln en) {k : Nat} (hk : k < ec) (hlt : ec < 60) (dy : Int32) : IW (x_reversed M ec k (rc k) ln dy) (y_reversed N ec k (rc k) ln dy) := by
  obtain ⟨h1, h2, h3⟩ := x_turn_f (M := x_opened M ec dy) (ej := ec) (ek := k) (rc k)
  obtain ⟨g1, g2, g3⟩ := y_turn_f (M := y_opened (wF (wF N 0 0 0) 0 0 0) ec dy) (ej := ec) (ek := k) (rc k)
  refine h.ledger (h.l.reversed hk hlt dy) (fun a ha => (up2_o _ _ _ _ (by omega)).trans (h1 a ha)) (fun a ha => h2 a ha) (fun a ha => ?_) (fun a ha => ?_) (fun a ha => g2 a ha) ?_ ?_
  · exact (up2_o _ _ _ _ (by omega)).trans ((up2_o _ _ _ _ (by omega)).trans ((up2_o _ _ _ _ (by omega)).trans ((up2_o _ _ _ _ (by omega)).trans ((h3 a ha).trans ((up2_o _ _ _ _ (by omega)).trans (up2_o _ _ _ _ (by omega)))))))
  · exact (up2_o _ _ _ _ (by omega)).trans ((up2_o _ _ _ _ (by omega)).trans ((up2_o _ _ _ _ (by omega)).trans ((g1 a ha).trans (up2_o _ _ _ _ (by omega)))))
  · show (up2 (y_turn (y_opened (wF (wF N 0 0 0) 0 0 0) ec dy) ec k (rc k)).2.2 0 20 (nI (ln + 1))) 0 1 = _
    rw [g3]; rfl
  · show (up2 (y_turn (y_opened (wF (wF N 0 0 0) 0 0 0) ec dy) ec k (rc k)).2.2 0 20 (nI (ln + 1))) 0 8 = _
    rw [g3]; rfl
/-- the class and the reference agree on equal -/
theorem y_all_iff {o1 o2 : Nat → Nat} {z1 : Nat} : ∀ k, y_all o1 z1 o2 k = true ↔ ∀ j, j < k → ∃ i, i < z1 ∧ o1 i = o2 j
  | 0 => ⟨fun _ j hj => absurd hj (Nat.not_lt_zero _), fun _ => rfl⟩
  | k + 1 => by
    rw [y_all, Bool.and_eq_true, y_all_iff k, y_has_iff]
    constructor
    · rintro ⟨a, b⟩ j hj
      by_cases e : j = k
      · subst e; exact b
      · exact a j (by omega)
    · intro a
      exact ⟨fun j hj => a j (by omega), a k (by omega)⟩
theorem cnt_sub {p q : Nat → Bool} : ∀ k, (∀ j, j < k → p j = true → q j = true) → cnt p k ≤ cnt q k
  | 0, _ => Nat.le_refl _
  | k + 1, h => by
    have ih := cnt_sub k (fun j hj => h j (by omega))
    unfold cnt
    by_cases e : p k = true
    · rw [if_pos e, if_pos (h k (by omega) e)]; omega
    · rw [if_neg e]; split <;> omega
theorem cnt_back {p q : Nat → Bool} : ∀ k, (∀ j, j < k → p j = true → q j = true) → cnt q k ≤ cnt p k → ∀ j, j < k → q j = true → p j = true
  | 0, _, _, j, hj, _ => absurd hj (Nat.not_lt_zero _)
  | k + 1, h, hc, j, hj, hq => by
    have ih := cnt_sub k (fun j hj => h j (by omega))
    unfold cnt at hc
    by_cases e : p k = true
    · rw [if_pos e, if_pos (h k (by omega) e)] at hc
      by_cases ej : j = k
      · subst ej; exact e
      · exact cnt_back k (fun j hj => h j (by omega)) (by omega) j (by omega) hq
    · rw [if_neg e] at hc
      by_cases e2 : q k = true
      · rw [if_pos e2] at hc; omega
      · rw [if_neg e2] at hc
        by_cases ej : j = k
        · subst ej; exact absurd hq e2
        · exact cnt_back k (fun j hj => h j (by omega)) (by omega) j (by omega) hq
theorem IS.same (h : IS M N n sc z od bs) {k1 k2 : Nat} (h1 : k1 < 8) (h2 : k2 < 8) : decide (z k1 = z k2 ∧ ∀ j, j < z k1 → ¬ M.1 (9 + 3 * k2 + 2) (od k1 j) = 0) = (decide (z k1 = z k2) && y_all (od k1) (z k1) (od k2) (z k2)) := by
  by_cases e : z k1 = z k2
  · have hn := h.hn
    have c1 := h.cz k1 h1
    have c2 := h.cz k2 h2
    have m1 := h.mem k1 h1
    have m2 := h.mem k2 h2
    have key : (∀ j, j < z k1 → ¬ M.1 (9 + 3 * k2 + 2) (od k1 j) = 0) ↔ y_all (od k1) (z k1) (od k2) (z k2) = true := by
      rw [y_all_iff]
      constructor
      · intro a j hj
        have s1 : ∀ t, t < 300 → (fun t => decide (¬ M.1 (9 + 3 * k1 + 2) t = 0)) t = true → (fun t => decide (¬ M.1 (9 + 3 * k2 + 2) t = 0)) t = true := by
          intro t _ q
          obtain ⟨i, i1, i2⟩ := (m1 t).mp (of_decide_eq_true q)
          exact decide_eq_true (i2 ▸ a i i1)
        have s2 := cnt_back 300 s1 (by rw [c1, c2, e]; exact Nat.le_refl _) (od k2 j) (by have := (h.hod k2 h2 j hj).2.2; omega) (decide_eq_true ((m2 _).mpr ⟨j, hj, rfl⟩))
        exact (m1 _).mp (of_decide_eq_true s2)
      · intro a j hj
        have s1 : ∀ t, t < 300 → (fun t => decide (¬ M.1 (9 + 3 * k2 + 2) t = 0)) t = true → (fun t => decide (¬ M.1 (9 + 3 * k1 + 2) t = 0)) t = true := by
          intro t _ q
          obtain ⟨i, i1, i2⟩ := (m2 t).mp (of_decide_eq_true q)
          exact decide_eq_true (i2 ▸ (m1 _).mpr (a i i1))
        have s2 := cnt_back 300 s1 (by rw [c1, c2, e]; exact Nat.le_refl _) (od k1 j) (by have := (h.hod k1 h1 j hj).2.2; omega) (decide_eq_true ((m1 _).mpr ⟨j, hj, rfl⟩))
        exact of_decide_eq_true s2
    cases hy : y_all (od k1) (z k1) (od k2) (z k2) with
    | true => simp only [e, decide_true, Bool.and_self, decide_eq_true_eq]; exact ⟨trivial, e ▸ key.mpr hy⟩
    | false =>
      have : ¬ ∀ j, j < z k1 → ¬ M.1 (9 + 3 * k2 + 2) (od k1 j) = 0 := fun q => by rw [key.mp q] at hy; cases hy
      rw [decide_eq_false (fun q => this q.2), Bool.and_false]
  · rw [decide_eq_false (fun q => e q.1), decide_eq_false e, Bool.false_and]
end
theorem st_tell {M N : wM} {n sc : Nat} {z : Nat → Nat} {od : Nat → Nat → Nat} {bs : Nat → Nat} {ec : Nat} {rc : Nat → Nat} {ln : Nat} {en : Nat → Nat} {fo : Nat → Int64} (h : IV M N n sc z od bs ec rc ln en) (t th kd : Int32) (nu v on : Int64) : ∀ (rk : Int32) (u : wM × (Nat → Int64)) (rb : Int32) (N1 : wM), (oPost (fun r M1 => xin t 6 ∧ xin th 10 ∧ xin kd 4 ∧ ((r = 0 ∧ M1 = M ∧ ∃ j, j < n ∧ M.2.1 3 j = nu ∧ M.1 2 j = t) ∨ (r = 1 ∧ n < 300 ∧ ¬ (∃ j, j < n ∧ M.2.1 3 j = nu ∧ M.1 2 j = t) ∧ M1 = wF (wL (wL (wI (wI (wL (wI M 2 n t) 3 n nu) 4 n th) 5 n kd) 6 n v) 7 n on) 1 6 (nI (n + 1))))) (fun r : Int32 => r.toInt64) (fun E => (E = "java/lang/IndexOutOfBoundsException" ∧ (xbad t 6 ∨ xbad th 10)) ∨ (E = "java/lang/IllegalArgumentException" ∧ xin t 6 ∧ xin th 10 ∧ xbad kd 4) ∨ (E = "java/lang/IllegalStateException" ∧ xin t 6 ∧ xin th 10 ∧ xin kd 4 ∧ ¬ (∃ j, j < n ∧ M.2.1 3 j = nu ∧ M.1 2 j = t) ∧ n = 300)) [(1, "java/lang/IndexOutOfBoundsException"), (2, "java/lang/IllegalArgumentException"), (3, "java/lang/IllegalStateException")] M fo) rk u → (fun r M1 => (r = 0 ∧ M1 = (wF N 0 0 1) ∧ ¬ (xin t 6 ∧ xin th 10)) ∨ (r = 0 ∧ M1 = (wF N 0 0 2) ∧ xin t 6 ∧ xin th 10 ∧ ¬ xin kd 4) ∨ (xin t 6 ∧ xin th 10 ∧ xin kd 4 ∧ ((r = 0 ∧ M1 = (wF N 0 0 0) ∧ ∃ j, j < n ∧ N.2.1 2 j = nu ∧ N.1 1 j = t) ∨ (r = 0 ∧ M1 = wF (wF N 0 0 0) 0 0 3 ∧ ¬ (∃ j, j < n ∧ N.2.1 2 j = nu ∧ N.1 1 j = t) ∧ n = 300) ∨ (r = 1 ∧ n < 300 ∧ ¬ (∃ j, j < n ∧ N.2.1 2 j = nu ∧ N.1 1 j = t) ∧ M1 = wF (wL (wL (wI (wI (wL (wI (wF (wF N 0 0 0) 0 0 0) 1 n t) 2 n nu) 3 n th) 4 n kd) 5 n v) 6 n on) 0 1 (nI (n + 1)))))) rb N1 → cmpOk (fun r : Int32 => r.toInt64) rk u.2 rb N1 ∧ IW u.1 N1 := by
  intro rk u rb N1 h1 h2
  have ex : (∃ j, j < n ∧ M.2.1 3 j = nu ∧ M.1 2 j = t) ↔ ∃ j, j < n ∧ N.2.1 2 j = nu ∧ N.1 1 j = t := by
    constructor
    · rintro ⟨j, a, b, c⟩; have q := h.t.eq j a; exact ⟨j, a, by rw [← q.2.1]; exact b, by rw [← q.1]; exact c⟩
    · rintro ⟨j, a, b, c⟩; have q := h.t.eq j a; exact ⟨j, a, by rw [q.2.1]; exact b, by rw [q.1]; exact c⟩
  rcases h1 with ⟨rfl, r0, hp, hu⟩ | ⟨rfl, h9, hm, rfl, he⟩
  · obtain ⟨a, b, c, ⟨hr, hM, hj⟩ | ⟨hr, hlt, hno, hM⟩⟩ := hp
    · rcases h2 with ⟨-, -, h9⟩ | ⟨-, -, -, -, h9⟩ | ⟨-, -, -, ⟨hb, rfl, -⟩ | ⟨-, -, h9, -⟩ | ⟨-, -, h9, -⟩⟩
      · exact absurd ⟨a, b⟩ h9
      · exact absurd c h9
      · exact ⟨⟨wF_s, fun _ => by rw [hu, hr, hb]⟩, by rw [hM]; exact (h.code 0).w⟩
      · exact absurd (ex.mp hj) h9
      · exact absurd (ex.mp hj) h9
    · rcases h2 with ⟨-, -, h9⟩ | ⟨-, -, -, -, h9⟩ | ⟨-, -, -, ⟨-, -, h9⟩ | ⟨-, -, -, h9⟩ | ⟨hb, -, -, rfl⟩⟩
      · exact absurd ⟨a, b⟩ h9
      · exact absurd c h9
      · exact absurd (ex.mpr h9) hno
      · omega
      · exact ⟨⟨rfl, fun _ => by rw [hu, hr, hb]⟩, by rw [hM]; exact (h.told hlt t th kd nu v on hno).w⟩
  · simp only [List.mem_cons, List.not_mem_nil, or_false] at hm
    rcases hm with rfl | rfl | rfl
    · rcases he with ⟨hE, he⟩ | ⟨hE, he⟩ | ⟨hE, he⟩
      · rcases h2 with ⟨-, rfl, -⟩ | ⟨-, -, a, b, -⟩ | ⟨a, b, -⟩
        · exact ⟨cmp_x (by decide) wF_s, (h.code 1).w⟩
        · exact (xb2 he a b).elim
        · exact (xb2 he a b).elim
      · exact absurd hE (by decide)
      · exact absurd hE (by decide)
    · rcases he with ⟨hE, he⟩ | ⟨hE, he⟩ | ⟨hE, he⟩
      · exact absurd hE (by decide)
      · obtain ⟨a, b, he⟩ := he
        rcases h2 with ⟨-, -, h9⟩ | ⟨-, rfl, -⟩ | ⟨-, -, c, -⟩
        · exact absurd ⟨a, b⟩ h9
        · exact ⟨cmp_x (by decide) wF_s, (h.code 2).w⟩
        · exact (xbn he c).elim
      · exact absurd hE (by decide)
    · rcases he with ⟨hE, he⟩ | ⟨hE, he⟩ | ⟨hE, he⟩
      · exact absurd hE (by decide)
      · exact absurd hE (by decide)
      · obtain ⟨a, b, c, hno, hn3⟩ := he
        rcases h2 with ⟨-, -, h9⟩ | ⟨-, -, -, -, h9⟩ | ⟨-, -, -, ⟨-, -, h9⟩ | ⟨-, rfl, -, -⟩ | ⟨-, h9, -⟩⟩
        · exact absurd ⟨a, b⟩ h9
        · exact absurd c h9
        · exact absurd (ex.mpr h9) hno
        · exact ⟨cmp_x (by decide) wF_s, ((h.code 0).code 3).w⟩
        · omega
theorem st_set {M N : wM} {n sc : Nat} {z : Nat → Nat} {od : Nat → Nat → Nat} {bs : Nat → Nat} {ec : Nat} {rc : Nat → Nat} {ln : Nat} {en : Nat → Nat} {fo : Nat → Int64} (h : IV M N n sc z od bs ec rc ln en) (tl : Int32) : ∀ (rk : Int32) (u : wM × (Nat → Int64)) (rb : Int32) (N1 : wM), (oPost (fun r M1 => xin tl 6 ∧ sc < 8 ∧ r = nI sc ∧ ∃ N, xTaken M N sc tl n ∧ M1 = wF N 0 2 (nI (sc + 1))) (fun r : Int32 => r.toInt64) (fun E => (E = "java/lang/IndexOutOfBoundsException" ∧ xbad tl 6) ∨ (E = "java/lang/IllegalStateException" ∧ xin tl 6 ∧ sc = 8)) [(1, "java/lang/IndexOutOfBoundsException"), (2, "java/lang/IllegalStateException")] M fo) rk u → (fun r M1 => (M1 = (wF N 0 0 1) ∧ ¬ xin tl 6) ∨ (M1 = (wF N 0 0 2) ∧ xin tl 6 ∧ sc = 8) ∨ (xin tl 6 ∧ sc < 8 ∧ r = nI sc ∧ ∃ N0, yTaken (wI (wI (wF N 0 0 0) 7 sc 0) 9 sc (-1)) N0 sc tl n ∧ M1 = wF N0 0 8 (nI (sc + 1)))) rb N1 → cmpOk (fun r : Int32 => r.toInt64) rk u.2 rb N1 ∧ IW u.1 N1 := by
  intro rk u rb N1 h1 h2
  rcases h1 with ⟨rfl, r0, hp, hu⟩ | ⟨rfl, h9, hm, rfl, he⟩
  · obtain ⟨a, h8, hr, M9, ht, hM⟩ := hp
    rcases h2 with ⟨-, h9⟩ | ⟨-, -, h9⟩ | ⟨-, -, hb, N9, ht9, rfl⟩
    · exact absurd a h9
    · omega
    · exact ⟨⟨by rw [wF_k (by decide), ht9.2.2.1]; rfl, fun _ => by rw [hu, hr, hb]⟩, by rw [hM]; exact h.taken h8 ht ht9⟩
  · simp only [List.mem_cons, List.not_mem_nil, or_false] at hm
    rcases hm with rfl | rfl
    · rcases he with ⟨hE, he⟩ | ⟨hE, he⟩
      · rcases h2 with ⟨rfl, -⟩ | ⟨-, a, -⟩ | ⟨a, -⟩
        · exact ⟨cmp_x (by decide) wF_s, (h.code 1).w⟩
        · exact (xbn he a).elim
        · exact (xbn he a).elim
      · exact absurd hE (by decide)
    · rcases he with ⟨hE, he⟩ | ⟨hE, he⟩
      · exact absurd hE (by decide)
      · rcases h2 with ⟨-, h9⟩ | ⟨rfl, -, -⟩ | ⟨-, h9, -⟩
        · exact absurd he.1 h9
        · exact ⟨cmp_x (by decide) wF_s, (h.code 2).w⟩
        · omega
theorem st_join {M N : wM} {n sc : Nat} {z : Nat → Nat} {od : Nat → Nat → Nat} {bs : Nat → Nat} {ec : Nat} {rc : Nat → Nat} {ln : Nat} {en : Nat → Nat} {fo : Nat → Int64} (h : IV M N n sc z od bs ec rc ln en) (x y : Int32) : ∀ (rk : Int32) (u : wM × (Nat → Int64)) (rb : Int32) (N1 : wM), (oPost (fun r M1 => ∃ k1 k2, k1 < sc ∧ k2 < sc ∧ x = nI k1 ∧ y = nI k2 ∧ M1 = x_jM M k1 (od k2) (z k1) (z k2) ∧ r = nI (x_jZ M k1 (od k2) (z k1) (z k2)) - nI (z k1)) (fun r : Int32 => r.toInt64) (fun E => E = "java/lang/IndexOutOfBoundsException" ∧ (xbad x (nI sc) ∨ xbad y (nI sc))) [(1, "java/lang/IndexOutOfBoundsException")] M fo) rk u → (fun r M1 => (M1 = (wF N 0 0 1) ∧ ¬ (xin x (nI sc) ∧ xin y (nI sc))) ∨ (∃ k1 k2, k1 < sc ∧ k2 < sc ∧ x = nI k1 ∧ y = nI k2 ∧ M1 = y_jM (wF N 0 0 0) k1 (od k1) (z k1) (od k2) (z k2) ∧ nI (z k1) + r = nI (y_jZ (wF N 0 0 0) k1 (od k1) (z k1) (od k2) (z k2)))) rb N1 → cmpOk (fun r : Int32 => r.toInt64) rk u.2 rb N1 ∧ IW u.1 N1 := by
  intro rk u rb N1 h1 h2
  rcases h1 with ⟨rfl, r0, hp, hu⟩ | ⟨rfl, h9, hm, rfl, he⟩
  · obtain ⟨k1, k2, a1, a2, e1, e2, hM, hr⟩ := hp
    have hc := h.s.hsc
    have h0 := h.code 0
    rcases h2 with ⟨-, h9⟩ | ⟨l1, l2, b1, b2, f1, f2, rfl, hb⟩
    · exact absurd ⟨nI_xin a1 hc e1, nI_xin a2 hc e2⟩ h9
    · have g1 : k1 = l1 := (nI_eq (by omega) (by omega)).mp (e1.symm.trans f1)
      have g2 : k2 = l2 := (nI_eq (by omega) (by omega)).mp (e2.symm.trans f2)
      subst g1; subst g2
      obtain ⟨ij, iz, -⟩ := h0.s.join (show k1 < 8 by omega) (show k2 < 8 by omega) (z k2) (Nat.le_refl _)
      have hrb : rb = nI (y_jZ (wF N 0 0 0) k1 (od k1) (z k1) (od k2) (z k2)) - nI (z k1) := by
        rw [← hb, Int32.add_comm, Int32.add_sub_cancel]
      refine ⟨⟨?_, fun _ => by rw [hu, hr, hrb, iz]⟩, by rw [hM]; exact h0.joined a1 a2⟩
      rw [show (y_jM (wF N 0 0 0) k1 (od k1) (z k1) (od k2) (z k2)).2.2 = (wF N 0 0 0).2.2 by rw [ij.fy2]]
      rfl
  · simp only [List.mem_cons, List.not_mem_nil, or_false] at hm
    rcases hm with rfl
    obtain ⟨-, he⟩ := he
    rcases h2 with ⟨rfl, -⟩ | ⟨k1, k2, b1, b2, f1, f2, -⟩
    · exact ⟨cmp_x (by decide) wF_s, (h.code 1).w⟩
    · exact (xb2 he (nI_xin b1 h.s.hsc f1) (nI_xin b2 h.s.hsc f2)).elim
theorem st_equal {M N : wM} {n sc : Nat} {z : Nat → Nat} {od : Nat → Nat → Nat} {bs : Nat → Nat} {ec : Nat} {rc : Nat → Nat} {ln : Nat} {en : Nat → Nat} {fo : Nat → Int64} (h : IV M N n sc z od bs ec rc ln en) (x y : Int32) : ∀ (rk : Int32) (u : wM × (Nat → Int64)) (rb : Int32) (N1 : wM), (oPost (fun r M1 => M1 = M ∧ ∃ k1 k2, k1 < sc ∧ k2 < sc ∧ x = nI k1 ∧ y = nI k2 ∧ r = b2i (decide (z k1 = z k2 ∧ ∀ j, j < z k1 → ¬ M.1 (9 + 3 * k2 + 2) (od k1 j) = 0))) (fun r : Int32 => if r = 0 then (0 : Int64) else 1) (fun E => E = "java/lang/IndexOutOfBoundsException" ∧ (xbad x (nI sc) ∨ xbad y (nI sc))) [(1, "java/lang/IndexOutOfBoundsException")] M fo) rk u → (fun r M1 => (r = 0 ∧ M1 = (wF N 0 0 1) ∧ ¬ (xin x (nI sc) ∧ xin y (nI sc))) ∨ (M1 = (wF N 0 0 0) ∧ ∃ k1 k2, k1 < sc ∧ k2 < sc ∧ x = nI k1 ∧ y = nI k2 ∧ r = b2i (decide (z k1 = z k2) && y_all (od k1) (z k1) (od k2) (z k2)))) rb N1 → cmpOk (fun r : Int32 => if r = 0 then (0 : Int64) else 1) rk u.2 rb N1 ∧ IW u.1 N1 := by
  intro rk u rb N1 h1 h2
  rcases h1 with ⟨rfl, r0, hp, hu⟩ | ⟨rfl, h9, hm, rfl, he⟩
  · obtain ⟨hM, k1, k2, a1, a2, e1, e2, hr⟩ := hp
    have hc := h.s.hsc
    rcases h2 with ⟨-, -, h9⟩ | ⟨rfl, l1, l2, b1, b2, f1, f2, hb⟩
    · exact absurd ⟨nI_xin a1 hc e1, nI_xin a2 hc e2⟩ h9
    · have g1 : k1 = l1 := (nI_eq (by omega) (by omega)).mp (e1.symm.trans f1)
      have g2 : k2 = l2 := (nI_eq (by omega) (by omega)).mp (e2.symm.trans f2)
      subst g1; subst g2
      refine ⟨⟨wF_s, fun _ => by rw [hu, hr, hb, h.s.same (by omega) (by omega)]⟩, by rw [hM]; exact (h.code 0).w⟩
  · simp only [List.mem_cons, List.not_mem_nil, or_false] at hm
    rcases hm with rfl
    obtain ⟨-, he⟩ := he
    rcases h2 with ⟨-, rfl, -⟩ | ⟨-, k1, k2, b1, b2, f1, f2, -⟩
    · exact ⟨cmp_x (by decide) wF_s, (h.code 1).w⟩
    · exact (xb2 he (nI_xin b1 h.s.hsc f1) (nI_xin b2 h.s.hsc f2)).elim
theorem st_mark {M N : wM} {n sc : Nat} {z : Nat → Nat} {od : Nat → Nat → Nat} {bs : Nat → Nat} {ec : Nat} {rc : Nat → Nat} {ln : Nat} {en : Nat → Nat} {fo : Nat → Int64} (h : IV M N n sc z od bs ec rc ln en) (x : Int32) : ∀ (rk : Int32) (u : wM × (Nat → Int64)) (rb : Int32) (N1 : wM), (oPost (fun r M1 => M1 = M ∧ ∃ k, k < sc ∧ x = nI k ∧ r = M.2.2 (9 + 3 * k) 3) (fun r : Int32 => r.toInt64) (fun E => E = "java/lang/IndexOutOfBoundsException" ∧ xbad x (nI sc)) [(1, "java/lang/IndexOutOfBoundsException")] M fo) rk u → (fun r M1 => (r = 0 ∧ M1 = (wF N 0 0 1) ∧ ¬ xin x (nI sc)) ∨ (M1 = (wF N 0 0 0) ∧ ∃ k, k < sc ∧ x = nI k ∧ r = N.1 7 k)) rb N1 → cmpOk (fun r : Int32 => r.toInt64) rk u.2 rb N1 ∧ IW u.1 N1 := by
  intro rk u rb N1 h1 h2
  rcases h1 with ⟨rfl, r0, hp, hu⟩ | ⟨rfl, h9, hm, rfl, he⟩
  · obtain ⟨hM, k, a, e, hr⟩ := hp
    have hc := h.s.hsc
    rcases h2 with ⟨-, -, h9⟩ | ⟨rfl, k', b, f, hb⟩
    · exact absurd (nI_xin a hc e) h9
    · have g : k = k' := (nI_eq (by omega) (by omega)).mp (e.symm.trans f)
      subst g
      have hz := h.s.hz k (by omega)
      exact ⟨⟨wF_s, fun _ => by rw [hu, hr, hb, hz.1, hz.2]⟩, by rw [hM]; exact (h.code 0).w⟩
  · simp only [List.mem_cons, List.not_mem_nil, or_false] at hm
    rcases hm with rfl
    obtain ⟨-, he⟩ := he
    rcases h2 with ⟨-, rfl, -⟩ | ⟨-, k, b, f, -⟩
    · exact ⟨cmp_x (by decide) wF_s, (h.code 1).w⟩
    · exact (xbn he (nI_xin b h.s.hsc f)).elim
theorem st_batch {M N : wM} {n sc : Nat} {z : Nat → Nat} {od : Nat → Nat → Nat} {bs : Nat → Nat} {ec : Nat} {rc : Nat → Nat} {ln : Nat} {en : Nat → Nat} {fo : Nat → Int64} (h : IV M N n sc z od bs ec rc ln en) (x bo : Int32) (hbo : bo = 0 ∨ bo = 1) : ∀ (rk : Int32) (u : wM × (Nat → Int64)) (rb : Int32) (N1 : wM), (oPost (fun r M1 => ∃ k, k < sc ∧ x = nI k ∧ ((bo = 0 ∧ ((r = 0 ∧ M1 = M ∧ M.2.2 (9 + 3 * k) 4 = -1) ∨ (r = 1 ∧ M1 = wF M (9 + 3 * k) 4 (-1) ∧ ¬ M.2.2 (9 + 3 * k) 4 = -1))) ∨ (¬ bo = 0 ∧ ((r = 0 ∧ M1 = M ∧ ¬ M.2.2 (9 + 3 * k) 4 = -1) ∨ (r = 1 ∧ M1 = wF M (9 + 3 * k) 4 (M.2.2 (9 + 3 * k) 3) ∧ M.2.2 (9 + 3 * k) 4 = -1))))) (fun r : Int32 => if r = 0 then (0 : Int64) else 1) (fun E => E = "java/lang/IndexOutOfBoundsException" ∧ xbad x (nI sc)) [(1, "java/lang/IndexOutOfBoundsException")] M fo) rk u → (fun r M1 => (r = 0 ∧ M1 = (wF N 0 0 1) ∧ ¬ xin x (nI sc)) ∨ (∃ k, k < sc ∧ x = nI k ∧ ((r = 0 ∧ M1 = (wF N 0 0 0) ∧ ((N.1 9 k < 0 ∧ 0 = bo) ∨ (¬ N.1 9 k < 0 ∧ 1 = bo))) ∨ (r = 1 ∧ ((N.1 9 k < 0 ∧ ¬ 0 = bo) ∨ (¬ N.1 9 k < 0 ∧ ¬ 1 = bo)) ∧ M1 = wI (wF N 0 0 0) 9 k (if bo = 0 then -1 else N.1 7 k))))) rb N1 → cmpOk (fun r : Int32 => if r = 0 then (0 : Int64) else 1) rk u.2 rb N1 ∧ IW u.1 N1 := by
  intro rk u rb N1 h1 h2
  rcases h1 with ⟨rfl, r0, hp, hu⟩ | ⟨rfl, h9, hm, rfl, he⟩
  · obtain ⟨k, a, e, hq⟩ := hp
    have hc := h.s.hsc
    rcases h2 with ⟨-, -, h9⟩ | ⟨k', b, f, hq2⟩
    · exact absurd (nI_xin a hc e) h9
    · have g : k = k' := (nI_eq (by omega) (by omega)).mp (e.symm.trans f)
      subst g
      have hz := h.s.hz k (by omega)
      have hz3 := h.s.z_le (show k < 8 by omega)
      have h01 : ¬ (1 : Int32) = 0 := by decide
      have h10 : ¬ (0 : Int32) = 1 := by decide
      have hf := (h.code 0).batch a false
      have ht := (h.code 0).batch a true
      rw [if_neg (by decide)] at hf
      rw [if_pos rfl] at ht
      rcases h.s.bat k a with ⟨m4, n9, -⟩ | ⟨m4, n9, hbz⟩
      · have hneg : N.1 9 k < 0 := by rw [n9]; decide
        rcases hbo with rfl | rfl
        · rcases hq with ⟨-, ⟨hr, hM, -⟩ | ⟨-, -, q⟩⟩ | ⟨q, -⟩
          · rcases hq2 with ⟨hb, rfl, -⟩ | ⟨-, ⟨-, q⟩ | ⟨q, -⟩, -⟩
            · exact ⟨⟨wF_s, fun _ => by rw [hu, hr, hb]⟩, by rw [hM]; exact (h.code 0).w⟩
            · exact absurd rfl q
            · exact absurd hneg q
          · exact absurd m4 q
          · exact absurd rfl q
        · rcases hq with ⟨q, -⟩ | ⟨-, ⟨-, -, q⟩ | ⟨hr, hM, -⟩⟩
          · exact absurd q h01
          · exact absurd m4 q
          · rcases hq2 with ⟨-, -, ⟨-, q⟩ | ⟨q, -⟩⟩ | ⟨hb, -, rfl⟩
            · exact absurd q h10
            · exact absurd hneg q
            · refine ⟨⟨rfl, fun _ => by rw [hu, hr, hb]⟩, ?_⟩
              rw [hM, if_neg h01, hz.1, hz.2]
              exact ht
      · have hneg : ¬ N.1 9 k < 0 := by rw [n9]; exact nI_pos9 (by omega)
        have hm4 : ¬ M.2.2 (9 + 3 * k) 4 = -1 := by rw [m4]; exact nI_ne9 (by omega)
        rcases hbo with rfl | rfl
        · rcases hq with ⟨-, ⟨-, -, q⟩ | ⟨hr, hM, -⟩⟩ | ⟨q, -⟩
          · exact absurd q hm4
          · rcases hq2 with ⟨-, -, ⟨q, -⟩ | ⟨-, q⟩⟩ | ⟨hb, -, rfl⟩
            · exact absurd q hneg
            · exact absurd q h01
            · refine ⟨⟨rfl, fun _ => by rw [hu, hr, hb]⟩, ?_⟩
              rw [hM, if_pos rfl]
              exact hf
          · exact absurd rfl q
        · rcases hq with ⟨q, -⟩ | ⟨-, ⟨hr, hM, -⟩ | ⟨-, -, q⟩⟩
          · exact absurd q h01
          · rcases hq2 with ⟨hb, rfl, -⟩ | ⟨-, ⟨q, -⟩ | ⟨-, q⟩, -⟩
            · exact ⟨⟨wF_s, fun _ => by rw [hu, hr, hb]⟩, by rw [hM]; exact (h.code 0).w⟩
            · exact absurd q hneg
            · exact absurd rfl q
          · exact absurd q hm4
  · simp only [List.mem_cons, List.not_mem_nil, or_false] at hm
    rcases hm with rfl
    obtain ⟨-, he⟩ := he
    rcases h2 with ⟨-, rfl, -⟩ | ⟨k, b, f, -⟩
    · exact ⟨cmp_x (by decide) wF_s, (h.code 1).w⟩
    · exact (xbn he (nI_xin b h.s.hsc f)).elim
theorem st_right {M N : wM} {n sc : Nat} {z : Nat → Nat} {od : Nat → Nat → Nat} {bs : Nat → Nat} {ec : Nat} {rc : Nat → Nat} {ln : Nat} {en : Nat → Nat} {fo : Nat → Int64} (h : IV M N n sc z od bs ec rc ln en) (x kd bo : Int32) (hbo : bo = 0 ∨ bo = 1) : ∀ (rk : Int32) (u : wM × (Nat → Int64)) (rb : Int32) (N1 : wM), (oPost (fun r M1 => ∃ a b, a < 4 ∧ b < 4 ∧ x = nI a ∧ kd = nI b ∧ M1 = wI M 33 (a * 4 + b) bo ∧ r = b2i (decide (¬ M.1 33 (a * 4 + b) = bo))) (fun r : Int32 => if r = 0 then (0 : Int64) else 1) (fun E => (E = "java/lang/IndexOutOfBoundsException" ∧ xbad x 4) ∨ (E = "java/lang/IllegalArgumentException" ∧ xin x 4 ∧ xbad kd 4)) [(1, "java/lang/IndexOutOfBoundsException"), (2, "java/lang/IllegalArgumentException")] M fo) rk u → (fun r M1 => (r = 0 ∧ M1 = (wF N 0 0 1) ∧ ¬ xin x 4) ∨ (r = 0 ∧ M1 = (wF N 0 0 2) ∧ xin x 4 ∧ ¬ xin kd 4) ∨ (∃ a b, a < 4 ∧ b < 4 ∧ x = nI a ∧ kd = nI b ∧ ((r = 0 ∧ M1 = (wF N 0 0 0) ∧ N.1 10 (4 * a + b) = bo) ∨ (r = 1 ∧ M1 = wI (wF N 0 0 0) 10 (4 * a + b) bo ∧ ¬ N.1 10 (4 * a + b) = bo)))) rb N1 → cmpOk (fun r : Int32 => if r = 0 then (0 : Int64) else 1) rk u.2 rb N1 ∧ IW u.1 N1 := by
  intro rk u rb N1 h1 h2
  rcases h1 with ⟨rfl, r0, hp, hu⟩ | ⟨rfl, h9, hm, rfl, he⟩
  · obtain ⟨a, b, ha, hb, hx, hk, hM, hr⟩ := hp
    rcases h2 with ⟨-, -, h9⟩ | ⟨-, -, -, h9⟩ | ⟨a', b', ha', hb', hx', hk', hq⟩
    · exact absurd (xin4 ha hx) h9
    · exact absurd (xin4 hb hk) h9
    · have g1 : a = a' := (nI_eq (by omega) (by omega)).mp (hx.symm.trans hx')
      have g2 : b = b' := (nI_eq (by omega) (by omega)).mp (hk.symm.trans hk')
      subst g1; subst g2
      have er := h.r a b ha hb
      have hp := (h.code 0).right (a := a) hb bo
      rcases hq with ⟨hb9, rfl, h0⟩ | ⟨hb9, rfl, h0⟩
      · refine ⟨⟨wF_s, fun _ => by rw [hu, hr, hb9, er, h0]; simp [b2i]⟩, ?_⟩
        have e9 : wI (wF N 0 0 0) 10 (4 * a + b) bo = wF N 0 0 0 := by
          rw [← h0]; exact wI_same
        rw [hM]
        rw [e9] at hp
        exact hp.w
      · exact ⟨⟨rfl, fun _ => by rw [hu, hr, hb9, er]; simp [b2i, h0]⟩, by rw [hM]; exact hp.w⟩
  · simp only [List.mem_cons, List.not_mem_nil, or_false] at hm
    rcases hm with rfl | rfl
    · rcases he with ⟨hE, he⟩ | ⟨hE, he⟩
      · rcases h2 with ⟨-, rfl, -⟩ | ⟨-, -, a, -⟩ | ⟨a, b, ha, hb, hx, -⟩
        · exact ⟨cmp_x (by decide) wF_s, (h.code 1).w⟩
        · exact (xbn he a).elim
        · exact (xbn he (xin4 ha hx)).elim
      · exact absurd hE (by decide)
    · rcases he with ⟨hE, he⟩ | ⟨hE, he⟩
      · exact absurd hE (by decide)
      · rcases h2 with ⟨-, -, h9⟩ | ⟨-, rfl, -⟩ | ⟨a, b, ha, hb, -, hk, -⟩
        · exact absurd he.1 h9
        · exact ⟨cmp_x (by decide) wF_s, (h.code 2).w⟩
        · exact (xbn he.2 (xin4 hb hk)).elim
theorem st_entry {M N : wM} {n sc : Nat} {z : Nat → Nat} {od : Nat → Nat → Nat} {bs : Nat → Nat} {ec : Nat} {rc : Nat → Nat} {ln : Nat} {en : Nat → Nat} {fo : Nat → Int64} (h : IV M N n sc z od bs ec rc ln en) (day : Int32) : ∀ (rk : Int32) (u : wM × (Nat → Int64)) (rb : Int32) (N1 : wM), (oPost (fun r M1 => xin day 3600 ∧ ec < 60 ∧ M1 = x_opened M ec day ∧ r = nI ec) (fun r : Int32 => r.toInt64) (fun E => (E = "java/lang/IllegalArgumentException" ∧ xbad day 3600) ∨ (E = "java/lang/IllegalStateException" ∧ xin day 3600 ∧ ec = 60)) [(1, "java/lang/IllegalArgumentException"), (2, "java/lang/IllegalStateException")] M fo) rk u → (fun r M1 => (r = 0 ∧ M1 = (wF N 0 0 1) ∧ ¬ xin day 3600) ∨ (r = 0 ∧ M1 = (wF N 0 0 2) ∧ xin day 3600 ∧ ec = 60) ∨ (ec < 60 ∧ xin day 3600 ∧ M1 = wF (wI (wF N 0 0 0) 11 ec day) 0 13 (nI (ec + 1)) ∧ r = nI ec)) rb N1 → cmpOk (fun r : Int32 => r.toInt64) rk u.2 rb N1 ∧ IW u.1 N1 := by
  intro rk u rb N1 h1 h2
  rcases h1 with ⟨rfl, r0, hp, hu⟩ | ⟨rfl, h9, hm, rfl, he⟩
  · obtain ⟨a, hlt, hM, hr⟩ := hp
    rcases h2 with ⟨-, -, h9⟩ | ⟨-, -, -, h9⟩ | ⟨-, -, rfl, hb⟩
    · exact absurd a h9
    · omega
    · exact ⟨⟨rfl, fun _ => by rw [hu, hr, hb]⟩, by rw [hM]; exact h.opened hlt day⟩
  · simp only [List.mem_cons, List.not_mem_nil, or_false] at hm
    rcases hm with rfl | rfl
    · rcases he with ⟨hE, he⟩ | ⟨hE, he⟩
      · rcases h2 with ⟨-, rfl, -⟩ | ⟨-, -, a, -⟩ | ⟨-, a, -⟩
        · exact ⟨cmp_x (by decide) wF_s, (h.code 1).w⟩
        · exact (xbn he a).elim
        · exact (xbn he a).elim
      · exact absurd hE (by decide)
    · rcases he with ⟨hE, he⟩ | ⟨hE, he⟩
      · exact absurd hE (by decide)
      · rcases h2 with ⟨-, -, h9⟩ | ⟨-, rfl, -⟩ | ⟨h9, -⟩
        · exact absurd he.1 h9
        · exact ⟨cmp_x (by decide) wF_s, (h.code 2).w⟩
        · omega
theorem st_row {M N : wM} {n sc : Nat} {z : Nat → Nat} {od : Nat → Nat → Nat} {bs : Nat → Nat} {ec : Nat} {rc : Nat → Nat} {ln : Nat} {en : Nat → Nat} {fo : Nat → Int64} (h : IV M N n sc z od bs ec rc ln en) (x ac : Int32) (ce : Int64) : ∀ (rk : Int32) (u : wM × (Nat → Int64)) (rb : Int32) (N1 : wM), (oPost (fun r M1 => xin ac 10 ∧ ¬ ce < -1000000000 ∧ ce ≤ 1000000000 ∧ ∃ k, k < ec ∧ x = nI k ∧ M.2.2 (37 + 3 * k) 4 = 0 ∧ rc k < 6 ∧ M1 = x_row M k (rc k) ac ce ∧ r = nI (rc k + 1)) (fun r : Int32 => r.toInt64) (fun E => (E = "java/lang/IndexOutOfBoundsException" ∧ (xbad x (nI ec) ∨ xbad ac 10)) ∨ (E = "java/lang/IllegalArgumentException" ∧ xin x (nI ec) ∧ xin ac 10 ∧ (ce < -1000000000 ∨ ¬ ce ≤ 1000000000)) ∨ (E = "java/lang/IllegalStateException" ∧ xin ac 10 ∧ ¬ ce < -1000000000 ∧ ce ≤ 1000000000 ∧ ∃ k, k < ec ∧ x = nI k ∧ (¬ M.2.2 (37 + 3 * k) 4 = 0 ∨ rc k = 6))) [(1, "java/lang/IndexOutOfBoundsException"), (2, "java/lang/IllegalArgumentException"), (3, "java/lang/IllegalStateException")] M fo) rk u → (fun r M1 => (r = 0 ∧ M1 = (wF N 0 0 1) ∧ ¬ (xin x (nI ec) ∧ xin ac 10)) ∨ (r = 0 ∧ M1 = (wF N 0 0 2) ∧ xin x (nI ec) ∧ xin ac 10 ∧ ¬ (-1000000000 ≤ ce ∧ ce ≤ 1000000000)) ∨ (xin ac 10 ∧ (-1000000000 ≤ ce ∧ ce ≤ 1000000000) ∧ ∃ k, k < ec ∧ x = nI k ∧ ((r = 0 ∧ M1 = (wF N 0 0 3) ∧ (rc k = 6 ∨ 0 < N.1 15 k)) ∨ (rc k < 6 ∧ ¬ 0 < N.1 15 k ∧ M1 = wI (wL (wI (wF N 0 0 0) 13 (6 * k + rc k) ac) 14 (6 * k + rc k) ce) 12 k (nI (rc k + 1)) ∧ r = nI (rc k + 1))))) rb N1 → cmpOk (fun r : Int32 => r.toInt64) rk u.2 rb N1 ∧ IW u.1 N1 := by
  intro rk u rb N1 h1 h2
  rcases h1 with ⟨rfl, r0, hp, hu⟩ | ⟨rfl, h9, hm, rfl, he⟩
  · obtain ⟨a, c1, c2, k, hk, e, ho, h6, hM, hr⟩ := hp
    have hc := h.l.hec
    have c1' : -1000000000 ≤ ce := Int64.not_lt.mp c1
    rcases h2 with ⟨-, -, h9⟩ | ⟨-, -, -, -, h9⟩ | ⟨-, -, k', hk', f, hq⟩
    · exact absurd ⟨nI_xin60 hk hc e, a⟩ h9
    · exact absurd ⟨c1', c2⟩ h9
    · have g : k = k' := (nI_eq (by omega) (by omega)).mp (e.symm.trans f)
      subst g
      have hcl := (h.l.closed hk).mp ho
      rcases hq with ⟨-, -, q | q⟩ | ⟨-, -, rfl, hb⟩
      · omega
      · exact absurd q hcl
      · exact ⟨⟨rfl, fun _ => by rw [hu, hr, hb]⟩, by rw [hM]; exact h.row hk h6 ac ce⟩
  · simp only [List.mem_cons, List.not_mem_nil, or_false] at hm
    rcases hm with rfl | rfl | rfl
    · rcases he with ⟨hE, he⟩ | ⟨hE, he⟩ | ⟨hE, he⟩
      · rcases h2 with ⟨-, rfl, -⟩ | ⟨-, -, a, b, -⟩ | ⟨b, -, k, hk, f, -⟩
        · exact ⟨cmp_x (by decide) wF_s, (h.code 1).w⟩
        · exact (xb2 he a b).elim
        · exact (xb2 he (nI_xin60 hk h.l.hec f) b).elim
      · exact absurd hE (by decide)
      · exact absurd hE (by decide)
    · rcases he with ⟨hE, he⟩ | ⟨hE, he⟩ | ⟨hE, he⟩
      · exact absurd hE (by decide)
      · obtain ⟨a, b, he⟩ := he
        rcases h2 with ⟨-, -, h9⟩ | ⟨-, rfl, -⟩ | ⟨-, ⟨d1, d2⟩, -⟩
        · exact absurd ⟨a, b⟩ h9
        · exact ⟨cmp_x (by decide) wF_s, (h.code 2).w⟩
        · rcases he with q | q
          · exact absurd q (Int64.not_lt.mpr d1)
          · exact absurd d2 q
      · exact absurd hE (by decide)
    · rcases he with ⟨hE, he⟩ | ⟨hE, he⟩ | ⟨hE, he⟩
      · exact absurd hE (by decide)
      · exact absurd hE (by decide)
      · obtain ⟨a, c1, c2, k, hk, e, hq9⟩ := he
        have hc := h.l.hec
        have c1' : -1000000000 ≤ ce := Int64.not_lt.mp c1
        rcases h2 with ⟨-, -, h9⟩ | ⟨-, -, -, -, h9⟩ | ⟨-, -, k', hk', f, hq⟩
        · exact absurd ⟨nI_xin60 hk hc e, a⟩ h9
        · exact absurd ⟨c1', c2⟩ h9
        · have g : k = k' := (nI_eq (by omega) (by omega)).mp (e.symm.trans f)
          subst g
          rcases hq with ⟨-, rfl, -⟩ | ⟨q1, q2, -⟩
          · exact ⟨cmp_x (by decide) wF_s, (h.code 3).w⟩
          · rcases hq9 with q | q
            · exact absurd ((h.l.closed hk).mpr q2) q
            · omega
theorem st_close {M N : wM} {n sc : Nat} {z : Nat → Nat} {od : Nat → Nat → Nat} {bs : Nat → Nat} {ec : Nat} {rc : Nat → Nat} {ln : Nat} {en : Nat → Nat} {fo : Nat → Int64} (h : IV M N n sc z od bs ec rc ln en) (x : Int32) : ∀ (rk : Int32) (u : wM × (Nat → Int64)) (rb : Int32) (N1 : wM), (oPost (fun r M1 => ∃ k, k < ec ∧ x = nI k ∧ M.2.2 (37 + 3 * k) 4 = 0 ∧ ((r = 0 ∧ M1 = M ∧ (M.2.2 (37 + 3 * k) 3 / 30 ≤ M.2.2 34 4 ∨ ¬ (0 < rc k ∧ x_tot M k (rc k) = 0))) ∨ (r = nI (ln + 1) ∧ M1 = x_numbered M ln k ∧ ¬ M.2.2 (37 + 3 * k) 3 / 30 ≤ M.2.2 34 4 ∧ 0 < rc k ∧ x_tot M k (rc k) = 0))) (fun r : Int32 => r.toInt64) (fun E => (E = "java/lang/IndexOutOfBoundsException" ∧ xbad x (nI ec)) ∨ (E = "java/lang/IllegalStateException" ∧ ∃ k, k < ec ∧ x = nI k ∧ ¬ M.2.2 (37 + 3 * k) 4 = 0)) [(1, "java/lang/IndexOutOfBoundsException"), (2, "java/lang/IllegalStateException")] M fo) rk u → (fun r M1 => (r = 0 ∧ M1 = (wF N 0 0 1) ∧ ¬ xin x (nI ec)) ∨ (∃ k, k < ec ∧ x = nI k ∧ ((r = 0 ∧ M1 = (wF N 0 0 2) ∧ 0 < N.1 15 k) ∨ (¬ 0 < N.1 15 k ∧ ((r = 0 ∧ M1 = (wF N 0 0 0) ∧ (rc k = 0 ∨ ¬ y_tot N k (rc k) = 0 ∨ N.1 11 k / 30 ≤ N.2.2 0 21)) ∨ (r = nI (ln + 1) ∧ M1 = wI (wF (wF N 0 0 0) 0 20 (nI (ln + 1))) 15 k (nI (ln + 1)) ∧ 0 < rc k ∧ y_tot N k (rc k) = 0 ∧ ¬ N.1 11 k / 30 ≤ N.2.2 0 21)))))) rb N1 → cmpOk (fun r : Int32 => r.toInt64) rk u.2 rb N1 ∧ IW u.1 N1 := by
  intro rk u rb N1 h1 h2
  rcases h1 with ⟨rfl, r0, hp, hu⟩ | ⟨rfl, h9, hm, rfl, he⟩
  · obtain ⟨k, hk, e, ho, hq⟩ := hp
    have hc := h.l.hec
    rcases h2 with ⟨-, -, h9⟩ | ⟨k', hk', f, hq2⟩
    · exact absurd (nI_xin60 hk hc e) h9
    · have g : k = k' := (nI_eq (by omega) (by omega)).mp (e.symm.trans f)
      subst g
      have hcl := (h.l.closed hk).mp ho
      have htot := h.l.tot (show k < 60 by omega) (rc k) (Nat.le_refl _)
      have hday := h.l.day k hk
      have hmon := h.l.mon
      rcases hq2 with ⟨-, -, q⟩ | ⟨-, hq2⟩
      · exact absurd q hcl
      · rcases hq with ⟨hr, hM, q⟩ | ⟨hr, hM, q1, q2, q3⟩
        · rcases hq2 with ⟨hb, rfl, -⟩ | ⟨-, -, p1, p2, p3⟩
          · exact ⟨⟨wF_s, fun _ => by rw [hu, hr, hb]⟩, by rw [hM]; exact (h.code 0).w⟩
          · rcases q with q | q
            · rw [hday, hmon] at q; exact absurd q p3
            · exact absurd ⟨p1, by rw [htot]; exact p2⟩ q
        · rcases hq2 with ⟨-, -, q | q | q⟩ | ⟨hb, rfl, -⟩
          · omega
          · rw [← htot] at q; exact absurd q3 q
          · rw [← hday, ← hmon] at q; exact absurd q q1
          · exact ⟨⟨rfl, fun _ => by rw [hu, hr, hb]⟩, by rw [hM]; exact h.numbered hk ho⟩
  · simp only [List.mem_cons, List.not_mem_nil, or_false] at hm
    rcases hm with rfl | rfl
    · rcases he with ⟨hE, he⟩ | ⟨hE, he⟩
      · rcases h2 with ⟨-, rfl, -⟩ | ⟨k, hk, f, -⟩
        · exact ⟨cmp_x (by decide) wF_s, (h.code 1).w⟩
        · exact (xbn he (nI_xin60 hk h.l.hec f)).elim
      · exact absurd hE (by decide)
    · rcases he with ⟨hE, he⟩ | ⟨hE, he⟩
      · exact absurd hE (by decide)
      · obtain ⟨k, hk, e, ho⟩ := he
        have hc := h.l.hec
        rcases h2 with ⟨-, -, h9⟩ | ⟨k', hk', f, ⟨-, rfl, -⟩ | ⟨q, -⟩⟩
        · exact absurd (nI_xin60 hk hc e) h9
        · exact ⟨cmp_x (by decide) wF_s, (h.code 2).w⟩
        · have g : k = k' := (nI_eq (by omega) (by omega)).mp (e.symm.trans f)
          subst g
          exact absurd ((h.l.closed hk).mpr q) ho
theorem st_balance {M N : wM} {n sc : Nat} {z : Nat → Nat} {od : Nat → Nat → Nat} {bs : Nat → Nat} {ec : Nat} {rc : Nat → Nat} {ln : Nat} {en : Nat → Nat} {fo : Nat → Int64} (h : IV M N n sc z od bs ec rc ln en) (ac day : Int32) : ∀ (rk : Int32) (u : wM × (Nat → Int64)) (rb : Int64) (N1 : wM), (oPost (fun r M1 => M1 = M ∧ xin ac 10 ∧ r = x_bal M rc ac day ec) (fun r : Int64 => r) (fun E => E = "java/lang/IndexOutOfBoundsException" ∧ xbad ac 10) [(1, "java/lang/IndexOutOfBoundsException")] M fo) rk u → (fun r M1 => (M1 = (wF N 0 0 1) ∧ ¬ xin ac 10) ∨ (M1 = (wF N 0 0 0) ∧ xin ac 10 ∧ r = y_bal N rc ac day ec)) rb N1 → cmpOk (fun r : Int64 => r) rk u.2 rb N1 ∧ IW u.1 N1 := by
  intro rk u rb N1 h1 h2
  rcases h1 with ⟨rfl, r0, hp, hu⟩ | ⟨rfl, h9, hm, rfl, he⟩
  · obtain ⟨hM, a, hr⟩ := hp
    rcases h2 with ⟨-, h9⟩ | ⟨rfl, -, hb⟩
    · exact absurd a h9
    · exact ⟨⟨wF_s, fun _ => by rw [hu, hr, hb, h.l.bal ac day ec (Nat.le_refl _)]⟩, by rw [hM]; exact (h.code 0).w⟩
  · simp only [List.mem_cons, List.not_mem_nil, or_false] at hm
    rcases hm with rfl
    obtain ⟨-, he⟩ := he
    rcases h2 with ⟨rfl, -⟩ | ⟨-, a, -⟩
    · exact ⟨cmp_x (by decide) wF_s, (h.code 1).w⟩
    · exact (xbn he a).elim
theorem st_closeMonth {M N : wM} {n sc : Nat} {z : Nat → Nat} {od : Nat → Nat → Nat} {bs : Nat → Nat} {ec : Nat} {rc : Nat → Nat} {ln : Nat} {en : Nat → Nat} {fo : Nat → Int64} (h : IV M N n sc z od bs ec rc ln en) (x : Int32) : ∀ (rk : Int32) (u : wM × (Nat → Int64)) (rb : Int32) (N1 : wM), (oPost (fun r M1 => xin x 120 ∧ ((r = 0 ∧ M1 = M ∧ x ≤ M.2.2 34 4) ∨ (r = 1 ∧ M1 = wF M 34 4 x ∧ M.2.2 34 4 < x))) (fun r : Int32 => if r = 0 then (0 : Int64) else 1) (fun E => E = "java/lang/IllegalArgumentException" ∧ xbad x 120) [(1, "java/lang/IllegalArgumentException")] M fo) rk u → (fun r M1 => (r = 0 ∧ M1 = (wF N 0 0 1) ∧ ¬ xin x 120) ∨ (r = 0 ∧ M1 = (wF N 0 0 0) ∧ xin x 120 ∧ x ≤ N.2.2 0 21) ∨ (r = 1 ∧ M1 = wF (wF N 0 0 0) 0 21 x ∧ xin x 120 ∧ N.2.2 0 21 < x)) rb N1 → cmpOk (fun r : Int32 => if r = 0 then (0 : Int64) else 1) rk u.2 rb N1 ∧ IW u.1 N1 := by
  intro rk u rb N1 h1 h2
  have hmon := h.l.mon
  rcases h1 with ⟨rfl, r0, hp, hu⟩ | ⟨rfl, h9, hm, rfl, he⟩
  · obtain ⟨a, ⟨hr, hM, hle⟩ | ⟨hr, hM, hlt⟩⟩ := hp
    · rw [hmon] at hle
      rcases h2 with ⟨-, -, h9⟩ | ⟨hb, rfl, -, -⟩ | ⟨-, -, -, h9⟩
      · exact absurd a h9
      · exact ⟨⟨wF_s, fun _ => by rw [hu, hr, hb]⟩, by rw [hM]; exact (h.code 0).w⟩
      · exact absurd h9 (Int32.not_lt.mpr hle)
    · rw [hmon] at hlt
      rcases h2 with ⟨-, -, h9⟩ | ⟨-, -, -, h9⟩ | ⟨hb, rfl, -, -⟩
      · exact absurd a h9
      · exact absurd hlt (Int32.not_lt.mpr h9)
      · exact ⟨⟨rfl, fun _ => by rw [hu, hr, hb]⟩, by rw [hM]; exact h.month x⟩
  · simp only [List.mem_cons, List.not_mem_nil, or_false] at hm
    rcases hm with rfl
    obtain ⟨-, he⟩ := he
    rcases h2 with ⟨-, rfl, -⟩ | ⟨-, -, a, -⟩ | ⟨-, -, a, -⟩
    · exact ⟨cmp_x (by decide) wF_s, (h.code 1).w⟩
    · exact (xbn he a).elim
    · exact (xbn he a).elim
theorem st_reverse {M N : wM} {n sc : Nat} {z : Nat → Nat} {od : Nat → Nat → Nat} {bs : Nat → Nat} {ec : Nat} {rc : Nat → Nat} {ln : Nat} {en : Nat → Nat} {fo : Nat → Int64} (h : IV M N n sc z od bs ec rc ln en) (x day : Int32) : ∀ (rk : Int32) (u : wM × (Nat → Int64)) (rb : Int32) (N1 : wM), (oPost (fun r M1 => xin day 3600 ∧ ∃ m, 1 ≤ m ∧ m ≤ ln ∧ x = nI m ∧ M.2.2 (37 + 3 * en m) 5 = 0 ∧ M.2.2 (37 + 3 * en m) 6 = 0 ∧ ec < 60 ∧ ((r = 0 ∧ M1 = M ∧ day / 30 ≤ M.2.2 34 4) ∨ (r = nI (ln + 1) ∧ M1 = x_reversed M ec (en m) (rc (en m)) ln day ∧ ¬ day / 30 ≤ M.2.2 34 4))) (fun r : Int32 => r.toInt64) (fun E => (E = "java/lang/IndexOutOfBoundsException" ∧ (x < 1 ∨ ¬ x ≤ nI ln)) ∨ (E = "java/lang/IllegalArgumentException" ∧ ¬ x < 1 ∧ x ≤ nI ln ∧ xbad day 3600) ∨ (E = "java/lang/IllegalStateException" ∧ xin day 3600 ∧ ∃ m, 1 ≤ m ∧ m ≤ ln ∧ x = nI m ∧ (¬ M.2.2 (37 + 3 * en m) 5 = 0 ∨ ¬ M.2.2 (37 + 3 * en m) 6 = 0 ∨ ec = 60))) [(1, "java/lang/IndexOutOfBoundsException"), (2, "java/lang/IllegalArgumentException"), (3, "java/lang/IllegalStateException")] M fo) rk u → (fun r M1 => (M1 = (wF N 0 0 1) ∧ (x < 1 ∨ ¬ x ≤ nI ln)) ∨ (M1 = (wF N 0 0 2) ∧ ¬ x < 1 ∧ x ≤ nI ln ∧ ¬ xin day 3600) ∨ (xin day 3600 ∧ ∃ m, 1 ≤ m ∧ m ≤ ln ∧ x = nI m ∧ ((M1 = wF (wF N 0 0 0) 0 0 3 ∧ (¬ N.1 16 (en m) = 0 ∨ ec = 60)) ∨ (N.1 16 (en m) = 0 ∧ ec < 60 ∧ ((r = 0 ∧ M1 = wF (wF N 0 0 0) 0 0 0 ∧ day / 30 ≤ N.2.2 0 21) ∨ (r = nI (ln + 1) ∧ M1 = y_reversed N ec (en m) (rc (en m)) ln day ∧ ¬ day / 30 ≤ N.2.2 0 21)))))) rb N1 → cmpOk (fun r : Int32 => r.toInt64) rk u.2 rb N1 ∧ IW u.1 N1 := by
  intro rk u rb N1 h1 h2
  rcases h1 with ⟨rfl, r0, hp, hu⟩ | ⟨rfl, h9, hm, rfl, he⟩
  · obtain ⟨a, m, m1, m2, e, q5, q6, hlt, hq⟩ := hp
    have hc := h.l.hec
    have hl := h.l.ln_le
    have hen := h.l.hen m m1 m2
    have hrev := (h.l.rev (en m) hen.1).mp ⟨q5, q6⟩
    have hmon := h.l.mon
    rcases h2 with ⟨-, h9⟩ | ⟨-, -, -, h9⟩ | ⟨-, m', m1', m2', f, hq2⟩
    · exact absurd h9 (not_or.mpr ⟨nI_ge1 m1 (by omega) e, not_not_intro (nI_le_ln m2 (by omega) e)⟩)
    · exact absurd a h9
    · have g : m = m' := (nI_eq (by omega) (by omega)).mp (e.symm.trans f)
      subst g
      rcases hq2 with ⟨-, q | q⟩ | ⟨-, -, hq2⟩
      · exact absurd hrev q
      · omega
      · rcases hq with ⟨hr, hM, q⟩ | ⟨hr, hM, q⟩
        · rcases hq2 with ⟨hb, rfl, -⟩ | ⟨-, -, p⟩
          · exact ⟨⟨wF_s, fun _ => by rw [hu, hr, hb]⟩, by rw [hM]; exact ((h.code 0).code 0).w⟩
          · rw [hmon] at q; exact absurd q p
        · rcases hq2 with ⟨-, -, p⟩ | ⟨hb, rfl, -⟩
          · rw [hmon] at q; exact absurd p q
          · exact ⟨⟨y_rev_code, fun _ => by rw [hu, hr, hb]⟩, by rw [hM]; exact h.reversed hen.1 hlt day⟩
  · simp only [List.mem_cons, List.not_mem_nil, or_false] at hm
    rcases hm with rfl | rfl | rfl
    · rcases he with ⟨hE, he⟩ | ⟨hE, he⟩ | ⟨hE, he⟩
      · have hc := h.l.hec
        have hl := h.l.ln_le
        rcases h2 with ⟨rfl, -⟩ | ⟨-, a, b, -⟩ | ⟨-, m, m1, m2, f, -⟩
        · exact ⟨cmp_x (by decide) wF_s, (h.code 1).w⟩
        · exact absurd he (not_or.mpr ⟨a, not_not_intro b⟩)
        · exact absurd he (not_or.mpr ⟨nI_ge1 m1 (by omega) f, not_not_intro (nI_le_ln m2 (by omega) f)⟩)
      · exact absurd hE (by decide)
      · exact absurd hE (by decide)
    · rcases he with ⟨hE, he⟩ | ⟨hE, he⟩ | ⟨hE, he⟩
      · exact absurd hE (by decide)
      · obtain ⟨a, b, he⟩ := he
        rcases h2 with ⟨-, h9⟩ | ⟨rfl, -⟩ | ⟨c, -⟩
        · exact absurd h9 (not_or.mpr ⟨a, not_not_intro b⟩)
        · exact ⟨cmp_x (by decide) wF_s, (h.code 2).w⟩
        · exact (xbn he c).elim
      · exact absurd hE (by decide)
    · rcases he with ⟨hE, he⟩ | ⟨hE, he⟩ | ⟨hE, he⟩
      · exact absurd hE (by decide)
      · exact absurd hE (by decide)
      · obtain ⟨a, m, m1, m2, e, hq⟩ := he
        have hc := h.l.hec
        have hl := h.l.ln_le
        have hen := h.l.hen m m1 m2
        rcases h2 with ⟨-, h9⟩ | ⟨-, -, -, h9⟩ | ⟨-, m', m1', m2', f, hq2⟩
        · exact absurd h9 (not_or.mpr ⟨nI_ge1 m1 (by omega) e, not_not_intro (nI_le_ln m2 (by omega) e)⟩)
        · exact absurd a h9
        · have g : m = m' := (nI_eq (by omega) (by omega)).mp (e.symm.trans f)
          subst g
          rcases hq2 with ⟨rfl, -⟩ | ⟨q1, q2, -⟩
          · exact ⟨cmp_x (by decide) wF_s, ((h.code 0).code 3).w⟩
          · have hrev := (h.l.rev (en m) hen.1).mpr q1
            rcases hq with q | q | q
            · exact absurd hrev.1 q
            · exact absurd hrev.2 q
            · omega
theorem iv_at {M N : wM} {n sc : Nat} {z : Nat → Nat} {od : Nat → Nat → Nat} {bs : Nat → Nat} {ec : Nat} {rc : Nat → Nat} {ln : Nat} {en : Nat → Nat} {fo : Nat → Int64} (h : IV M N n sc z od bs ec rc ln en) (x th kd : Int32) (tm : Int64) : ∀ (rk : Int32) (u : wM × (Nat → Int64)) (rb : Int64) (N1 : wM), (oPost (fun r M1 => M1 = M ∧ xin th 10 ∧ xin kd 4 ∧ ∃ k, k < sc ∧ x = nI k ∧ r = x_known M (od k) th kd tm (z k)) (fun r : Int64 => r) (fun E => (E = "java/lang/IndexOutOfBoundsException" ∧ (xbad x (nI sc) ∨ xbad th 10)) ∨ (E = "java/lang/IllegalArgumentException" ∧ xin x (nI sc) ∧ xin th 10 ∧ xbad kd 4)) [(1, "java/lang/IndexOutOfBoundsException"), (2, "java/lang/IllegalArgumentException")] M fo) rk u → (fun r M1 => (M1 = (wF N 0 0 1) ∧ ¬ (xin x (nI sc) ∧ xin th 10)) ∨ (M1 = (wF N 0 0 2) ∧ xin x (nI sc) ∧ xin th 10 ∧ ¬ xin kd 4) ∨ (M1 = (wF N 0 0 0) ∧ xin th 10 ∧ xin kd 4 ∧ ∃ k, k < sc ∧ x = nI k ∧ r = y_known (wF N 0 0 0) (od k) th kd tm (z k))) rb N1 → IW u.1 N1 := by
  intro rk u rb N1 h1 h2
  rcases h1 with ⟨rfl, r0, hp, hu⟩ | ⟨rfl, h9, hm, rfl, he⟩
  · obtain ⟨hM, -⟩ := hp
    rcases h2 with ⟨rfl, -⟩ | ⟨rfl, -⟩ | ⟨rfl, -⟩ <;> (rw [hM]; exact (h.code _).w)
  · simp only [List.mem_cons, List.not_mem_nil, or_false] at hm
    rcases hm with rfl | rfl
    · rcases he with ⟨hE, he⟩ | ⟨hE, he⟩
      · rcases h2 with ⟨rfl, -⟩ | ⟨rfl, -⟩ | ⟨rfl, -⟩ <;> exact (h.code _).w
      · exact absurd hE (by decide)
    · rcases he with ⟨hE, he⟩ | ⟨hE, he⟩
      · exact absurd hE (by decide)
      · rcases h2 with ⟨rfl, -⟩ | ⟨rfl, -⟩ | ⟨rfl, -⟩ <;> exact (h.code _).w
theorem iv_conflict {M N : wM} {n sc : Nat} {z : Nat → Nat} {od : Nat → Nat → Nat} {bs : Nat → Nat} {ec : Nat} {rc : Nat → Nat} {ln : Nat} {en : Nat → Nat} {fo : Nat → Int64} (h : IV M N n sc z od bs ec rc ln en) (x kk : Int32) : ∀ (rk : Int32) (u : wM × (Nat → Int64)) (rb : Int32) (N1 : wM), (oPost (fun r M1 => M1 = M ∧ ¬ kk < 0 ∧ ∃ k, k < sc ∧ x = nI k ∧ ((∃ i, i < 10 ∧ x_conf M (od k) (nI i) (z k) = true ∧ nI (x_cc M (od k) (z k) i) = kk ∧ r = nI i) ∨ ((∀ i, i < 10 → x_conf M (od k) (nI i) (z k) = true → ¬ nI (x_cc M (od k) (z k) i) = kk) ∧ r = -1))) (fun r : Int32 => r.toInt64) (fun E => (E = "java/lang/IndexOutOfBoundsException" ∧ xbad x (nI sc)) ∨ (E = "java/lang/IllegalArgumentException" ∧ xin x (nI sc) ∧ kk < 0)) [(1, "java/lang/IndexOutOfBoundsException"), (2, "java/lang/IllegalArgumentException")] M fo) rk u → (fun r M1 => (M1 = (wF N 0 0 1) ∧ ¬ xin x (nI sc)) ∨ (M1 = (wF N 0 0 2) ∧ xin x (nI sc) ∧ kk < 0) ∨ (M1 = (wF N 0 0 0) ∧ ¬ kk < 0 ∧ ∃ k, k < sc ∧ x = nI k ∧ ((∃ i, i < 10 ∧ y_conf (wF N 0 0 0) (od k) (nI i) (z k) = true ∧ nI (y_cc (wF N 0 0 0) (od k) (z k) i) = kk ∧ r = nI i) ∨ ((∀ i, i < 10 → y_conf (wF N 0 0 0) (od k) (nI i) (z k) = true → ¬ nI (y_cc (wF N 0 0 0) (od k) (z k) i) = kk) ∧ r = -1)))) rb N1 → IW u.1 N1 := by
  intro rk u rb N1 h1 h2
  rcases h1 with ⟨rfl, r0, hp, hu⟩ | ⟨rfl, h9, hm, rfl, he⟩
  · obtain ⟨hM, -⟩ := hp
    rcases h2 with ⟨rfl, -⟩ | ⟨rfl, -⟩ | ⟨rfl, -⟩ <;> (rw [hM]; exact (h.code _).w)
  · simp only [List.mem_cons, List.not_mem_nil, or_false] at hm
    rcases hm with rfl | rfl
    · rcases he with ⟨hE, he⟩ | ⟨hE, he⟩
      · rcases h2 with ⟨rfl, -⟩ | ⟨rfl, -⟩ | ⟨rfl, -⟩ <;> exact (h.code _).w
      · exact absurd hE (by decide)
    · rcases he with ⟨hE, he⟩ | ⟨hE, he⟩
      · exact absurd hE (by decide)
      · rcases h2 with ⟨rfl, -⟩ | ⟨rfl, -⟩ | ⟨rfl, -⟩ <;> exact (h.code _).w
theorem iv_since {M N : wM} {n sc : Nat} {z : Nat → Nat} {od : Nat → Nat → Nat} {bs : Nat → Nat} {ec : Nat} {rc : Nat → Nat} {ln : Nat} {en : Nat → Nat} {fo : Nat → Int64} (h : IV M N n sc z od bs ec rc ln en) (x mk kk wh : Int32) : ∀ (rk : Int32) (u : wM × (Nat → Int64)) (rb : Int64) (N1 : wM), (oPost (fun r M1 => M1 = M ∧ ∃ k a b, k < sc ∧ x = nI k ∧ mk = nI a ∧ kk = nI b ∧ a < 2147483648 ∧ b < 2147483648 ∧ a + b < z k ∧ ¬ wh < 0 ∧ wh ≤ 2 ∧ r = (if wh = 0 then (M.1 2 (od k (a + b))).toInt64 else if wh = 1 then M.2.1 3 (od k (a + b)) else M.2.1 6 (od k (a + b)))) (fun r : Int64 => r) (fun E => (E = "java/lang/IndexOutOfBoundsException" ∧ (xbad x (nI sc) ∨ ∃ k, k < sc ∧ x = nI k ∧ ¬ mk.toInt64 + kk.toInt64 < (nI (z k)).toInt64)) ∨ (E = "java/lang/IllegalArgumentException" ∧ ∃ k, k < sc ∧ x = nI k ∧ mk.toInt64 + kk.toInt64 < (nI (z k)).toInt64 ∧ (mk < 0 ∨ kk < 0 ∨ wh < 0 ∨ ¬ wh ≤ 2))) [(1, "java/lang/IndexOutOfBoundsException"), (2, "java/lang/IllegalArgumentException")] M fo) rk u → (fun r M1 => (M1 = (wF N 0 0 1) ∧ (¬ xin x (nI sc) ∨ ∃ k, k < sc ∧ x = nI k ∧ ¬ mk < 0 ∧ ¬ kk < 0 ∧ ¬ mk.toInt64 + kk.toInt64 < (nI (z k)).toInt64)) ∨ (M1 = (wF N 0 0 2) ∧ ∃ k, k < sc ∧ x = nI k ∧ (mk < 0 ∨ kk < 0 ∨ (mk.toInt64 + kk.toInt64 < (nI (z k)).toInt64 ∧ ¬ xin wh 3))) ∨ (M1 = (wF N 0 0 0) ∧ ∃ k a b, k < sc ∧ x = nI k ∧ mk = nI a ∧ kk = nI b ∧ a < 2147483648 ∧ b < 2147483648 ∧ a + b < z k ∧ xin wh 3 ∧ r = (if wh = 0 then (N.1 1 (od k (a + b))).toInt64 else if wh = 1 then N.2.1 2 (od k (a + b)) else N.2.1 5 (od k (a + b))))) rb N1 → IW u.1 N1 := by
  intro rk u rb N1 h1 h2
  rcases h1 with ⟨rfl, r0, hp, hu⟩ | ⟨rfl, h9, hm, rfl, he⟩
  · obtain ⟨hM, -⟩ := hp
    rcases h2 with ⟨rfl, -⟩ | ⟨rfl, -⟩ | ⟨rfl, -⟩ <;> (rw [hM]; exact (h.code _).w)
  · simp only [List.mem_cons, List.not_mem_nil, or_false] at hm
    rcases hm with rfl | rfl
    · rcases he with ⟨hE, he⟩ | ⟨hE, he⟩
      · rcases h2 with ⟨rfl, -⟩ | ⟨rfl, -⟩ | ⟨rfl, -⟩ <;> exact (h.code _).w
      · exact absurd hE (by decide)
    · rcases he with ⟨hE, he⟩ | ⟨hE, he⟩
      · exact absurd hE (by decide)
      · rcases h2 with ⟨rfl, -⟩ | ⟨rfl, -⟩ | ⟨rfl, -⟩ <;> exact (h.code _).w
theorem iv_seen {M N : wM} {n sc : Nat} {z : Nat → Nat} {od : Nat → Nat → Nat} {bs : Nat → Nat} {ec : Nat} {rc : Nat → Nat} {ln : Nat} {en : Nat → Nat} {fo : Nat → Int64} (h : IV M N n sc z od bs ec rc ln en) (x y th kd : Int32) : ∀ (rk : Int32) (u : wM × (Nat → Int64)) (rb : Int64) (N1 : wM), (oPost (fun r M1 => M1 = M ∧ xin th 10 ∧ ∃ a b k, a < 4 ∧ b < 4 ∧ x = nI a ∧ kd = nI b ∧ ¬ M.1 33 (a * 4 + b) = 0 ∧ k < sc ∧ y = nI k ∧ r = x_known M (od k) th kd 9223372036854775807 (bs k)) (fun r : Int64 => r) (fun E => (E = "java/lang/IndexOutOfBoundsException" ∧ (xbad x 4 ∨ xbad y (nI sc) ∨ xbad th 10)) ∨ (E = "java/lang/IllegalArgumentException" ∧ xin x 4 ∧ xin y (nI sc) ∧ xin th 10 ∧ xbad kd 4) ∨ (E = "java/lang/IllegalStateException" ∧ xin y (nI sc) ∧ xin th 10 ∧ ∃ a b, a < 4 ∧ b < 4 ∧ x = nI a ∧ kd = nI b ∧ M.1 33 (a * 4 + b) = 0)) [(1, "java/lang/IndexOutOfBoundsException"), (2, "java/lang/IllegalArgumentException"), (3, "java/lang/IllegalStateException")] M fo) rk u → (fun r M1 => (M1 = (wF N 0 0 1) ∧ ¬ (xin x 4 ∧ xin y (nI sc) ∧ xin th 10)) ∨ (M1 = (wF N 0 0 2) ∧ xin x 4 ∧ xin y (nI sc) ∧ xin th 10 ∧ ¬ xin kd 4) ∨ (xin y (nI sc) ∧ xin th 10 ∧ ∃ a b, a < 4 ∧ b < 4 ∧ x = nI a ∧ kd = nI b ∧ ((M1 = (wF N 0 0 3) ∧ N.1 10 (4 * a + b) = 0) ∨ (M1 = (wF N 0 0 0) ∧ ¬ N.1 10 (4 * a + b) = 0 ∧ ∃ k, k < sc ∧ y = nI k ∧ r = y_known (wF N 0 0 0) (od k) th kd 9223372036854775807 (bs k))))) rb N1 → IW u.1 N1 := by
  intro rk u rb N1 h1 h2
  rcases h1 with ⟨rfl, r0, hp, hu⟩ | ⟨rfl, h9, hm, rfl, he⟩
  · obtain ⟨hM, -⟩ := hp
    rcases h2 with ⟨rfl, -⟩ | ⟨rfl, -⟩ | ⟨-, -, a, b, -, -, -, -, ⟨rfl, -⟩ | ⟨rfl, -⟩⟩ <;> (rw [hM]; exact (h.code _).w)
  · simp only [List.mem_cons, List.not_mem_nil, or_false] at hm
    rcases hm with rfl | rfl | rfl
    · rcases he with ⟨hE, he⟩ | ⟨hE, he⟩ | ⟨hE, he⟩
      · rcases h2 with ⟨rfl, -⟩ | ⟨rfl, -⟩ | ⟨-, -, a, b, -, -, -, -, ⟨rfl, -⟩ | ⟨rfl, -⟩⟩ <;> exact (h.code _).w
      · exact absurd hE (by decide)
      · exact absurd hE (by decide)
    · rcases he with ⟨hE, he⟩ | ⟨hE, he⟩ | ⟨hE, he⟩
      · exact absurd hE (by decide)
      · rcases h2 with ⟨rfl, -⟩ | ⟨rfl, -⟩ | ⟨-, -, a, b, -, -, -, -, ⟨rfl, -⟩ | ⟨rfl, -⟩⟩ <;> exact (h.code _).w
      · exact absurd hE (by decide)
    · rcases he with ⟨hE, he⟩ | ⟨hE, he⟩ | ⟨hE, he⟩
      · exact absurd hE (by decide)
      · exact absurd hE (by decide)
      · rcases h2 with ⟨rfl, -⟩ | ⟨rfl, -⟩ | ⟨-, -, a, b, -, -, -, -, ⟨rfl, -⟩ | ⟨rfl, -⟩⟩ <;> exact (h.code _).w
/-! WHAT IS KNOWN: the class's way and the reference's -/
theorem l_tri {a b : Int64} (h : ¬ a = b) : (decide (b < a)) = !(decide (a < b)) := by
  have h' : ¬ a.toInt = b.toInt := fun z => h (Int64.toInt_inj.mp z)
  rw [Bool.eq_iff_iff]
  simp only [decide_eq_true_eq, Bool.not_eq_true', decide_eq_false_iff_not, Int64.lt_iff_toInt_lt]
  omega
theorem i_tri {a b : Int32} (h : ¬ a = b) : (decide (b < a)) = !(decide (a < b)) := by
  have h' : ¬ a.toInt = b.toInt := fun z => h (Int32.toInt_inj.mp z)
  rw [Bool.eq_iff_iff]
  simp only [decide_eq_true_eq, Bool.not_eq_true', decide_eq_false_iff_not, Int32.lt_iff_toInt_lt]
  omega
theorem l_tr {a b c : Int64} (h1 : ¬ b < a) (h2 : ¬ c < b) : ¬ c < a := by
  simp only [Int64.lt_iff_toInt_lt] at *
  omega
theorem l_irr {a : Int64} : ¬ a < a := by
  simp only [Int64.lt_iff_toInt_lt]
  omega
theorem l_asy {a b : Int64} (h : a < b) : ¬ b < a := by
  simp only [Int64.lt_iff_toInt_lt] at *
  omega
section
variable {M N : wM} {n f : Nat} {od : Nat → Nat} {th : Int32} {tm : Int64}
theorem IT.hold (h : IT M N n) {t : Nat} (ht : t < n) (th kd : Int32) (tm : Int64) : x_hold M t th kd tm = y_hold N t th kd tm := by
  obtain ⟨-, -, e3, e4, -, e6⟩ := h.eq t ht
  unfold x_hold y_hold
  rw [e3, e4, e6]
theorem IT.later (h : IT M N n) {a b : Nat} (ha : a < n) (hb : b < n) : x_later M a b = y_later N a b := by
  obtain ⟨a1, a2, -, -, -, a6⟩ := h.eq a ha
  obtain ⟨b1, b2, -, -, -, b6⟩ := h.eq b hb
  unfold x_later y_later
  rw [a1, a2, a6, b1, b2, b6]
theorem IT.tot (h : IT M N n) {a b : Nat} (ha : a < n) (hb : b < n) (hne : a ≠ b) : x_later M a b = !x_later M b a := by
  unfold x_later
  by_cases e1 : M.2.1 7 a = M.2.1 7 b
  · rw [if_pos e1, if_pos e1.symm]
    by_cases e2 : M.1 2 a = M.1 2 b
    · rw [if_pos e2, if_pos e2.symm]
      exact l_tri fun z => hne (h.un a b ha hb e2 z)
    · rw [if_neg e2, if_neg (fun z => e2 z.symm)]
      exact i_tri e2
  · rw [if_neg e1, if_neg (fun z => e1 z.symm)]
    exact l_tri e1
theorem later_on {a b : Nat} (h : x_later M a b = true) : ¬ M.2.1 7 a < M.2.1 7 b := by
  unfold x_later at h
  by_cases e1 : M.2.1 7 a = M.2.1 7 b
  · rw [e1]; exact l_irr
  · rw [if_neg e1] at h
    exact l_asy (of_decide_eq_true h)
theorem nlater_on {a b : Nat} (h : x_later M a b = false) : ¬ M.2.1 7 b < M.2.1 7 a := by
  unfold x_later at h
  by_cases e1 : M.2.1 7 a = M.2.1 7 b
  · rw [e1]; exact l_irr
  · rw [if_neg e1] at h
    exact of_decide_eq_false h
theorem lat_mem {kd : Int32} : ∀ k u, x_lat M od th kd tm k = some u → ∃ i, i < k ∧ od i = u ∧ x_hold M u th kd tm = true
  | 0, u, h => by cases h
  | k + 1, u, h => by
    cases hh : x_hold M (od k) th kd tm with
    | false =>
      rw [x_lat_f hh] at h
      obtain ⟨i, a, b⟩ := lat_mem k u h
      exact ⟨i, by omega, b⟩
    | true =>
      cases hl : x_lat M od th kd tm k with
      | none =>
        rw [x_lat_n hh hl] at h
        cases h
        exact ⟨k, by omega, rfl, hh⟩
      | some v =>
        cases hv : x_later M (od k) v with
        | true =>
          rw [x_lat_l hh hl hv] at h
          cases h
          exact ⟨k, by omega, rfl, hh⟩
        | false =>
          rw [x_lat_e hl hv] at h
          have h := Option.some.inj h
          subst h
          obtain ⟨i, a, b⟩ := lat_mem k v hl
          exact ⟨i, by omega, b⟩
theorem IT.lat (h : IT M N n) (ho : ∀ j, j < f → od j < n) (hi : ∀ i j, i < f → j < f → od i = od j → i = j) (kd : Int32) : ∀ k, k ≤ f → x_lat M od th kd tm k = y_lat N od th kd tm k
  | 0, _ => rfl
  | k + 1, hk => by
    have ih := IT.lat h ho hi kd k (by omega)
    have hh := h.hold (ho k (by omega)) th kd tm
    cases e : x_hold M (od k) th kd tm with
    | false => rw [x_lat_f e, y_lat_f (hh ▸ e), ih]
    | true =>
      rw [y_lat_t (hh ▸ e), ← ih]
      cases hl : x_lat M od th kd tm k with
      | none => rw [x_lat_n e hl]; rfl
      | some u =>
        obtain ⟨i, i1, i2, -⟩ := lat_mem k u hl
        have hu : u < n := i2 ▸ ho i (by omega)
        have hne : od k ≠ u := fun z => by have := hi k i (by omega) (by omega) (z.trans i2.symm); omega
        have ht := h.tot (ho k (by omega)) hu hne
        have hy := h.later hu (ho k (by omega))
        cases hv : x_later M (od k) u with
        | true =>
          rw [x_lat_l e hl hv]
          rw [hv] at ht
          have h2 : x_later M u (od k) = false := by
            cases q : x_later M u (od k) with
            | false => rfl
            | true => rw [q] at ht; cases ht
          show some (od k) = some (y_pick N (some u) (od k))
          rw [y_pick, if_neg (by rw [← hy, h2]; decide)]
        | false =>
          rw [x_lat_e hl hv]
          rw [hv] at ht
          have h2 : x_later M u (od k) = true := by
            cases q : x_later M u (od k) with
            | true => rfl
            | false => rw [q] at ht; cases ht
          show some u = some (y_pick N (some u) (od k))
          rw [y_pick, if_pos (by rw [← hy]; exact h2)]
theorem lat_none {kd : Int32} : ∀ k, x_lat M od th kd tm k = none → ∀ j, j < k → x_hold M (od j) th kd tm = false
  | 0, _, j, hj => absurd hj (Nat.not_lt_zero _)
  | k + 1, h, j, hj => by
    cases e : x_hold M (od k) th kd tm with
    | false =>
      rw [x_lat_f e] at h
      by_cases ej : j = k
      · subst ej; exact e
      · exact lat_none k h j (by omega)
    | true =>
      cases hl : x_lat M od th kd tm k with
      | none => rw [x_lat_n e hl] at h; cases h
      | some v =>
        cases hv : x_later M (od k) v with
        | true => rw [x_lat_l e hl hv] at h; cases h
        | false => rw [x_lat_e hl hv] at h; cases h
/-- the latest is not before any that holds -/
theorem lat_max {kd : Int32} : ∀ k u, x_lat M od th kd tm k = some u → ∀ j, j < k → x_hold M (od j) th kd tm = true → ¬ M.2.1 7 u < M.2.1 7 (od j)
  | 0, u, _, j, hj, _ => absurd hj (Nat.not_lt_zero _)
  | k + 1, u, h, j, hj, hh => by
    cases e : x_hold M (od k) th kd tm with
    | false =>
      rw [x_lat_f e] at h
      by_cases ej : j = k
      · subst ej; rw [e] at hh; cases hh
      · exact lat_max k u h j (by omega) hh
    | true =>
      cases hl : x_lat M od th kd tm k with
      | none =>
        rw [x_lat_n e hl] at h
        cases h
        by_cases ej : j = k
        · subst ej; exact l_irr
        · exact absurd hh (by rw [lat_none k hl j (by omega)]; decide)
      | some v =>
        cases hv : x_later M (od k) v with
        | true =>
          rw [x_lat_l e hl hv] at h
          cases h
          by_cases ej : j = k
          · subst ej; exact l_irr
          · exact l_tr (lat_max k v hl j (by omega) hh) (later_on hv)
        | false =>
          rw [x_lat_e hl hv] at h
          have h := Option.some.inj h
          subst h
          by_cases ej : j = k
          · subst ej; exact nlater_on hv
          · exact lat_max k v hl j (by omega) hh
theorem IT.sum (h : IT M N n) (ho : ∀ j, j < f → od j < n) : ∀ k, k ≤ f → x_sum M od th tm k = y_sum N od th tm k
  | 0, _ => rfl
  | k + 1, hk => by
    have ih := IT.sum h ho k (by omega)
    have hh := h.hold (ho k (by omega)) th 0 tm
    obtain ⟨-, -, -, -, e5, -⟩ := h.eq (od k) (ho k (by omega))
    cases e : x_hold M (od k) th 0 tm with
    | false => rw [x_sum_f e, y_sum, if_neg (by rw [← hh, e]; decide), Int64.add_zero, ih]
    | true => rw [x_sum_t e, y_sum, if_pos (by rw [← hh]; exact e), ih, e5]
theorem IT.val (h : IT M N n) {q : Option Nat} (hq : ∀ u, q = some u → u < n) : x_val M q = y_val N q := by
  cases q with
  | none => rfl
  | some u => exact (h.eq u (hq u rfl)).2.2.2.2.1
theorem yset_iff {q : Option Nat} : ∀ k, y_set N od th tm q k = true ↔ q.isSome = true ∧ ∀ j, j < k → y_hold N (od j) th 2 tm = true → y_bef N q (od j) = false
  | 0 => ⟨fun a => ⟨a, fun j hj => absurd hj (Nat.not_lt_zero _)⟩, fun a => a.1⟩
  | k + 1 => by
    rw [y_set, Bool.and_eq_true, yset_iff k]
    constructor
    · rintro ⟨⟨a, b⟩, c⟩
      refine ⟨a, fun j hj hh => ?_⟩
      by_cases ej : j = k
      · subst ej
        rw [hh] at c
        simpa using c
      · exact b j (by omega) hh
    · rintro ⟨a, b⟩
      refine ⟨⟨a, fun j hj => b j (by omega)⟩, ?_⟩
      cases hh : y_hold N (od k) th 2 tm with
      | false => rfl
      | true => rw [b k (by omega) hh]; rfl
theorem IT.settle (h : IT M N n) (ho : ∀ j, j < f → od j < n) (hi : ∀ i j, i < f → j < f → od i = od j → i = j) : (x_settle M od th tm f).isSome = y_settled N od th tm f ∧ ∀ a, x_settle M od th tm f = some a → x_lat M od th 3 tm f = some a := by
  have hl3 := h.lat (th := th) (tm := tm) ho hi 3 f (Nat.le_refl _)
  unfold y_settled
  rw [← hl3]
  unfold x_settle
  cases e3 : x_lat M od th 3 tm f with
  | none =>
    refine ⟨?_, fun a q => by cases q⟩
    cases q : y_set N od th tm none f with
    | false => rfl
    | true => exact absurd ((yset_iff f).mp q).1 (by decide)
  | some a =>
    obtain ⟨ia, ia1, ia2, -⟩ := lat_mem f a e3
    have ha : a < n := ia2 ▸ ho ia ia1
    have ea := (h.eq a ha).2.2.2.2.2
    cases e2 : x_lat M od th 2 tm f with
    | none =>
      refine ⟨?_, fun b q => by cases q; rfl⟩
      refine Eq.symm ((yset_iff f).mpr ⟨rfl, fun j hj hh => ?_⟩)
      rw [← h.hold (ho j hj) th 2 tm, lat_none f e2 j hj] at hh
      cases hh
    | some b =>
      obtain ⟨ib, ib1, ib2, ib3⟩ := lat_mem f b e2
      have hb : b < n := ib2 ▸ ho ib ib1
      have eb := (h.eq b hb).2.2.2.2.2
      dsimp only
      by_cases hlt : M.2.1 7 a < M.2.1 7 b
      · rw [if_pos hlt]
        refine ⟨?_, fun c q => by cases q⟩
        cases q : y_set N od th tm (some a) f with
        | false => rfl
        | true =>
          have := ((yset_iff f).mp q).2 ib ib1 (by rw [← h.hold (ho ib ib1) th 2 tm, ib2]; exact ib3)
          rw [ib2] at this
          rw [ea, eb] at hlt
          exact absurd hlt (of_decide_eq_false this)
      · rw [if_neg hlt]
        refine ⟨?_, fun c q => by cases q; rfl⟩
        refine Eq.symm ((yset_iff f).mpr ⟨rfl, fun j hj hh => ?_⟩)
        rw [← h.hold (ho j hj) th 2 tm] at hh
        have hm := lat_max f b e2 j hj hh
        have ej := (h.eq (od j) (ho j hj)).2.2.2.2.2
        refine decide_eq_false ?_
        rw [← ea, ← ej]
        exact l_tr hm hlt
/-- the reference's walk over the marks -/
theorem yunl_iff : ∀ k, (∀ u, (y_unl N od th tm k).2 = some u → ∃ i, i < k ∧ od i = u ∧ y_hold N u th 2 tm = true) ∧ ((y_unl N od th tm k).2 = none → ∀ j, j < k → y_hold N (od j) th 2 tm = false) ∧ ((y_unl N od th tm k).1 = false ↔ ∀ i j, i < k → j < k → y_hold N (od i) th 2 tm = true → y_hold N (od j) th 2 tm = true → N.2.1 5 (od i) = N.2.1 5 (od j))
  | 0 => ⟨fun u q => absurd (show (none : Option Nat) = some u from q) (by simp), fun _ j hj => absurd hj (Nat.not_lt_zero _), ⟨fun _ i j hi => absurd hi (Nat.not_lt_zero _), fun _ => rfl⟩⟩
  | k + 1 => by
    obtain ⟨a1, a2, a3⟩ := yunl_iff k
    cases e : y_hold N (od k) th 2 tm with
    | false =>
      rw [y_unl_f e]
      refine ⟨fun u q => ?_, fun q j hj => ?_, ?_⟩
      · obtain ⟨i, i1, i2⟩ := a1 u q; exact ⟨i, by omega, i2⟩
      · by_cases ej : j = k
        · subst ej; exact e
        · exact a2 q j (by omega)
      · rw [a3]
        constructor
        · intro b i j hi hj h1 h2
          by_cases ei : i = k
          · subst ei; rw [e] at h1; cases h1
          · by_cases ej : j = k
            · subst ej; rw [e] at h2; cases h2
            · exact b i j (by omega) (by omega) h1 h2
        · intro b i j hi hj; exact b i j (by omega) (by omega)
    | true =>
      rw [y_unl_t e (b := (y_unl N od th tm k).1) (q := (y_unl N od th tm k).2) rfl]
      refine ⟨fun u q => ⟨k, by omega, Option.some.inj q, Option.some.inj q ▸ e⟩, fun q => absurd (show some (od k) = none from q) (by simp), ?_⟩
      show ((y_unl N od th tm k).1 || y_dif N (y_unl N od th tm k).2 (od k)) = false ↔ _
      rw [Bool.or_eq_false_iff, a3]
      cases q2 : (y_unl N od th tm k).2 with
      | none =>
        have no := a2 q2
        constructor
        · rintro ⟨-, -⟩ i j hi hj h1 h2
          by_cases ei : i = k
          · by_cases ej : j = k
            · rw [ei, ej]
            · rw [no j (by omega)] at h2; cases h2
          · rw [no i (by omega)] at h1; cases h1
        · intro b
          exact ⟨fun i j hi hj => b i j (by omega) (by omega), rfl⟩
      | some v =>
        obtain ⟨iv, v1, v2, v3⟩ := a1 v q2
        constructor
        · rintro ⟨b, c⟩ i j hi hj h1 h2
          have c' : N.2.1 5 v = N.2.1 5 (od k) := Decidable.byContradiction fun z => (of_decide_eq_false c) z
          have hv : y_hold N (od iv) th 2 tm = true := by rw [v2]; exact v3
          by_cases ei : i = k
          · by_cases ej : j = k
            · rw [ei, ej]
            · rw [ei, ← c', ← v2]; exact b iv j v1 (by omega) hv h2
          · by_cases ej : j = k
            · rw [ej, ← c', ← v2]; exact b i iv (by omega) v1 h1 hv
            · exact b i j (by omega) (by omega) h1 h2
        · intro b
          refine ⟨fun i j hi hj => b i j (by omega) (by omega), decide_eq_false (not_not_intro ?_)⟩
          rw [← v2]
          exact b iv k (by omega) (by omega) (by rw [v2]; exact v3) e
theorem xany_iff {u : Nat} : ∀ k, x_anyU M od th tm u k = false ↔ ∀ j, j < k → x_hold M (od j) th 2 tm = true → M.2.1 6 (od j) = M.2.1 6 u
  | 0 => ⟨fun _ j hj => absurd hj (Nat.not_lt_zero _), fun _ => rfl⟩
  | k + 1 => by
    rw [x_anyU, Bool.or_eq_false_iff, xany_iff k]
    constructor
    · rintro ⟨a, b⟩ j hj hh
      by_cases ej : j = k
      · subst ej
        rw [hh, Bool.true_and] at b
        exact Decidable.byContradiction fun z => (of_decide_eq_false b) z
      · exact a j (by omega) hh
    · intro a
      refine ⟨fun j hj => a j (by omega), ?_⟩
      cases hh : x_hold M (od k) th 2 tm with
      | false => rfl
      | true => rw [Bool.true_and]; exact decide_eq_false (not_not_intro (a k (by omega) hh))
theorem IT.unlike (h : IT M N n) (ho : ∀ j, j < f → od j < n) : x_unlike M od th tm f = y_unlike N od th tm f := by
  obtain ⟨-, -, a3⟩ := yunl_iff (N := N) (od := od) (th := th) (tm := tm) f
  unfold y_unlike
  have hv : ∀ j, j < f → M.2.1 6 (od j) = N.2.1 5 (od j) := fun j hj => (h.eq (od j) (ho j hj)).2.2.2.2.1
  have hh : ∀ j, j < f → x_hold M (od j) th 2 tm = y_hold N (od j) th 2 tm := fun j hj => h.hold (ho j hj) th 2 tm
  have key : x_unlike M od th tm f = false ↔ (y_unl N od th tm f).1 = false := by
    rw [a3]
    unfold x_unlike
    cases e : x_lat M od th 2 tm f with
    | none =>
      refine ⟨fun _ i j hi hj h1 _ => ?_, fun _ => rfl⟩
      rw [← hh i hi, lat_none f e i hi] at h1
      cases h1
    | some u =>
      obtain ⟨iu, u1, u2, u3⟩ := lat_mem f u e
      show x_anyU M od th tm u f = false ↔ _
      rw [xany_iff]
      constructor
      · intro b i j hi hj h1 h2
        rw [← hv i hi, ← hv j hj, b i hi (by rw [hh i hi]; exact h1), b j hj (by rw [hh j hj]; exact h2)]
      · intro b j hj h1
        rw [hv j hj, ← u2, hv iu u1]
        exact b j iu hj u1 (by rw [← hh j hj]; exact h1) (by rw [← hh iu u1, u2]; exact u3)
  cases e1 : x_unlike M od th tm f with
  | false => exact (key.mp e1).symm
  | true =>
    cases e2 : (y_unl N od th tm f).1 with
    | true => rfl
    | false => rw [key.mpr e2] at e1; cases e1
theorem IT.known (h : IT M N n) (ho : ∀ j, j < f → od j < n) (hi : ∀ i j, i < f → j < f → od i = od j → i = j) (th kd : Int32) (tm : Int64) : x_known M od th kd tm f = y_known N od th kd tm f := by
  have hlt : ∀ kd u, x_lat M od th kd tm f = some u → u < n := fun kd u q => by
    obtain ⟨i, i1, i2, -⟩ := lat_mem f u q
    exact i2 ▸ ho i i1
  unfold x_known y_known
  by_cases k0 : kd = 0
  · rw [if_pos k0, if_pos k0]; exact h.sum ho f (Nat.le_refl _)
  · rw [if_neg k0, if_neg k0]
    by_cases k2 : kd = 2
    · rw [if_pos k2, if_pos k2]
      obtain ⟨s1, s2⟩ := h.settle (th := th) (tm := tm) ho hi
      rw [← s1, ← h.unlike ho, ← h.lat ho hi 3 f (Nat.le_refl _), ← h.lat ho hi 2 f (Nat.le_refl _)]
      unfold x_kmark
      cases e : x_settle M od th tm f with
      | none =>
        dsimp only
        rw [if_neg (show ¬ (none : Option Nat).isSome = true by decide), h.val (hlt 2)]
      | some a =>
        dsimp only
        rw [if_pos (show (some a).isSome = true from rfl), s2 a e]
        exact (h.eq a (hlt 3 a (s2 a e))).2.2.2.2.1
    · rw [if_neg k2, if_neg k2, ← h.lat ho hi kd f (Nat.le_refl _)]
      exact h.val (hlt kd)
theorem IT.conf (h : IT M N n) (ho : ∀ j, j < f → od j < n) (hi : ∀ i j, i < f → j < f → od i = od j → i = j) (th : Int32) : x_conf M od th f = y_conf N od th f := by
  unfold x_conf y_conf
  rw [← (h.settle (th := th) (tm := 9223372036854775807) ho hi).1, ← h.unlike ho, Bool.and_comm]
  cases x_settle M od th 9223372036854775807 f <;> rfl
theorem IT.cc (h : IT M N n) (ho : ∀ j, j < f → od j < n) (hi : ∀ i j, i < f → j < f → od i = od j → i = j) : ∀ i, x_cc M od f i = y_cc N od f i
  | 0 => rfl
  | i + 1 => by
    rw [x_cc, y_cc, h.conf ho hi, IT.cc h ho hi i]
end
theorem cc_mono {M : wM} {od : Nat → Nat} {f i : Nat} : ∀ j, i ≤ j → x_cc M od f i ≤ x_cc M od f j
  | 0, h => by
    obtain rfl : i = 0 := by omega
    exact Nat.le_refl _
  | j + 1, h => by
    by_cases e : i = j + 1
    · rw [e]; exact Nat.le_refl _
    · have := cc_mono (M := M) (od := od) (f := f) j (show i ≤ j by omega)
      rw [x_cc]
      split <;> omega
theorem cc_le {M : wM} {od : Nat → Nat} {f : Nat} : ∀ j, x_cc M od f j ≤ j
  | 0 => Nat.le_refl _
  | j + 1 => by
    have := cc_le (M := M) (od := od) (f := f) j
    rw [x_cc]
    split <;> omega
theorem cc_inj {M : wM} {od : Nat → Nat} {f i j : Nat} (hi : x_conf M od (nI i) f = true) (hj : x_conf M od (nI j) f = true) (h : x_cc M od f i = x_cc M od f j) : i = j := by
  rcases Nat.lt_trichotomy i j with q | q | q
  · have := cc_mono (M := M) (od := od) (f := f) j (show i + 1 ≤ j by omega)
    rw [x_cc, if_pos hi] at this
    omega
  · exact q
  · have := cc_mono (M := M) (od := od) (f := f) i (show j + 1 ≤ i by omega)
    rw [x_cc, if_pos hj] at this
    omega
theorem st_at {M N : wM} {n sc : Nat} {z : Nat → Nat} {od : Nat → Nat → Nat} {bs : Nat → Nat} {ec : Nat} {rc : Nat → Nat} {ln : Nat} {en : Nat → Nat} {fo : Nat → Int64} (h : IV M N n sc z od bs ec rc ln en) (x th kd : Int32) (tm : Int64) : ∀ (rk : Int32) (u : wM × (Nat → Int64)) (rb : Int64) (N1 : wM), (oPost (fun r M1 => M1 = M ∧ xin th 10 ∧ xin kd 4 ∧ ∃ k, k < sc ∧ x = nI k ∧ r = x_known M (od k) th kd tm (z k)) (fun r : Int64 => r) (fun E => (E = "java/lang/IndexOutOfBoundsException" ∧ (xbad x (nI sc) ∨ xbad th 10)) ∨ (E = "java/lang/IllegalArgumentException" ∧ xin x (nI sc) ∧ xin th 10 ∧ xbad kd 4)) [(1, "java/lang/IndexOutOfBoundsException"), (2, "java/lang/IllegalArgumentException")] M fo) rk u → (fun r M1 => (M1 = (wF N 0 0 1) ∧ ¬ (xin x (nI sc) ∧ xin th 10)) ∨ (M1 = (wF N 0 0 2) ∧ xin x (nI sc) ∧ xin th 10 ∧ ¬ xin kd 4) ∨ (M1 = (wF N 0 0 0) ∧ xin th 10 ∧ xin kd 4 ∧ ∃ k, k < sc ∧ x = nI k ∧ r = y_known (wF N 0 0 0) (od k) th kd tm (z k))) rb N1 → cmpOk (fun r : Int64 => r) rk u.2 rb N1 ∧ IW u.1 N1 := by
  intro rk u rb N1 h1 h2
  rcases h1 with ⟨rfl, r0, hp, hu⟩ | ⟨rfl, h9, hm, rfl, he⟩
  · obtain ⟨hM, a, b, k, hk, e, hr⟩ := hp
    have hc := h.s.hsc
    rcases h2 with ⟨-, h9⟩ | ⟨-, -, -, h9⟩ | ⟨rfl, -, -, k', hk', f, hb⟩
    · exact absurd ⟨nI_xin hk hc e, a⟩ h9
    · exact absurd b h9
    · have g : k = k' := (nI_eq (by omega) (by omega)).mp (e.symm.trans f)
      subst g
      have hkn := (h.code 0).t.known (f := z k) (od := od k) (fun j hj => (h.s.hod k (by omega) j hj).2.2) (h.s.inj k (by omega)) th kd tm
      exact ⟨⟨wF_s, fun _ => by rw [hu, hr, hb, hkn]⟩, by rw [hM]; exact (h.code 0).w⟩
  · simp only [List.mem_cons, List.not_mem_nil, or_false] at hm
    rcases hm with rfl | rfl
    · rcases he with ⟨hE, he⟩ | ⟨hE, he⟩
      · rcases h2 with ⟨rfl, -⟩ | ⟨-, a, b, -⟩ | ⟨-, b, -, k, hk, f, -⟩
        · exact ⟨cmp_x (by decide) wF_s, (h.code 1).w⟩
        · exact (xb2 he a b).elim
        · exact (xb2 he (nI_xin hk h.s.hsc f) b).elim
      · exact absurd hE (by decide)
    · rcases he with ⟨hE, he⟩ | ⟨hE, he⟩
      · exact absurd hE (by decide)
      · obtain ⟨a, b, he⟩ := he
        rcases h2 with ⟨-, h9⟩ | ⟨rfl, -⟩ | ⟨-, -, c, -⟩
        · exact absurd ⟨a, b⟩ h9
        · exact ⟨cmp_x (by decide) wF_s, (h.code 2).w⟩
        · exact (xbn he c).elim
theorem st_seen {M N : wM} {n sc : Nat} {z : Nat → Nat} {od : Nat → Nat → Nat} {bs : Nat → Nat} {ec : Nat} {rc : Nat → Nat} {ln : Nat} {en : Nat → Nat} {fo : Nat → Int64} (h : IV M N n sc z od bs ec rc ln en) (x y th kd : Int32) : ∀ (rk : Int32) (u : wM × (Nat → Int64)) (rb : Int64) (N1 : wM), (oPost (fun r M1 => M1 = M ∧ xin th 10 ∧ ∃ a b k, a < 4 ∧ b < 4 ∧ x = nI a ∧ kd = nI b ∧ ¬ M.1 33 (a * 4 + b) = 0 ∧ k < sc ∧ y = nI k ∧ r = x_known M (od k) th kd 9223372036854775807 (bs k)) (fun r : Int64 => r) (fun E => (E = "java/lang/IndexOutOfBoundsException" ∧ (xbad x 4 ∨ xbad y (nI sc) ∨ xbad th 10)) ∨ (E = "java/lang/IllegalArgumentException" ∧ xin x 4 ∧ xin y (nI sc) ∧ xin th 10 ∧ xbad kd 4) ∨ (E = "java/lang/IllegalStateException" ∧ xin y (nI sc) ∧ xin th 10 ∧ ∃ a b, a < 4 ∧ b < 4 ∧ x = nI a ∧ kd = nI b ∧ M.1 33 (a * 4 + b) = 0)) [(1, "java/lang/IndexOutOfBoundsException"), (2, "java/lang/IllegalArgumentException"), (3, "java/lang/IllegalStateException")] M fo) rk u → (fun r M1 => (M1 = (wF N 0 0 1) ∧ ¬ (xin x 4 ∧ xin y (nI sc) ∧ xin th 10)) ∨ (M1 = (wF N 0 0 2) ∧ xin x 4 ∧ xin y (nI sc) ∧ xin th 10 ∧ ¬ xin kd 4) ∨ (xin y (nI sc) ∧ xin th 10 ∧ ∃ a b, a < 4 ∧ b < 4 ∧ x = nI a ∧ kd = nI b ∧ ((M1 = (wF N 0 0 3) ∧ N.1 10 (4 * a + b) = 0) ∨ (M1 = (wF N 0 0 0) ∧ ¬ N.1 10 (4 * a + b) = 0 ∧ ∃ k, k < sc ∧ y = nI k ∧ r = y_known (wF N 0 0 0) (od k) th kd 9223372036854775807 (bs k))))) rb N1 → cmpOk (fun r : Int64 => r) rk u.2 rb N1 ∧ IW u.1 N1 := by
  intro rk u rb N1 h1 h2
  rcases h1 with ⟨rfl, r0, hp, hu⟩ | ⟨rfl, h9, hm, rfl, he⟩
  · obtain ⟨hM, hth, a, b, k, ha, hb, ea, eb, hri, hk, e, hr⟩ := hp
    have hc := h.s.hsc
    rcases h2 with ⟨-, h9⟩ | ⟨-, -, -, -, h9⟩ | ⟨-, -, a', b', ha', hb', ea', eb', hq⟩
    · exact absurd ⟨xin4 ha ea, nI_xin hk hc e, hth⟩ h9
    · exact absurd (xin4 hb eb) h9
    · have g1 : a = a' := (nI_eq (by omega) (by omega)).mp (ea.symm.trans ea')
      have g2 : b = b' := (nI_eq (by omega) (by omega)).mp (eb.symm.trans eb')
      subst g1; subst g2
      rw [h.r a b ha hb] at hri
      rcases hq with ⟨-, q⟩ | ⟨rfl, -, k', hk', f, hb9⟩
      · exact absurd q hri
      · have g : k = k' := (nI_eq (by omega) (by omega)).mp (e.symm.trans f)
        subst g
        have hbs := (h.s.xb k (by omega)).1
        have hkn := (h.code 0).t.known (f := bs k) (od := od k) (fun j hj => (h.s.hod k (by omega) j (by omega)).2.2) (fun i j hi hj => h.s.inj k (by omega) i j (by omega) (by omega)) th kd 9223372036854775807
        exact ⟨⟨wF_s, fun _ => by rw [hu, hr, hb9, hkn]⟩, by rw [hM]; exact (h.code 0).w⟩
  · simp only [List.mem_cons, List.not_mem_nil, or_false] at hm
    rcases hm with rfl | rfl | rfl
    · rcases he with ⟨hE, he⟩ | ⟨hE, he⟩ | ⟨hE, he⟩
      · rcases h2 with ⟨rfl, -⟩ | ⟨-, a, b, c, -⟩ | ⟨b, c, a', b', ha', hb', ea', -⟩
        · exact ⟨cmp_x (by decide) wF_s, (h.code 1).w⟩
        · exact (he.elim (fun q => xbn q a) (fun q => xb2 q b c)).elim
        · exact (he.elim (fun q => xbn q (xin4 ha' ea')) (fun q => xb2 q b c)).elim
      · exact absurd hE (by decide)
      · exact absurd hE (by decide)
    · rcases he with ⟨hE, he⟩ | ⟨hE, he⟩ | ⟨hE, he⟩
      · exact absurd hE (by decide)
      · obtain ⟨a, b, c, he⟩ := he
        rcases h2 with ⟨-, h9⟩ | ⟨rfl, -⟩ | ⟨-, -, a', b', ha', hb', ea', eb', -⟩
        · exact absurd ⟨a, b, c⟩ h9
        · exact ⟨cmp_x (by decide) wF_s, (h.code 2).w⟩
        · exact (xbn he (xin4 hb' eb')).elim
      · exact absurd hE (by decide)
    · rcases he with ⟨hE, he⟩ | ⟨hE, he⟩ | ⟨hE, he⟩
      · exact absurd hE (by decide)
      · exact absurd hE (by decide)
      · obtain ⟨b, c, a, b9, ha, hb, ea, eb, hri⟩ := he
        rcases h2 with ⟨-, h9⟩ | ⟨-, -, -, -, h9⟩ | ⟨-, -, a', b', ha', hb', ea', eb', hq⟩
        · exact absurd ⟨xin4 ha ea, b, c⟩ h9
        · exact absurd (xin4 hb eb) h9
        · have g1 : a = a' := (nI_eq (by omega) (by omega)).mp (ea.symm.trans ea')
          have g2 : b9 = b' := (nI_eq (by omega) (by omega)).mp (eb.symm.trans eb')
          subst g1; subst g2
          rw [h.r a b9 ha hb] at hri
          rcases hq with ⟨rfl, -⟩ | ⟨-, q, -⟩
          · exact ⟨cmp_x (by decide) wF_s, (h.code 3).w⟩
          · exact absurd hri q
theorem st_conflict {M N : wM} {n sc : Nat} {z : Nat → Nat} {od : Nat → Nat → Nat} {bs : Nat → Nat} {ec : Nat} {rc : Nat → Nat} {ln : Nat} {en : Nat → Nat} {fo : Nat → Int64} (h : IV M N n sc z od bs ec rc ln en) (x kk : Int32) : ∀ (rk : Int32) (u : wM × (Nat → Int64)) (rb : Int32) (N1 : wM), (oPost (fun r M1 => M1 = M ∧ ¬ kk < 0 ∧ ∃ k, k < sc ∧ x = nI k ∧ ((∃ i, i < 10 ∧ x_conf M (od k) (nI i) (z k) = true ∧ nI (x_cc M (od k) (z k) i) = kk ∧ r = nI i) ∨ ((∀ i, i < 10 → x_conf M (od k) (nI i) (z k) = true → ¬ nI (x_cc M (od k) (z k) i) = kk) ∧ r = -1))) (fun r : Int32 => r.toInt64) (fun E => (E = "java/lang/IndexOutOfBoundsException" ∧ xbad x (nI sc)) ∨ (E = "java/lang/IllegalArgumentException" ∧ xin x (nI sc) ∧ kk < 0)) [(1, "java/lang/IndexOutOfBoundsException"), (2, "java/lang/IllegalArgumentException")] M fo) rk u → (fun r M1 => (M1 = (wF N 0 0 1) ∧ ¬ xin x (nI sc)) ∨ (M1 = (wF N 0 0 2) ∧ xin x (nI sc) ∧ kk < 0) ∨ (M1 = (wF N 0 0 0) ∧ ¬ kk < 0 ∧ ∃ k, k < sc ∧ x = nI k ∧ ((∃ i, i < 10 ∧ y_conf (wF N 0 0 0) (od k) (nI i) (z k) = true ∧ nI (y_cc (wF N 0 0 0) (od k) (z k) i) = kk ∧ r = nI i) ∨ ((∀ i, i < 10 → y_conf (wF N 0 0 0) (od k) (nI i) (z k) = true → ¬ nI (y_cc (wF N 0 0 0) (od k) (z k) i) = kk) ∧ r = -1)))) rb N1 → cmpOk (fun r : Int32 => r.toInt64) rk u.2 rb N1 ∧ IW u.1 N1 := by
  intro rk u rb N1 h1 h2
  rcases h1 with ⟨rfl, r0, hp, hu⟩ | ⟨rfl, h9, hm, rfl, he⟩
  · obtain ⟨hM, hkk, k, hk, e, hq⟩ := hp
    have hc := h.s.hsc
    rcases h2 with ⟨-, h9⟩ | ⟨-, -, h9⟩ | ⟨rfl, -, k', hk', f, hq2⟩
    · exact absurd (nI_xin hk hc e) h9
    · exact absurd h9 hkk
    · have g : k = k' := (nI_eq (by omega) (by omega)).mp (e.symm.trans f)
      subst g
      have ho : ∀ j, j < z k → od k j < n := fun j hj => (h.s.hod k (by omega) j hj).2.2
      have hcf := fun i => (h.code 0).t.conf (f := z k) (od := od k) ho (h.s.inj k (by omega)) (nI i)
      have hcc := (h.code 0).t.cc (f := z k) (od := od k) ho (h.s.inj k (by omega))
      refine ⟨⟨wF_s, fun _ => ?_⟩, by rw [hM]; exact (h.code 0).w⟩
      rw [hu]
      have hrr : r0 = rb := by
        rcases hq with ⟨i, i1, i2, i3, hr⟩ | ⟨no, hr⟩
        · rcases hq2 with ⟨j, j1, j2, j3, hb⟩ | ⟨no2, hb⟩
          · rw [← hcf] at j2
            rw [← hcc] at j3
            have q1 := cc_le (M := M) (od := od k) (f := z k) i
            have q2 := cc_le (M := M) (od := od k) (f := z k) j
            have q3 := (nI_eq (by omega) (by omega)).mp (i3.trans j3.symm)
            rw [hr, hb, cc_inj i2 j2 q3]
          · rw [hcf] at i2
            rw [hcc] at i3
            exact absurd i3 (no2 i i1 i2)
        · rcases hq2 with ⟨j, j1, j2, j3, hb⟩ | ⟨no2, hb⟩
          · rw [← hcf] at j2
            rw [← hcc] at j3
            exact absurd j3 (no j j1 j2)
          · rw [hr, hb]
      rw [hrr]
  · simp only [List.mem_cons, List.not_mem_nil, or_false] at hm
    rcases hm with rfl | rfl
    · rcases he with ⟨hE, he⟩ | ⟨hE, he⟩
      · rcases h2 with ⟨rfl, -⟩ | ⟨-, a, -⟩ | ⟨-, -, k, hk, f, -⟩
        · exact ⟨cmp_x (by decide) wF_s, (h.code 1).w⟩
        · exact (xbn he a).elim
        · exact (xbn he (nI_xin hk h.s.hsc f)).elim
      · exact absurd hE (by decide)
    · rcases he with ⟨hE, he⟩ | ⟨hE, he⟩
      · exact absurd hE (by decide)
      · rcases h2 with ⟨-, h9⟩ | ⟨rfl, -⟩ | ⟨-, q, -⟩
        · exact absurd he.1 h9
        · exact ⟨cmp_x (by decide) wF_s, (h.code 2).w⟩
        · exact absurd he.2 q
/-- the start -/
theorem iv_0 : IV m0X m0M 0 0 (fun _ => 0) (fun _ _ => 0) (fun _ => 0) 0 (fun _ => 0) 0 (fun _ => 0) := by
  have x3 : ∀ i, m0X.2.2 i 3 = 0 := fun i => by simp [m0X]
  have x2 : ∀ i, m0X.2.2 i 2 = 0 := fun i => by simp [m0X]
  have x5 : ∀ i, m0X.2.2 i 5 = 0 := fun i => by simp [m0X]
  have x6 : ∀ i, m0X.2.2 i 6 = 0 := fun i => by simp [m0X]
  have x4 : ∀ s, s < 8 → m0X.2.2 (9 + 3 * s) 4 = -1 := fun s hs => by
    have : 9 ≤ 9 + 3 * s ∧ 9 + 3 * s < 33 := by omega
    simp [m0X, this]
  have x4e : ∀ j, m0X.2.2 (37 + 3 * j) 4 = 0 := fun j => by
    have h1 : ¬ 37 + 3 * j = 34 := by omega
    have h2 : ¬ 37 + 3 * j < 33 := by omega
    simp [m0X, h1, h2]
  have c0 : cnt (fun t => decide (¬ (0 : Int32) = 0)) 300 = 0 := by
    have : ∀ k, cnt (fun t => decide (¬ (0 : Int32) = 0)) k = 0 := by
      intro k
      induction k with
      | zero => rfl
      | succ k ih => unfold cnt; rw [if_neg (by decide)]; exact ih
    exact this 300
  refine ⟨⟨by decide, by rw [nI_0]; exact x6 1, by rw [nI_0]; rfl, fun j hj => absurd hj (Nat.not_lt_zero _), fun i j hi => absurd hi (Nat.not_lt_zero _)⟩, ⟨by decide, by decide, by rw [nI_0]; exact x2 0, by rw [nI_0]; rfl, fun s hs => ⟨by rw [nI_0]; exact x3 _, by rw [nI_0]; rfl⟩, fun s hs => c0, fun s hs j hj => absurd hj (Nat.not_lt_zero _), fun s hs t => ⟨fun q => absurd rfl q, fun q => by obtain ⟨j, hj, -⟩ := q; exact absurd hj (Nat.not_lt_zero _)⟩, fun s hs i j hi => absurd hi (Nat.not_lt_zero _), fun s a b => ⟨rfl, x4 s b, rfl, rfl⟩, fun s hs => absurd hs (Nat.not_lt_zero _)⟩, fun a b _ _ => rfl, ?_⟩
  exact ⟨by decide, by rw [nI_0]; exact x2 34, by rw [nI_0]; rfl, fun j hj => ⟨Nat.zero_le _, by rw [nI_0]; exact x2 _, by rw [nI_0]; rfl⟩, fun _ _ _ => rfl, by rw [nI_0]; exact x3 34, by rw [nI_0]; rfl, rfl, fun j a b => ⟨x4e j, x5 _, x6 _, rfl, rfl⟩, fun j hj => absurd hj (Nat.not_lt_zero _), fun m a b => absurd a (by omega), fun j hj => absurd hj (Nat.not_lt_zero _), fun j hj r hr => absurd hr (Nat.not_lt_zero _), fun j hj => absurd hj (Nat.not_lt_zero _), by simp [m0X, m0M]⟩
