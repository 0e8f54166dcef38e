/-! since, at the first call -/
theorem cm_since (xs : Nat → Int32) (ix : Nat) (fo : Nat → Int64) : ∀ (rk : Int32) (u : wM × (Nat → Int64)) (rb : Int64) (N1 : wM), (oPost (fun r M1 => M1 = m0X ∧ ∃ k a b, k < 0 ∧ (xs (ix + 1)) = nI k ∧ (xs (ix + 2)) = nI a ∧ (xs (ix + 3)) = nI b ∧ a < 2147483648 ∧ b < 2147483648 ∧ a + b < (fun _ => 0) k ∧ ¬ (xs (ix + 4)) < 0 ∧ (xs (ix + 4)) ≤ 2 ∧ r = (if (xs (ix + 4)) = 0 then (m0X.1 2 ((fun _ _ => 0) k (a + b))).toInt64 else if (xs (ix + 4)) = 1 then m0X.2.1 3 ((fun _ _ => 0) k (a + b)) else m0X.2.1 6 ((fun _ _ => 0) k (a + b)))) (fun r : Int64 => r) (fun E => (E = "java/lang/IndexOutOfBoundsException" ∧ (xbad (xs (ix + 1)) (nI 0) ∨ ∃ k, k < 0 ∧ (xs (ix + 1)) = nI k ∧ ¬ (xs (ix + 2)).toInt64 + (xs (ix + 3)).toInt64 < (nI ((fun _ => 0) k)).toInt64)) ∨ (E = "java/lang/IllegalArgumentException" ∧ ∃ k, k < 0 ∧ (xs (ix + 1)) = nI k ∧ (xs (ix + 2)).toInt64 + (xs (ix + 3)).toInt64 < (nI ((fun _ => 0) k)).toInt64 ∧ ((xs (ix + 2)) < 0 ∨ (xs (ix + 3)) < 0 ∨ (xs (ix + 4)) < 0 ∨ ¬ (xs (ix + 4)) ≤ 2))) [(1, "java/lang/IndexOutOfBoundsException"), (2, "java/lang/IllegalArgumentException")] m0X fo) rk u → (fun r M1 => (M1 = (wF m0M 0 0 1) ∧ (¬ xin (xs (ix + 1)) (nI 0) ∨ ∃ k, k < 0 ∧ (xs (ix + 1)) = nI k ∧ ¬ (xs (ix + 2)) < 0 ∧ ¬ (xs (ix + 3)) < 0 ∧ ¬ (xs (ix + 2)).toInt64 + (xs (ix + 3)).toInt64 < (nI ((fun _ => 0) k)).toInt64)) ∨ (M1 = (wF m0M 0 0 2) ∧ ∃ k, k < 0 ∧ (xs (ix + 1)) = nI k ∧ ((xs (ix + 2)) < 0 ∨ (xs (ix + 3)) < 0 ∨ ((xs (ix + 2)).toInt64 + (xs (ix + 3)).toInt64 < (nI ((fun _ => 0) k)).toInt64 ∧ ¬ xin (xs (ix + 4)) 3))) ∨ (M1 = (wF m0M 0 0 0) ∧ ∃ k a b, k < 0 ∧ (xs (ix + 1)) = nI k ∧ (xs (ix + 2)) = nI a ∧ (xs (ix + 3)) = nI b ∧ a < 2147483648 ∧ b < 2147483648 ∧ a + b < (fun _ => 0) k ∧ xin (xs (ix + 4)) 3 ∧ r = (if (xs (ix + 4)) = 0 then (m0M.1 1 ((fun _ _ => 0) k (a + b))).toInt64 else if (xs (ix + 4)) = 1 then m0M.2.1 2 ((fun _ _ => 0) k (a + b)) else m0M.2.1 5 ((fun _ _ => 0) k (a + b))))) rb N1 → cmpOk (fun r : Int64 => r) rk u.2 rb N1 := by
  intro rk u rb N1 h1 h2
  rcases h1 with ⟨rfl, r0, hp, hu⟩ | ⟨rfl, h, hm, rfl, he⟩
  · obtain ⟨-, k, a, b, h, -⟩ := hp
    exact absurd h (Nat.not_lt_zero _)
  · simp only [List.mem_cons, List.not_mem_nil, or_false] at hm
    rcases hm with rfl | rfl
    · rcases he with ⟨hE, he⟩ | ⟨hE, he⟩
      · rcases h2 with ⟨rfl, -⟩ | ⟨-, k, h, -⟩ | ⟨-, k, a, b, h, -⟩
        · exact cmp_x (by decide) wF_s
        · exact absurd h (Nat.not_lt_zero _)
        · exact absurd h (Nat.not_lt_zero _)
      · exact absurd hE (by decide)
    · rcases he with ⟨hE, he⟩ | ⟨hE, he⟩
      · exact absurd hE (by decide)
      · obtain ⟨k, h, -⟩ := he
        exact absurd h (Nat.not_lt_zero _)
