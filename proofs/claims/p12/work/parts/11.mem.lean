/-! reads of a changed memory; numbers -/
theorem wI_s {M : wM} {i k : Nat} {x : Int32} : (wI M i k x).1 i k = x := up2_s _ _ _ _
theorem wI_k {M : wM} {i k a b : Nat} {x : Int32} (h : b ≠ k) : (wI M i k x).1 a b = M.1 a b := up2_k _ _ _ _ h
theorem wI_ne {M : wM} {i k a b : Nat} {x : Int32} (h : a ≠ i) : (wI M i k x).1 a b = M.1 a b := congrFun (up2_o _ _ _ _ h) b
theorem wL_s {M : wM} {i k : Nat} {x : Int64} : (wL M i k x).2.1 i k = x := up2_s _ _ _ _
theorem wL_k {M : wM} {i k a b : Nat} {x : Int64} (h : b ≠ k) : (wL M i k x).2.1 a b = M.2.1 a b := up2_k _ _ _ _ h
theorem wL_ne {M : wM} {i k a b : Nat} {x : Int64} (h : a ≠ i) : (wL M i k x).2.1 a b = M.2.1 a b := congrFun (up2_o _ _ _ _ h) b
theorem wF_s {M : wM} {i k : Nat} {x : Int32} : (wF M i k x).2.2 i k = x := up2_s _ _ _ _
theorem wF_k {M : wM} {i k a b : Nat} {x : Int32} (h : b ≠ k) : (wF M i k x).2.2 a b = M.2.2 a b := up2_k _ _ _ _ h
theorem wF_ne {M : wM} {i k a b : Nat} {x : Int32} (h : a ≠ i) : (wF M i k x).2.2 a b = M.2.2 a b := congrFun (up2_o _ _ _ _ h) b
theorem wI_toL {M : wM} {i k a b : Nat} {x : Int32} : (wI M i k x).2.1 a b = M.2.1 a b := rfl
theorem wI_toF {M : wM} {i k a b : Nat} {x : Int32} : (wI M i k x).2.2 a b = M.2.2 a b := rfl
theorem wL_toI {M : wM} {i k a b : Nat} {x : Int64} : (wL M i k x).1 a b = M.1 a b := rfl
theorem wL_toF {M : wM} {i k a b : Nat} {x : Int64} : (wL M i k x).2.2 a b = M.2.2 a b := rfl
theorem wF_toI {M : wM} {i k a b : Nat} {x : Int32} : (wF M i k x).1 a b = M.1 a b := rfl
theorem wF_toL {M : wM} {i k a b : Nat} {x : Int32} : (wF M i k x).2.1 a b = M.2.1 a b := rfl
theorem i_le0 {a : Nat} (ha : a < 2147483648) (h : nI a ≤ 0) : a = 0 := Nat.eq_zero_of_not_pos (fun q => nI_nle q ha h)
theorem i_nle0 {a : Nat} (h : ¬ nI a ≤ 0) : 0 < a := Nat.pos_of_ne_zero (fun q => h (by rw [q]; decide))
theorem i_sub1 (n : Nat) : nI (n + 1) - 1 = nI n := nI_pred n
