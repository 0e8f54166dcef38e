/-! THE TWO WORLDS. The class: 0 the object, 1 Tellings, 2..7 its arrays, 8 the sets' array, 9 + 3 s set s (its order, its isIn behind it), 33 rights, 34 Ledger, 35 the entries' array, 36 entryOfNumber, 37 + 3 j entry j (its accounts, its cents behind it). The reference: 0 the object, 1..16 its arrays. -/
abbrev tys_ (cA : Nat → ClassId) : List (ClassId × FieldType) := [(cA 0, .int), (cA 1, .long), (cA 2, .boolean), (cA 3, .object "ShopDesks$TellingSet"), (cA 4, .object "ShopDesks$Entry")]
def SX (o : Nat) (cA : Nat → ClassId) : wS := fun i a b c =>
  if i = 0 then .inr (4, [.ref (o + 1), .ref (o + 8), .int (c 2), .ref (o + 33), .ref (o + 34)])
  else if i = 1 then .inr (3, [.ref (o + 2), .ref (o + 3), .ref (o + 4), .ref (o + 5), .ref (o + 6), .ref (o + 7), .int (c 6)])
  else if i = 8 then .inl (cA 3, 8, .inr (.inr (.inr (.inr (fun j => if j < 8 then some (o + (9 + 3 * j)) else none)))))
  else if i = 33 then .inl (cA 2, 16, .inl a)
  else if i = 34 then .inr (1, [.ref (o + 35), .ref (o + 36), .int (c 2), .int (c 3), .int (c 4)])
  else if i = 35 then .inl (cA 4, 60, .inr (.inr (.inr (.inr (fun j => if j < 60 then some (o + (37 + 3 * j)) else none)))))
  else if i = 36 then .inl (cA 0, 61, .inl a)
  else if i < 8 then (if i = 2 ∨ i = 4 ∨ i = 5 then .inl (cA 0, 300, .inl a) else .inl (cA 1, 300, .inr (.inl b)))
  else if i < 33 then (if (i - 9) % 3 = 0 then .inr (2, [.ref (o + 1), .ref (o + (i + 1)), .ref (o + (i + 2)), .int (c 3), .int (c 4)]) else if (i - 9) % 3 = 1 then .inl (cA 0, 300, .inl a) else .inl (cA 2, 300, .inl a))
  else (if (i - 37) % 3 = 0 then .inr (0, [.ref (o + (i + 1)), .ref (o + (i + 2)), .int (c 2), .int (c 3), .int (c 4), .int (c 5), .int (c 6)]) else if (i - 37) % 3 = 1 then .inl (cA 0, 6, .inl a) else .inl (cA 1, 6, .inr (.inl b)))
def SM (o : Nat) (cA : Nat → ClassId) : wS := fun i a b c =>
  if i = 0 then .inr (5, [.int (c 0), .int (c 1), .ref (o + 1), .ref (o + 2), .ref (o + 3), .ref (o + 4), .ref (o + 5), .ref (o + 6), .int (c 8), .ref (o + 7), .ref (o + 8), .ref (o + 9), .ref (o + 10), .int (c 13), .ref (o + 11), .ref (o + 12), .ref (o + 13), .ref (o + 14), .ref (o + 15), .ref (o + 16), .int (c 20), .int (c 21)])
  else if i = 1 ∨ i = 3 ∨ i = 4 then .inl (cA 0, 300, .inl a)
  else if i = 2 ∨ i = 5 ∨ i = 6 then .inl (cA 1, 300, .inr (.inl b))
  else if i = 7 ∨ i = 9 then .inl (cA 0, 8, .inl a)
  else if i = 8 then .inl (cA 0, 2400, .inl a)
  else if i = 10 then .inl (cA 2, 16, .inl a)
  else if i = 11 ∨ i = 12 ∨ i = 15 then .inl (cA 0, 60, .inl a)
  else if i = 13 then .inl (cA 0, 360, .inl a)
  else if i = 14 then .inl (cA 1, 360, .inr (.inl b))
  else .inl (cA 2, 60, .inl a)
theorem SX_0 {o : Nat} {cA : Nat → ClassId} {a : Nat → Int32} {b : Nat → Int64} {c : Nat → Int32} : SX o cA 0 a b c = .inr (4, [.ref (o + 1), .ref (o + 8), .int (c 2), .ref (o + 33), .ref (o + 34)]) := rfl
theorem SX_1 {o : Nat} {cA : Nat → ClassId} {a : Nat → Int32} {b : Nat → Int64} {c : Nat → Int32} : SX o cA 1 a b c = .inr (3, [.ref (o + 2), .ref (o + 3), .ref (o + 4), .ref (o + 5), .ref (o + 6), .ref (o + 7), .int (c 6)]) := rfl
theorem SX_2 {o : Nat} {cA : Nat → ClassId} {a : Nat → Int32} {b : Nat → Int64} {c : Nat → Int32} : SX o cA 2 a b c = .inl (cA 0, 300, .inl a) := rfl
theorem SX_3 {o : Nat} {cA : Nat → ClassId} {a : Nat → Int32} {b : Nat → Int64} {c : Nat → Int32} : SX o cA 3 a b c = .inl (cA 1, 300, .inr (.inl b)) := rfl
theorem SX_4 {o : Nat} {cA : Nat → ClassId} {a : Nat → Int32} {b : Nat → Int64} {c : Nat → Int32} : SX o cA 4 a b c = .inl (cA 0, 300, .inl a) := rfl
theorem SX_5 {o : Nat} {cA : Nat → ClassId} {a : Nat → Int32} {b : Nat → Int64} {c : Nat → Int32} : SX o cA 5 a b c = .inl (cA 0, 300, .inl a) := rfl
theorem SX_6 {o : Nat} {cA : Nat → ClassId} {a : Nat → Int32} {b : Nat → Int64} {c : Nat → Int32} : SX o cA 6 a b c = .inl (cA 1, 300, .inr (.inl b)) := rfl
theorem SX_7 {o : Nat} {cA : Nat → ClassId} {a : Nat → Int32} {b : Nat → Int64} {c : Nat → Int32} : SX o cA 7 a b c = .inl (cA 1, 300, .inr (.inl b)) := rfl
theorem SX_8 {o : Nat} {cA : Nat → ClassId} {a : Nat → Int32} {b : Nat → Int64} {c : Nat → Int32} : SX o cA 8 a b c = .inl (cA 3, 8, .inr (.inr (.inr (.inr (fun j => if j < 8 then some (o + (9 + 3 * j)) else none))))) := rfl
theorem SX_33 {o : Nat} {cA : Nat → ClassId} {a : Nat → Int32} {b : Nat → Int64} {c : Nat → Int32} : SX o cA 33 a b c = .inl (cA 2, 16, .inl a) := rfl
theorem SX_34 {o : Nat} {cA : Nat → ClassId} {a : Nat → Int32} {b : Nat → Int64} {c : Nat → Int32} : SX o cA 34 a b c = .inr (1, [.ref (o + 35), .ref (o + 36), .int (c 2), .int (c 3), .int (c 4)]) := rfl
theorem SX_35 {o : Nat} {cA : Nat → ClassId} {a : Nat → Int32} {b : Nat → Int64} {c : Nat → Int32} : SX o cA 35 a b c = .inl (cA 4, 60, .inr (.inr (.inr (.inr (fun j => if j < 60 then some (o + (37 + 3 * j)) else none))))) := rfl
theorem SX_36 {o : Nat} {cA : Nat → ClassId} {a : Nat → Int32} {b : Nat → Int64} {c : Nat → Int32} : SX o cA 36 a b c = .inl (cA 0, 61, .inl a) := rfl
theorem SX_s {o : Nat} {cA : Nat → ClassId} {a : Nat → Int32} {b : Nat → Int64} {c : Nat → Int32} {s : Nat} (h : s < 8) : SX o cA (9 + 3 * s) a b c = .inr (2, [.ref (o + 1), .ref (o + (9 + 3 * s + 1)), .ref (o + (9 + 3 * s + 2)), .int (c 3), .int (c 4)]) := by
  unfold SX
  rw [if_neg (by omega), if_neg (by omega), if_neg (by omega), if_neg (by omega), if_neg (by omega), if_neg (by omega), if_neg (by omega), if_neg (by omega), if_pos (by omega), if_pos (by omega)]
theorem SX_so {o : Nat} {cA : Nat → ClassId} {a : Nat → Int32} {b : Nat → Int64} {c : Nat → Int32} {s : Nat} (h : s < 8) : SX o cA (9 + 3 * s + 1) a b c = .inl (cA 0, 300, .inl a) := by
  unfold SX
  rw [if_neg (by omega), if_neg (by omega), if_neg (by omega), if_neg (by omega), if_neg (by omega), if_neg (by omega), if_neg (by omega), if_neg (by omega), if_pos (by omega), if_neg (by omega), if_pos (by omega)]
theorem SX_si {o : Nat} {cA : Nat → ClassId} {a : Nat → Int32} {b : Nat → Int64} {c : Nat → Int32} {s : Nat} (h : s < 8) : SX o cA (9 + 3 * s + 2) a b c = .inl (cA 2, 300, .inl a) := by
  unfold SX
  rw [if_neg (by omega), if_neg (by omega), if_neg (by omega), if_neg (by omega), if_neg (by omega), if_neg (by omega), if_neg (by omega), if_neg (by omega), if_pos (by omega), if_neg (by omega), if_neg (by omega)]
theorem SX_e {o : Nat} {cA : Nat → ClassId} {a : Nat → Int32} {b : Nat → Int64} {c : Nat → Int32} {j : Nat} (h : j < 60) : SX o cA (37 + 3 * j) a b c = .inr (0, [.ref (o + (37 + 3 * j + 1)), .ref (o + (37 + 3 * j + 2)), .int (c 2), .int (c 3), .int (c 4), .int (c 5), .int (c 6)]) := by
  unfold SX
  rw [if_neg (by omega), if_neg (by omega), if_neg (by omega), if_neg (by omega), if_neg (by omega), if_neg (by omega), if_neg (by omega), if_neg (by omega), if_neg (by omega), if_pos (by omega)]
theorem SX_ea {o : Nat} {cA : Nat → ClassId} {a : Nat → Int32} {b : Nat → Int64} {c : Nat → Int32} {j : Nat} (h : j < 60) : SX o cA (37 + 3 * j + 1) a b c = .inl (cA 0, 6, .inl a) := by
  unfold SX
  rw [if_neg (by omega), if_neg (by omega), if_neg (by omega), if_neg (by omega), if_neg (by omega), if_neg (by omega), if_neg (by omega), if_neg (by omega), if_neg (by omega), if_neg (by omega), if_pos (by omega)]
theorem SX_ec {o : Nat} {cA : Nat → ClassId} {a : Nat → Int32} {b : Nat → Int64} {c : Nat → Int32} {j : Nat} (h : j < 60) : SX o cA (37 + 3 * j + 2) a b c = .inl (cA 1, 6, .inr (.inl b)) := by
  unfold SX
  rw [if_neg (by omega), if_neg (by omega), if_neg (by omega), if_neg (by omega), if_neg (by omega), if_neg (by omega), if_neg (by omega), if_neg (by omega), if_neg (by omega), if_neg (by omega), if_neg (by omega)]
theorem SM_0 {o : Nat} {cA : Nat → ClassId} {a : Nat → Int32} {b : Nat → Int64} {c : Nat → Int32} : SM o cA 0 a b c = .inr (5, [.int (c 0), .int (c 1), .ref (o + 1), .ref (o + 2), .ref (o + 3), .ref (o + 4), .ref (o + 5), .ref (o + 6), .int (c 8), .ref (o + 7), .ref (o + 8), .ref (o + 9), .ref (o + 10), .int (c 13), .ref (o + 11), .ref (o + 12), .ref (o + 13), .ref (o + 14), .ref (o + 15), .ref (o + 16), .int (c 20), .int (c 21)]) := rfl
theorem SM_1 {o : Nat} {cA : Nat → ClassId} {a : Nat → Int32} {b : Nat → Int64} {c : Nat → Int32} : SM o cA 1 a b c = .inl (cA 0, 300, .inl a) := rfl
theorem SM_2 {o : Nat} {cA : Nat → ClassId} {a : Nat → Int32} {b : Nat → Int64} {c : Nat → Int32} : SM o cA 2 a b c = .inl (cA 1, 300, .inr (.inl b)) := rfl
theorem SM_3 {o : Nat} {cA : Nat → ClassId} {a : Nat → Int32} {b : Nat → Int64} {c : Nat → Int32} : SM o cA 3 a b c = .inl (cA 0, 300, .inl a) := rfl
theorem SM_4 {o : Nat} {cA : Nat → ClassId} {a : Nat → Int32} {b : Nat → Int64} {c : Nat → Int32} : SM o cA 4 a b c = .inl (cA 0, 300, .inl a) := rfl
theorem SM_5 {o : Nat} {cA : Nat → ClassId} {a : Nat → Int32} {b : Nat → Int64} {c : Nat → Int32} : SM o cA 5 a b c = .inl (cA 1, 300, .inr (.inl b)) := rfl
theorem SM_6 {o : Nat} {cA : Nat → ClassId} {a : Nat → Int32} {b : Nat → Int64} {c : Nat → Int32} : SM o cA 6 a b c = .inl (cA 1, 300, .inr (.inl b)) := rfl
theorem SM_7 {o : Nat} {cA : Nat → ClassId} {a : Nat → Int32} {b : Nat → Int64} {c : Nat → Int32} : SM o cA 7 a b c = .inl (cA 0, 8, .inl a) := rfl
theorem SM_8 {o : Nat} {cA : Nat → ClassId} {a : Nat → Int32} {b : Nat → Int64} {c : Nat → Int32} : SM o cA 8 a b c = .inl (cA 0, 2400, .inl a) := rfl
theorem SM_9 {o : Nat} {cA : Nat → ClassId} {a : Nat → Int32} {b : Nat → Int64} {c : Nat → Int32} : SM o cA 9 a b c = .inl (cA 0, 8, .inl a) := rfl
theorem SM_10 {o : Nat} {cA : Nat → ClassId} {a : Nat → Int32} {b : Nat → Int64} {c : Nat → Int32} : SM o cA 10 a b c = .inl (cA 2, 16, .inl a) := rfl
theorem SM_11 {o : Nat} {cA : Nat → ClassId} {a : Nat → Int32} {b : Nat → Int64} {c : Nat → Int32} : SM o cA 11 a b c = .inl (cA 0, 60, .inl a) := rfl
theorem SM_12 {o : Nat} {cA : Nat → ClassId} {a : Nat → Int32} {b : Nat → Int64} {c : Nat → Int32} : SM o cA 12 a b c = .inl (cA 0, 60, .inl a) := rfl
theorem SM_13 {o : Nat} {cA : Nat → ClassId} {a : Nat → Int32} {b : Nat → Int64} {c : Nat → Int32} : SM o cA 13 a b c = .inl (cA 0, 360, .inl a) := rfl
theorem SM_14 {o : Nat} {cA : Nat → ClassId} {a : Nat → Int32} {b : Nat → Int64} {c : Nat → Int32} : SM o cA 14 a b c = .inl (cA 1, 360, .inr (.inl b)) := rfl
theorem SM_15 {o : Nat} {cA : Nat → ClassId} {a : Nat → Int32} {b : Nat → Int64} {c : Nat → Int32} : SM o cA 15 a b c = .inl (cA 0, 60, .inl a) := rfl
theorem SM_16 {o : Nat} {cA : Nat → ClassId} {a : Nat → Int32} {b : Nat → Int64} {c : Nat → Int32} : SM o cA 16 a b c = .inl (cA 2, 60, .inl a) := rfl
theorem w_hv {x y : Int32} (h : x = y) : some (Value.int x) = some (Value.int y) := by rw [h]
theorem wF_r {M : wM} {i k : Nat} {x : Int32} : (wF M i k x).2.2 i = fun b => if b = k then x else M.2.2 i b := up2_r _ _ _ _
abbrev xP (D : va_G) (cA : Nat → ClassId) (o : Nat) (M : wM) (H : Heap) : Prop := wP D cls_ (SX o cA) o 217 M H
abbrev xB (D : va_G) (cA : Nat → ClassId) (o : Nat) (M : wM) (sz : Nat) : State → Prop := wB D cls_ (tys_ cA) (SX o cA) o 217 M sz
abbrev xBx (D : va_G) (cA : Nat → ClassId) (o : Nat) (M : wM) (sz : Nat) : State → Prop := wBx D cls_ (tys_ cA) (SX o cA) o 217 M sz
abbrev xQ (D : va_G) (cA : Nat → ClassId) (o : Nat) : wM → State → Prop := wQ D cls_ (tys_ cA) (SX o cA) o 217
abbrev xE (D : va_G) (cA : Nat → ClassId) (o : Nat) (M : wM) (sz : Nat) (pE : String → Prop) : String → State → State → Prop := xX D cls_ (tys_ cA) (SX o cA) o 217 M sz pE
abbrev xA (o sz : Nat) : Nat → Prop := wA o 217 sz
abbrev mB (D : va_G) (cA : Nat → ClassId) (o : Nat) (M : wM) (sz : Nat) : State → Prop := wB D cls_ (tys_ cA) (SM o cA) o 17 M sz
abbrev mQ (D : va_G) (cA : Nat → ClassId) (o : Nat) : wM → State → Prop := wQ D cls_ (tys_ cA) (SM o cA) o 17
abbrev mA (o sz : Nat) : Nat → Prop := wA o 17 sz
theorem inw_E {y : MethodName} {c : ByteArray} {n : Nat} {r : Option FieldType} : ∀ w ∈ u_ws R_E F_E 7, w ∈ wm y c n r := fun w h => al (in_E w h)
theorem inw_L {y : MethodName} {c : ByteArray} {n : Nat} {r : Option FieldType} : ∀ w ∈ u_ws R_L F_L 5, w ∈ wm y c n r := fun w h => al (in_L w h)
theorem inw_S {y : MethodName} {c : ByteArray} {n : Nat} {r : Option FieldType} : ∀ w ∈ u_ws R_S F_S 5, w ∈ wm y c n r := fun w h => al (in_S w h)
theorem inw_T {y : MethodName} {c : ByteArray} {n : Nat} {r : Option FieldType} : ∀ w ∈ u_ws R_T F_T 7, w ∈ wm y c n r := fun w h => al (in_T w h)
theorem inw_X {y : MethodName} {c : ByteArray} {n : Nat} {r : Option FieldType} : ∀ w ∈ u_ws R_X F_X 5, w ∈ wm y c n r := fun w h => al (in_X w h)
theorem inw_M {y : MethodName} {c : ByteArray} {n : Nat} {r : Option FieldType} : ∀ w ∈ u_ws R_M F_M 22, w ∈ wm y c n r := fun w h => al (in_M w h)
