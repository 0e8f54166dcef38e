/-! static calls that never throw -/
section WSTAT
variable {p : Program} {l : Launch} {e : Env} {R : Room} {s : State} {m : MethodId} {args : Array Value} {below : List Frame} {meth : Method} {c : Code} {H : Heap} {locs : List Loc} {cells slots : Nat} {Q : State → Prop}
variable {y : MethodName} {bytes cc : ByteArray} {maxL nL mc ms k index pc : Nat} {ret : Option FieldType} {ws : List Cond} {rm : Room} {Ts : List Cond} {own : String} {As rest st0 : List Value} {ls : Array Slot}
variable {D : va_G} {cl : List vw_C} {tys : List (ClassId × FieldType)} {S : wS} {o n : Nat} {M : wM} {A0 : Nat → Prop}
theorem w_Si {post : Int32 → wM → Prop} (CF : CallFix p m c cc nL s args Ts own) (hM : Met l y ws rm (va_Pc As (wB D cl tys S o n M H.size)) (va_Qi post (wQ D cl tys S o n) (wA o n H.size)) mc ms (wA o n H.size)) (cw : CallB R s args own index y bytes maxL ret ws rm mc ms k ∧ (Cond.static y).before args s = true)
    (hK : va_K D cl tys s) (hP : wP D cl S o n M H) (hn : As.length = k) (hsize : ls.size = nL) (hst : st0 = As.reverse ++ rest) (hr : (rest.map fun v => v.category).sum ≤ 8) (hdg : decode cc pc = .ok (.invokestatic index, 3)) (hf : cells + mc ≤ R.cells ∧ slots + ms ≤ R.slots)
    (hS : va_S A0 s.heap H locs) (hA0 : ∀ q, wA o n H.size q → A0 q)
    (kk : ∀ (r : Int32) (M1 : wM) (H1 : Heap) (locs1 : List Loc), post r M1 → wP D cl S o n M1 H1 → H.size ≤ H1.size → (∀ q : Nat, q < H.size → ¬ wA o n H.size q → H1[q]? = H[q]?) → va_S A0 s.heap H1 locs1 → W p l e R s m args below meth c H1 locs1 (cells + mc) (slots + ms) Q (F0 m (pc + 3) ls (.int r :: rest))) :
    W p l e R s m args below meth c H locs cells slots Q (F0 m pc ls st0) :=
  va_calli (va_runS (g := F0 m pc ls st0) CF hM cw (w_preS hK hP) rfl hn hsize hst (lv_room hr) hdg hf) hS (fun q _ h => hA0 q h) hA0 (fun r M1 t H1 locs1 ht _ hw hB hz hk hS1 => kk r M1 H1 locs1 hw (by rw [← ht]; exact hB.1) hz hk hS1)
theorem w_Sl {post : Int64 → wM → Prop} (CF : CallFix p m c cc nL s args Ts own) (hM : Met l y ws rm (va_Pc As (wB D cl tys S o n M H.size)) (va_Ql post (wQ D cl tys S o n) (wA o n H.size)) mc ms (wA o n H.size)) (cw : CallB R s args own index y bytes maxL ret ws rm mc ms k ∧ (Cond.static y).before args s = true)
    (hK : va_K D cl tys s) (hP : wP D cl S o n M H) (hn : As.length = k) (hsize : ls.size = nL) (hst : st0 = As.reverse ++ rest) (hr : (rest.map fun v => v.category).sum ≤ 8) (hdg : decode cc pc = .ok (.invokestatic index, 3)) (hf : cells + mc ≤ R.cells ∧ slots + ms ≤ R.slots)
    (hS : va_S A0 s.heap H locs) (hA0 : ∀ q, wA o n H.size q → A0 q)
    (kk : ∀ (r : Int64) (M1 : wM) (H1 : Heap) (locs1 : List Loc), post r M1 → wP D cl S o n M1 H1 → H.size ≤ H1.size → (∀ q : Nat, q < H.size → ¬ wA o n H.size q → H1[q]? = H[q]?) → va_S A0 s.heap H1 locs1 → W p l e R s m args below meth c H1 locs1 (cells + mc) (slots + ms) Q (F0 m (pc + 3) ls (.long r :: rest))) :
    W p l e R s m args below meth c H locs cells slots Q (F0 m pc ls st0) :=
  va_calll (va_runS (g := F0 m pc ls st0) CF hM cw (w_preS hK hP) rfl hn hsize hst (lv_room hr) hdg hf) hS (fun q _ h => hA0 q h) hA0 (fun r M1 t H1 locs1 ht _ hw hB hz hk hS1 => kk r M1 H1 locs1 hw (by rw [← ht]; exact hB.1) hz hk hS1)
end WSTAT
