section KR
variable {C : kC} {own : String} {cc : ByteArray} {nL : Nat} {rm : Room} {S : kS} {k n pc : Nat} {lv : List (Nat × Value)} {st : List Value}
theorem k_iconst (X : kX C own cc nL rm) {z : Int} {v : Int32} (hdg : decode cc pc = .ok (.iconst z, 1)) (hv : Int32.ofInt z = v) (kk : kG C nL S k n (pc + 1) lv (.int v :: st)) : kG C nL S k n pc lv (st) := fun H locs ls hP hD hS h => lv_iconst X.1.1 X.1.2.1 hdg hv (kk H locs ls hP hD hS h)
theorem k_bipush (X : kX C own cc nL rm) {z : Int} {v : Int32} (hdg : decode cc pc = .ok (.bipush z, 2)) (hv : (Int8.ofInt z).toInt32 = v) (kk : kG C nL S k n (pc + 2) lv (.int v :: st)) : kG C nL S k n pc lv (st) := fun H locs ls hP hD hS h => lv_bipush X.1.1 X.1.2.1 hdg hv (kk H locs ls hP hD hS h)
theorem k_sipush (X : kX C own cc nL rm) {z : Int} {v : Int32} (hdg : decode cc pc = .ok (.sipush z, 3)) (hv : (Int16.ofInt z).toInt32 = v) (kk : kG C nL S k n (pc + 3) lv (.int v :: st)) : kG C nL S k n pc lv (st) := fun H locs ls hP hD hS h => lv_sipush X.1.1 X.1.2.1 hdg hv (kk H locs ls hP hD hS h)
theorem k_lconst (X : kX C own cc nL rm) {z : Fin 2} {v : Int64} (hdg : decode cc pc = .ok (.lconst z, 1)) (hv : Int64.ofNat (z : Nat) = v) (kk : kG C nL S k n (pc + 1) lv (.long v :: st)) : kG C nL S k n pc lv (st) := fun H locs ls hP hD hS h => lv_lconst X.1.1 X.1.2.1 hdg hv (kk H locs ls hP hD hS h)
theorem k_null (X : kX C own cc nL rm) (hdg : decode cc pc = .ok (.aconst_null, 1)) (kk : kG C nL S k n (pc + 1) lv (.null :: st)) : kG C nL S k n pc lv (st) := fun H locs ls hP hD hS h => lv_null X.1.1 X.1.2.1 hdg (kk H locs ls hP hD hS h)
theorem k_ldc2 (X : kX C own cc nL rm) {idx : Nat} {v : Int64} (hw : Cond.constantLong own idx v ∈ kT) (hdg : decode cc pc = .ok (.ldc2_w idx, 3)) (kk : kG C nL S k n (pc + 3) lv (.long v :: st)) : kG C nL S k n pc lv (st) := fun H locs ls hP hD hS h => lv_ldc2 X.1.1 X.1.2.1 X.1.2.2.2.1 (X.1.2.2.2.2 _ hw) hdg (kk H locs ls hP hD hS h)
theorem k_ldc (X : kX C own cc nL rm) {idx : Nat} {v : Int32} (hw : Cond.constant own idx v ∈ kT) (hdg : decode cc pc = .ok (.ldc idx, 2)) (kk : kG C nL S k n (pc + 2) lv (.int v :: st)) : kG C nL S k n pc lv (st) := fun H locs ls hP hD hS h => lv_ldc X.1.1 X.1.2.1 X.1.2.2.2.1 (X.1.2.2.2.2 _ hw) hdg (kk H locs ls hP hD hS h)
theorem k_iload_n (X : kX C own cc nL rm) {z : Fin 4} {i q : Nat} {x : Int32} (hdg : decode cc pc = .ok (.iload_n z, 1)) (hi : (z : Nat) = i) (hl : lv[q]? = some (i, .int x)) (kk : kG C nL S k n (pc + 1) lv (.int x :: st)) : kG C nL S k n pc lv (st) := fun H locs ls hP hD hS h => lv_iload_n X.1.1 X.1.2.1 hdg hi (lv_at h q hl) (kk H locs ls hP hD hS h)
theorem k_iload (X : kX C own cc nL rm) {i q : Nat} {x : Int32} (hdg : decode cc pc = .ok (.iload i, 2)) (hl : lv[q]? = some (i, .int x)) (kk : kG C nL S k n (pc + 2) lv (.int x :: st)) : kG C nL S k n pc lv (st) := fun H locs ls hP hD hS h => lv_iload X.1.1 X.1.2.1 hdg (lv_at h q hl) (kk H locs ls hP hD hS h)
theorem k_lload_n (X : kX C own cc nL rm) {z : Fin 4} {i q : Nat} {x : Int64} (hdg : decode cc pc = .ok (.lload_n z, 1)) (hi : (z : Nat) = i) (hl : lv[q]? = some (i, .long x)) (kk : kG C nL S k n (pc + 1) lv (.long x :: st)) : kG C nL S k n pc lv (st) := fun H locs ls hP hD hS h => lv_lload_n X.1.1 X.1.2.1 hdg hi (lv_at h q hl) (kk H locs ls hP hD hS h)
theorem k_lload (X : kX C own cc nL rm) {i q : Nat} {x : Int64} (hdg : decode cc pc = .ok (.lload i, 2)) (hl : lv[q]? = some (i, .long x)) (kk : kG C nL S k n (pc + 2) lv (.long x :: st)) : kG C nL S k n pc lv (st) := fun H locs ls hP hD hS h => lv_lload X.1.1 X.1.2.1 hdg (lv_at h q hl) (kk H locs ls hP hD hS h)
theorem k_aload_n (X : kX C own cc nL rm) {z : Fin 4} {i q : Nat} {x : Nat} (hdg : decode cc pc = .ok (.aload_n z, 1)) (hi : (z : Nat) = i) (hl : lv[q]? = some (i, .ref x)) (kk : kG C nL S k n (pc + 1) lv (.ref x :: st)) : kG C nL S k n pc lv (st) := fun H locs ls hP hD hS h => lv_aload_n X.1.1 X.1.2.1 hdg hi (lv_at h q hl) (kk H locs ls hP hD hS h)
theorem k_aload (X : kX C own cc nL rm) {i q : Nat} {x : Nat} (hdg : decode cc pc = .ok (.aload i, 2)) (hl : lv[q]? = some (i, .ref x)) (kk : kG C nL S k n (pc + 2) lv (.ref x :: st)) : kG C nL S k n pc lv (st) := fun H locs ls hP hD hS h => lv_aload X.1.1 X.1.2.1 hdg (lv_at h q hl) (kk H locs ls hP hD hS h)
theorem k_aload_nQ (X : kX C own cc nL rm) {z : Fin 4} {i q : Nat} {r : Option Nat} (hdg : decode cc pc = .ok (.aload_n z, 1)) (hi : (z : Nat) = i) (hl : lv[q]? = some (i, va_rf r)) (kk : kG C nL S k n (pc + 1) lv (va_rf r :: st)) : kG C nL S k n pc lv st := by
  intro H locs ls hP hD hS h
  cases r with
  | none => exact lv_aload_nN X.1.1 X.1.2.1 hdg hi (lv_at h q hl) (kk H locs ls hP hD hS h)
  | some x => exact lv_aload_n X.1.1 X.1.2.1 hdg hi (lv_at h q hl) (kk H locs ls hP hD hS h)
theorem k_aloadQ (X : kX C own cc nL rm) {i q : Nat} {r : Option Nat} (hdg : decode cc pc = .ok (.aload i, 2)) (hl : lv[q]? = some (i, va_rf r)) (kk : kG C nL S k n (pc + 2) lv (va_rf r :: st)) : kG C nL S k n pc lv st := by
  intro H locs ls hP hD hS h
  cases r with
  | none => exact lv_aloadN X.1.1 X.1.2.1 hdg (lv_at h q hl) (kk H locs ls hP hD hS h)
  | some x => exact lv_aload X.1.1 X.1.2.1 hdg (lv_at h q hl) (kk H locs ls hP hD hS h)
theorem k_istore_n (X : kX C own cc nL rm) {z : Fin 4} {i : Nat} {x : Int32} (lv' : List (Nat × Value)) (hdg : decode cc pc = .ok (.istore_n z, 1)) (hi : (z : Nat) = i) (hn : i < nL) (hl : (i, Value.int x) :: lv.filter (fun q => !(q.1 == i) && !(q.1 + 1 == i && q.2.category == 2)) = lv') (kk : kG C nL S k n (pc + 1) lv' (st)) : kG C nL S k n pc lv (.int x :: st) := fun H locs ls hP hD hS h => lv_istore_n X.1.1 X.1.2.1 hdg hi h hn hl (fun ls h => kk H locs ls hP hD hS h)
theorem k_istore (X : kX C own cc nL rm) {i : Nat} {x : Int32} (lv' : List (Nat × Value)) (hdg : decode cc pc = .ok (.istore i, 2)) (hn : i < nL) (hl : (i, Value.int x) :: lv.filter (fun q => !(q.1 == i) && !(q.1 + 1 == i && q.2.category == 2)) = lv') (kk : kG C nL S k n (pc + 2) lv' (st)) : kG C nL S k n pc lv (.int x :: st) := fun H locs ls hP hD hS h => lv_istore X.1.1 X.1.2.1 hdg h hn hl (fun ls h => kk H locs ls hP hD hS h)
theorem k_lstore_n (X : kX C own cc nL rm) {z : Fin 4} {i : Nat} {x : Int64} (lv' : List (Nat × Value)) (hdg : decode cc pc = .ok (.lstore_n z, 1)) (hi : (z : Nat) = i) (hn : i + 1 < nL) (hl : (i, Value.long x) :: lv.filter (fun q => !(q.1 == i) && (!(q.1 == i + 1) && !(q.1 + 1 == i && q.2.category == 2))) = lv') (kk : kG C nL S k n (pc + 1) lv' (st)) : kG C nL S k n pc lv (.long x :: st) := fun H locs ls hP hD hS h => lv_lstore_n X.1.1 X.1.2.1 hdg hi h hn hl (fun ls h => kk H locs ls hP hD hS h)
theorem k_lstore (X : kX C own cc nL rm) {i : Nat} {x : Int64} (lv' : List (Nat × Value)) (hdg : decode cc pc = .ok (.lstore i, 2)) (hn : i + 1 < nL) (hl : (i, Value.long x) :: lv.filter (fun q => !(q.1 == i) && (!(q.1 == i + 1) && !(q.1 + 1 == i && q.2.category == 2))) = lv') (kk : kG C nL S k n (pc + 2) lv' (st)) : kG C nL S k n pc lv (.long x :: st) := fun H locs ls hP hD hS h => lv_lstore X.1.1 X.1.2.1 hdg h hn hl (fun ls h => kk H locs ls hP hD hS h)
theorem k_astore_n (X : kX C own cc nL rm) {z : Fin 4} {i : Nat} {x : Nat} (lv' : List (Nat × Value)) (hdg : decode cc pc = .ok (.astore_n z, 1)) (hi : (z : Nat) = i) (hn : i < nL) (hl : (i, Value.ref x) :: lv.filter (fun q => !(q.1 == i) && !(q.1 + 1 == i && q.2.category == 2)) = lv') (kk : kG C nL S k n (pc + 1) lv' (st)) : kG C nL S k n pc lv (.ref x :: st) := fun H locs ls hP hD hS h => lv_astore_n X.1.1 X.1.2.1 hdg hi h hn hl (fun ls h => kk H locs ls hP hD hS h)
theorem k_astore (X : kX C own cc nL rm) {i : Nat} {x : Nat} (lv' : List (Nat × Value)) (hdg : decode cc pc = .ok (.astore i, 2)) (hn : i < nL) (hl : (i, Value.ref x) :: lv.filter (fun q => !(q.1 == i) && !(q.1 + 1 == i && q.2.category == 2)) = lv') (kk : kG C nL S k n (pc + 2) lv' (st)) : kG C nL S k n pc lv (.ref x :: st) := fun H locs ls hP hD hS h => lv_astore X.1.1 X.1.2.1 hdg h hn hl (fun ls h => kk H locs ls hP hD hS h)
theorem k_astore_nQ (X : kX C own cc nL rm) {z : Fin 4} {i : Nat} {r : Option Nat} (lv' : List (Nat × Value)) (hdg : decode cc pc = .ok (.astore_n z, 1)) (hi : (z : Nat) = i) (hn : i < nL) (hl : (i, va_rf r) :: lv.filter (fun q => !(q.1 == i) && !(q.1 + 1 == i && q.2.category == 2)) = lv') (kk : kG C nL S k n (pc + 1) lv' st) : kG C nL S k n pc lv (va_rf r :: st) := by
  intro H locs ls hP hD hS h
  cases r with
  | none => exact lv_astore_nN X.1.1 X.1.2.1 hdg hi h hn hl (fun ls h => kk H locs ls hP hD hS h)
  | some x => exact lv_astore_n X.1.1 X.1.2.1 hdg hi h hn hl (fun ls h => kk H locs ls hP hD hS h)
theorem k_astoreQ (X : kX C own cc nL rm) {i : Nat} {r : Option Nat} (lv' : List (Nat × Value)) (hdg : decode cc pc = .ok (.astore i, 2)) (hn : i < nL) (hl : (i, va_rf r) :: lv.filter (fun q => !(q.1 == i) && !(q.1 + 1 == i && q.2.category == 2)) = lv') (kk : kG C nL S k n (pc + 2) lv' st) : kG C nL S k n pc lv (va_rf r :: st) := by
  intro H locs ls hP hD hS h
  cases r with
  | none => exact lv_astoreN X.1.1 X.1.2.1 hdg h hn hl (fun ls h => kk H locs ls hP hD hS h)
  | some x => exact lv_astore X.1.1 X.1.2.1 hdg h hn hl (fun ls h => kk H locs ls hP hD hS h)
theorem k_iinc (X : kX C own cc nL rm) {i q : Nat} {z : Int} {x v : Int32} (lv' : List (Nat × Value)) (hdg : decode cc pc = .ok (.iinc i z, 3)) (hq : lv[q]? = some (i, .int x)) (hv : x + Int32.ofInt z = v) (hn : i < nL) (hl : (i, Value.int v) :: lv.filter (fun q => !(q.1 == i) && !(q.1 + 1 == i && q.2.category == 2)) = lv') (kk : kG C nL S k n (pc + 3) lv' (st)) : kG C nL S k n pc lv st := fun H locs ls hP hD hS h => lv_iinc X.1.1 X.1.2.1 hdg h hq hv hn hl (fun ls h => kk H locs ls hP hD hS h)
theorem k_lv (ks : List Nat) (lv' : List (Nat × Value)) (hl : lv_pick lv ks = lv') (kk : kG C nL S k n pc lv' st) : kG C nL S k n pc lv st := fun H locs ls hP hD hS h => kk H locs ls hP hD hS (lv_sub h ks hl)
theorem k_room {k' n' : Nat} (h1 : k ≤ k') (h2 : n ≤ n') (kk : kG C nL S k' n' pc lv st) : kG C nL S k n pc lv st := fun H locs ls hP hD hS h => W.widen h1 h2 (kk H locs ls hP hD hS h)
theorem k_iadd (X : kX C own cc nL rm) {x y : Int32} (hdg : decode cc pc = .ok (.iadd, 1)) (kk : ∀ v : Int32, v = x + y → kG C nL S k n (pc + 1) lv (.int v :: st)) : kG C nL S k n pc lv (.int y :: .int x :: st) := fun H locs ls hP hD hS h => lv_iadd X.1.1 X.1.2.1 hdg (kk _ rfl H locs ls hP hD hS h)
theorem k_isub (X : kX C own cc nL rm) {x y : Int32} (hdg : decode cc pc = .ok (.isub, 1)) (kk : ∀ v : Int32, v = x - y → kG C nL S k n (pc + 1) lv (.int v :: st)) : kG C nL S k n pc lv (.int y :: .int x :: st) := fun H locs ls hP hD hS h => lv_isub X.1.1 X.1.2.1 hdg (kk _ rfl H locs ls hP hD hS h)
theorem k_imul (X : kX C own cc nL rm) {x y : Int32} (hdg : decode cc pc = .ok (.imul, 1)) (kk : ∀ v : Int32, v = x * y → kG C nL S k n (pc + 1) lv (.int v :: st)) : kG C nL S k n pc lv (.int y :: .int x :: st) := fun H locs ls hP hD hS h => lv_imul X.1.1 X.1.2.1 hdg (kk _ rfl H locs ls hP hD hS h)
theorem k_iand (X : kX C own cc nL rm) {x y : Int32} (hdg : decode cc pc = .ok (.iand, 1)) (kk : ∀ v : Int32, v = x &&& y → kG C nL S k n (pc + 1) lv (.int v :: st)) : kG C nL S k n pc lv (.int y :: .int x :: st) := fun H locs ls hP hD hS h => lv_iand X.1.1 X.1.2.1 hdg (kk _ rfl H locs ls hP hD hS h)
theorem k_ior (X : kX C own cc nL rm) {x y : Int32} (hdg : decode cc pc = .ok (.ior, 1)) (kk : ∀ v : Int32, v = x ||| y → kG C nL S k n (pc + 1) lv (.int v :: st)) : kG C nL S k n pc lv (.int y :: .int x :: st) := fun H locs ls hP hD hS h => lv_ior X.1.1 X.1.2.1 hdg (kk _ rfl H locs ls hP hD hS h)
theorem k_ishl (X : kX C own cc nL rm) {x y : Int32} (hdg : decode cc pc = .ok (.ishl, 1)) (kk : ∀ v : Int32, v = x <<< (y &&& 31) → kG C nL S k n (pc + 1) lv (.int v :: st)) : kG C nL S k n pc lv (.int y :: .int x :: st) := fun H locs ls hP hD hS h => lv_ishl X.1.1 X.1.2.1 hdg (kk _ rfl H locs ls hP hD hS h)
theorem k_ishr (X : kX C own cc nL rm) {x y : Int32} (hdg : decode cc pc = .ok (.ishr, 1)) (kk : ∀ v : Int32, v = x >>> (y &&& 31) → kG C nL S k n (pc + 1) lv (.int v :: st)) : kG C nL S k n pc lv (.int y :: .int x :: st) := fun H locs ls hP hD hS h => lv_ishr X.1.1 X.1.2.1 hdg (kk _ rfl H locs ls hP hD hS h)
theorem k_ladd (X : kX C own cc nL rm) {x y : Int64} (hdg : decode cc pc = .ok (.ladd, 1)) (kk : ∀ v : Int64, v = x + y → kG C nL S k n (pc + 1) lv (.long v :: st)) : kG C nL S k n pc lv (.long y :: .long x :: st) := fun H locs ls hP hD hS h => lv_ladd X.1.1 X.1.2.1 hdg (kk _ rfl H locs ls hP hD hS h)
theorem k_lmul (X : kX C own cc nL rm) {x y : Int64} (hdg : decode cc pc = .ok (.lmul, 1)) (kk : ∀ v : Int64, v = x * y → kG C nL S k n (pc + 1) lv (.long v :: st)) : kG C nL S k n pc lv (.long y :: .long x :: st) := fun H locs ls hP hD hS h => lv_lmul X.1.1 X.1.2.1 hdg (kk _ rfl H locs ls hP hD hS h)
theorem k_idiv (X : kX C own cc nL rm) {x y : Int32} (hdg : decode cc pc = .ok (.idiv, 1)) (hne : ¬ y = 0) (kk : ∀ v : Int32, v = x / y → kG C nL S k n (pc + 1) lv (.int v :: st)) : kG C nL S k n pc lv (.int y :: .int x :: st) := fun H locs ls hP hD hS h => lv_idiv X.1.1 X.1.2.1 hdg hne (kk _ rfl H locs ls hP hD hS h)
theorem k_irem (X : kX C own cc nL rm) {x y : Int32} (hdg : decode cc pc = .ok (.irem, 1)) (hne : ¬ y = 0) (kk : ∀ v : Int32, v = x - x / y * y → kG C nL S k n (pc + 1) lv (.int v :: st)) : kG C nL S k n pc lv (.int y :: .int x :: st) := fun H locs ls hP hD hS h => lv_irem X.1.1 X.1.2.1 hdg hne (kk _ rfl H locs ls hP hD hS h)
theorem k_ineg (X : kX C own cc nL rm) {x : Int32} (hdg : decode cc pc = .ok (.ineg, 1)) (kk : ∀ v : Int32, v = -x → kG C nL S k n (pc + 1) lv (.int v :: st)) : kG C nL S k n pc lv (.int x :: st) := fun H locs ls hP hD hS h => lv_ineg X.1.1 X.1.2.1 hdg (kk _ rfl H locs ls hP hD hS h)
theorem k_i2l (X : kX C own cc nL rm) {x : Int32} (hdg : decode cc pc = .ok (.i2l, 1)) (kk : ∀ v : Int64, v = x.toInt64 → kG C nL S k n (pc + 1) lv (.long v :: st)) : kG C nL S k n pc lv (.int x :: st) := fun H locs ls hP hD hS h => lv_i2l X.1.1 X.1.2.1 hdg rfl (kk _ rfl H locs ls hP hD hS h)
theorem k_dup (X : kX C own cc nL rm) {v : Value} (hdg : decode cc pc = .ok (.dup, 1)) (hc : v.category = 1) (kk : kG C nL S k n (pc + 1) lv (v :: v :: st)) : kG C nL S k n pc lv (v :: st) := fun H locs ls hP hD hS h => lv_dup X.1.1 X.1.2.1 hdg hc (kk H locs ls hP hD hS h)
theorem k_pop (X : kX C own cc nL rm) {v : Value} (hdg : decode cc pc = .ok (.pop, 1)) (hc : v.category = 1) (kk : kG C nL S k n (pc + 1) lv (st)) : kG C nL S k n pc lv (v :: st) := fun H locs ls hP hD hS h => lv_pop X.1.1 X.1.2.1 hdg hc (kk H locs ls hP hD hS h)
theorem k_dup_x1 (X : kX C own cc nL rm) {v u : Value} (hdg : decode cc pc = .ok (.dup_x1, 1)) (hc : v.category = 1) (hc2 : u.category = 1) (kk : kG C nL S k n (pc + 1) lv (v :: u :: v :: st)) : kG C nL S k n pc lv (v :: u :: st) := fun H locs ls hP hD hS h => lv_dup_x1 X.1.1 X.1.2.1 hdg hc hc2 (kk H locs ls hP hD hS h)
theorem k_dup2 (X : kX C own cc nL rm) {v u : Value} (hdg : decode cc pc = .ok (.dup2, 1)) (hc : v.category = 1) (hc2 : u.category = 1) (kk : kG C nL S k n (pc + 1) lv (v :: u :: v :: u :: st)) : kG C nL S k n pc lv (v :: u :: st) := fun H locs ls hP hD hS h => lv_dup2_11 X.1.1 X.1.2.1 hdg hc hc2 (kk H locs ls hP hD hS h)
theorem k_if_eq (X : kX C own cc nL rm) {x : Int32} {off : Int} {tgt : Nat} (hdg : decode cc pc = .ok (.ifCond .eq off, 3)) (ht : (pc : Int) + off = (tgt : Int)) (kt : x = 0 → kG C nL S k n (tgt) lv (st)) (kf : ¬ x = 0 → kG C nL S k n (pc + 3) lv (st)) : kG C nL S k n pc lv (.int x :: st) := fun H locs ls hP hD hS h => lv_if_eq X.1.1 X.1.2.1 hdg ht (fun q => kt q H locs ls hP hD hS h) (fun q => kf q H locs ls hP hD hS h)
theorem k_if_ne (X : kX C own cc nL rm) {x : Int32} {off : Int} {tgt : Nat} (hdg : decode cc pc = .ok (.ifCond .ne off, 3)) (ht : (pc : Int) + off = (tgt : Int)) (kt : ¬ x = 0 → kG C nL S k n (tgt) lv (st)) (kf : x = 0 → kG C nL S k n (pc + 3) lv (st)) : kG C nL S k n pc lv (.int x :: st) := fun H locs ls hP hD hS h => lv_if_ne X.1.1 X.1.2.1 hdg ht (fun q => kt q H locs ls hP hD hS h) (fun q => kf q H locs ls hP hD hS h)
theorem k_if_lt (X : kX C own cc nL rm) {x : Int32} {off : Int} {tgt : Nat} (hdg : decode cc pc = .ok (.ifCond .lt off, 3)) (ht : (pc : Int) + off = (tgt : Int)) (kt : x < 0 → kG C nL S k n (tgt) lv (st)) (kf : ¬ x < 0 → kG C nL S k n (pc + 3) lv (st)) : kG C nL S k n pc lv (.int x :: st) := fun H locs ls hP hD hS h => lv_if_lt X.1.1 X.1.2.1 hdg ht (fun q => kt q H locs ls hP hD hS h) (fun q => kf q H locs ls hP hD hS h)
theorem k_if_ge (X : kX C own cc nL rm) {x : Int32} {off : Int} {tgt : Nat} (hdg : decode cc pc = .ok (.ifCond .ge off, 3)) (ht : (pc : Int) + off = (tgt : Int)) (kt : 0 ≤ x → kG C nL S k n (tgt) lv (st)) (kf : ¬ 0 ≤ x → kG C nL S k n (pc + 3) lv (st)) : kG C nL S k n pc lv (.int x :: st) := fun H locs ls hP hD hS h => lv_if_ge X.1.1 X.1.2.1 hdg ht (fun q => kt q H locs ls hP hD hS h) (fun q => kf q H locs ls hP hD hS h)
theorem k_if_gt (X : kX C own cc nL rm) {x : Int32} {off : Int} {tgt : Nat} (hdg : decode cc pc = .ok (.ifCond .gt off, 3)) (ht : (pc : Int) + off = (tgt : Int)) (kt : 0 < x → kG C nL S k n (tgt) lv (st)) (kf : ¬ 0 < x → kG C nL S k n (pc + 3) lv (st)) : kG C nL S k n pc lv (.int x :: st) := fun H locs ls hP hD hS h => lv_if_gt X.1.1 X.1.2.1 hdg ht (fun q => kt q H locs ls hP hD hS h) (fun q => kf q H locs ls hP hD hS h)
theorem k_if_le (X : kX C own cc nL rm) {x : Int32} {off : Int} {tgt : Nat} (hdg : decode cc pc = .ok (.ifCond .le off, 3)) (ht : (pc : Int) + off = (tgt : Int)) (kt : x ≤ 0 → kG C nL S k n (tgt) lv (st)) (kf : ¬ x ≤ 0 → kG C nL S k n (pc + 3) lv (st)) : kG C nL S k n pc lv (.int x :: st) := fun H locs ls hP hD hS h => lv_if_le X.1.1 X.1.2.1 hdg ht (fun q => kt q H locs ls hP hD hS h) (fun q => kf q H locs ls hP hD hS h)
theorem k_icmp_eq (X : kX C own cc nL rm) {x y : Int32} {off : Int} {tgt : Nat} (hdg : decode cc pc = .ok (.if_icmp .eq off, 3)) (ht : (pc : Int) + off = (tgt : Int)) (kt : x = y → kG C nL S k n (tgt) lv (st)) (kf : ¬ x = y → kG C nL S k n (pc + 3) lv (st)) : kG C nL S k n pc lv (.int y :: .int x :: st) := fun H locs ls hP hD hS h => lv_icmp_eq X.1.1 X.1.2.1 hdg ht (fun q => kt q H locs ls hP hD hS h) (fun q => kf q H locs ls hP hD hS h)
theorem k_icmp_ne (X : kX C own cc nL rm) {x y : Int32} {off : Int} {tgt : Nat} (hdg : decode cc pc = .ok (.if_icmp .ne off, 3)) (ht : (pc : Int) + off = (tgt : Int)) (kt : ¬ x = y → kG C nL S k n (tgt) lv (st)) (kf : x = y → kG C nL S k n (pc + 3) lv (st)) : kG C nL S k n pc lv (.int y :: .int x :: st) := fun H locs ls hP hD hS h => lv_icmp_ne X.1.1 X.1.2.1 hdg ht (fun q => kt q H locs ls hP hD hS h) (fun q => kf q H locs ls hP hD hS h)
theorem k_icmp_lt (X : kX C own cc nL rm) {x y : Int32} {off : Int} {tgt : Nat} (hdg : decode cc pc = .ok (.if_icmp .lt off, 3)) (ht : (pc : Int) + off = (tgt : Int)) (kt : x < y → kG C nL S k n (tgt) lv (st)) (kf : ¬ x < y → kG C nL S k n (pc + 3) lv (st)) : kG C nL S k n pc lv (.int y :: .int x :: st) := fun H locs ls hP hD hS h => lv_icmp_lt X.1.1 X.1.2.1 hdg ht (fun q => kt q H locs ls hP hD hS h) (fun q => kf q H locs ls hP hD hS h)
theorem k_icmp_ge (X : kX C own cc nL rm) {x y : Int32} {off : Int} {tgt : Nat} (hdg : decode cc pc = .ok (.if_icmp .ge off, 3)) (ht : (pc : Int) + off = (tgt : Int)) (kt : y ≤ x → kG C nL S k n (tgt) lv (st)) (kf : ¬ y ≤ x → kG C nL S k n (pc + 3) lv (st)) : kG C nL S k n pc lv (.int y :: .int x :: st) := fun H locs ls hP hD hS h => lv_icmp_ge X.1.1 X.1.2.1 hdg ht (fun q => kt q H locs ls hP hD hS h) (fun q => kf q H locs ls hP hD hS h)
theorem k_icmp_gt (X : kX C own cc nL rm) {x y : Int32} {off : Int} {tgt : Nat} (hdg : decode cc pc = .ok (.if_icmp .gt off, 3)) (ht : (pc : Int) + off = (tgt : Int)) (kt : y < x → kG C nL S k n (tgt) lv (st)) (kf : ¬ y < x → kG C nL S k n (pc + 3) lv (st)) : kG C nL S k n pc lv (.int y :: .int x :: st) := fun H locs ls hP hD hS h => lv_icmp_gt X.1.1 X.1.2.1 hdg ht (fun q => kt q H locs ls hP hD hS h) (fun q => kf q H locs ls hP hD hS h)
theorem k_icmp_le (X : kX C own cc nL rm) {x y : Int32} {off : Int} {tgt : Nat} (hdg : decode cc pc = .ok (.if_icmp .le off, 3)) (ht : (pc : Int) + off = (tgt : Int)) (kt : x ≤ y → kG C nL S k n (tgt) lv (st)) (kf : ¬ x ≤ y → kG C nL S k n (pc + 3) lv (st)) : kG C nL S k n pc lv (.int y :: .int x :: st) := fun H locs ls hP hD hS h => lv_icmp_le X.1.1 X.1.2.1 hdg ht (fun q => kt q H locs ls hP hD hS h) (fun q => kf q H locs ls hP hD hS h)
theorem k_goto (X : kX C own cc nL rm) {off : Int} {tgt : Nat} (hdg : decode cc pc = .ok (.goto off, 3)) (ht : (pc : Int) + off = (tgt : Int)) (kk : kG C nL S k n tgt lv st) : kG C nL S k n pc lv st := fun H locs ls hP hD hS h => lv_goto X.1.1 X.1.2.1 hdg ht (kk H locs ls hP hD hS h)
theorem k_ifnull (X : kX C own cc nL rm) {r : Option Nat} {off : Int} {tgt : Nat} (hdg : decode cc pc = .ok (.ifnull off, 3)) (ht : (pc : Int) + off = (tgt : Int)) (kt : r = none → kG C nL S k n tgt lv st) (kf : ∀ a, r = some a → kG C nL S k n (pc + 3) lv st) : kG C nL S k n pc lv (va_rf r :: st) := by
  intro H locs ls hP hD hS h
  cases r with
  | none => exact lv_ifnullN X.1.1 X.1.2.1 hdg ht (kt rfl H locs ls hP hD hS h)
  | some a => exact lv_ifnull X.1.1 X.1.2.1 hdg (kf a rfl H locs ls hP hD hS h)
theorem k_ifnonnull (X : kX C own cc nL rm) {r : Option Nat} {off : Int} {tgt : Nat} (hdg : decode cc pc = .ok (.ifnonnull off, 3)) (ht : (pc : Int) + off = (tgt : Int)) (kt : ∀ a, r = some a → kG C nL S k n tgt lv st) (kf : r = none → kG C nL S k n (pc + 3) lv st) : kG C nL S k n pc lv (va_rf r :: st) := by
  intro H locs ls hP hD hS h
  cases r with
  | none => exact lv_ifnonnullN X.1.1 X.1.2.1 hdg (kf rfl H locs ls hP hD hS h)
  | some a => exact lv_ifnonnull X.1.1 X.1.2.1 hdg ht (kt a rfl H locs ls hP hD hS h)
theorem k_acmp_eq (X : kX C own cc nL rm) {rx ry : Option Nat} {off : Int} {tgt : Nat} (hdg : decode cc pc = .ok (.if_acmp .eq off, 3)) (ht : (pc : Int) + off = (tgt : Int)) (kt : rx = ry → kG C nL S k n tgt lv st) (kf : ¬ rx = ry → kG C nL S k n (pc + 3) lv st) : kG C nL S k n pc lv (va_rf ry :: va_rf rx :: st) := fun H locs ls hP hD hS h => lv_acmp_eq X.1.1 X.1.2.1 hdg ht (fun q => kt q H locs ls hP hD hS h) (fun q => kf q H locs ls hP hD hS h)
theorem k_acmp_ne (X : kX C own cc nL rm) {rx ry : Option Nat} {off : Int} {tgt : Nat} (hdg : decode cc pc = .ok (.if_acmp .ne off, 3)) (ht : (pc : Int) + off = (tgt : Int)) (kt : ¬ rx = ry → kG C nL S k n tgt lv st) (kf : rx = ry → kG C nL S k n (pc + 3) lv st) : kG C nL S k n pc lv (va_rf ry :: va_rf rx :: st) := fun H locs ls hP hD hS h => lv_acmp_ne X.1.1 X.1.2.1 hdg ht (fun q => kt q H locs ls hP hD hS h) (fun q => kf (by first | exact q | exact Decidable.not_not.mp q) H locs ls hP hD hS h)
theorem k_tableIn (X : kX C own cc nL rm) {dflt lo hi : Int} {offs : Array Int} {len : Nat} {x : Int32} {off : Int} {tgt : Nat} (hdg : decode cc pc = .ok (.tableswitch dflt lo hi offs, len)) (h1 : ¬ x.toInt < lo) (h2 : ¬ hi < x.toInt) (ho : offs[(x.toInt - lo).toNat]? = some off) (ht : (pc : Int) + off = (tgt : Int)) (kk : kG C nL S k n tgt lv st) : kG C nL S k n pc lv (.int x :: st) := fun H locs ls hP hD hS h => lv_tableIn X.1.1 X.1.2.1 hdg h1 h2 ho ht (kk H locs ls hP hD hS h)
theorem k_tableOut (X : kX C own cc nL rm) {dflt lo hi : Int} {offs : Array Int} {len : Nat} {x : Int32} {tgt : Nat} (hdg : decode cc pc = .ok (.tableswitch dflt lo hi offs, len)) (h : x.toInt < lo ∨ hi < x.toInt) (ht : (pc : Int) + dflt = (tgt : Int)) (kk : kG C nL S k n tgt lv st) : kG C nL S k n pc lv (.int x :: st) := fun H locs ls hP hD hS h' => lv_tableOut X.1.1 X.1.2.1 hdg h ht (kk H locs ls hP hD hS h')
/-! FIELDS -/
theorem k_get (X : kX C own cc nL rm) {ref Cn : String} {T : u_T} {NN κ idx a : Nat} (hin : ∀ w ∈ u_ws Cn T NN, w ∈ kT) (hL : a ∈ S.L) (hK : S.K a = κ) (hcl : vwCl[kci κ]? = some (Cn, T, NN)) (hsh : ∀ cy m i r, kcont cy κ m i r = .inr (kci κ, kfs κ i r)) (j : Nat) (hj : j < NN) (hw : Cond.fieldLink own idx ref (T j).2.1 (T j).2.2.1 ∈ kT) (hsame : ∀ x, C.s.fieldFound? (T j).1 (T j).2.1 (T j).2.2.1 = some x → C.s.fieldFound? ref (T j).2.1 (T j).2.2.1 = some x) {v : Value} (hv : (kfs κ (S.I a) (S.R a))[j]? = some v) (hdg : decode cc pc = .ok (.getfield idx, 3)) (kk : kG C nL S k n (pc + 3) lv (v :: st)) : kG C nL S k n pc lv (.ref a :: st) := by
  intro H locs ls hP hD hS h
  obtain ⟨q0, hq⟩ := kW_get (cy := C.cy) hL
  have he : (kW C.cy S)[q0]? = some (a, .inr (kci κ, kfs κ (S.I a) (S.R a))) := by rw [hq]; unfold kF; rw [hK, hsh]
  exact va_get X.1.1 X.1.2.1 X.1.2.2.2.2 hin X.1.2.2.2.1 X.2.1 hP q0 he hcl j hj (X.1.2.2.2.2 _ hw) hsame hv hdg (kk H locs ls hP hD hS h)
theorem k_put (X : kX C own cc nL rm) {ref Cn : String} {T : u_T} {NN κ idx a : Nat} (hin : ∀ w ∈ u_ws Cn T NN, w ∈ kT) (ty0 : Nat → FieldType) (hty : ∀ k, k < NN → parseFieldDescriptor (T k).2.2.1 = some (ty0 k)) (hnm : ∀ a, a < NN → ∀ b, b < NN → a ≠ b → (T a).2.1 ≠ (T b).2.1) (hL : a ∈ S.L) (hK : S.K a = κ) (hcl : vwCl[kci κ]? = some (Cn, T, NN)) (hsh : ∀ cy m i r, kcont cy κ m i r = .inr (kci κ, kfs κ i r)) (j : Nat) (hj : j < NN) (hw : Cond.fieldLink own idx ref (T j).2.1 (T j).2.2.1 ∈ kT) (hsame : ∀ x, C.s.fieldFound? (T j).1 (T j).2.1 (T j).2.2.1 = some x → C.s.fieldFound? ref (T j).2.1 (T j).2.2.1 = some x) (hfin : (T j).2.2.2 = false ∨ ((T j).2.2.2 = true ∧ C.meth.name = "<init>" ∧ (T j).1 = own)) {v : Value} (hn : narrow (ty0 j) v = v) (hfit : fits (ty0 j) v = true) (S' : kS) (hlen : j < (kfs κ (S.I a) (S.R a)).length) (hL' : S'.L = S.L) (hK' : S'.K = S.K) (hN' : S'.N = S.N) (ho : ∀ b, b ≠ a → S'.I b = S.I b ∧ S'.R b = S.R b) (hv : (kfs κ (S.I a) (S.R a)).set j v = kfs κ (S'.I a) (S'.R a)) (hdg : decode cc pc = .ok (.putfield idx, 3)) (kk : kG C nL S' k n (pc + 3) lv st) : kG C nL S k n pc lv (v :: .ref a :: st) := by
  intro H locs ls hP hD hS h
  obtain ⟨q0, hq⟩ := kW_get (cy := C.cy) hL
  have he : (kW C.cy S)[q0]? = some (a, .inr (kci κ, kfs κ (S.I a) (S.R a))) := by rw [hq]; unfold kF; rw [hK, hsh]
  have hset : (kW C.cy S).set q0 (a, .inr (kci κ, (kfs κ (S.I a) (S.R a)).set j v)) = kW C.cy S' := by
    refine kW_set hD hL hq hL' (fun b => ?_)
    unfold va_up kF
    by_cases hb : b = a
    · subst hb
      rw [if_pos rfl, hK', hN', hK, hsh, hv]
    · rw [if_neg hb, hK', hN', (ho b hb).1, (ho b hb).2]
  rcases hfin with hf | ⟨hf, hf2, hf3⟩
  · refine va_put X.1.1 X.1.2.1 X.1.2.2.2.2 hin ty0 hty hnm X.1.2.2.2.1 X.2.1 hP hD hS q0 he hcl j hj (X.1.2.2.2.2 _ hw) hsame hf (hty j hj) hn hfit hlen hdg (fun H1 locs1 hP1 hD1 hS1 => ?_)
    rw [hset] at hP1 hD1
    exact kk H1 locs1 ls hP1 hD1 hS1 h
  · refine va_putF X.1.1 X.1.2.1 X.1.2.2.2.2 hin ty0 hty hnm X.1.2.2.2.1 X.2.1 hP hD hS q0 he hcl j hj (X.1.2.2.2.2 _ hw) hsame hf hf2 hf3 (hty j hj) hn hfit hlen hdg (fun H1 locs1 hP1 hD1 hS1 => ?_)
    rw [hset] at hP1 hD1
    exact kk H1 locs1 ls hP1 hD1 hS1 h
theorem uI_o {S : kS} {a i : Nat} {v : Int32} : ∀ b, b ≠ a → (S.uI a i v).I b = S.I b ∧ (S.uI a i v).R b = S.R b := fun b hb => ⟨funext fun j => by rw [uI_I, if_neg (fun h => hb h.1)], rfl⟩
theorem uR_o {S : kS} {a i : Nat} {v : Option Nat} : ∀ b, b ≠ a → (S.uR a i v).I b = S.I b ∧ (S.uR a i v).R b = S.R b := fun b hb => ⟨rfl, funext fun j => by rw [uR_R, if_neg (fun h => hb h.1)]⟩
/-! ARRAYS -/
theorem k_alen (X : kX C own cc nL rm) {a : Nat} (hL : a ∈ S.L) (hK : S.K a = 13 ∨ S.K a = 14 ∨ S.K a = 15 ∨ S.K a = 16 ∨ S.K a = 17) (hdg : decode cc pc = .ok (.arraylength, 1)) (kk : kG C nL S k n (pc + 1) lv (.int (Int32.ofNat (S.N a)) :: st)) : kG C nL S k n pc lv (.ref a :: st) := by
  intro H locs ls hP hD hS h
  obtain ⟨q0, hq⟩ := kW_get (cy := C.cy) hL
  unfold kF at hq
  rcases hK with hK | hK | hK | hK | hK <;> rw [hK] at hq
  · exact va_alen X.1.1 X.1.2.1 X.2.1 hP q0 0 hq rfl rfl hdg (kk H locs ls hP hD hS h)
  · exact va_alen X.1.1 X.1.2.1 X.2.1 hP q0 1 hq rfl rfl hdg (kk H locs ls hP hD hS h)
  · exact va_alen X.1.1 X.1.2.1 X.2.1 hP q0 2 hq rfl rfl hdg (kk H locs ls hP hD hS h)
  · exact va_alen X.1.1 X.1.2.1 X.2.1 hP q0 3 hq rfl rfl hdg (kk H locs ls hP hD hS h)
  · exact va_alen X.1.1 X.1.2.1 X.2.1 hP q0 4 hq rfl rfl hdg (kk H locs ls hP hD hS h)
theorem k_iald (X : kX C own cc nL rm) {a : Nat} {i : Int32} (hL : a ∈ S.L) (hK : S.K a = 13) (hin : vp_in i (S.N a)) (hdg : decode cc pc = .ok (.iaload, 1)) (kk : ∀ v, v = S.I a i.toNatClampNeg → kG C nL S k n (pc + 1) lv (.int v :: st)) : kG C nL S k n pc lv (.int i :: .ref a :: st) := by
  intro H locs ls hP hD hS h
  obtain ⟨q0, hq⟩ := kW_get (cy := C.cy) hL
  unfold kF at hq
  rw [hK] at hq
  exact va_iald X.1.1 X.1.2.1 X.2.1 hP q0 0 hq rfl hin hdg (kk _ rfl H locs ls hP hD hS h)
theorem k_iast (X : kX C own cc nL rm) {a : Nat} {i x : Int32} (hL : a ∈ S.L) (hK : S.K a = 13) (hin : vp_in i (S.N a)) (hdg : decode cc pc = .ok (.iastore, 1)) (kk : kG C nL (S.uI a i.toNatClampNeg x) k n (pc + 1) lv st) : kG C nL S k n pc lv (.int x :: .int i :: .ref a :: st) := by
  intro H locs ls hP hD hS h
  obtain ⟨q0, hq⟩ := kW_get (cy := C.cy) hL
  have hq0 := hq
  unfold kF at hq
  rw [hK] at hq
  refine va_iast X.1.1 X.1.2.1 X.2.1 hP hD hS q0 0 hq rfl hin hdg (fun H1 locs1 hP1 hD1 hS1 => ?_)
  have hset : (kW C.cy S).set q0 (a, .inl (C.cy 0, S.N a, .inl (upd (S.I a) i.toNatClampNeg x))) = kW C.cy (S.uI a i.toNatClampNeg x) := by
    refine kW_set hD hL hq0 rfl (fun b => ?_)
    unfold va_up kF
    by_cases hb : b = a
    · subst hb
      rw [if_pos rfl, uI_K, uI_N, hK]
      show _ = Sum.inl (C.cy 0, S.N b, Sum.inl _)
      have e9 : upd (S.I b) i.toNatClampNeg x = (S.uI b i.toNatClampNeg x).I b := funext fun j => by simp [upd, uI_I]
      rw [e9]
    · rw [if_neg hb, uI_K, uI_N, (uI_o b hb).1, uI_R]
  rw [hset] at hP1 hD1
  exact kk H1 locs1 ls hP1 hD1 hS1 h
theorem k_aald (X : kX C own cc nL rm) {a : Nat} {i : Int32} (hL : a ∈ S.L) (hK : S.K a = 14 ∨ S.K a = 15) (hin : vp_in i (S.N a)) (hdg : decode cc pc = .ok (.aaload, 1)) (kk : ∀ r, r = S.R a i.toNatClampNeg → kG C nL S k n (pc + 1) lv (va_rf r :: st)) : kG C nL S k n pc lv (.int i :: .ref a :: st) := by
  intro H locs ls hP hD hS h
  obtain ⟨q0, hq⟩ := kW_get (cy := C.cy) hL
  unfold kF at hq
  rcases hK with hK | hK <;> rw [hK] at hq
  · exact va_aldq X.1.1 X.1.2.1 X.2.1 hP q0 1 hq rfl hin hdg (kk _ rfl H locs ls hP hD hS h)
  · exact va_aldq X.1.1 X.1.2.1 X.2.1 hP q0 2 hq rfl hin hdg (kk _ rfl H locs ls hP hD hS h)
end KR
