def kyAC : MethodName := arraycopyName
theorem qmJ7_150 : Cond.methodLink RJ7 150 arraycopyName ∈ kT := kT_in 213 (by decide +kernel) rfl
theorem qmJx4a65c_112 : Cond.methodLink RJx4a65c 112 arraycopyName ∈ kT := kT_in 943 (by decide +kernel) rfl
theorem qnAC : Cond.native arraycopyName ∈ kT := kT_in 215 (by decide +kernel) rfl
theorem qsAC : Cond.static arraycopyName ∈ kT := kT_in 214 (by decide +kernel) rfl
theorem qIAC : Cond.initialized "java/lang/System" ∈ kT := kT_in 51 (by decide +kernel) rfl
theorem qSF : Cond.sameField "java/util/ArrayList" "java/util/AbstractList" "modCount" "I" ∈ kT := kT_in 115 (by decide +kernel) rfl
theorem qmGC : Cond.methodLink RJ7 86 ⟨"java/lang/Object", "getClass", "()Ljava/lang/Class;"⟩ ∈ kT := kT_in 184 (by decide +kernel) rfl
theorem qeGC : Cond.selects "[Ljava/lang/Object;" ⟨"java/lang/Object", "getClass", "()Ljava/lang/Class;"⟩ ⟨"java/lang/Object", "getClass", "()Ljava/lang/Class;"⟩ ∈ kT := kT_in 1741 (by decide +kernel) rfl
theorem qiGC : Cond.instanceMethod ⟨"java/lang/Object", "getClass", "()Ljava/lang/Class;"⟩ ∈ kT := kT_in 185 (by decide +kernel) rfl
theorem qnGC : Cond.native ⟨"java/lang/Object", "getClass", "()Ljava/lang/Class;"⟩ ∈ kT := kT_in 203 (by decide +kernel) rfl
theorem qOX1 : Cond.castable "Kleroterion$Citizen" "java/lang/Object" ∈ kNl := kN_in 1723 (by decide +kernel) rfl
theorem qOX8 : Cond.castable "Kleroterion$Office" "java/lang/Object" ∈ kNl := kN_in 1728 (by decide +kernel) rfl
theorem qOX7 : Cond.castable "Kleroterion$Motion" "java/lang/Object" ∈ kNl := kN_in 1737 (by decide +kernel) rfl
theorem qOX10 : Cond.castable "Kleroterion$Suit" "java/lang/Object" ∈ kNl := kN_in 1738 (by decide +kernel) rfl
/-- part of one row of references is put over another's -/
def kS.cp (S : kS) (a0 a sp dp n : Nat) : kS := (S.L, S.K, S.O, S.N, S.I, fun b j => if b = a then va_cpy (S.R a0) (S.R a) sp dp n j else S.R b j)
theorem cp_L (S : kS) (a0 a sp dp n) : (S.cp a0 a sp dp n).L = S.L := rfl
theorem cp_K (S : kS) (a0 a sp dp n) : (S.cp a0 a sp dp n).K = S.K := rfl
theorem cp_O (S : kS) (a0 a sp dp n) : (S.cp a0 a sp dp n).O = S.O := rfl
theorem cp_N (S : kS) (a0 a sp dp n) : (S.cp a0 a sp dp n).N = S.N := rfl
theorem cp_I (S : kS) (a0 a sp dp n) : (S.cp a0 a sp dp n).I = S.I := rfl
theorem cp_R (S : kS) (a0 a sp dp n b j) : (S.cp a0 a sp dp n).R b j = if b = a then va_cpy (S.R a0) (S.R a) sp dp n j else S.R b j := rfl
theorem kW_fresh {A : Nat → Prop} {cy : Nat → ClassId} {S : kS} {q : Nat} {e : va_E} (hD1 : va_D A (kW cy S ++ [(q, e)])) : q ∉ S.L := fun hin => by
  obtain ⟨q0, hq0⟩ := kW_get (cy := cy) hin
  have h1 := hD1.1 q0 (kW cy S).length (q, kF cy S q) (q, e) (by rw [List.getElem?_append_left (List.getElem?_eq_some_iff.mp hq0).1]; exact hq0) (by simp) rfl
  exact absurd (List.getElem?_eq_some_iff.mp hq0).1 (by omega)
theorem kW_push {cy : Nat → ClassId} {S : kS} {q κ ρ n : Nat} (hq : q ∉ S.L) : kW cy S ++ [(q, kcont cy κ n (fun _ => 0) (fun _ => none))] = kW cy (S.nw q κ ρ n) := by
  unfold kW
  rw [va_pl_push hq]
  refine va_pl_congr (fun b => ?_)
  unfold kF va_up
  rw [nw_K, nw_N, nw_I, nw_R]
  unfold va_up
  by_cases hb : b = q
  · rw [if_pos hb, if_pos hb, if_pos hb, if_pos hb, if_pos hb]
  · rw [if_neg hb, if_neg hb, if_neg hb, if_neg hb, if_neg hb]
section KJ
variable {C : kC} {own : String} {cc : ByteArray} {nL : Nat} {rm : Room} {S : kS} {k n pc idx : Nat} {lv : List (Nat × Value)} {st : List Value}
theorem k_gets39 (X : kX C RJx4a65c cc nL rm) (hdg : decode cc pc = .ok (.getstatic 39, 3)) (kk : kG C nL S k n (pc + 3) lv (.ref C.e0.1 :: st)) : kG C nL S k n pc lv st := fun H locs ls hP hD hS h => va_gets X.1.1 X.1.2.1 X.2.2.2.2.2.1 hS X.1.2.2.2.1 (X.1.2.2.2.2 _ qfJx4a65c_39) (fun _ h => h) hdg (kk H locs ls hP hD hS h)
theorem k_alen0 (X : kX C own cc nL rm) (hdg : decode cc pc = .ok (.arraylength, 1)) (kk : kG C nL S k n (pc + 1) lv (.int 0 :: st)) : kG C nL S k n pc lv (.ref C.e0.1 :: st) := by
  intro H locs ls hP hD hS h
  obtain ⟨-, ⟨cell, h2, h3, h4⟩, h5, h6⟩ := X.2.2.2.2.2
  exact W.alen (n := 0) X.1.1 X.1.2.1 (by rw [hS.2.1 _ h6 h5]; exact h2) h3 (by rw [h4]; rfl) rfl rfl hdg (kk H locs ls hP hD hS h)
theorem gJx4a65c_63 (X : kX C RJx4a65c cc nL rm) {a : Nat} (hL : a ∈ S.L) (hK : S.K a = 12) (hdg : decode cc pc = .ok (.getfield 63, 3)) (kk : ∀ v, v = S.I a 0 → kG C nL S k n (pc + 3) lv (.int v :: st)) : kG C nL S k n pc lv (.ref a :: st) := k_get X qwJx4a65c hL hK rfl (fun _ _ _ _ => rfl) 0 (Nat.le_of_ble_eq_true rfl) qfJx4a65c_63 (u_same (X.1.2.2.2.2 _ qSF)) rfl hdg (kk _ rfl)
theorem pJx4a65c_63 (X : kX C RJx4a65c cc nL rm) {a : Nat} (hL : a ∈ S.L) (hK : S.K a = 12) {v : Int32} (hdg : decode cc pc = .ok (.putfield 63, 3)) (kk : kG C nL (S.uI a 0 v) k n (pc + 3) lv st) : kG C nL S k n pc lv (.int v :: .ref a :: st) := k_put X qwJx4a65c tyJx4a65c tyJx4a65c_ok nmJx4a65c hL hK rfl (fun _ _ _ _ => rfl) 0 (Nat.le_of_ble_eq_true rfl) qfJx4a65c_63 (u_same (X.1.2.2.2.2 _ qSF)) (Or.inl rfl) rfl rfl (S.uI a 0 v) (Nat.le_of_ble_eq_true rfl) rfl rfl rfl uI_o (by simp [kfs, uI_I, uI_R]) hdg kk
theorem pJxc12de_7 (X : kX C RJxc12de cc nL rm) {a : Nat} (hL : a ∈ S.L) (hK : S.K a = 12) {v : Int32} (hdg : decode cc pc = .ok (.putfield 7, 3)) (kk : kG C nL (S.uI a 0 v) k n (pc + 3) lv st) : kG C nL S k n pc lv (.int v :: .ref a :: st) := k_put X qwJx4a65c tyJx4a65c tyJx4a65c_ok nmJx4a65c hL hK rfl (fun _ _ _ _ => rfl) 0 (Nat.le_of_ble_eq_true rfl) qfJxc12de_7 (fun _ h => h) (Or.inl rfl) rfl rfl (S.uI a 0 v) (Nat.le_of_ble_eq_true rfl) rfl rfl rfl uI_o (by simp [kfs, uI_I, uI_R]) hdg kk
theorem k_newO (X : kX C own cc nL rm) {x : Int32} {N' : Nat} (ρ : Nat) (hw : Cond.classLink own idx "java/lang/Object" ∈ kT) (hn0 : ¬ x < 0) (hN : x.toNatClampNeg = N') (hb : N' ≤ 1000) (hk : k + 1 ≤ rm.cells) (hn : n + N' ≤ rm.slots) (hdg : decode cc pc = .ok (.anewarray idx, 3)) (kk : ∀ q, q ∉ S.L → kG C nL (S.nw q 15 ρ N') (k + 1) (n + N') (pc + 3) lv (.ref q :: st)) : kG C nL S k n pc lv (.int x :: st) := by
  intro H locs ls hP hD hS h
  have hRm : C.R = rm := X.2.2.2.2.1
  subst hRm
  refine va_newq X.1.1 X.1.2.1 X.1.2.2.2.1 (X.1.2.2.2.2 _ hw) X.2.2.2.1.2.2.2.1 X.2.1 hP hD hS X.2.2.1 hn0 hN (by omega) hk hn hdg (fun q cA H1 hK1 hP1 hD1 hS1 => ?_)
  have hq := kW_fresh hD1
  have h5 := (hK1.2 5 (cA, .object "java/lang/Object") rfl).2
  have h2 := (X.2.1.2 2 (C.cy 2, .object "java/lang/Object") rfl).2
  obtain ⟨-, -, -, -, -, e1⟩ := h5
  obtain ⟨-, -, -, -, -, e2⟩ := h2
  have ec : cA = C.cy 2 := Option.some.inj (e1.symm.trans e2)
  subst ec
  have hset := kW_push (cy := C.cy) (S := S) (κ := 15) (ρ := ρ) (n := N') hq
  have hset' : kW C.cy S ++ [(q, .inl (C.cy 2, N', .inr (.inr (.inr (.inr (fun _ => none))))))] = kW C.cy (S.nw q 15 ρ N') := hset
  rw [hset'] at hP1 hD1
  exact kk q hq H1 locs ls hP1 hD1 hS1 h
theorem k_newC (X : kX C own cc nL rm) {x : Int32} {N' : Nat} (ρ : Nat) (hw : Cond.classLink own idx "Kleroterion$Citizen" ∈ kT) (hn0 : ¬ x < 0) (hN : x.toNatClampNeg = N') (hb : N' ≤ 1000) (hk : k + 1 ≤ rm.cells) (hn : n + N' ≤ rm.slots) (hdg : decode cc pc = .ok (.anewarray idx, 3)) (kk : ∀ q, q ∉ S.L → kG C nL (S.nw q 14 ρ N') (k + 1) (n + N') (pc + 3) lv (.ref q :: st)) : kG C nL S k n pc lv (.int x :: st) := by
  intro H locs ls hP hD hS h
  have hRm : C.R = rm := X.2.2.2.2.1
  subst hRm
  refine va_newq X.1.1 X.1.2.1 X.1.2.2.2.1 (X.1.2.2.2.2 _ hw) X.2.2.2.1.2.2.2.2 X.2.1 hP hD hS X.2.2.1 hn0 hN (by omega) hk hn hdg (fun q cA H1 hK1 hP1 hD1 hS1 => ?_)
  have hq := kW_fresh hD1
  have h5 := (hK1.2 5 (cA, .object "Kleroterion$Citizen") rfl).2
  have h2 := (X.2.1.2 1 (C.cy 1, .object "Kleroterion$Citizen") rfl).2
  obtain ⟨-, -, -, -, -, e1⟩ := h5
  obtain ⟨-, -, -, -, -, e2⟩ := h2
  have ec : cA = C.cy 1 := Option.some.inj (e1.symm.trans e2)
  subst ec
  have hset := kW_push (cy := C.cy) (S := S) (κ := 14) (ρ := ρ) (n := N') hq
  have hset' : kW C.cy S ++ [(q, .inl (C.cy 1, N', .inr (.inr (.inr (.inr (fun _ => none))))))] = kW C.cy (S.nw q 14 ρ N') := hset
  rw [hset'] at hP1 hD1
  exact kk q hq H1 locs ls hP1 hD1 hS1 h
theorem k_newI (X : kX C own cc nL rm) {x : Int32} {N' : Nat} (ρ : Nat) (hw : Cond.arrayClass .int ∈ kT) (hn0 : ¬ x < 0) (hN : x.toNatClampNeg = N') (hb : N' ≤ 1000) (hk : k + 1 ≤ rm.cells) (hn : n + N' ≤ rm.slots) (hdg : decode cc pc = .ok (.newarray .int, 2)) (kk : ∀ q, q ∉ S.L → kG C nL (S.nw q 13 ρ N') (k + 1) (n + N') (pc + 2) lv (.ref q :: st)) : kG C nL S k n pc lv (.int x :: st) := by
  intro H locs ls hP hD hS h
  have hRm : C.R = rm := X.2.2.2.2.1
  subst hRm
  refine va_newa (atype := .int) (ty := .int) X.1.1 X.1.2.1 (X.1.2.2.2.2 _ hw) rfl X.2.1 hP hD hS X.2.2.1 (a0 := (N', .inl (fun _ => 0))) (fun _ => rfl) hn0 hN (by show N' * 4 ≤ _; omega) hk hn hdg (fun q cA H1 hK1 hP1 hD1 hS1 => ?_)
  have hq := kW_fresh hD1
  have e1 : C.s.vm.findClass _ = some cA := (hK1.2 5 (cA, .int) rfl).2
  have e2 : C.s.vm.findClass _ = some (C.cy 0) := (X.2.1.2 0 (C.cy 0, .int) rfl).2
  have ec : cA = C.cy 0 := Option.some.inj (e1.symm.trans e2)
  subst ec
  have hset := kW_push (cy := C.cy) (S := S) (κ := 13) (ρ := ρ) (n := N') hq
  have hset' : kW C.cy S ++ [(q, .inl (C.cy 0, N', .inl (fun _ => 0)))] = kW C.cy (S.nw q 13 ρ N') := hset
  rw [hset'] at hP1 hD1
  exact kk q hq H1 locs ls hP1 hD1 hS1 h
theorem k_aastN (X : kX C own cc nL rm) {a : Nat} {i : Int32} (hA : S.at a 14 ∨ S.at a 15) (hin : vp_in i (S.N a)) (hdg : decode cc pc = .ok (.aastore, 1)) (kk : kG C nL (S.uR a i.toNatClampNeg none) k n (pc + 1) lv st) : kG C nL S k n pc lv (.null :: .int i :: .ref a :: st) := by
  intro H locs ls hP hD hS h
  rcases hA with hA | hA
  all_goals
    obtain ⟨q0, hq⟩ := kW_get (cy := C.cy) hA.1
    have hq0 := hq
    unfold kF at hq
    rw [hA.2] at hq
  · refine va_astqN X.1.1 X.1.2.1 X.2.1 hP hD hS q0 1 hq rfl hin hdg (fun H1 locs1 hP1 hD1 hS1 => ?_)
    have hset : (kW C.cy S).set q0 (a, .inl (C.cy 1, S.N a, .inr (.inr (.inr (.inr (va_up (S.R a) i.toNatClampNeg none)))))) = kW C.cy (S.uR a i.toNatClampNeg none) := by
      refine kW_set hD hA.1 hq0 rfl (fun b => ?_)
      unfold va_up kF
      by_cases hb : b = a
      · subst hb
        rw [if_pos rfl, uR_K, uR_N, hA.2]
        have e9 : va_up (S.R b) i.toNatClampNeg none = (S.uR b i.toNatClampNeg none).R b := funext fun j => by simp [va_up, uR_R]
        unfold va_up at e9
        rw [e9]
        rfl
      · rw [if_neg hb, uR_K, uR_N, (uR_o b hb).2, uR_I]
    rw [hset] at hP1 hD1
    exact kk H1 locs1 ls hP1 hD1 hS1 h
  · refine va_astqN X.1.1 X.1.2.1 X.2.1 hP hD hS q0 2 hq rfl hin hdg (fun H1 locs1 hP1 hD1 hS1 => ?_)
    have hset : (kW C.cy S).set q0 (a, .inl (C.cy 2, S.N a, .inr (.inr (.inr (.inr (va_up (S.R a) i.toNatClampNeg none)))))) = kW C.cy (S.uR a i.toNatClampNeg none) := by
      refine kW_set hD hA.1 hq0 rfl (fun b => ?_)
      unfold va_up kF
      by_cases hb : b = a
      · subst hb
        rw [if_pos rfl, uR_K, uR_N, hA.2]
        have e9 : va_up (S.R b) i.toNatClampNeg none = (S.uR b i.toNatClampNeg none).R b := funext fun j => by simp [va_up, uR_R]
        unfold va_up at e9
        rw [e9]
        rfl
      · rw [if_neg hb, uR_K, uR_N, (uR_o b hb).2, uR_I]
    rw [hset] at hP1 hD1
    exact kk H1 locs1 ls hP1 hD1 hS1 h
theorem k_aastO (X : kX C own cc nL rm) {a v κ NN : Nat} {Cn : String} {T : u_T} {i : Int32} (hcl : vwCl[kci κ]? = some (Cn, T, NN)) (hsh : ∀ cy m i r, kcont cy κ m i r = .inr (kci κ, kfs κ i r)) (hca : Cond.castable Cn "java/lang/Object" ∈ kNl) (hA : S.at a 15) (hv : S.at v κ) (hin : vp_in i (S.N a)) (hdg : decode cc pc = .ok (.aastore, 1)) (kk : kG C nL (S.uR a i.toNatClampNeg (some v)) k n (pc + 1) lv st) : kG C nL S k n pc lv (.ref v :: .int i :: .ref a :: st) := by
  intro H locs ls hP hD hS h
  obtain ⟨q0, hq⟩ := kW_get (cy := C.cy) hA.1
  have hq0 := hq
  unfold kF at hq
  rw [hA.2] at hq
  obtain ⟨q1, hq1⟩ := kW_get (cy := C.cy) hv.1
  have he : (kW C.cy S)[q1]? = some (v, .inr (kci κ, kfs κ (S.I v) (S.R v))) := by rw [hq1]; unfold kF; rw [hv.2, hsh]
  refine va_astqO X.1.1 X.1.2.1 X.2.1 hP hD hS q0 2 q1 (kci κ) hq rfl (X.2.2.2.1.1 _ hca) he hcl hin hdg (fun H1 locs1 hP1 hD1 hS1 => ?_)
  have hset : (kW C.cy S).set q0 (a, .inl (C.cy 2, S.N a, .inr (.inr (.inr (.inr (va_up (S.R a) i.toNatClampNeg (some v))))))) = kW C.cy (S.uR a i.toNatClampNeg (some v)) := by
    refine kW_set hD hA.1 hq0 rfl (fun b => ?_)
    unfold va_up kF
    by_cases hb : b = a
    · subst hb
      rw [if_pos rfl, uR_K, uR_N, hA.2]
      have e9 : va_up (S.R b) i.toNatClampNeg (some v) = (S.uR b i.toNatClampNeg (some v)).R b := funext fun j => by simp [va_up, uR_R]
      unfold va_up at e9
      rw [e9]
      rfl
    · rw [if_neg hb, uR_K, uR_N, (uR_o b hb).2, uR_I]
  rw [hset] at hP1 hD1
  exact kk H1 locs1 ls hP1 hD1 hS1 h
theorem k_copy (X : kX C own cc nL rm) {a0 a κ NN : Nat} {Cn : String} {T : u_T} {sp dp x : Int32} (hcl : vwCl[kci κ]? = some (Cn, T, NN)) (hsh : ∀ cy m i r, kcont cy κ m i r = .inr (kci κ, kfs κ i r)) (hca : Cond.castable Cn "java/lang/Object" ∈ kNl) (hw : Cond.methodLink own idx arraycopyName ∈ kT) (hA0 : S.at a0 15) (hA : S.at a 15) (h1 : ¬ sp < 0) (h2 : ¬ dp < 0) (h3 : ¬ x < 0) (h4 : sp.toNatClampNeg + x.toNatClampNeg ≤ S.N a0) (h5 : dp.toNatClampNeg + x.toNatClampNeg ≤ S.N a) (hel : ∀ i : Nat, i < x.toNatClampNeg → ∀ y : Nat, S.R a0 (sp.toNatClampNeg + i) = some y → S.at y κ) (hf : 1 ≤ rm.frames) (hl : (st.map fun v => v.category).sum + (nativeFrameWords "java/lang/System" "arraycopy" 5 + 11) ≤ rm.locals) (hdg : decode cc pc = .ok (.invokestatic idx, 3)) (kk : kG C nL (S.cp a0 a sp.toNatClampNeg dp.toNatClampNeg x.toNatClampNeg) k n (pc + 3) lv st) : kG C nL S k n pc lv (.int x :: .int dp :: .ref a :: .int sp :: .ref a0 :: st) := by
  intro H locs ls hP hD hS h
  have hRm : C.R = rm := X.2.2.2.2.1
  subst hRm
  obtain ⟨q0, hq0⟩ := kW_get (cy := C.cy) hA0.1
  obtain ⟨q1, hq1⟩ := kW_get (cy := C.cy) hA.1
  have hq1' := hq1
  unfold kF at hq0 hq1
  rw [hA0.2] at hq0
  rw [hA.2] at hq1
  refine va_copyq X.1.1 X.1.2.1 (by rw [X.1.2.2.1]; exact h.1.symm) X.1.2.2.2.1 (X.1.2.2.2.2 _ hw) (X.1.2.2.2.2 _ qnAC) (X.1.2.2.2.2 _ qsAC) (X.1.2.2.2.2 _ qIAC) X.2.1 hP hD hS q0 q1 2 2 hq0 hq1 rfl rfl (C := Cn) h1 h2 h3 h4 h5 (fun i hi y hy => kRcv X hP (hel i hi y hy).1 (hel i hi y hy).2 hcl hsh) (vb_asgC (X.2.2.2.1.1 _ hca)) hf hl hdg (fun H1 locs1 hP1 hD1 hS1 => ?_)
  have hset : (kW C.cy S).set q1 (a, .inl (C.cy 2, S.N a, .inr (.inr (.inr (.inr (va_cpy (S.R a0) (S.R a) sp.toNatClampNeg dp.toNatClampNeg x.toNatClampNeg)))))) = kW C.cy (S.cp a0 a sp.toNatClampNeg dp.toNatClampNeg x.toNatClampNeg) := by
    refine kW_set hD hA.1 hq1' rfl (fun b => ?_)
    unfold va_up kF
    by_cases hb : b = a
    · subst hb
      rw [if_pos rfl, cp_K, cp_N, hA.2]
      have e9 : va_cpy (S.R a0) (S.R b) sp.toNatClampNeg dp.toNatClampNeg x.toNatClampNeg = (S.cp a0 b sp.toNatClampNeg dp.toNatClampNeg x.toNatClampNeg).R b := funext fun j => by simp [cp_R]
      rw [e9]
      rfl
    · have e8 : (S.cp a0 a sp.toNatClampNeg dp.toNatClampNeg x.toNatClampNeg).R b = S.R b := funext fun j => by simp [cp_R, hb]
      rw [if_neg hb, cp_K, cp_N, cp_I, e8]
  rw [hset] at hP1 hD1
  exact kk H1 locs1 ls hP1 hD1 hS1 h
theorem k_getC (X : kX C RJ7 cc nL rm) {a : Nat} (hA : S.at a 15) (hf : 1 ≤ rm.frames) (hl : (st.map fun v => v.category).sum + 14 ≤ rm.locals) (hdg : decode cc pc = .ok (.invokevirtual 86, 3)) (kk : kG C nL S k n (pc + 3) lv (.ref C.e0.2 :: st)) : kG C nL S k n pc lv (.ref a :: st) := by
  intro H locs ls hP hD hS h
  have hRm : C.R = rm := X.2.2.2.2.1
  subst hRm
  obtain ⟨q0, hq⟩ := kW_get (cy := C.cy) hA.1
  unfold kF at hq
  rw [hA.2] at hq
  have hn : C.s.vm.findClass "[Ljava/lang/Object;" = some (C.cy 2) := va_nmO (X.2.1.2 2 (C.cy 2, .object "java/lang/Object") rfl).2 (by decide)
  exact va_getC X.1.1 X.1.2.1 (by rw [X.1.2.2.1]; exact h.1.symm) X.1.2.2.2.1 (X.1.2.2.2.2 _ qmGC) (va_Dc.use X.2.2.2.1.2.2.1) (X.1.2.2.2.2 _ qeGC) (X.1.2.2.2.2 _ qiGC) (X.1.2.2.2.2 _ qnGC) X.2.2.2.1.2.1 ⟨_, hP q0 _ hq, rfl, by rw [hn]; rfl⟩ hf hl hdg (kk H locs ls hP hD hS h)
theorem k_ldcM (X : kX C own cc nL rm) (hw : Cond.classLink own idx "[Ljava/lang/Object;" ∈ kT) (hdg : decode cc pc = .ok (.ldc idx, 2)) (kk : kG C nL S k n (pc + 2) lv (.ref C.e0.2 :: st)) : kG C nL S k n pc lv st := fun H locs ls hP hD hS h => va_ldcM X.1.1 X.1.2.1 X.1.2.2.2.1 (X.1.2.2.2.2 _ hw) X.2.2.2.1.2.1 hdg (kk H locs ls hP hD hS h)
end KJ
