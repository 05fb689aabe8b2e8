/-! WHAT THE LAW'S OWN METHODS WANT: rows of truth values, rows of rows, the script -/
theorem qAZ : Cond.arrayClass .boolean ∈ kT := kT_in 1721 (by decide +kernel) rfl
section KQZ
variable {C : kC} {own : String} {cc : ByteArray} {nL : Nat} {rm : Room} {S : kS} {k n pc idx : Nat} {lv : List (Nat × Value)} {st : List Value}
theorem k_newZ (X : kX C own cc nL rm) {x : Int32} {N' : Nat} (ρ : Nat) (hn0 : ¬ x < 0) (hN : x.toNatClampNeg = N') (hb : N' ≤ 1000) (hk : k + 1 ≤ rm.cells) (hn : n + N' ≤ rm.slots) (hdg : decode cc pc = .ok (.newarray .boolean, 2)) (kk : ∀ q, q ∉ S.L → kG C nL (S.nw q 17 ρ N') (k + 1) (n + N') (pc + 2) lv (.ref q :: st)) : kG C nL S k n pc lv (.int x :: st) := by
  intro H locs ls hP hD hS h
  have hRm : C.R = rm := X.2.2.2.2.1
  subst hRm
  refine va_newa (atype := .boolean) (ty := .boolean) X.1.1 X.1.2.1 (X.1.2.2.2.2 _ qAZ) rfl X.2.1 hP hD hS X.2.2.1 (a0 := (N', .inl (fun _ => 0))) (fun _ => rfl) hn0 hN (by show N' * 1 ≤ _; omega) hk hn hdg (fun q cA H1 hK1 hP1 hD1 hS1 => ?_)
  have hq := kW_fresh hD1
  have e1 : C.s.vm.findClass _ = some cA := (hK1.2 5 (cA, .boolean) rfl).2
  have e2 : C.s.vm.findClass _ = some (C.cy 4) := (X.2.1.2 4 (C.cy 4, .boolean) rfl).2
  have ec : cA = C.cy 4 := Option.some.inj (e1.symm.trans e2)
  subst ec
  have hset := kW_push (cy := C.cy) (S := S) (κ := 17) (ρ := ρ) (n := N') hq
  have hset' : kW C.cy S ++ [(q, .inl (C.cy 4, N', .inl (fun _ => 0)))] = kW C.cy (S.nw q 17 ρ N') := hset
  rw [hset'] at hP1 hD1
  exact kk q hq H1 locs ls hP1 hD1 hS1 h
theorem k_zald (X : kX C own cc nL rm) {a : Nat} {i : Int32} (hA : S.at a 17) (hin : vp_in i (S.N a)) (hdg : decode cc pc = .ok (.baload, 1)) (kk : ∀ v, v = S.I a i.toNatClampNeg → kG C nL S k n (pc + 1) lv (.int v :: st)) : kG C nL S k n pc lv (.int i :: .ref a :: st) := by
  intro H locs ls hP hD hS h
  obtain ⟨q0, hq⟩ := kW_get (cy := C.cy) hA.1
  unfold kF at hq
  rw [hA.2] at hq
  exact va_zald X.1.1 X.1.2.1 X.2.1 hP q0 4 hq rfl hin hdg (kk _ rfl H locs ls hP hD hS h)
theorem k_zast (X : kX C own cc nL rm) {a : Nat} {i x : Int32} (hA : S.at a 17) (hin : vp_in i (S.N a)) (hz : x = 0 ∨ x = 1) (hdg : decode cc pc = .ok (.bastore, 1)) (kk : kG C nL (S.uI a i.toNatClampNeg x) k n (pc + 1) lv st) : kG C nL S k n pc lv (.int x :: .int i :: .ref a :: st) := by
  intro H locs ls hP hD hS h
  obtain ⟨q0, hq⟩ := kW_get (cy := C.cy) hA.1
  have hq0 := hq
  unfold kF at hq
  rw [hA.2] at hq
  refine va_zast X.1.1 X.1.2.1 X.2.1 hP hD hS q0 4 hq rfl hin hdg (fun H1 locs1 hP1 hD1 hS1 => ?_)
  have hx : vp_nar .boolean x = x := by rcases hz with rfl | rfl <;> rfl
  rw [hx] at hP1 hD1
  have hset : (kW C.cy S).set q0 (a, .inl (C.cy 4, S.N a, .inl (upd (S.I a) i.toNatClampNeg x))) = kW C.cy (S.uI a i.toNatClampNeg x) := by
    refine kW_set hD hA.1 hq0 rfl (fun b => ?_)
    unfold va_up kF
    by_cases hb : b = a
    · subst hb
      rw [if_pos rfl, uI_K, uI_N, hA.2]
      show _ = Sum.inl (C.cy 4, S.N b, Sum.inl _)
      have e9 : upd (S.I b) i.toNatClampNeg x = (S.uI b i.toNatClampNeg x).I b := funext fun j => by simp [upd, uI_I]
      rw [e9]
    · rw [if_neg hb, uI_K, uI_N, (uI_o b hb).1, uI_R]
  rw [hset] at hP1 hD1
  exact kk H1 locs1 ls hP1 hD1 hS1 h
theorem k_aaldR (X : kX C own cc nL rm) {a : Nat} {i : Int32} (hA : S.at a 16) (hin : vp_in i (S.N a)) (hdg : decode cc pc = .ok (.aaload, 1)) (kk : ∀ r, r = S.R a i.toNatClampNeg → kG C nL S k n (pc + 1) lv (va_rf r :: st)) : kG C nL S k n pc lv (.int i :: .ref a :: st) := by
  intro H locs ls hP hD hS h
  obtain ⟨q0, hq⟩ := kW_get (cy := C.cy) hA.1
  unfold kF at hq
  rw [hA.2] at hq
  have hq' : (kW C.cy S)[q0]? = some (a, .inl (C.cy 3, S.N a, .inr (.inr (.inr (.inr (S.R a)))))) := hq
  have hlt : i.toNatClampNeg < S.N a := Nat.not_le.mp fun q => hin (Or.inr q)
  have hc := hP q0 _ hq'
  exact W.aald (v := va_rf (S.R a i.toNatClampNeg)) (ty := .array .int) X.1.1 X.1.2.1 hc ((X.2.1.2 3 (C.cy 3, .array .int) rfl).1 (S.N a) (fun j => va_rf (S.R a j))) rfl (fun q => by cases q) (by show ¬ (i < 0 ∨ (arrV _ _ _).slots.size ≤ _); rw [arrV_size]; exact hin) (by show (arrV _ _ _).slots[_]? = _; rw [arrV_read _ _ hlt]) rfl rfl hdg (kk _ rfl H locs ls hP hD hS h)
theorem k_lcmp (X : kX C own cc nL rm) {x y : Int64} (hdg : decode cc pc = .ok (.lcmp, 1)) (kk : ∀ v : Int32, v = lg_cmp x y → kG C nL S k n (pc + 1) lv (.int v :: st)) : kG C nL S k n pc lv (.long y :: .long x :: st) := fun H locs ls hP hD hS h => W.lcmp X.1.1 X.1.2.1 hdg (kk _ rfl H locs ls hP hD hS h)
end KQZ
/-! A ROW OF ROWS IS MADE -/
def kmO (cA : ClassId) (N h i : Nat) : Cell := arrV cA N (fun j => if j < i then .ref (h + 1 + j) else .null)
def kmI (cI : ClassId) (M : Nat) : Cell := arrV cI M (fun _ => .int 0)
theorem kmO_set (cA : ClassId) (N h i : Nat) : (kmO cA N h i).setSlot i (.ref (h + 1 + i)) = kmO cA N h (i + 1) := by
  unfold kmO
  rw [arrV_store]
  congr 1
  funext j
  by_cases e : j = i
  · subst e
    simp [updV]
  · by_cases e2 : j < i
    · simp [updV, e, e2, show j < i + 1 by omega]
    · simp [updV, e, e2, show ¬ j < i + 1 by omega]
/-- the heap, and the state, with i rows made -/
def kmH (H : Heap) (cA cI : ClassId) (N M : Nat) : Nat → Heap
  | 0 => H.push (kmO cA N H.size 0)
  | i + 1 => ((kmH H cA cI N M i).push (kmI cI M)).setIfInBounds H.size (kmO cA N H.size (i + 1))
def kmS (T : State) (cA cI : ClassId) (N M : Nat) : Nat → State
  | 0 => T.pushCell (kmO cA N T.heap.size 0)
  | i + 1 => ((kmS T cA cI N M i).pushCell (kmI cI M)).setCell T.heap.size (kmO cA N T.heap.size (i + 1))
theorem kmS_H (T : State) (cA cI : ClassId) (N M : Nat) : ∀ i, (kmS T cA cI N M i).heap = kmH T.heap cA cI N M i
  | 0 => rfl
  | i + 1 => by
    show ((kmS T cA cI N M i).heap.push (kmI cI M)).setIfInBounds T.heap.size _ = ((kmH T.heap cA cI N M i).push (kmI cI M)).setIfInBounds T.heap.size _
    rw [kmS_H T cA cI N M i]
theorem kmH_f (H : Heap) (cA cI : ClassId) (N M : Nat) : ∀ i, (kmH H cA cI N M i).size = H.size + 1 + i ∧ (kmH H cA cI N M i)[H.size]? = some (kmO cA N H.size i) ∧ ∀ q, q < H.size → (kmH H cA cI N M i)[q]? = H[q]?
  | 0 => by
    refine ⟨by simp [kmH], by simp [kmH], fun q hq => ?_⟩
    show (H.push _)[q]? = _
    rw [Array.getElem?_push, if_neg (by omega)]
  | i + 1 => by
    obtain ⟨a1, a2, a3⟩ := kmH_f H cA cI N M i
    have hs : ((kmH H cA cI N M i).push (kmI cI M)).size = H.size + 1 + i + 1 := by rw [Array.size_push, a1]
    refine ⟨?_, ?_, fun q hq => ?_⟩
    · show (((kmH H cA cI N M i).push (kmI cI M)).setIfInBounds H.size _).size = _
      rw [Array.size_setIfInBounds, hs]; omega
    · show (((kmH H cA cI N M i).push (kmI cI M)).setIfInBounds H.size _)[H.size]? = _
      rw [Array.getElem?_setIfInBounds, if_pos rfl, if_pos (by rw [hs]; omega)]
    · show (((kmH H cA cI N M i).push (kmI cI M)).setIfInBounds H.size _)[q]? = _
      rw [Array.getElem?_setIfInBounds, if_neg (by omega), Array.getElem?_push, if_neg (by omega)]
      exact a3 q hq
theorem kmS_f (T : State) (cA cI : ClassId) (N M : Nat) : ∀ i, (kmS T cA cI N M i).vm = T.vm ∧ (kmS T cA cI N M i).slotsUsed = T.slotsUsed + N + i * M
  | 0 => ⟨rfl, by simp [kmS, kmO, arrV_size]⟩
  | i + 1 => by
    obtain ⟨a1, a2⟩ := kmS_f T cA cI N M i
    refine ⟨by simp [kmS, a1], ?_⟩
    simp [kmS, a2, kmI, arrV_size, Nat.succ_mul]
    omega
theorem kmS_top (T : State) (f : JFrame) (cA cI : ClassId) (N M : Nat) : ∀ i, kmS (T.setTop f) cA cI N M i = (kmS T cA cI N M i).setTop f
  | 0 => rfl
  | i + 1 => by simp only [kmS, kmS_top T f cA cI N M i, State.heap_setTop, State.pushCell_setTop, State.setCell_setTop]
section KMU
variable {p : Program} {l : Launch} {e : Env} {R : Room} {s : State} {m : MethodId} {args : Array Value} {below : List Frame} {meth : Method} {c : Code} {T : State} {H : Heap} {locs : List Loc} {cells slots : Nat} {Q : State → Prop}
theorem kmS_X (X : Stand p l e R s m args below meth c T locs cells slots) (cA cI : ClassId) (N M : Nat) :
    ∀ i, Stand p l e R s m args below meth c (kmS T cA cI N M i) (locs ++ (List.range i).map (fun j => (⟨T.heap.size, j⟩ : Loc))) (cells + 1 + i) (slots + N + i * M)
  | 0 => by
    have h := X.pushed (kmO cA N T.heap.size 0)
    rw [show (kmO cA N T.heap.size 0).slots.size = N from arrV_size _ _ _] at h
    simpa [kmS] using h
  | i + 1 => by
    have Xi := kmS_X X cA cI N M i
    obtain ⟨a1, a2, -⟩ := kmH_f T.heap cA cI N M i
    have hcell : ((kmS T cA cI N M i).pushCell (kmI cI M)).heap[T.heap.size]? = some (kmO cA N T.heap.size i) := by
      show ((kmS T cA cI N M i).heap.push (kmI cI M))[T.heap.size]? = _
      rw [kmS_H, Array.getElem?_push, if_neg (by omega)]
      exact a2
    have h := (Xi.pushed (kmI cI M)).stored hcell i (.ref (T.heap.size + 1 + i))
    rw [kmO_set, show (kmI cI M).slots.size = M from arrV_size _ _ _] at h
    rw [List.range_succ, List.map_append, ← List.append_assoc, show cells + 1 + (i + 1) = cells + 1 + i + 1 by omega, show slots + N + (i + 1) * M = slots + N + i * M + M by rw [Nat.succ_mul]; omega]
    exact h
end KMU
section KMW
variable {E : CtlPost} {e : Env} {d : Bool} {acts : List Action} {s : State}
/-- one row of whole numbers -/
theorem kmw_1 {cI cc : ClassId} {kI : Class} {M : Nat} (hM : M ≤ 1000) (hk : s.vm.classes[cI]? = some kI) (hkind : kI.kind = .array cc .int) (hl : ¬ M > e.platform.arrayLengthLimit) (hb : ¬ M * componentBytes .int > e.platform.maxHeapBytes)
    (h1 : s.heap.size < e.platform.maxCells) (h2 : s.slotsUsed + M ≤ e.platform.maxSlots) {Q : Addr → Pre} (hq : ∀ acts', Q s.heap.size d acts' (s.pushCell (kmI cI M))) : wp (multianewarray.make cI [nI M]) Q E e d acts s := by
  have hn : ¬ nI M < 0 := nI_pos (by omega)
  have hz : (nI M).toNatClampNeg = M := nI_clamp (by omega)
  rw [multianewarray.make]
  simp only [wp_bind', W.ite, hn, if_false, wp_pure', W.theClass, hk, hkind, Option.some.injEq, exists_eq_left', hz]
  refine W.newArray_of hk hkind hl hb h1 h2 rfl (fun acts' => ?_)
  rw [show ({ cls := cI, slots := Array.replicate M (defaultValue .int) } : Cell) = kmI cI M from arrV_new cI M _]
  exact hq acts'
/-- the rows, one behind another -/
theorem kmw_2 {cA cI cc : ClassId} {kA kI : Class} {N M : Nat} (hN : N ≤ 1000) (hM : M ≤ 1000) (hkA : s.vm.classes[cA]? = some kA) (hkindA : kA.kind = .array cI (.array .int)) (hkI : s.vm.classes[cI]? = some kI) (hkindI : kI.kind = .array cc .int)
    (hl1 : ¬ N > e.platform.arrayLengthLimit) (hb1 : ¬ N * componentBytes (.array .int) > e.platform.maxHeapBytes) (hl2 : ¬ M > e.platform.arrayLengthLimit) (hb2 : ¬ M * componentBytes .int > e.platform.maxHeapBytes)
    (h1 : s.heap.size + 1 + N ≤ e.platform.maxCells) (h2 : s.slotsUsed + N + N * M ≤ e.platform.maxSlots) {Q : Addr → Pre} (hq : ∀ d' acts', Q s.heap.size d' acts' (kmS s cA cI N M N)) : wp (multianewarray.make cA [nI N, nI M]) Q E e d acts s := by
  have hn : ¬ nI N < 0 := nI_pos (by omega)
  have hz : (nI N).toNatClampNeg = N := nI_clamp (by omega)
  have hn2 : ¬ nI M < 0 := nI_pos (by omega)
  have hfi : ([nI M].find? (· < 0)) = none := by simp [hn2]
  have hNM := Nat.zero_le (N * M)
  rw [multianewarray.make]
  simp only [wp_bind', W.ite, hn, if_false, wp_pure', W.theClass, hkA, hkindA, Option.some.injEq, exists_eq_left', hz]
  refine W.newArray_of hkA hkindA hl1 hb1 (by omega) (by omega) rfl (fun acts' => ?_)
  rw [show ({ cls := cA, slots := Array.replicate N Value.null } : Cell) = kmO cA N s.heap.size 0 from (arrV_new cA N _).trans (by unfold kmO; congr 1)]
  simp only [hfi]
  rw [ite_self, wp_bind', Std.Legacy.Range.forIn_eq_forIn_range', show ([:N] : Std.Legacy.Range).size = N by simp [Std.Legacy.Range.size]]
  refine wp_forIn_inv (fun left s' => ∃ i, i ≤ N ∧ left = List.range' i (N - i) ∧ s' = kmS s cA cI N M i) _ _ ⟨0, Nat.zero_le _, rfl, rfl⟩ ?_ ?_
  · rintro x left s' d' acts' Q' ⟨i, hi, hl, rfl⟩ hgo
    have hlt : i < N := by
      by_cases h : i < N
      · exact h
      · rw [show N - i = 0 by omega] at hl; simp at hl
    rw [show N - i = (N - (i + 1)) + 1 by omega, List.range'_succ] at hl
    obtain ⟨rfl, hl'⟩ := List.cons.inj hl
    obtain ⟨f1, f2⟩ := kmS_f s cA cI N M x
    obtain ⟨g1, g2, -⟩ := kmH_f s.heap cA cI N M x
    have hHx := kmS_H s cA cI N M x
    have hmul : x * M + M ≤ N * M := by
      have h9 := Nat.mul_le_mul_right M (show x + 1 ≤ N from hlt)
      rw [Nat.succ_mul] at h9; exact h9
    simp only [wp_bind']
    refine kmw_1 hM (by rw [f1]; exact hkI) hkindI hl2 hb2 (by rw [hHx, g1]; omega) (by rw [f2]; omega) (fun acts9 => ?_)
    simp only [wp_bind', W.writeLoc, wp_pure']
    have hsz : (kmO cA N s.heap.size x).slots.size = N := arrV_size _ _ _
    refine ⟨kmO cA N s.heap.size x, ?_, by simp [kmO, arrV], by rw [hsz]; exact hlt, ?_, hgo _ _ _ ⟨x + 1, hlt, hl', ?_⟩⟩
    · show ((kmS s cA cI N M x).heap.push (kmI cI M))[s.heap.size]? = _
      rw [hHx, Array.getElem?_push, if_neg (by omega)]
      exact g2
    · show State.fitsSlot _ cA .none x _ = true
      simp [State.fitsSlot, State.slotType?, f1, hkA, hkindA, fits]
    · rw [hHx, g1, kmO_set]
      rfl
  · rintro s' d' acts' ⟨i, hi, hl, rfl⟩
    have hiN : i = N := by
      by_cases h : i < N
      · rw [show N - i = (N - (i + 1)) + 1 by omega, List.range'_succ] at hl; cases hl
      · omega
    subst hiN
    simp only [wp_pure']
    exact hq _ _
end KMW
section KMV
variable {p : Program} {l : Launch} {e : Env} {R : Room} {s : State} {m : MethodId} {args : Array Value} {below : List Frame} {meth : Method} {c : Code} {T : State} {H : Heap} {locs : List Loc} {cells slots : Nat} {Q : State → Prop}
/-- the instruction, at two lengths -/
theorem kmv (hexec : p.tables.exec = Jvm.exec) {cc : ByteArray} (hb : c.code = cc) {own : String} {idx : Nat} (hown : s.vm.findClass own = some m.cls) (hlink : (Cond.classLink own idx "[[I").before args s = true) {cA cI c0 : ClassId} {kA kI : Class} (hfA : s.vm.findClass "[[I" = some cA) (hkA : s.vm.classes[cA]? = some kA) (hkindA : kA.kind = .array cI (.array .int)) (hkI : s.vm.classes[cI]? = some kI) (hkindI : kI.kind = .array c0 .int)
    {N M : Nat} (hN : N ≤ 1000) (hM : M ≤ 1000) (hc : cells + (1 + N) ≤ R.cells) (hs : slots + (N + N * M) ≤ R.slots) {g : JFrame} (hg : g.method = m) (hdg : decode cc g.pc = .ok (.multianewarray idx 2, 4)) {rest : List Value} (hst : g.stack = .int (nI M) :: .int (nI N) :: rest)
    (kk : W p l e R s m args below meth c (kmH H cA cI N M N) (locs ++ (List.range N).map (fun j => (⟨H.size, j⟩ : Loc))) (cells + 1 + N) (slots + N + N * M) Q { g with pc := g.pc + 4, stack := .ref H.size :: rest }) : W p l e R s m args below meth c H locs cells slots Q g := by
  intro T hT X
  subst hT
  subst hb
  subst hg
  have hpl : e.platform.magicAccessors = ({} : Platform).magicAccessors := by rw [X.admits.platform]
  obtain ⟨c1, hf1, hcl⟩ := Cond.classLink_spec hown hlink e.platform hpl
  cases hfA.symm.trans hf1
  obtain ⟨hg₁, hw₁, -⟩ := State.classEntry (e := e) X.warmed hcl
  generalize T.vm.noted g.method.cls idx (.cls cA) = vm₁ at hg₁ hw₁
  obtain ⟨kA₁, hkA₁, eA⟩ := hw₁.alike.2.2 _ _ hkA
  obtain ⟨kI₁, hkI₁, eI⟩ := hw₁.alike.2.2 _ _ hkI
  have hkindA₁ : kA₁.kind = .array cI (.array .int) := by rw [eA]; exact hkindA
  have hkindI₁ : kI₁.kind = .array c0 .int := by rw [eI]; exact hkindI
  have X₁ := X.noted hw₁
  have X₂ := kmS_X X₁ cA cI N M N
  obtain ⟨r1, r2⟩ := X₁.roomAbove hc hs
  obtain ⟨t, a9, b9⟩ := kk (kmS (T.setVm vm₁) cA cI N M N) (kmS_H _ _ _ _ _ _) X₂
  refine ⟨t, ?_, b9⟩
  have hal : e.platform.arrayLengthLimit = _ := Launch.admits_arrayLengthLimit X.admits
  have hah : e.platform.maxHeapBytes = _ := Launch.admits_maxHeapBytes X.admits
  have c4 : componentBytes (.array .int) = 4 := rfl
  have c5 : componentBytes .int = 4 := rfl
  jvm_step X.here [hexec, hdg]
  simp only [multianewarray.sem, wp_bind', W.resolveClassAt_links (State.method?_setTop g X.here.top) hg₁]
  rw [W.popN, if_neg (by decide)]
  refine ⟨g, State.topJava?_setTop' (s := T.setVm vm₁) g X.here.top, [.int (nI N), .int (nI M)], rest, rfl, hst, ?_⟩
  simp only [List.mapM_cons, List.mapM_nil, wp_bind', wp_pure']
  refine kmw_2 hN hM hkA₁ hkindA₁ hkI₁ hkindI₁ (by rw [hal]; omega) (by rw [hah, c4]; omega) (by rw [hal]; omega) (by rw [hah, c5]; omega) (by show T.heap.size + 1 + N ≤ _; have r3 : (T.setVm vm₁).heap.size = T.heap.size := rfl; omega) (by show T.slotsUsed + N + N * M ≤ _; have r4 : (T.setVm vm₁).slotsUsed = T.slotsUsed := rfl; omega) (fun d' acts' => ?_)
  rw [show ((T.setTop g).setVm vm₁).setTop { g with stack := rest } = (T.setVm vm₁).setTop { g with stack := rest } from by
    show ((T.setVm vm₁).setTop g).setTop _ = _
    rw [State.setTop_setTop], kmS_top]
  simp only [wp_bind', W.mark, W.pushRef, State.topJava?_setTop' _ X₂.here.top, Option.some.injEq, exists_eq_left', State.setTop_setTop, State.heap_setTop]
  intro acts
  simp [jvm, X₂.here.top]
  exact a9
end KMV
/-- the world behind it, row by row -/
theorem kmu_w {D : va_G} {cy : Nat → ClassId} {A : Nat → Prop} {S : kS} {H H0 : Heap} {locs : List Loc} {N M ρ σ : Nat} (hP : va_P D vwCl (kW cy S) H) (hD : va_D A (kW cy S)) (hS : va_S A H0 H locs) (hA : ∀ q, H0.size ≤ q → A q) :
    ∀ i, i ≤ N → ∃ S' : kS, va_P D vwCl (kW cy S') (kmH H (cy 3) (cy 0) N M i) ∧ va_D A (kW cy S') ∧ va_S A H0 (kmH H (cy 3) (cy 0) N M i) (locs ++ (List.range i).map (fun j => (⟨H.size, j⟩ : Loc))) ∧ kFr S S' (fun _ => False) ∧ (S'.at H.size 16 ∧ S'.O H.size = ρ ∧ S'.N H.size = N ∧ (∀ j, j < i → S'.R H.size j = some (H.size + 1 + j)) ∧ ∀ j, i ≤ j → S'.R H.size j = none) ∧ ∀ j, j < i → S'.at (H.size + 1 + j) 13 ∧ S'.O (H.size + 1 + j) = σ ∧ S'.N (H.size + 1 + j) = M
  | 0, _ => by
    obtain ⟨f1, f2, f3⟩ := kmH_f H (cy 3) (cy 0) N M 0
    have hq : H.size ∉ S.L := fun h => absurd (kP_lt hP h) (by omega)
    have hset := kW_push (cy := cy) (S := S) (κ := 16) (ρ := ρ) (n := N) hq
    have hP1 : va_P D vwCl (kW cy S ++ [(H.size, kcont cy 16 N (fun _ => 0) (fun _ => none))]) (kmH H (cy 3) (cy 0) N M 0) := by
      refine (hP.kept (fun k x hx => f3 x.1 (hP k x hx).lt)).app (fun k x hx => ?_)
      have hz : k < 1 := (List.getElem?_eq_some_iff.mp hx).1
      rw [show k = 0 by omega] at hx
      cases hx
      show (kmH H (cy 3) (cy 0) N M 0)[H.size]? = some (vp_cell (cy 3) (N, .inr (.inr (.inr (.inr (fun _ => none))))))
      rw [f2, vp_cell_q]
      congr 1
    have hD1 : va_D A (kW cy S ++ [(H.size, kcont cy 16 N (fun _ => 0) (fun _ => none))]) := hD.push hP rfl (hA _ hS.1)
    rw [hset] at hP1 hD1
    refine ⟨S.nw H.size 16 ρ N, hP1, hD1, ⟨by rw [f1]; exact Nat.le_trans hS.1 (by omega), fun x h1 h2 => (f3 x (Nat.lt_of_lt_of_le h1 hS.1)).trans (hS.2.1 x h1 h2), fun l hl => hS.2.2 l (by simpa using hl)⟩, (kFr.rf S _).nw hq, ⟨⟨nwL'.mpr (Or.inr rfl), by rw [nwK', if_pos rfl]⟩, by rw [nwO', if_pos rfl], by rw [nwN', if_pos rfl], fun j hj => absurd hj (by omega), fun j _ => by rw [nwR', if_pos rfl]⟩, fun j hj => absurd hj (by omega)⟩
  | i + 1, hi => by
    obtain ⟨S1, hP1, hD1, hS1, hF, ⟨q1, q2, q3, q4, q5⟩, hr⟩ := kmu_w (N := N) (ρ := ρ) (σ := σ) (M := M) hP hD hS hA i (by omega)
    obtain ⟨f1, f2, f3⟩ := kmH_f H (cy 3) (cy 0) N M i
    have hn : H.size + 1 + i ∉ S1.L := fun h => absurd (kP_lt hP1 h) (by omega)
    have hset := kW_push (cy := cy) (S := S1) (κ := 13) (ρ := σ) (n := M) hn
    have hk : ∀ x, x < (kmH H (cy 3) (cy 0) N M i).size → ((kmH H (cy 3) (cy 0) N M i).push (kmI (cy 0) M))[x]? = (kmH H (cy 3) (cy 0) N M i)[x]? := fun x hx => by rw [Array.getElem?_push, if_neg (by omega)]
    have hP2 : va_P D vwCl (kW cy S1 ++ [(H.size + 1 + i, kcont cy 13 M (fun _ => 0) (fun _ => none))]) ((kmH H (cy 3) (cy 0) N M i).push (kmI (cy 0) M)) := by
      refine (hP1.kept (fun k x hx => hk x.1 (hP1 k x hx).lt)).app (fun k x hx => ?_)
      have hz : k < 1 := (List.getElem?_eq_some_iff.mp hx).1
      rw [show k = 0 by omega] at hx
      cases hx
      show ((kmH H (cy 3) (cy 0) N M i).push (kmI (cy 0) M))[H.size + 1 + i]? = some (vp_cell (cy 0) (M, .inl (fun _ => 0)))
      rw [Array.getElem?_push, if_pos (by omega)]
      rfl
    have hD2 : va_D A (kW cy S1 ++ [(H.size + 1 + i, kcont cy 13 M (fun _ => 0) (fun _ => none))]) := hD1.push hP1 f1.symm (hA _ (by have := hS1.1; omega))
    rw [hset] at hP2 hD2
    have hne : ¬ H.size = H.size + 1 + i := by omega
    have hL2 : H.size ∈ (S1.nw (H.size + 1 + i) 13 σ M).L := nwL'.mpr (Or.inl q1.1)
    have hK2 : (S1.nw (H.size + 1 + i) 13 σ M).K H.size = 16 := by rw [nwK', if_neg hne]; exact q1.2
    have hN2 : (S1.nw (H.size + 1 + i) 13 σ M).N H.size = N := by rw [nwN', if_neg hne]; exact q3
    obtain ⟨p0, hp0⟩ := kW_get (cy := cy) hL2
    have oq : ∀ x : Nat, x ≠ H.size → (kmH H (cy 3) (cy 0) N M (i + 1))[x]? = ((kmH H (cy 3) (cy 0) N M i).push (kmI (cy 0) M))[x]? := fun x hx => by
      show (((kmH H (cy 3) (cy 0) N M i).push (kmI (cy 0) M)).setIfInBounds H.size _)[x]? = _
      rw [Array.getElem?_setIfInBounds, if_neg (fun e => hx e.symm)]
    have hz9 : (kmH H (cy 3) (cy 0) N M (i + 1)).size = ((kmH H (cy 3) (cy 0) N M i).push (kmI (cy 0) M)).size := by
      show (((kmH H (cy 3) (cy 0) N M i).push (kmI (cy 0) M)).setIfInBounds H.size _).size = _
      rw [Array.size_setIfInBounds]
    have hcell : va_at D vwCl (H.size, .inl (cy 3, N, .inr (.inr (.inr (.inr (va_up ((S1.nw (H.size + 1 + i) 13 σ M).R H.size) i (some (H.size + 1 + i)))))))) (kmH H (cy 3) (cy 0) N M (i + 1)) := by
      show (kmH H (cy 3) (cy 0) N M (i + 1))[H.size]? = some (vp_cell _ _)
      rw [(kmH_f H (cy 3) (cy 0) N M (i + 1)).2.1, vp_cell_q]
      congr 1
      unfold kmO
      congr 1
      funext j
      unfold va_up
      by_cases e : j = i
      · subst e
        rw [if_pos (by omega), if_pos rfl]
        rfl
      · rw [if_neg e, nwR', if_neg hne]
        by_cases e2 : j < i
        · rw [if_pos (by omega), q4 j e2]
          rfl
        · rw [if_neg (by omega), q5 j (by omega)]
          rfl
    have hset2 : (kW cy (S1.nw (H.size + 1 + i) 13 σ M)).set p0 (H.size, .inl (cy 3, N, .inr (.inr (.inr (.inr (va_up ((S1.nw (H.size + 1 + i) 13 σ M).R H.size) i (some (H.size + 1 + i)))))))) = kW cy ((S1.nw (H.size + 1 + i) 13 σ M).uR H.size i (some (H.size + 1 + i))) := by
      refine kW_set hD2 hL2 hp0 rfl (fun b => ?_)
      unfold va_up kF
      by_cases hb : b = H.size
      · subst hb
        rw [if_pos rfl, uR_K, uR_N, hK2, hN2]
        have e9 : va_up ((S1.nw (H.size + 1 + i) 13 σ M).R H.size) i (some (H.size + 1 + i)) = ((S1.nw (H.size + 1 + i) 13 σ M).uR H.size i (some (H.size + 1 + i))).R H.size := funext fun j => by simp [va_up, uR_R]
        unfold va_up at e9
        rw [e9]
        rfl
      · rw [if_neg hb, uR_K, uR_N, (uR_o b hb).2, uR_I]
    have hP3 := hP2.set hD2 hp0 hcell oq
    have hD3 := hD2.set hp0 (e := .inl (cy 3, N, .inr (.inr (.inr (.inr (va_up ((S1.nw (H.size + 1 + i) 13 σ M).R H.size) i (some (H.size + 1 + i))))))))
    rw [hset2] at hP3 hD3
    have hS2 : va_S A H0 ((kmH H (cy 3) (cy 0) N M i).push (kmI (cy 0) M)) (locs ++ (List.range i).map (fun j => (⟨H.size, j⟩ : Loc))) := ⟨by rw [Array.size_push]; exact Nat.le_trans hS1.1 (by omega), fun x h1 h2 => (hk x (Nat.lt_of_lt_of_le h1 hS1.1)).trans (hS1.2.1 x h1 h2), hS1.2.2⟩
    have hS3 := hS2.put (k := i) hz9 oq (hA _ hS.1)
    rw [List.append_assoc] at hS3
    have hSL : H.size ∉ S.L := fun h => absurd (kP_lt hP h) (by omega)
    refine ⟨(S1.nw (H.size + 1 + i) 13 σ M).uR H.size i (some (H.size + 1 + i)), hP3, hD3, by rw [List.range_succ, List.map_append]; exact hS3, (hF.nw hn).uRf hSL, ⟨⟨hL2, hK2⟩, by rw [uR_O, nwO', if_neg hne]; exact q2, hN2, fun j hj => ?_, fun j hj => ?_⟩, fun j hj => ?_⟩
    · rw [uR_R]
      by_cases e : j = i
      · subst e; rw [if_pos ⟨rfl, rfl⟩]
      · rw [if_neg (fun z => e z.2), nwR', if_neg hne]; exact q4 j (by omega)
    · rw [uR_R, if_neg (fun z => by omega), nwR', if_neg hne]; exact q5 j (by omega)
    · by_cases e : j = i
      · subst e
        exact ⟨⟨by rw [uR_L]; exact nwL'.mpr (Or.inr rfl), by rw [uR_K, nwK', if_pos rfl]⟩, by rw [uR_O, nwO', if_pos rfl], by rw [uR_N, nwN', if_pos rfl]⟩
      · obtain ⟨g1, g2, g3⟩ := hr j (by omega)
        have hne2 : ¬ H.size + 1 + j = H.size + 1 + i := by omega
        exact ⟨⟨by rw [uR_L]; exact nwL'.mpr (Or.inl g1.1), by rw [uR_K, nwK', if_neg hne2]; exact g1.2⟩, by rw [uR_O, nwO', if_neg hne2]; exact g2, by rw [uR_N, nwN', if_neg hne2]; exact g3⟩
