/-! THE LAW's OWN METHODS: what they want beside the world: what throwing wants, the row of rows, the script -/
def kMA (cy : Nat → ClassId) (U : State) : Prop := ∃ kA : Class, U.vm.classes[cy 3]? = some kA ∧ kA.kind = .array (cy 0) (.array .int)
theorem kMA.to {cy : Nat → ClassId} {s U : State} (hv : s.vm.Alike U.vm) (h : kMA cy s) : kMA cy U := by
  obtain ⟨kA, h1, h2⟩ := h
  obtain ⟨k', hk', he⟩ := hv.2.2 _ _ h1
  exact ⟨k', hk', by rw [he]; exact h2⟩
/-- the script: L whole numbers at b, outside of all that may be written -/
abbrev kXs9 : Type := Nat × Nat × (Nat → Int32)
def kLw (Z : kXs9) (cy : Nat → ClassId) (A : Nat → Prop) (U : State) (H : Heap) : Prop := kThr A U H ∧ kMA cy U ∧ va_X Z.1 Z.2.1 Z.2.2 U H ∧ Z.1 < H.size ∧ ¬ A Z.1
theorem kLw.to {Z : kXs9} {cy : Nat → ClassId} {A A' : Nat → Prop} {s U : State} {H : Heap} {locs : List Loc} (hW : s.WarmedH U.vm) (hS : va_S A s.heap H locs) (hA : ∀ q, A' q → A q) (h : kLw Z cy A s s.heap) : kLw Z cy A' U H :=
  ⟨kThr.to hW hS hA h.1, h.2.1.to hW.alike, (h.2.2.1.moved hW.alike).kept (hS.2.1 _ h.2.2.2.1 h.2.2.2.2), Nat.lt_of_lt_of_le h.2.2.2.1 hS.1, fun z => h.2.2.2.2 (hA _ z)⟩
theorem kLw.vm {Z : kXs9} {cy : Nat → ClassId} {A : Nat → Prop} {s U : State} {H : Heap} (hv : s.vm = U.vm) (h : kLw Z cy A s H) : kLw Z cy A U H := by
  have ha : s.vm.Alike U.vm := hv ▸ Vm.Alike.refl s.vm
  exact ⟨kThr.vm hv h.1, h.2.1.to ha, h.2.2.1.moved ha, h.2.2.2.1, h.2.2.2.2⟩
def kPreL (Z : kXs9) (cy : Nat → ClassId) (D : va_G) (e0 : Nat × Nat) (sz : Nat) (av : List Value) (S : kS) : Array Value → State → Prop := va_Pc av (fun U => U.heap.size = sz ∧ kHold cy D e0 S U ∧ kLw Z cy (va_A (kW cy S) U.heap.size) U U.heap)
theorem kPreL_blind {Z : kXs9} {cy : Nat → ClassId} {D : va_G} {e0 : Nat × Nat} {sz : Nat} {av : List Value} {S : kS} : FrameBlind (kPreL Z cy D e0 sz av S) := by
  intro a U g mk q
  obtain ⟨q1, q2, q3, q4⟩ := q
  obtain ⟨r1, r2, r3⟩ := kPre_blind (cy := cy) (D := D) (e0 := e0) (sz := sz) (av := av) (S := S) a U g mk ⟨q1, q2, q3⟩
  exact ⟨r1, r2, r3, kLw.vm (s := U) (U := U.calling g mk a) rfl q4⟩
/-- a contract of one of the law's methods; w: the word of its code -/
def kML (l : Launch) (e0 : Nat × Nat) (Z : kXs9) (w : Cond) (y : MethodName) (rm : Room) (mc ms : Nat) (av : List Value) (S : kS) (Qg : (Nat → ClassId) → va_G → (Nat → Prop) → Array Value → State → Outcome → State → Prop) : Prop :=
  ∀ (cy : Nat → ClassId) (D : va_G) (sz : Nat), Met l y (w :: kT) rm (kPreL Z cy D e0 sz av S) (Qg cy D (va_A (kW cy S) sz)) mc ms (va_A (kW cy S) sz)
def kLC (Z : kXs9) (C : kC) : Prop := kLw Z C.cy C.A C.s C.s.heap
section KLA
variable {C : kC} {own : String} {cc : ByteArray} {nL : Nat} {rm : Room} {S : kS} {k n pc : Nat} {lv : List (Nat × Value)} {st : List Value} {y : MethodName} {cc' : ByteArray} {nL' idx mc ms n0 b : Nat} {ret : Option FieldType} {rm' : Room} {As rest st0 : List Value} {Qg : (Nat → ClassId) → va_G → (Nat → Prop) → Array Value → State → Outcome → State → Prop} {Z : kXs9}
theorem kMetL {l : Launch} {e0 : Nat × Nat} {av : List Value} (hy : plainName y.cls = true) (hlen : (lg_sl av).length ≤ nL)
    (walk : ∀ C : kC, C.e0 = e0 → C.l = l → kX C y.cls cc nL rm → kE C ret mc ms Qg → kLC Z C → C.meth.name = y.name → kG C nL S 0 0 0 (lv_args 0 av) []) : kML l e0 Z (Cond.code y cc nL ret) y rm mc ms av S Qg := by
  intro cy D sz
  refine Met.ofW (cc := cc) (maxL := nL) (ret := ret) hy rfl ?_
  intro p e s m args below meth c s₁ B hml hv
  obtain ⟨rfl, hsz, ⟨hP, hK, hD, hN, hE⟩, hT⟩ := hv
  subst hsz
  have hts := atoms_spec (ws := Cond.code y cc nL ret :: kT) B.pre
  have hown : s.vm.findClass y.cls = some m.cls := findClass_of_methodNamed B.named
  rw [lg_entry_eq]
  have hl := lv_entry av (n := nL) hlen
  exact walk (p, l, e, (headSpec (Cond.code y cc nL ret :: kT) rm).room, s, m, av.toArray, below, meth, c, MQ below (Qg cy D (va_A (kW cy S) s.heap.size)) av.toArray s mc ms (va_A (kW cy S) s.heap.size), va_A (kW cy S) s.heap.size, cy, D, e0) rfl rfl
    ⟨⟨B.exec, B.bytes, hml, hown, fun w hw => hts w (List.mem_cons_of_mem _ hw)⟩, hK, fun q h => Or.inr h, hN, rfl, hE⟩ ⟨B.returns, B.notSynchronized, rfl⟩ hT (name_of_methodNamed B.named B.method).1 s.heap [] _ hP (hD.self (sz := s.heap.size)) va_S.rf hl
theorem kMetLW {l : Launch} {e0 : Nat × Nat} {av : List Value} {hh : List (Nat × Nat × Nat × Nat)} (hy : plainName y.cls = true) (hlen : (lg_sl av).length ≤ nL)
    (walk : ∀ C : kC, C.e0 = e0 → C.l = l → kX C y.cls cc nL rm → kE C ret mc ms Qg → kLC Z C → C.c.exceptionTable.toList = tableOf hh → kG C nL S 0 0 0 (lv_args 0 av) []) : kML l e0 Z (Cond.codeWith y cc nL ret hh) y rm mc ms av S Qg := by
  intro cy D sz
  refine va_MetW (cc := cc) (maxL := nL) (ret := ret) (hh := hh) hy rfl ?_
  intro p e s m args below meth c s₁ B hml hv
  obtain ⟨rfl, hsz, ⟨hP, hK, hD, hN, hE⟩, hT⟩ := hv
  subst hsz
  have hts := atoms_spec (ws := Cond.codeWith y cc nL ret hh :: kT) B.pre
  have htab := vx_table (x := y) B (hts _ List.mem_cons_self)
  have hown : s.vm.findClass y.cls = some m.cls := findClass_of_methodNamed B.named
  rw [lg_entry_eq]
  have hl := lv_entry av (n := nL) hlen
  exact walk (p, l, e, (headSpec (Cond.codeWith y cc nL ret hh :: kT) rm).room, s, m, av.toArray, below, meth, c, MQ below (Qg cy D (va_A (kW cy S) s.heap.size)) av.toArray s mc ms (va_A (kW cy S) s.heap.size), va_A (kW cy S) s.heap.size, cy, D, e0) rfl rfl
    ⟨⟨B.exec, B.bytes, hml, hown, fun w hw => hts w (List.mem_cons_of_mem _ hw)⟩, hK, fun q h => Or.inr h, hN, rfl, hE⟩ ⟨B.returns, B.notSynchronized, rfl⟩ hT htab s.heap [] _ hP (hD.self (sz := s.heap.size)) va_S.rf hl
theorem kPreLAt (X : kX C own cc nL rm) (Y : kLC Z C) {H : Heap} {locs : List Loc} (hP : va_P C.D vwCl (kW C.cy S) H) (hD : va_D C.A (kW C.cy S)) (hS : va_S C.A C.s.heap H locs) (av : List Value) : ∀ U : State, U.heap = H → C.s.WarmedH U.vm → kPreL Z C.cy C.D C.e0 H.size av S av.toArray U := fun U hU hW => ⟨rfl, by rw [hU], kHoldAt X hP hD hS hU hW, by subst hU; exact kLw.to hW hS (kA_sub X hD hS) Y⟩
/-- a call of one of the law's methods -/
theorem k_runSL (X : kX C own cc nL rm) (Y : kLC Z C) (hG : GoodIn kT (wsS own idx y (Cond.code y cc' nL' ret :: kT))) (hd : y.cls = own ∧ y.cls ≠ "java/lang/invoke/MethodHandle" ∧ y.cls ≠ "java/lang/invoke/VarHandle" ∧ (parseMethodDescriptor y.desc).map (fun d => d.parameters.length) = some n0)
    (hM : kML C.l C.e0 Z (Cond.code y cc' nL' ret) y rm' mc ms As S Qg) (hn : As.length = n0) (hst : st0 = As.reverse ++ rest) (hrc : rm'.cells = mc) (hrs : rm'.slots = ms) (hR : rm'.frames + 1 ≤ rm.frames ∧ 8 + (nL' + 11) + rm'.locals ≤ rm.locals) (hW : (rest.map fun v => v.category).sum ≤ 8) (hf : k + mc ≤ rm.cells ∧ n + ms ≤ rm.slots) (hdg : decode cc pc = .ok (.invokestatic idx, 3)) : kRun C nL S k n pc lv st0 rest mc ms Qg := by
  intro H locs ls hP hD hS h
  have hRm : C.R = rm := X.2.2.2.2.1
  subst hRm
  exact ⟨_, va_runS (g := F0 C.m pc ls st0) X.1 (hM C.cy C.D H.size) (cwS n0 X.1.2.2.2.2 hG rfl hrc hrs hd hR) ⟨kPreL_blind, kPreLAt X Y hP hD hS _⟩ rfl hn h.1 hst (lv_room hW) hdg hf⟩
/-- a call of act() -/
theorem qcL_act : Cond.codeWith yL_act cL_act 6 none kHH ∈ kT := kT_in 840 (by decide +kernel) rfl
theorem k_runA (X : kX C RL cc nL rm) (Y : kLC Z C) (hM : kML C.l C.e0 Z (Cond.codeWith yL_act cL_act 6 none kHH) yL_act rm' mc ms As S Qg) (hst : st0 = As.reverse ++ rest) (hn : As.length = 3) (hrc : rm'.cells = mc) (hrs : rm'.slots = ms) (hR : rm'.frames + 1 ≤ rm.frames ∧ 8 + (6 + 11) + rm'.locals ≤ rm.locals) (hW : (rest.map fun v => v.category).sum ≤ 8) (hf : k + mc ≤ rm.cells ∧ n + ms ≤ rm.slots) (hdg : decode cc pc = .ok (.invokestatic 57, 3)) : kRun C nL S k n pc lv st0 rest mc ms Qg := by
  intro H locs ls hP hD hS h
  have hRm : C.R = rm := X.2.2.2.2.1
  subst hRm
  have hG : GoodIn kT (va_wsS RL 57 yL_act (Cond.codeWith yL_act cL_act 6 none kHH :: kT)) := by
    intro w hw
    rcases List.mem_append.mp hw with h1 | h1
    · simp only [List.mem_cons, List.not_mem_nil, or_false] at h1
      have h2 : w ∈ kT := by
        rcases h1 with rfl | rfl | rfl
        · exact qmL_57
        · exact qsL_act
        · exact qIL
      exact ⟨h2, good_of_word (List.mem_filter.mp h2).2⟩
    · have h2 : w ∈ kT := by
        rcases List.mem_cons.mp h1 with rfl | h3
        · exact qcL_act
        · exact h3
      exact ⟨h2, good_of_word (List.mem_filter.mp h2).2⟩
  exact ⟨_, vx_runSW (g := F0 C.m pc ls st0) X.1 (hM C.cy C.D H.size) (vx_cwSW 3 X.1.2.2.2.2 hG rfl hrc hrs (by decide +kernel) hR) ⟨kPreL_blind, kPreLAt X Y hP hD hS _⟩ rfl hn h.1 hst (lv_room hW) hdg hf⟩
/-! THE SCRIPT -/
theorem k_slen (X : kX C own cc nL rm) (Y : kLC Z C) (hdg : decode cc pc = .ok (.arraylength, 1)) (kk : kG C nL S k n (pc + 1) lv (.int (Int32.ofNat Z.2.1) :: st)) : kG C nL S k n pc lv (.ref Z.1 :: st) := fun H locs ls hP hD hS h => va_slen X.1.1 X.1.2.1 Y.2.2.1 Y.2.2.2.1 Y.2.2.2.2 hS hdg (kk H locs ls hP hD hS h)
theorem k_sld (X : kX C own cc nL rm) (Y : kLC Z C) {i : Int32} (hin : vp_in i Z.2.1) (hdg : decode cc pc = .ok (.iaload, 1)) (kk : ∀ v : Int32, kG C nL S k n (pc + 1) lv (.int v :: st)) : kG C nL S k n pc lv (.int i :: .ref Z.1 :: st) := fun H locs ls hP hD hS h => va_sld X.1.1 X.1.2.1 Y.2.2.1 Y.2.2.2.1 Y.2.2.2.2 hS hin hdg (kk _ H locs ls hP hD hS h)
/-! THE ROW OF ROWS -/
/-- q: N rows of M whole numbers, all of them new -/
def kMu (S S' : kS) (q N M ρ σ : Nat) : Prop := kFr S S' (fun _ => False) ∧ q ∉ S.L ∧ (S'.at q 16 ∧ S'.O q = ρ ∧ S'.N q = N ∧ ∀ j, j < N → S'.R q j = some (q + 1 + j)) ∧ ∀ j, j < N → S'.at (q + 1 + j) 13 ∧ S'.O (q + 1 + j) = σ ∧ S'.N (q + 1 + j) = M ∧ q + 1 + j ∉ S.L
theorem k_multi (X : kX C RL cc nL rm) (Y : kLC Z C) {N M : Nat} (ρ σ : Nat) (hN : N ≤ 1000) (hM : M ≤ 1000) (hk : k + (1 + N) ≤ rm.cells) (hn : n + (N + N * M) ≤ rm.slots) (hdg : decode cc pc = .ok (.multianewarray 15 2, 4)) (kk : ∀ (q : Nat) (S' : kS), kMu S S' q N M ρ σ → kG C nL S' (k + 1 + N) (n + N + N * M) (pc + 4) lv (.ref q :: st)) : kG C nL S k n pc lv (.int (nI M) :: .int (nI N) :: st) := by
  intro H locs ls hP hD hS h
  have hRm : C.R = rm := X.2.2.2.2.1
  subst hRm
  obtain ⟨kA, hkA, hkindA⟩ := Y.2.1
  have e3 : C.s.vm.findClass _ = some (C.cy 3) := (X.2.1.2 3 (C.cy 3, .array .int) rfl).2
  obtain ⟨-, kI, hkI, c0, hkindI⟩ := (X.2.1.2 0 (C.cy 0, .int) rfl).1 0 (fun _ => .null)
  obtain ⟨S', p1, p2, p3, p4, ⟨p5, p6, p7, p8, -⟩, p9⟩ := kmu_w (N := N) (M := M) (ρ := ρ) (σ := σ) hP hD hS X.2.2.1 N (Nat.le_refl _)
  refine kmv X.1.1 X.1.2.1 X.1.2.2.2.1 (X.1.2.2.2.2 _ qlL_15) e3 hkA hkindA hkI hkindI hN hM hk hn rfl hdg rfl ?_
  exact kk H.size S' ⟨p4, fun z => absurd (kP_lt hP z) (by omega), ⟨p5, p6, p7, p8⟩, fun j hj => ⟨(p9 j hj).1, (p9 j hj).2.1, (p9 j hj).2.2, fun z => absurd (kP_lt hP z) (by omega)⟩⟩ _ _ ls p1 p2 p3 h
end KLA
