section KCL
variable {C : kC} {own : String} {cc : ByteArray} {nL : Nat} {rm : Room} {S : kS} {k n pc : Nat} {lv : List (Nat × Value)} {st : List Value}
theorem kA_sub (X : kX C own cc nL rm) {H : Heap} {locs : List Loc} (hD : va_D C.A (kW C.cy S)) (hS : va_S C.A C.s.heap H locs) : ∀ q, va_A (kW C.cy S) H.size q → C.A q := fun q hq => hq.elim (fun ⟨k, e, h⟩ => hD.2 k _ h) (fun h => X.2.2.1 q (Nat.le_trans hS.1 h))
theorem kHoldAt (X : kX C own cc nL rm) {H : Heap} {locs : List Loc} (hP : va_P C.D vwCl (kW C.cy S) H) (hD : va_D C.A (kW C.cy S)) (hS : va_S C.A C.s.heap H locs) {U : State} (hU : U.heap = H) (hW : C.s.WarmedH U.vm) : kHold C.cy C.D C.e0 S U := by
  subst hU
  exact ⟨hP, va_K.moved hW.alike X.2.1, hD.weaken (fun _ _ _ _ => trivial), kNs.warm hW X.2.2.2.1, kE0.to hW.alike hS (kA_sub X hD hS) X.2.2.2.2.2⟩
/-- a call, run: the callee's end holds of the heap behind it -/
def kRun (C : kC) (nL : Nat) (S : kS) (k n pc : Nat) (lv : List (Nat × Value)) (st0 rest : List Value) (mc ms : Nat) (Qg : (Nat → ClassId) → va_G → (Nat → Prop) → Array Value → State → Outcome → State → Prop) : Prop :=
  ∀ (H : Heap) (locs : List Loc) (ls : Array Slot), va_P C.D vwCl (kW C.cy S) H → va_D C.A (kW C.cy S) → va_S C.A C.s.heap H locs → lv_has ls nL lv → ∃ a : Array Value, va_Run C.p C.l C.e C.R C.s C.m C.args C.below C.meth C.c H locs k n mc ms (F0 C.m pc ls st0) rest (Qg C.cy C.D (va_A (kW C.cy S) H.size) a) (va_A (kW C.cy S) H.size)
variable {y : MethodName} {cc' : ByteArray} {nL' idx mc ms n0 b : Nat} {ret : Option FieldType} {rm' : Room} {As rest st0 : List Value} {Qg : (Nat → ClassId) → va_G → (Nat → Prop) → Array Value → State → Outcome → State → Prop}
theorem kPreAt (X : kX C own cc nL rm) {H : Heap} {locs : List Loc} (hP : va_P C.D vwCl (kW C.cy S) H) (hD : va_D C.A (kW C.cy S)) (hS : va_S C.A C.s.heap H locs) (av : List Value) : ∀ U : State, U.heap = H → C.s.WarmedH U.vm → kPre C.cy C.D C.e0 H.size av S av.toArray U := fun U hU hW => ⟨rfl, by rw [hU], kHoldAt X hP hD hS hU hW⟩
theorem kRcv (X : kX C own cc nL rm) {H : Heap} (hP : va_P C.D vwCl (kW C.cy S) H) {κ NN : Nat} {Cn : String} {T : u_T} (hL : b ∈ S.L) (hK : S.K b = κ) (hcl : vwCl[kci κ]? = some (Cn, T, NN)) (hsh : ∀ cy m i r, kcont cy κ m i r = .inr (kci κ, kfs κ i r)) : ∃ cell : Cell, H[b]? = some cell ∧ cell.vm.isStatics = false ∧ C.s.vm.findClass Cn = some cell.cls := by
  obtain ⟨q0, hq⟩ := kW_get (cy := C.cy) hL
  have he : (kW C.cy S)[q0]? = some (b, .inr (kci κ, kfs κ (S.I b) (S.R b))) := by rw [hq]; unfold kF; rw [hK, hsh]
  exact va_recv X.2.1 hP hcl he
theorem k_runV (X : kX C own cc nL rm) {κ NN : Nat} {Cn : String} {T : u_T} (hcl : vwCl[kci κ]? = some (Cn, T, NN)) (hsh : ∀ cy m i r, kcont cy κ m i r = .inr (kci κ, kfs κ i r)) (hG : GoodIn kT (wsV own idx Cn y (Cond.code y cc' nL' ret :: kT))) (hd : y.cls = Cn ∧ y.cls ≠ "java/lang/invoke/MethodHandle" ∧ y.cls ≠ "java/lang/invoke/VarHandle" ∧ (parseMethodDescriptor y.desc).map (fun d => d.parameters.length) = some n0)
    (hL : b ∈ S.L) (hK : S.K b = κ) (hM : kM C.l C.e0 y cc' nL' ret rm' mc ms (.ref b :: As) S Qg) (hn : As.length = n0) (hst : st0 = As.reverse ++ .ref b :: rest) (hrc : rm'.cells = mc) (hrs : rm'.slots = ms) (hR : rm'.frames + 1 ≤ rm.frames ∧ 8 + (nL' + 11) + rm'.locals ≤ rm.locals) (hW : (rest.map fun v => v.category).sum ≤ 8) (hf : k + mc ≤ rm.cells ∧ n + ms ≤ rm.slots) (hdg : decode cc pc = .ok (.invokevirtual idx, 3)) : kRun C nL S k n pc lv st0 rest mc ms Qg := by
  intro H locs ls hP hD hS h
  have hRm : C.R = rm := X.2.2.2.2.1
  subst hRm
  exact ⟨_, va_runV (g := F0 C.m pc ls st0) X.1 (hM C.cy C.D H.size) (cwV n0 X.1.2.2.2.2 hG rfl hrc hrs hd hR) ⟨kPre_blind, kRcv X hP hL hK hcl hsh, kPreAt X hP hD hS _⟩ rfl hn h.1 hst (lv_room hW) hdg hf⟩
theorem k_runS (X : kX C own cc nL rm) (hG : GoodIn kT (wsS own idx y (Cond.code y cc' nL' ret :: kT))) (hd : y.cls = own ∧ y.cls ≠ "java/lang/invoke/MethodHandle" ∧ y.cls ≠ "java/lang/invoke/VarHandle" ∧ (parseMethodDescriptor y.desc).map (fun d => d.parameters.length) = some n0)
    (hM : kM C.l C.e0 y cc' nL' ret rm' mc ms As S Qg) (hn : As.length = n0) (hst : st0 = As.reverse ++ rest) (hrc : rm'.cells = mc) (hrs : rm'.slots = ms) (hR : rm'.frames + 1 ≤ rm.frames ∧ 8 + (nL' + 11) + rm'.locals ≤ rm.locals) (hW : (rest.map fun v => v.category).sum ≤ 8) (hf : k + mc ≤ rm.cells ∧ n + ms ≤ rm.slots) (hdg : decode cc pc = .ok (.invokestatic idx, 3)) : kRun C nL S k n pc lv st0 rest mc ms Qg := by
  intro H locs ls hP hD hS h
  have hRm : C.R = rm := X.2.2.2.2.1
  subst hRm
  exact ⟨_, va_runS (g := F0 C.m pc ls st0) X.1 (hM C.cy C.D H.size) (cwS n0 X.1.2.2.2.2 hG rfl hrc hrs hd hR) ⟨kPre_blind, kPreAt X hP hD hS _⟩ rfl hn h.1 hst (lv_room hW) hdg hf⟩
theorem k_runO (X : kX C own cc nL rm) (hl : Cond.methodLink own idx y ∈ kT) (hsta : Cond.static y ∈ kT) (hini : Cond.initialized y.cls ∈ kT) (hc : Cond.code y cc' nL' ret ∈ kT) (hd : y.cls ≠ "java/lang/invoke/MethodHandle" ∧ y.cls ≠ "java/lang/invoke/VarHandle" ∧ (parseMethodDescriptor y.desc).map (fun d => d.parameters.length) = some n0)
    (hM : kM C.l C.e0 y cc' nL' ret rm' mc ms As S Qg) (hn : As.length = n0) (hst : st0 = As.reverse ++ rest) (hrc : rm'.cells = mc) (hrs : rm'.slots = ms) (hR : rm'.frames + 1 ≤ rm.frames ∧ 8 + (nL' + 11) + rm'.locals ≤ rm.locals) (hW : (rest.map fun v => v.category).sum ≤ 8) (hf : k + mc ≤ rm.cells ∧ n + ms ≤ rm.slots) (hdg : decode cc pc = .ok (.invokestatic idx, 3)) : kRun C nL S k n pc lv st0 rest mc ms Qg := by
  intro H locs ls hP hD hS h
  have hRm : C.R = rm := X.2.2.2.2.1
  subst hRm
  exact ⟨_, va_runS (g := F0 C.m pc ls st0) X.1 (hM C.cy C.D H.size) ⟨callB_of n0 X.1.2.2.2.2 (kGI hc) rfl hrc hrs (X.1.2.2.2.2 _ hini) (X.1.2.2.2.2 _ hl) hd hR, X.1.2.2.2.2 _ hsta⟩ ⟨kPre_blind, kPreAt X hP hD hS _⟩ rfl hn h.1 hst (lv_room hW) hdg hf⟩
theorem k_runSN (X : kX C own cc nL rm) {host : String} (hl : Cond.methodLinkNest own idx y host ∈ kNl) (hsta : Cond.static y ∈ kT) (hini : Cond.initialized y.cls ∈ kT) (hc : Cond.code y cc' nL' ret ∈ kT) (hd : y.cls ≠ "java/lang/invoke/MethodHandle" ∧ y.cls ≠ "java/lang/invoke/VarHandle" ∧ (parseMethodDescriptor y.desc).map (fun d => d.parameters.length) = some n0)
    (hM : kM C.l C.e0 y cc' nL' ret rm' mc ms As S Qg) (hn : As.length = n0) (hst : st0 = As.reverse ++ rest) (hrc : rm'.cells = mc) (hrs : rm'.slots = ms) (hR : rm'.frames + 1 ≤ rm.frames ∧ 8 + (nL' + 11) + rm'.locals ≤ rm.locals) (hW : (rest.map fun v => v.category).sum ≤ 8) (hf : k + mc ≤ rm.cells ∧ n + ms ≤ rm.slots) (hdg : decode cc pc = .ok (.invokestatic idx, 3)) : kRun C nL S k n pc lv st0 rest mc ms Qg := by
  intro H locs ls hP hD hS h
  have hRm : C.R = rm := X.2.2.2.2.1
  subst hRm
  exact ⟨_, va_runSN (g := F0 C.m pc ls st0) X.1 (hM C.cy C.D H.size) ⟨va_cnB n0 X.1.2.2.2.2 (kGI hc) rfl hrc hrs (X.2.2.2.1.1 _ hl) (X.1.2.2.2.2 _ hini) hd hR, X.1.2.2.2.2 _ hsta, trivial⟩ ⟨kPre_blind, kPreAt X hP hD hS _⟩ rfl hn h.1 hst (lv_room hW) hdg hf⟩
theorem k_runI (X : kX C own cc nL rm) (hl : Cond.methodLink own idx y ∈ kT) (hin : Cond.instanceMethod y ∈ kT) (hini : Cond.initialized y.cls ∈ kT) (hc : Cond.code y cc' nL' none ∈ kT) (hy1 : y.name = "<init>") (hd : y.cls ≠ "java/lang/invoke/MethodHandle" ∧ y.cls ≠ "java/lang/invoke/VarHandle" ∧ (parseMethodDescriptor y.desc).map (fun d => d.parameters.length) = some n0)
    (hM : kM C.l C.e0 y cc' nL' none rm' mc ms (.ref b :: As) S Qg) (hn : As.length = n0) (hst : st0 = As.reverse ++ .ref b :: rest) (hrc : rm'.cells = mc) (hrs : rm'.slots = ms) (hR : rm'.frames + 1 ≤ rm.frames ∧ 8 + (nL' + 11) + rm'.locals ≤ rm.locals) (hW : (rest.map fun v => v.category).sum ≤ 8) (hf : k + mc ≤ rm.cells ∧ n + ms ≤ rm.slots) (hdg : decode cc pc = .ok (.invokespecial idx, 3)) : kRun C nL S k n pc lv st0 rest mc ms Qg := by
  intro H locs ls hP hD hS h
  have hRm : C.R = rm := X.2.2.2.2.1
  subst hRm
  exact ⟨_, va_runI (g := F0 C.m pc ls st0) X.1 (hM C.cy C.D H.size) (cwI n0 X.1.2.2.2.2 (kGI hc) rfl hrc hrs (X.1.2.2.2.2 _ hini) (X.1.2.2.2.2 _ hl) (X.1.2.2.2.2 _ hin) hy1 hd hR) ⟨kPre_blind, kPreAt X hP hD hS _⟩ rfl hn h.1 hst (lv_room hW) hdg hf⟩
theorem k_runIN (X : kX C own cc nL rm) {host : String} (hl : Cond.methodLinkNest own idx y host ∈ kNl) (hin : Cond.instanceMethod y ∈ kT) (hini : Cond.initialized y.cls ∈ kT) (hc : Cond.code y cc' nL' none ∈ kT) (hy1 : y.name = "<init>") (hd : y.cls ≠ "java/lang/invoke/MethodHandle" ∧ y.cls ≠ "java/lang/invoke/VarHandle" ∧ (parseMethodDescriptor y.desc).map (fun d => d.parameters.length) = some n0)
    (hM : kM C.l C.e0 y cc' nL' none rm' mc ms (.ref b :: As) S Qg) (hn : As.length = n0) (hst : st0 = As.reverse ++ .ref b :: rest) (hrc : rm'.cells = mc) (hrs : rm'.slots = ms) (hR : rm'.frames + 1 ≤ rm.frames ∧ 8 + (nL' + 11) + rm'.locals ≤ rm.locals) (hW : (rest.map fun v => v.category).sum ≤ 8) (hf : k + mc ≤ rm.cells ∧ n + ms ≤ rm.slots) (hdg : decode cc pc = .ok (.invokespecial idx, 3)) : kRun C nL S k n pc lv st0 rest mc ms Qg := by
  intro H locs ls hP hD hS h
  have hRm : C.R = rm := X.2.2.2.2.1
  subst hRm
  exact ⟨_, va_runIN (g := F0 C.m pc ls st0) X.1 (hM C.cy C.D H.size) ⟨va_cnB n0 X.1.2.2.2.2 (kGI hc) rfl hrc hrs (X.2.2.2.1.1 _ hl) (X.1.2.2.2.2 _ hini) hd hR, hy1, X.1.2.2.2.2 _ hin⟩ ⟨kPre_blind, kPreAt X hP hD hS _⟩ rfl hn h.1 hst (lv_room hW) hdg hf⟩
theorem k_gotI (X : kX C own cc nL rm) {post : Int32 → kS → Prop} (hr : kRun C nL S k n pc lv st0 rest mc ms (kQi post)) (kk : ∀ (v : Int32) (S' : kS), post v S' → kG C nL S' (k + mc) (n + ms) (pc + 3) lv (.int v :: rest)) : kG C nL S k n pc lv st0 := by
  intro H locs ls hP hD hS h
  obtain ⟨a, hr⟩ := hr H locs ls hP hD hS h
  have hA := kA_sub X hD hS
  exact va_calli hr hS (fun q _ h => hA q h) hA (fun v S' t H1 locs1 ht hvm hp hB hz hk hS1 => kk v S' hp H1 locs1 ls (ht ▸ hB.1) (hB.2.weaken (fun _ _ _ h => hA _ h)) hS1 h)
theorem k_gotL (X : kX C own cc nL rm) {post : Int64 → kS → Prop} (hr : kRun C nL S k n pc lv st0 rest mc ms (kQl post)) (kk : ∀ (v : Int64) (S' : kS), post v S' → kG C nL S' (k + mc) (n + ms) (pc + 3) lv (.long v :: rest)) : kG C nL S k n pc lv st0 := by
  intro H locs ls hP hD hS h
  obtain ⟨a, hr⟩ := hr H locs ls hP hD hS h
  have hA := kA_sub X hD hS
  exact va_calll hr hS (fun q _ h => hA q h) hA (fun v S' t H1 locs1 ht hvm hp hB hz hk hS1 => kk v S' hp H1 locs1 ls (ht ▸ hB.1) (hB.2.weaken (fun _ _ _ h => hA _ h)) hS1 h)
theorem k_gotQ (X : kX C own cc nL rm) {post : Option Nat → kS → Prop} (hr : kRun C nL S k n pc lv st0 rest mc ms (kQq post)) (kk : ∀ (v : Option Nat) (S' : kS), post v S' → kG C nL S' (k + mc) (n + ms) (pc + 3) lv (va_rf v :: rest)) : kG C nL S k n pc lv st0 := by
  intro H locs ls hP hD hS h
  obtain ⟨a, hr⟩ := hr H locs ls hP hD hS h
  have hA := kA_sub X hD hS
  exact va_callq hr hS (fun q _ h => hA q h) hA (fun v S' t H1 locs1 ht hvm hp hB hz hk hS1 => kk v S' hp H1 locs1 ls (ht ▸ hB.1) (hB.2.weaken (fun _ _ _ h => hA _ h)) hS1 h)
theorem k_gotV (X : kX C own cc nL rm) {post : kS → Prop} (hr : kRun C nL S k n pc lv st0 rest mc ms (kQv post)) (kk : ∀ (S' : kS), post S' → kG C nL S' (k + mc) (n + ms) (pc + 3) lv rest) : kG C nL S k n pc lv st0 := by
  intro H locs ls hP hD hS h
  obtain ⟨a, hr⟩ := hr H locs ls hP hD hS h
  have hA := kA_sub X hD hS
  exact va_callv hr hS (fun q _ h => hA q h) hA (fun S' t H1 locs1 ht hvm hp hB hz hk hS1 => kk S' hp H1 locs1 ls (ht ▸ hB.1) (hB.2.weaken (fun _ _ _ h => hA _ h)) hS1 h)
/-- a method's end -/
def kE (C : kC) (ret : Option FieldType) (mc ms : Nat) (Qg : (Nat → ClassId) → va_G → (Nat → Prop) → Array Value → State → Outcome → State → Prop) : Prop := C.meth.sig.returnType = ret ∧ C.meth.locks = false ∧ C.Q = MQ C.below (Qg C.cy C.D C.A) C.args C.s mc ms C.A
theorem kMetE {l : Launch} {e0 : Nat × Nat} {av : List Value} (hy : plainName y.cls = true) (hlen : (lg_sl av).length ≤ nL)
    (walk : ∀ C : kC, C.e0 = e0 → C.l = l → kX C y.cls cc nL rm → kE C ret mc ms Qg → C.meth.name = y.name → kG C nL S 0 0 0 (lv_args 0 av) []) : kM l e0 y cc nL ret rm mc ms av S Qg := by
  intro cy D sz
  refine Met.ofW (cc := cc) (maxL := nL) (ret := ret) hy rfl ?_
  intro p e s m args below meth c s₁ B hml hv
  obtain ⟨rfl, hsz, hP, hK, hD, hN, hE⟩ := hv
  subst hsz
  have hts := atoms_spec (ws := Cond.code y cc nL ret :: kT) B.pre
  have hown : s.vm.findClass y.cls = some m.cls := findClass_of_methodNamed B.named
  rw [lg_entry_eq]
  have hl := lv_entry av (n := nL) hlen
  exact walk (p, l, e, (headSpec (Cond.code y cc nL ret :: kT) rm).room, s, m, av.toArray, below, meth, c, MQ below (Qg cy D (va_A (kW cy S) s.heap.size)) av.toArray s mc ms (va_A (kW cy S) s.heap.size), va_A (kW cy S) s.heap.size, cy, D, e0) rfl rfl
    ⟨⟨B.exec, B.bytes, hml, hown, fun w hw => hts w (List.mem_cons_of_mem _ hw)⟩, hK, fun q h => Or.inr h, hN, rfl, hE⟩ ⟨B.returns, B.notSynchronized, rfl⟩ (name_of_methodNamed B.named B.method).1 s.heap [] _ hP (hD.self (sz := s.heap.size)) va_S.rf hl
theorem k_iret (X : kX C own cc nL rm) {post : Int32 → kS → Prop} (E : kE C (some .int) mc ms (kQi post)) {v : Int32} (hdg : decode cc pc = .ok (.ireturn, 1)) (hk : k ≤ mc) (hn : n ≤ ms) (hp : post v S) : kG C nL S k n pc lv [.int v] := by
  intro H locs ls hP hD hS h
  rw [E.2.2]
  refine W.widen hk hn ?_
  exact W.iret X.1.1 X.1.2.1 E.1 (fun t ht hW => ⟨⟨v, S, rfl, hp, by unfold kB; rw [ht]; exact ⟨hP, hD⟩⟩, hS.F ht⟩) hS.2.2 hdg E.2.1
theorem k_zret (X : kX C own cc nL rm) {post : Int32 → kS → Prop} (E : kE C (some .boolean) mc ms (kQi post)) {v : Int32} (hz : v = 0 ∨ v = 1) (hdg : decode cc pc = .ok (.ireturn, 1)) (hk : k ≤ mc) (hn : n ≤ ms) (hp : post v S) : kG C nL S k n pc lv [.int v] := by
  intro H locs ls hP hD hS h
  rw [E.2.2]
  refine W.widen hk hn ?_
  exact W.zret X.1.1 X.1.2.1 E.1 (by rcases hz with rfl | rfl <;> rfl) (fun t ht hW => ⟨⟨v, S, rfl, hp, by unfold kB; rw [ht]; exact ⟨hP, hD⟩⟩, hS.F ht⟩) hS.2.2 hdg E.2.1
theorem k_vret (X : kX C own cc nL rm) {post : kS → Prop} (E : kE C none mc ms (kQv post)) (hdg : decode cc pc = .ok (.return_, 1)) (hk : k ≤ mc) (hn : n ≤ ms) (hp : post S) : kG C nL S k n pc lv [] := by
  intro H locs ls hP hD hS h
  rw [E.2.2]
  refine W.widen hk hn ?_
  exact W.vret X.1.1 X.1.2.1 E.1 (fun t ht hW => ⟨⟨S, rfl, hp, by unfold kB; rw [ht]; exact ⟨hP, hD⟩⟩, hS.F ht⟩) hS.2.2 hdg E.2.1
theorem k_aret (X : kX C own cc nL rm) {rt : FieldType} {post : Option Nat → kS → Prop} (E : kE C (some rt) mc ms (kQq post)) (hrt : (∃ n, rt = .object n) ∨ ∃ t, rt = .array t) {r : Option Nat} (hdg : decode cc pc = .ok (.areturn, 1)) (hk : k ≤ mc) (hn : n ≤ ms) (hp : post r S) : kG C nL S k n pc lv [va_rf r] := by
  intro H locs ls hP hD hS h
  rw [E.2.2]
  refine W.widen hk hn ?_
  exact W.aret X.1.1 X.1.2.1 E.1 hrt (by cases r with | none => exact Or.inl rfl | some a => exact Or.inr ⟨a, rfl⟩) (fun t ht hW => ⟨⟨r, S, rfl, hp, by unfold kB; rw [ht]; exact ⟨hP, hD⟩⟩, hS.F ht⟩) hS.2.2 hdg E.2.1
theorem k_lret (X : kX C own cc nL rm) {post : Int64 → kS → Prop} (E : kE C (some .long) mc ms (kQl post)) {v : Int64} (hdg : decode cc pc = .ok (.lreturn, 1)) (hk : k ≤ mc) (hn : n ≤ ms) (hp : post v S) : kG C nL S k n pc lv [.long v] := by
  intro H locs ls hP hD hS h
  rw [E.2.2]
  refine W.widen hk hn ?_
  exact W.lret X.1.1 X.1.2.1 E.1 (fun t ht hW => ⟨⟨v, S, rfl, hp, by unfold kB; rw [ht]; exact ⟨hP, hD⟩⟩, hS.F ht⟩) hS.2.2 hdg E.2.1
/-! CASTS, NEW -/
theorem k_cast (X : kX C own cc nL rm) {κ NN a : Nat} {Cn : String} {T : u_T} (hcl : vwCl[kci κ]? = some (Cn, T, NN)) (hsh : ∀ cy m i r, kcont cy κ m i r = .inr (kci κ, kfs κ i r)) (hw : Cond.classLink own idx Cn ∈ kT) (hL : a ∈ S.L) (hK : S.K a = κ) (hdg : decode cc pc = .ok (.checkcast idx, 3)) (kk : kG C nL S k n (pc + 3) lv (.ref a :: st)) : kG C nL S k n pc lv (.ref a :: st) := by
  intro H locs ls hP hD hS h
  obtain ⟨q0, hq⟩ := kW_get (cy := C.cy) hL
  have he : (kW C.cy S)[q0]? = some (a, .inr (kci κ, kfs κ (S.I a) (S.R a))) := by rw [hq]; unfold kF; rw [hK, hsh]
  exact va_castS X.1.1 X.1.2.1 X.1.2.2.2.1 (X.1.2.2.2.2 _ hw) (X.2.1.1 (kci κ) _ hcl).2 (va_recv X.2.1 hP hcl he) hdg (kk H locs ls hP hD hS h)
theorem k_castN (X : kX C own cc nL rm) (hdg : decode cc pc = .ok (.checkcast idx, 3)) (kk : kG C nL S k n (pc + 3) lv (.null :: st)) : kG C nL S k n pc lv (.null :: st) := fun H locs ls hP hD hS h => lv_castN X.1.1 X.1.2.1 hdg (kk H locs ls hP hD hS h)
theorem k_new (X : kX C own cc nL rm) {κ NN : Nat} {Cn : String} {T : u_T} (hin : ∀ w ∈ u_ws Cn T NN, w ∈ kT) (ty0 : Nat → FieldType) (hty : ∀ k, k < NN → parseFieldDescriptor (T k).2.2.1 = some (ty0 k)) (hcl : vwCl[kci κ]? = some (Cn, T, NN)) (hsh : ∀ cy m i r, kcont cy κ m i r = .inr (kci κ, kfs κ i r)) (hw : Cond.classLink own idx Cn ∈ kT) (hw2 : Cond.instantiable Cn NN ∈ kT) (hw3 : Cond.initialized Cn ∈ kT) (hfs : ∀ j, j < NN → defaultValue (ty0 j) = vp_V (kfs κ (fun _ => 0) (fun _ => none)) j) (ρ : Nat) (hk : k + 1 ≤ rm.cells) (hn : n + NN ≤ rm.slots) (hdg : decode cc pc = .ok (.new idx, 3)) (kk : ∀ q, q ∉ S.L → kG C nL (S.nw q κ ρ 0) (k + 1) (n + NN) (pc + 3) lv (.ref q :: st)) : kG C nL S k n pc lv st := by
  intro H locs ls hP hD hS h
  have hRm : C.R = rm := X.2.2.2.2.1
  subst hRm
  refine va_new X.1.1 X.1.2.1 X.1.2.2.2.2 hin ty0 hty X.1.2.2.2.1 (X.1.2.2.2.2 _ hw) (X.1.2.2.2.2 _ hw2) (X.1.2.2.2.2 _ hw3) X.2.1 hP hD hS X.2.2.1 hcl (ci := kci κ) (fs := kfs κ (fun _ => 0) (fun _ => none)) hfs hk hn hdg (fun q H1 hP1 hD1 hS1 => ?_)
  have hq : q ∉ S.L := fun hin => by
    obtain ⟨q0, hq0⟩ := kW_get (cy := C.cy) hin
    have h1 := hD1.1 q0 (kW C.cy S).length (q, kF C.cy S q) (q, .inr (kci κ, kfs κ (fun _ => 0) (fun _ => none))) (by rw [List.getElem?_append_left (List.getElem?_eq_some_iff.mp hq0).1]; exact hq0) (by simp) rfl
    exact absurd (List.getElem?_eq_some_iff.mp hq0).1 (by omega)
  have hset : kW C.cy S ++ [(q, .inr (kci κ, kfs κ (fun _ => 0) (fun _ => none)))] = kW C.cy (S.nw q κ ρ 0) := by
    unfold kW
    rw [va_pl_push hq]
    refine va_pl_congr (fun b => ?_)
    unfold kF va_up
    rw [nw_K, nw_N, nw_I, nw_R]
    unfold va_up
    by_cases hb : b = q
    · rw [if_pos hb, if_pos hb, if_pos hb, if_pos hb, if_pos hb, hsh]
    · rw [if_neg hb, if_neg hb, if_neg hb, if_neg hb, if_neg hb]
  rw [hset] at hP1 hD1
  exact kk q hq H1 locs ls hP1 hD1 hS1 h
theorem k_objInit (X : kX C own cc nL rm) {a : Nat} (hw : Cond.methodLink own idx objectInit ∈ kT) (hf : 1 ≤ rm.frames) (hl : 2 * 0 + (st.map fun v => v.category).sum + 12 ≤ rm.locals) (hdg : decode cc pc = .ok (.invokespecial idx, 3)) (kk : kG C nL S k n (pc + 3) lv st) : kG C nL S k n pc lv (.ref a :: st) := by
  intro H locs ls hP hD hS h
  have hRm : C.R = rm := X.2.2.2.2.1
  subst hRm
  refine W.objInit X.1.1 X.1.2.1 X.1.2.2.2.1 (X.1.2.2.2.2 _ hw) (X.1.2.2.2.2 _ qiObj) (X.1.2.2.2.2 _ qcObj) rfl (by rw [X.1.2.2.1]; exact h.1) rfl hdg hf ?_ ?_
  · exact hl
  · exact kk H locs ls hP hD hS h
theorem va_cat (r : Option Nat) : (va_rf r).category = 1 := by cases r <;> rfl
end KCL
