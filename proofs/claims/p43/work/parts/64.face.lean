/-! METHODS THAT MAY THROW, over kG -/
def kDq : Cond → Bool
  | .declares _ => true
  | _ => false
def kDl : List Cond := lw_tbl.filter kDq
def kNM : List String := ["java/lang/RuntimeException", "java/lang/Exception"]
def xIOO : String := "java/lang/IndexOutOfBoundsException"
def xIAE : String := "java/lang/IllegalArgumentException"
def xISE : String := "java/lang/IllegalStateException"
def kXs (E : String) : Prop := E = xIOO ∨ E = xIAE ∨ E = xISE
/-- what a throw needs of the machine's own statics -/
def kThr (A : Nat → Prop) (U : State) (H : Heap) : Prop := (∀ w ∈ kDl, va_Nw w U) ∧ vx_Zq Bundle.tN "UNASSIGNED_STACK" Bundle.steD A U H ∧ vx_Zq Bundle.tN "SUPPRESSED_SENTINEL" Bundle.listD A U H ∧ va_Nc xIAE xIOO U ∧ va_Nc xISE xIOO U ∧ va_Nc xISE xIAE U
theorem kThr.to {A A' : Nat → Prop} {s U : State} {H : Heap} {locs : List Loc} (hW : s.WarmedH U.vm) (hS : va_S A s.heap H locs) (hA : ∀ q, A' q → A q) (h : kThr A s s.heap) : kThr A' U H := by
  obtain ⟨h1, h2, h3, h4, h5, h6⟩ := h
  refine ⟨fun w hw => ?_, ((h2.moved hW.alike).kept (fun a ha hn => hS.2.1 a ha hn)).narrow hA, ((h3.moved hW.alike).kept (fun a ha hn => hS.2.1 a ha hn)).narrow hA, h4.moved hW.alike, h5.moved hW.alike, h6.moved hW.alike⟩
  have h9 := h1 w hw
  have hq := (List.mem_filter.mp hw).2
  cases w <;> first | exact va_Nw.warmD hW h9 | (simp [kDq] at hq)
theorem kThr.vm {A : Nat → Prop} {s U : State} {H : Heap} (hv : s.vm = U.vm) (h : kThr A s H) : kThr A U H := by
  have ha : s.vm.Alike U.vm := hv ▸ Vm.Alike.refl s.vm
  obtain ⟨h1, h2, h3, h4, h5, h6⟩ := h
  refine ⟨fun w hw => ?_, h2.moved ha, h3.moved ha, h4.moved ha, h5.moved ha, h6.moved ha⟩
  have h9 := h1 w hw
  have hq := (List.mem_filter.mp hw).2
  cases w <;> first | exact va_Nw.same rfl hv h9 | (simp [kDq] at hq)
def kPreX (cy : Nat → ClassId) (D : va_G) (e0 : Nat × Nat) (sz : Nat) (av : List Value) (S : kS) : Array Value → State → Prop := va_Pc av (fun U => U.heap.size = sz ∧ kHold cy D e0 S U ∧ kThr (va_A (kW cy S) U.heap.size) U U.heap)
theorem kPreX_blind {cy : Nat → ClassId} {D : va_G} {e0 : Nat × Nat} {sz : Nat} {av : List Value} {S : kS} : FrameBlind (kPreX cy D e0 sz av S) := by
  intro a U g mk q
  obtain ⟨q1, q2, q3, q4⟩ := q
  obtain ⟨r1, r2, r3⟩ := kPre_blind (cy := cy) (D := D) (e0 := e0) (sz := sz) (av := av) (S := S) a U g mk ⟨q1, q2, q3⟩
  exact ⟨r1, r2, r3, kThr.vm (s := U) (U := U.calling g mk a) rfl q4⟩
def kXC (px : kS → Prop) (cy : Nat → ClassId) (D : va_G) (A : Nat → Prop) : String → State → State → Prop := vx_X px (fun E u t => kXs E ∧ kB cy D A u t) A
/-- a contract of a method that returns with Qg or throws one of the three with px -/
def kMX (l : Launch) (e0 : Nat × Nat) (y : MethodName) (cc : ByteArray) (nL : Nat) (ret : Option FieldType) (rm : Room) (mc ms : Nat) (av : List Value) (S : kS) (Qg : (Nat → ClassId) → va_G → (Nat → Prop) → Array Value → State → Outcome → State → Prop) (px : kS → Prop) : Prop :=
  ∀ (cy : Nat → ClassId) (D : va_G) (sz : Nat), vx_Met l y (Cond.code y cc nL ret :: kT) rm (kPreX cy D e0 sz av S) (Qg cy D (va_A (kW cy S) sz)) (kXC px cy D (va_A (kW cy S) sz)) mc ms (va_A (kW cy S) sz)
def kXX (C : kC) : Prop := kThr C.A C.s C.s.heap ∧ C.l.stackTraces = false ∧ ∀ x ∈ C.c.exceptionTable.toList, False
def kEX (C : kC) (ret : Option FieldType) (mc ms : Nat) (Qg : (Nat → ClassId) → va_G → (Nat → Prop) → Array Value → State → Outcome → State → Prop) (px : kS → Prop) : Prop := C.meth.sig.returnType = ret ∧ C.meth.locks = false ∧ C.Q = vx_MQ C.below (Qg C.cy C.D C.A) (kXC px C.cy C.D C.A) C.args C.s mc ms C.A
section KXR
variable {C : kC} {own : String} {cc : ByteArray} {nL : Nat} {rm : Room} {S : kS} {k n pc : Nat} {lv : List (Nat × Value)} {st : List Value} {y : MethodName} {cc' : ByteArray} {nL' idx mc ms n0 b : Nat} {ret : Option FieldType} {rm' : Room} {As rest st0 : List Value} {Qg : (Nat → ClassId) → va_G → (Nat → Prop) → Array Value → State → Outcome → State → Prop} {px : kS → Prop}
theorem kMetX {l : Launch} {e0 : Nat × Nat} {av : List Value} (hy : plainName y.cls = true) (hlen : (lg_sl av).length ≤ nL) (hfl : l.stackTraces = false)
    (walk : ∀ C : kC, C.e0 = e0 → C.l = l → kX C y.cls cc nL rm → kEX C ret mc ms Qg px → kXX C → C.meth.name = y.name → kG C nL S 0 0 0 (lv_args 0 av) []) : kMX l e0 y cc nL ret rm mc ms av S Qg px := by
  intro cy D sz
  refine vx_ofW (cc := cc) (maxL := nL) (ret := ret) hy rfl ?_
  intro p e s m args below meth c s₁ B hml ht hv
  obtain ⟨rfl, hsz, ⟨hP, hK, hD, hN, hE⟩, hT⟩ := hv
  subst hsz
  have hts := atoms_spec (ws := Cond.code y cc nL ret :: kT) B.pre
  have hown : s.vm.findClass y.cls = some m.cls := findClass_of_methodNamed B.named
  rw [lg_entry_eq]
  have hl := lv_entry av (n := nL) hlen
  exact walk (p, l, e, (headSpec (Cond.code y cc nL ret :: kT) rm).room, s, m, av.toArray, below, meth, c, vx_MQ below (Qg cy D (va_A (kW cy S) s.heap.size)) (kXC px cy D (va_A (kW cy S) s.heap.size)) av.toArray s mc ms (va_A (kW cy S) s.heap.size), va_A (kW cy S) s.heap.size, cy, D, e0) rfl rfl
    ⟨⟨B.exec, B.bytes, hml, hown, fun w hw => hts w (List.mem_cons_of_mem _ hw)⟩, hK, fun q h => Or.inr h, hN, rfl, hE⟩ ⟨B.returns, B.notSynchronized, rfl⟩ ⟨hT, hfl, ht⟩ (name_of_methodNamed B.named B.method).1 s.heap [] _ hP (hD.self (sz := s.heap.size)) va_S.rf hl
theorem kx_iret (X : kX C own cc nL rm) {post : Int32 → kS → Prop} (E : kEX C (some .int) mc ms (kQi post) px) {v : Int32} (hdg : decode cc pc = .ok (.ireturn, 1)) (hk : k ≤ mc) (hn : n ≤ ms) (hp : post v S) : kG C nL S k n pc lv [.int v] := by
  intro H locs ls hP hD hS h
  rw [E.2.2]
  refine vx_ret (W.widen hk hn ?_)
  exact W.iret X.1.1 X.1.2.1 E.1 (fun t ht hW => ⟨⟨v, S, rfl, hp, by unfold kB; rw [ht]; exact ⟨hP, hD⟩⟩, hS.F ht⟩) hS.2.2 hdg E.2.1
theorem kx_zret (X : kX C own cc nL rm) {post : Int32 → kS → Prop} (E : kEX C (some .boolean) mc ms (kQi post) px) {v : Int32} (hz : v = 0 ∨ v = 1) (hdg : decode cc pc = .ok (.ireturn, 1)) (hk : k ≤ mc) (hn : n ≤ ms) (hp : post v S) : kG C nL S k n pc lv [.int v] := by
  intro H locs ls hP hD hS h
  rw [E.2.2]
  refine vx_ret (W.widen hk hn ?_)
  exact W.zret X.1.1 X.1.2.1 E.1 (by rcases hz with rfl | rfl <;> rfl) (fun t ht hW => ⟨⟨v, S, rfl, hp, by unfold kB; rw [ht]; exact ⟨hP, hD⟩⟩, hS.F ht⟩) hS.2.2 hdg E.2.1
theorem kat_in {cls : String} {ic : Nat} (ps : List Nat) (hp : vx_at0 own ic cls kNM = ps.filterMap (fun i => lw_tbl[i]?)) (hg : (vx_at0 own ic cls kNM).all (fun w => goodWord w || (kDq w || kNq w)) = true) : ∀ w ∈ vx_at0 own ic cls kNM, w ∈ kT ∨ w ∈ kDl ∨ w ∈ kNl := by
  intro w hw
  have h1 := List.all_eq_true.mp hg w hw
  have hm : w ∈ lw_tbl := by
    rw [hp] at hw
    obtain ⟨i, -, hi⟩ := List.mem_filterMap.mp hw
    exact List.mem_of_getElem? hi
  simp only [Bool.or_eq_true] at h1
  rcases h1 with h1 | h1 | h1
  · exact Or.inl (List.mem_filter.mpr ⟨hm, h1⟩)
  · exact Or.inr (Or.inl (List.mem_filter.mpr ⟨hm, h1⟩))
  · exact Or.inr (Or.inr (List.mem_filter.mpr ⟨hm, h1⟩))
/-- 'throw new E()' -/
theorem k_throw (X : kX C own cc nL rm) (E : kEX C ret mc ms Qg px) (Y : kXX C) {ik ic : Nat} {cls : String} (hx3 : kXs cls) (hcls : Bundle.fit cls = true) (hk : Cond.classLink own ik cls ∈ kT) (hini : Cond.initialized cls ∈ kT) (hat : ∀ w ∈ vx_at0 own ic cls kNM, w ∈ kT ∨ w ∈ kDl ∨ w ∈ kNl) (hgood : ∀ w ∈ Cond.classLink own ik cls :: Cond.initialized cls :: vx_at0 own ic cls kNM, vx_ot w = true)
    (d0 : decode cc pc = .ok (.new ik, 3)) (d3 : decode cc (pc + 3) = .ok (.dup, 1)) (d4 : decode cc (pc + 4) = .ok (.invokespecial ic, 3)) (d7 : decode cc (pc + 7) = .ok (.athrow, 1))
    (hfr : 5 < rm.frames) (hlo : (st.map fun v => v.category).sum + 81 ≤ rm.locals) (hc : k + 1 ≤ mc) (hs : n + 6 ≤ ms) (hmc : mc ≤ rm.cells) (hms : ms ≤ rm.slots) (hp : px S) : kG C nL S k n pc lv st := by
  intro H locs ls hP hD hS h
  have hRm : C.R = rm := X.2.2.2.2.1
  subst hRm
  rw [E.2.2]
  have hwd : ∀ w ∈ vx_at0 own ic cls kNM, w.before C.args C.s = true := fun w hw => by
    rcases hat w hw with h1 | h1 | h1
    · exact X.1.2.2.2.2 w h1
    · exact va_Nw.use (by have hq := (List.mem_filter.mp h1).2; cases w <;> first | rfl | (simp [kDq] at hq)) (Y.1.1 w h1)
    · exact va_Nw.use (by have hq := (List.mem_filter.mp h1).2; cases w <;> first | rfl | (simp [kNq] at hq)) (X.2.2.2.1.1 w h1)
  refine vx_throw0 (names := kNM) X.1.1 X.1.2.1 Y.2.1 X.1.2.2.2.1 hcls (by decide) (X.1.2.2.2.2 _ hk) (X.1.2.2.2.2 _ hini) hwd hgood Y.1.2.1 Y.1.2.2.1 hS (h.1.trans X.1.2.2.1.symm) d0 d3 d4 d7 (fun x hx => absurd (Y.2.2 x hx) id) hfr hlo (by omega) (by omega) E.2.1 (fun t ht hz hq => ?_) hS.2.2 hc hs
  exact ⟨S, hp, ⟨hx3, hP.kept (fun k q hk => hq _ (hP k q hk).lt), hD⟩, ⟨Nat.le_trans hS.1 hz, fun q h1 h2 => by rw [hq q (Nat.lt_of_lt_of_le h1 hS.1)]; exact hS.2.1 q h1 h2⟩⟩
/-- a call of a method that may throw, run -/
def kRunX (C : kC) (nL : Nat) (S : kS) (k n pc : Nat) (lv : List (Nat × Value)) (st0 rest : List Value) (mc ms : Nat) (Qg : (Nat → ClassId) → va_G → (Nat → Prop) → Array Value → State → Outcome → State → Prop) (px : kS → Prop) : Prop :=
  ∀ (H : Heap) (locs : List Loc) (ls : Array Slot), va_P C.D vwCl (kW C.cy S) H → va_D C.A (kW C.cy S) → va_S C.A C.s.heap H locs → lv_has ls nL lv → ∃ a : Array Value, vx_Run C.p C.l C.e C.R C.s C.m C.args C.below C.meth C.c H locs k n mc ms (F0 C.m pc ls st0) rest (Qg C.cy C.D (va_A (kW C.cy S) H.size) a) (kXC px C.cy C.D (va_A (kW C.cy S) H.size)) (va_A (kW C.cy S) H.size)
theorem kPreXAt (X : kX C own cc nL rm) (Y : kThr C.A C.s C.s.heap) {H : Heap} {locs : List Loc} (hP : va_P C.D vwCl (kW C.cy S) H) (hD : va_D C.A (kW C.cy S)) (hS : va_S C.A C.s.heap H locs) (av : List Value) : ∀ U : State, U.heap = H → C.s.WarmedH U.vm → kPreX C.cy C.D C.e0 H.size av S av.toArray U := fun U hU hW => ⟨rfl, by rw [hU], kHoldAt X hP hD hS hU hW, by subst hU; exact kThr.to hW hS (kA_sub X hD hS) Y⟩
theorem k_runVX (X : kX C own cc nL rm) (Y : kThr C.A C.s C.s.heap) {κ NN : Nat} {Cn : String} {T : u_T} (hcl : vwCl[kci κ]? = some (Cn, T, NN)) (hsh : ∀ cy m i r, kcont cy κ m i r = .inr (kci κ, kfs κ i r)) (hG : GoodIn kT (wsV own idx Cn y (Cond.code y cc' nL' ret :: kT))) (hd : y.cls = Cn ∧ y.cls ≠ "java/lang/invoke/MethodHandle" ∧ y.cls ≠ "java/lang/invoke/VarHandle" ∧ (parseMethodDescriptor y.desc).map (fun d => d.parameters.length) = some n0)
    (hL : b ∈ S.L) (hK : S.K b = κ) (hM : kMX C.l C.e0 y cc' nL' ret rm' mc ms (.ref b :: As) S Qg px) (hn : As.length = n0) (hst : st0 = As.reverse ++ .ref b :: rest) (hrc : rm'.cells = mc) (hrs : rm'.slots = ms) (hR : rm'.frames + 1 ≤ rm.frames ∧ 8 + (nL' + 11) + rm'.locals ≤ rm.locals) (hW : (rest.map fun v => v.category).sum ≤ 8) (hf : k + mc ≤ rm.cells ∧ n + ms ≤ rm.slots) (hdg : decode cc pc = .ok (.invokevirtual idx, 3)) : kRunX C nL S k n pc lv st0 rest mc ms Qg px := by
  intro H locs ls hP hD hS h
  have hRm : C.R = rm := X.2.2.2.2.1
  subst hRm
  exact ⟨_, vx_runV (g := F0 C.m pc ls st0) X.1 (hM C.cy C.D H.size) (cwV n0 X.1.2.2.2.2 hG rfl hrc hrs hd hR) ⟨kPreX_blind, kRcv X hP hL hK hcl hsh, kPreXAt X Y hP hD hS _⟩ rfl hn h.1 hst (lv_room hW) hdg hf⟩
/-- thrown at pc, of class E -/
def kGX (C : kC) (nL : Nat) (S : kS) (k n pc : Nat) (lv : List (Nat × Value)) (st : List Value) (E : String) : Prop :=
  ∀ (H : Heap) (locs : List Loc) (ls : Array Slot) (q : Addr) (ce : Cell), va_P C.D vwCl (kW C.cy S) H → va_D C.A (kW C.cy S) → va_S C.A C.s.heap H locs → lv_has ls nL lv → H[q]? = some ce → ce.vm = .none → C.s.vm.findClass E = some ce.cls → vx_W C.p C.l C.e C.R C.s C.m C.args C.below C.meth C.c H locs k n C.Q (F0 C.m pc ls st) q
theorem k_xgotI (X : kX C own cc nL rm) {post : Int32 → kS → Prop} (hr : kRunX C nL S k n pc lv st0 rest mc ms (kQi post) px) (kx : ∀ (E : String) (S' : kS), kXs E → px S' → kGX C nL S' (k + mc) (n + ms) pc lv rest E) (kk : ∀ (v : Int32) (S' : kS), post v S' → kG C nL S' (k + mc) (n + ms) (pc + 3) lv (.int v :: rest)) : kG C nL S k n pc lv st0 := by
  intro H locs ls hP hD hS h
  obtain ⟨a, hr⟩ := hr H locs ls hP hD hS h
  have hA := kA_sub X hD hS
  exact vx_calli hr hS (fun q _ h => hA q h) hA (fun q _ h => hA q h) (fun E ce q9 S' t H1 locs1 ht hvm hp hB hz hk hS1 hc hv hcl => kx E S' hB.1 hp H1 locs1 ls q9 ce (ht ▸ hB.2.1) (hB.2.2.weaken (fun _ _ _ h => hA _ h)) hS1 h hc hv hcl) (fun v S' t H1 locs1 ht hvm hp hB hz hk hS1 => kk v S' hp H1 locs1 ls (ht ▸ hB.1) (hB.2.weaken (fun _ _ _ h => hA _ h)) hS1 h)
/-- the law's act(): what is thrown in it is caught -/
def kHH : List (Nat × Nat × Nat × Nat) := [(23, 381, 384, 117), (23, 381, 387, 119), (23, 381, 390, 121)]
theorem kcov {pc a b c : Nat} (h : 23 ≤ pc ∧ pc < 381) : covers { startPc := 23, endPc := 381, handlerPc := b, catchType := c } pc = true := by
  unfold covers
  simp [h.1, h.2]
theorem k_act (X : kX C RL cL_act 6 rm) (Y : kThr C.A C.s C.s.heap) (hT : C.c.exceptionTable.toList = tableOf kHH) {E : String} (hE : kXs E) (hpc : 23 ≤ pc ∧ pc < 381) (kk : ∀ (q h9 : Nat), h9 = 384 ∨ h9 = 387 ∨ h9 = 390 → kG C 6 S k n h9 lv [.ref q]) : kGX C 6 S k n pc lv st E := by
  intro H locs ls q ce hP hD hS h hce hcv hcl
  have q1 : Cond.classLink RL 117 xIOO ∈ kT := kT_in 841 (by decide +kernel) rfl
  have q2 : Cond.classLink RL 119 xIAE ∈ kT := kT_in 842 (by decide +kernel) rfl
  have q3 : Cond.classLink RL 121 xISE ∈ kT := kT_in 843 (by decide +kernel) rfl
  have c1 : Cond.castable xIOO xIOO ∈ kNl := kN_in 955 (by decide +kernel) rfl
  have c2 : Cond.castable xIAE xIAE ∈ kNl := kN_in 541 (by decide +kernel) rfl
  have c3 : Cond.castable xISE xISE ∈ kNl := kN_in 608 (by decide +kernel) rfl
  obtain ⟨-, -, -, n1, n2, n3⟩ := Y
  rcases hE with rfl | rfl | rfl
  · exact vx_catch (own := RL) (name := xIOO) X.1.2.2.2.1 [] { startPc := 23, endPc := 381, handlerPc := 384, catchType := 117 } [{ startPc := 23, endPc := 381, handlerPc := 387, catchType := 119 }, { startPc := 23, endPc := 381, handlerPc := 390, catchType := 121 }] hT (fun z hz => absurd hz List.not_mem_nil) (kcov hpc (a := 0)) (by decide) (X.1.2.2.2.2 _ q1) (va_Nw.use rfl (X.2.2.2.1.1 _ c1)) hce hcv hcl (kk q 384 (Or.inl rfl) H locs ls hP hD hS h)
  · exact vx_catch (own := RL) (name := xIAE) X.1.2.2.2.1 [{ startPc := 23, endPc := 381, handlerPc := 384, catchType := 117 }] { startPc := 23, endPc := 381, handlerPc := 387, catchType := 119 } [{ startPc := 23, endPc := 381, handlerPc := 390, catchType := 121 }] hT (fun z hz => by
      cases List.mem_singleton.mp hz
      exact Or.inr ⟨by decide, xIOO, X.1.2.2.2.2 _ q1, n1⟩) (kcov hpc (a := 0)) (by decide) (X.1.2.2.2.2 _ q2) (va_Nw.use rfl (X.2.2.2.1.1 _ c2)) hce hcv hcl (kk q 387 (Or.inr (Or.inl rfl)) H locs ls hP hD hS h)
  · exact vx_catch (own := RL) (name := xISE) X.1.2.2.2.1 [{ startPc := 23, endPc := 381, handlerPc := 384, catchType := 117 }, { startPc := 23, endPc := 381, handlerPc := 387, catchType := 119 }] { startPc := 23, endPc := 381, handlerPc := 390, catchType := 121 } [] hT (fun z hz => by
      rcases List.mem_cons.mp hz with rfl | hz
      · exact Or.inr ⟨by decide, xIOO, X.1.2.2.2.2 _ q1, n2⟩
      · cases List.mem_singleton.mp hz
        exact Or.inr ⟨by decide, xIAE, X.1.2.2.2.2 _ q2, n3⟩) (kcov hpc (a := 0)) (by decide) (X.1.2.2.2.2 _ q3) (va_Nw.use rfl (X.2.2.2.1.1 _ c3)) hce hcv hcl (kk q 390 (Or.inr (Or.inr rfl)) H locs ls hP hD hS h)
theorem kthrw_95 (X : kX C RX11 cc nL rm) (E : kEX C ret mc ms Qg px) (Y : kXX C) (d0 : decode cc pc = .ok (.new 95, 3)) (d3 : decode cc (pc + 3) = .ok (.dup, 1)) (d4 : decode cc (pc + 4) = .ok (.invokespecial 97, 3)) (d7 : decode cc (pc + 7) = .ok (.athrow, 1)) (hfr : 5 < rm.frames) (hlo : (st.map fun v => v.category).sum + 81 ≤ rm.locals) (hc : k + 1 ≤ mc) (hs : n + 6 ≤ ms) (hmc : mc ≤ rm.cells) (hms : ms ≤ rm.slots) (hp : px S) : kG C nL S k n pc lv st :=
  k_throw X E Y (cls := "java/lang/IndexOutOfBoundsException") (Or.inl rfl) (by decide +kernel) (kT_in 953 (by decide +kernel) rfl) (kT_in 65 (by decide +kernel) rfl) (kat_in [57, 561, 570, 574, 577, 579, 562, 563, 74, 75, 564, 569, 575, 591, 551, 592, 553, 593, 555, 565, 567, 557, 963, 964, 965, 584, 542, 584, 585, 586, 587, 544, 587, 588, 589, 562, 546, 962, 954, 955, 956, 573, 957, 958, 959, 960, 560, 559, 961] (by decide +kernel) (by decide +kernel)) (by decide +kernel) d0 d3 d4 d7 hfr hlo hc hs hmc hms hp
theorem kthrw_65 (X : kX C RX11 cc nL rm) (E : kEX C ret mc ms Qg px) (Y : kXX C) (d0 : decode cc pc = .ok (.new 65, 3)) (d3 : decode cc (pc + 3) = .ok (.dup, 1)) (d4 : decode cc (pc + 4) = .ok (.invokespecial 67, 3)) (d7 : decode cc (pc + 7) = .ok (.athrow, 1)) (hfr : 5 < rm.frames) (hlo : (st.map fun v => v.category).sum + 81 ≤ rm.locals) (hc : k + 1 ≤ mc) (hs : n + 6 ≤ ms) (hmc : mc ≤ rm.cells) (hms : ms ≤ rm.slots) (hp : px S) : kG C nL S k n pc lv st :=
  k_throw X E Y (cls := "java/lang/IllegalArgumentException") (Or.inr (Or.inl rfl)) (by decide +kernel) (kT_in 539 (by decide +kernel) rfl) (kT_in 60 (by decide +kernel) rfl) (kat_in [57, 561, 570, 574, 577, 579, 562, 563, 74, 75, 564, 569, 575, 591, 551, 592, 553, 593, 555, 565, 567, 557, 581, 582, 583, 584, 542, 584, 585, 586, 587, 544, 587, 588, 589, 562, 546, 580, 540, 541, 548, 549, 550, 552, 554, 556, 560, 559, 558] (by decide +kernel) (by decide +kernel)) (by decide +kernel) d0 d3 d4 d7 hfr hlo hc hs hmc hms hp
theorem kthrw_82 (X : kX C RX11 cc nL rm) (E : kEX C ret mc ms Qg px) (Y : kXX C) (d0 : decode cc pc = .ok (.new 82, 3)) (d3 : decode cc (pc + 3) = .ok (.dup, 1)) (d4 : decode cc (pc + 4) = .ok (.invokespecial 84, 3)) (d7 : decode cc (pc + 7) = .ok (.athrow, 1)) (hfr : 5 < rm.frames) (hlo : (st.map fun v => v.category).sum + 81 ≤ rm.locals) (hc : k + 1 ≤ mc) (hs : n + 6 ≤ ms) (hmc : mc ≤ rm.cells) (hms : ms ≤ rm.slots) (hp : px S) : kG C nL S k n pc lv st :=
  k_throw X E Y (cls := "java/lang/IllegalStateException") (Or.inr (Or.inr rfl)) (by decide +kernel) (kT_in 606 (by decide +kernel) rfl) (kT_in 61 (by decide +kernel) rfl) (kat_in [57, 561, 570, 574, 577, 579, 562, 563, 74, 75, 564, 569, 575, 591, 551, 592, 553, 593, 555, 565, 567, 557, 616, 617, 618, 584, 542, 584, 585, 586, 587, 544, 587, 588, 589, 562, 546, 615, 607, 608, 609, 572, 610, 611, 612, 613, 560, 559, 614] (by decide +kernel) (by decide +kernel)) (by decide +kernel) d0 d3 d4 d7 hfr hlo hc hs hmc hms hp
end KXR
