/-! THE WORLD: addresses, shapes, roles, lengths, whole numbers, references; by address and place -/
def kS : Type := List Nat × (Nat → Nat) × (Nat → Nat) × (Nat → Nat) × (Nat → Nat → Int32) × (Nat → Nat → Option Nat)
def kS.L (S : kS) : List Nat := S.1
def kS.K (S : kS) : Nat → Nat := S.2.1
def kS.O (S : kS) : Nat → Nat := S.2.2.1
def kS.N (S : kS) : Nat → Nat := S.2.2.2.1
def kS.I (S : kS) : Nat → Nat → Int32 := S.2.2.2.2.1
def kS.R (S : kS) : Nat → Nat → Option Nat := S.2.2.2.2.2
/-- a whole number is written; a reference; a new thing comes -/
def kS.uI (S : kS) (a i : Nat) (v : Int32) : kS := (S.L, S.K, S.O, S.N, fun b j => if b = a ∧ j = i then v else S.I b j, S.R)
def kS.uR (S : kS) (a i : Nat) (v : Option Nat) : kS := (S.L, S.K, S.O, S.N, S.I, fun b j => if b = a ∧ j = i then v else S.R b j)
def kS.nw (S : kS) (a κ ρ n : Nat) : kS := (S.L ++ [a], va_up S.K a κ, va_up S.O a ρ, va_up S.N a n, va_up S.I a (fun _ => 0), va_up S.R a (fun _ => none))
theorem uI_L (S : kS) (a i v) : (S.uI a i v).L = S.L := rfl
theorem uI_K (S : kS) (a i v) : (S.uI a i v).K = S.K := rfl
theorem uI_O (S : kS) (a i v) : (S.uI a i v).O = S.O := rfl
theorem uI_N (S : kS) (a i v) : (S.uI a i v).N = S.N := rfl
theorem uI_R (S : kS) (a i v) : (S.uI a i v).R = S.R := rfl
theorem uI_I (S : kS) (a i v b j) : (S.uI a i v).I b j = if b = a ∧ j = i then v else S.I b j := rfl
theorem uR_L (S : kS) (a i v) : (S.uR a i v).L = S.L := rfl
theorem uR_K (S : kS) (a i v) : (S.uR a i v).K = S.K := rfl
theorem uR_O (S : kS) (a i v) : (S.uR a i v).O = S.O := rfl
theorem uR_N (S : kS) (a i v) : (S.uR a i v).N = S.N := rfl
theorem uR_I (S : kS) (a i v) : (S.uR a i v).I = S.I := rfl
theorem uR_R (S : kS) (a i v b j) : (S.uR a i v).R b j = if b = a ∧ j = i then v else S.R b j := rfl
theorem nw_L (S : kS) (a κ ρ n) : (S.nw a κ ρ n).L = S.L ++ [a] := rfl
theorem nw_K (S : kS) (a κ ρ n) : (S.nw a κ ρ n).K = va_up S.K a κ := rfl
theorem nw_O (S : kS) (a κ ρ n) : (S.nw a κ ρ n).O = va_up S.O a ρ := rfl
theorem nw_N (S : kS) (a κ ρ n) : (S.nw a κ ρ n).N = va_up S.N a n := rfl
theorem nw_I (S : kS) (a κ ρ n) : (S.nw a κ ρ n).I = va_up S.I a (fun _ => 0) := rfl
theorem nw_R (S : kS) (a κ ρ n) : (S.nw a κ ρ n).R = va_up S.R a (fun _ => none) := rfl
/-- an object's fields, by its shape -/
def kfs (κ : Nat) (i : Nat → Int32) (r : Nat → Option Nat) : List Value := match κ with
  | 0 => [va_rf (r 0), va_rf (r 1), va_rf (r 2), va_rf (r 3), va_rf (r 4), va_rf (r 5), va_rf (r 6), .int (i 7), .int (i 8)]
  | 1 => [.int (i 0), .int (i 1), .int (i 2), .int (i 3), .int (i 4), .int (i 5), .int (i 6), .int (i 7), .int (i 8), .int (i 9), .int (i 10), .int (i 11), .int (i 12), .int (i 13), .int (i 14), .int (i 15)]
  | 2 => [.int (i 0), .int (i 1), .int (i 2), .int (i 3), .int (i 4), .int (i 5), .int (i 6), .int (i 7), .int (i 8), .int (i 9), va_rf (r 10), va_rf (r 11), va_rf (r 12), va_rf (r 13), va_rf (r 14), va_rf (r 15), va_rf (r 16)]
  | 3 => [va_rf (r 0), va_rf (r 1), va_rf (r 2), va_rf (r 3), va_rf (r 4)]
  | 4 => [va_rf (r 0), va_rf (r 1), va_rf (r 2), va_rf (r 3), .int (i 4), .int (i 5), .int (i 6), .int (i 7), .int (i 8)]
  | 5 => [va_rf (r 0), .int (i 1), va_rf (r 2), va_rf (r 3), va_rf (r 4), va_rf (r 5), va_rf (r 6), va_rf (r 7), va_rf (r 8), va_rf (r 9), .int (i 10)]
  | 6 => [.int (i 0), .int (i 1)]
  | 7 => [va_rf (r 0), .int (i 1), .int (i 2), .int (i 3), .int (i 4), .int (i 5), .int (i 6), .int (i 7), .int (i 8)]
  | 8 => [.int (i 0), va_rf (r 1), .int (i 2), .int (i 3), va_rf (r 4)]
  | 9 => [va_rf (r 0), va_rf (r 1), va_rf (r 2), va_rf (r 3), va_rf (r 4), va_rf (r 5), .int (i 6), .int (i 7)]
  | 10 => [va_rf (r 0), va_rf (r 1), .int (i 2), .int (i 3), .int (i 4), va_rf (r 5), .int (i 6)]
  | 11 => [va_rf (r 0), va_rf (r 1), va_rf (r 2), va_rf (r 3), va_rf (r 4), va_rf (r 5), .int (i 6)]
  | 12 => [.int (i 0), va_rf (r 1), .int (i 2)]
  | _ => []
def kci (κ : Nat) : Nat := match κ with
  | 12 => 0
  | k => k + 1
def kcont (cy : Nat → ClassId) (κ n : Nat) (i : Nat → Int32) (r : Nat → Option Nat) : va_E := match κ with
  | 13 => .inl (cy 0, n, .inl i)
  | 14 => .inl (cy 1, n, .inr (.inr (.inr (.inr r))))
  | 15 => .inl (cy 2, n, .inr (.inr (.inr (.inr r))))
  | 16 => .inl (cy 3, n, .inr (.inr (.inr (.inr r))))
  | 17 => .inl (cy 4, n, .inl i)
  | k => .inr (kci k, kfs k i r)
def kF (cy : Nat → ClassId) (S : kS) : Nat → va_E := fun a => kcont cy (S.K a) (S.N a) (S.I a) (S.R a)
def kW (cy : Nat → ClassId) (S : kS) : va_W := va_pl S.L (kF cy S)
theorem kW_get {cy : Nat → ClassId} {S : kS} {a : Nat} (h : a ∈ S.L) : ∃ k : Nat, (kW cy S)[k]? = some (a, kF cy S a) := by
  obtain ⟨k, hk⟩ := va_pl_get (X := []) (f := kF cy S) h
  exact ⟨k, hk⟩
theorem kW_set {A : Nat → Prop} {cy : Nat → ClassId} {S S' : kS} {a k : Nat} {e : va_E} (hD : va_D A (kW cy S)) (h : a ∈ S.L) (hk : (kW cy S)[k]? = some (a, kF cy S a)) (hL : S'.L = S.L) (hf : ∀ b, va_up (kF cy S) a e b = kF cy S' b) : (kW cy S).set k (a, e) = kW cy S' := by
  have h1 := va_pl_set (X := []) (A := A) (f := kF cy S) (e := e) (k := k) hD h hk
  have h2 : (kW cy S).set k (a, e) = va_pl S.L (va_up (kF cy S) a e) := h1
  rw [h2, va_pl_congr hf]
  show va_pl S.L (kF cy S') = va_pl S'.L (kF cy S')
  rw [hL]
theorem kW_in {cy : Nat → ClassId} {S : kS} {k : Nat} {q : Nat × va_E} (h : (kW cy S)[k]? = some q) : q.1 ∈ S.L := by
  have h1 := List.mem_of_getElem? h
  obtain ⟨a, ha, e⟩ := List.mem_map.mp h1
  rw [← e]
  exact ha
theorem kD_in {A : Nat → Prop} {cy : Nat → ClassId} {S : kS} (hD : va_D A (kW cy S)) {a : Nat} (h : a ∈ S.L) : A a := by
  obtain ⟨k, hk⟩ := kW_get (cy := cy) h
  exact hD.2 k _ hk
theorem kP_lt {D : va_G} {cy : Nat → ClassId} {S : kS} {H : Heap} (hP : va_P D vwCl (kW cy S) H) {a : Nat} (h : a ∈ S.L) : a < H.size := by
  obtain ⟨k, hk⟩ := kW_get (cy := cy) h
  exact (hP k _ hk).lt
def ktys (cy : Nat → ClassId) : List (ClassId × FieldType) := [(cy 0, .int), (cy 1, .object "Kleroterion$Citizen"), (cy 2, .object "java/lang/Object"), (cy 3, .array .int), (cy 4, .boolean)]
/-! THE WORDS: the good ones of the tables, and those that go by tables alone -/
def kNs (mi : Nat) (U : State) : Prop := (∀ w ∈ kNl, va_Nw w U) ∧ va_Mi "[Ljava/lang/Object;" mi U ∧ va_Dc U ∧ va_AO "java/lang/Object" U ∧ va_AO "Kleroterion$Citizen" U
theorem kNs.warm {mi : Nat} {s U : State} (hW : s.WarmedH U.vm) (h : kNs mi s) : kNs mi U := by
  refine ⟨fun w hw => ?_, h.2.1.moved hW.alike, h.2.2.1.moved hW.alike, h.2.2.2.1.moved hW.alike, h.2.2.2.2.moved hW.alike⟩
  have h1 := h.1 w hw
  have hq := (List.mem_filter.mp hw).2
  cases w <;> first | exact va_Nw.warmM hW h1 | exact va_Nw.warmC hW h1 | (simp [kNq] at hq)
theorem kNs.same {mi : Nat} {s U : State} (hv : s.vm = U.vm) (h : kNs mi s) : kNs mi U := by
  have ha : s.vm.Alike U.vm := hv ▸ Vm.Alike.refl s.vm
  refine ⟨fun w hw => ?_, h.2.1.moved ha, h.2.2.1.moved ha, h.2.2.2.1.moved ha, h.2.2.2.2.moved ha⟩
  have h1 := h.1 w hw
  have hq := (List.mem_filter.mp hw).2
  cases w <;> first | exact va_Nw.same rfl hv h1 | (simp [kNq] at hq)
theorem kGI {y : MethodName} {cc : ByteArray} {nL : Nat} {ret : Option FieldType} (hc : Cond.code y cc nL ret ∈ kT) : GoodIn kT (Cond.code y cc nL ret :: kT) := by
  intro w hw
  rcases List.mem_cons.mp hw with rfl | h
  · exact ⟨hc, good_of_word (List.mem_filter.mp hc).2⟩
  · exact ⟨h, good_of_word (List.mem_filter.mp h).2⟩
theorem kGA {ws ws' : List Cond} (h1 : ∀ w ∈ ws, w ∈ kT) (h2 : GoodIn kT ws') : GoodIn kT (ws ++ ws') := by
  intro w hw
  rcases List.mem_append.mp hw with h | h
  · exact ⟨h1 w h, good_of_word (List.mem_filter.mp (h1 w h)).2⟩
  · exact h2 w h
theorem kGV {own C : String} {idx : Nat} {y : MethodName} {cc : ByteArray} {nL : Nat} {ret : Option FieldType} (h1 : Cond.methodLink own idx y ∈ kT) (h2 : Cond.instanceMethod y ∈ kT) (h3 : Cond.selects C y y ∈ kT) (h4 : Cond.initialized C ∈ kT) (hc : Cond.code y cc nL ret ∈ kT) : GoodIn kT (wsV own idx C y (Cond.code y cc nL ret :: kT)) :=
  kGA (fun w hw => by
    simp only [List.mem_cons, List.not_mem_nil, or_false] at hw
    rcases hw with rfl | rfl | rfl | rfl
    · exact h1
    · exact h2
    · exact h3
    · exact h4) (kGI hc)
theorem kGS {own : String} {idx : Nat} {y : MethodName} {cc : ByteArray} {nL : Nat} {ret : Option FieldType} (h1 : Cond.methodLink own idx y ∈ kT) (h2 : Cond.static y ∈ kT) (h4 : Cond.initialized own ∈ kT) (hc : Cond.code y cc nL ret ∈ kT) : GoodIn kT (wsS own idx y (Cond.code y cc nL ret :: kT)) :=
  kGA (fun w hw => by
    simp only [List.mem_cons, List.not_mem_nil, or_false] at hw
    rcases hw with rfl | rfl | rfl
    · exact h1
    · exact h2
    · exact h4) (kGI hc)
/-! THE CONTEXT of a method -/
def kC : Type := Program × Launch × Env × Room × State × MethodId × Array Value × List Frame × Method × Code × (State → Prop) × (Nat → Prop) × (Nat → ClassId) × va_G × (Nat × Nat)
def kC.p (C : kC) : Program := C.1
def kC.l (C : kC) : Launch := C.2.1
def kC.e (C : kC) : Env := C.2.2.1
def kC.R (C : kC) : Room := C.2.2.2.1
def kC.s (C : kC) : State := C.2.2.2.2.1
def kC.m (C : kC) : MethodId := C.2.2.2.2.2.1
def kC.args (C : kC) : Array Value := C.2.2.2.2.2.2.1
def kC.below (C : kC) : List Frame := C.2.2.2.2.2.2.2.1
def kC.meth (C : kC) : Method := C.2.2.2.2.2.2.2.2.1
def kC.c (C : kC) : Code := C.2.2.2.2.2.2.2.2.2.1
def kC.Q (C : kC) : State → Prop := C.2.2.2.2.2.2.2.2.2.2.1
def kC.A (C : kC) : Nat → Prop := C.2.2.2.2.2.2.2.2.2.2.2.1
def kC.cy (C : kC) : Nat → ClassId := C.2.2.2.2.2.2.2.2.2.2.2.2.1
def kC.D (C : kC) : va_G := C.2.2.2.2.2.2.2.2.2.2.2.2.2.1
def kC.e0 (C : kC) : Nat × Nat := C.2.2.2.2.2.2.2.2.2.2.2.2.2.2
/-- the empty array of the ArrayLists that nothing was put in yet -/
def kE0 (e0 : Nat) (A : Nat → Prop) (U : State) (H : Heap) : Prop := va_Z "java/util/ArrayList" "DEFAULTCAPACITY_EMPTY_ELEMENTDATA" "[Ljava/lang/Object;" (.ref e0) A U H ∧ (∃ cell : Cell, H[e0]? = some cell ∧ U.isArrayOf cell (.object "java/lang/Object") ∧ cell.slots.size = 0) ∧ ¬ A e0 ∧ e0 < H.size
theorem kE0.to {e0 : Nat} {A A' : Nat → Prop} {s U : State} {H : Heap} {locs : List Loc} (hvm : s.vm.Alike U.vm) (hS : va_S A s.heap H locs) (hA : ∀ q, A' q → A q) (h : kE0 e0 A s s.heap) : kE0 e0 A' U H := by
  obtain ⟨h1, ⟨cell, h2, h3, h4⟩, h5, h6⟩ := h
  exact ⟨((h1.moved hvm).kept (fun a ha hn => hS.2.1 a ha hn)).narrow hA, ⟨cell, by rw [hS.2.1 e0 h6 h5]; exact h2, State.isArrayOf_alike hvm h3, h4⟩, fun z => h5 (hA e0 z), Nat.lt_of_lt_of_le h6 hS.1⟩
/-- what holds of a state, with the world S in it -/
def kHold (cy : Nat → ClassId) (D : va_G) (e0 : Nat × Nat) (S : kS) (U : State) : Prop := va_P D vwCl (kW cy S) U.heap ∧ va_K D vwCl (ktys cy) U ∧ va_D (fun _ => True) (kW cy S) ∧ kNs e0.2 U ∧ kE0 e0.1 (va_A (kW cy S) U.heap.size) U U.heap
def kB (cy : Nat → ClassId) (D : va_G) (A : Nat → Prop) (S : kS) (t : State) : Prop := va_P D vwCl (kW cy S) t.heap ∧ va_D A (kW cy S)
def kX (C : kC) (own : String) (cc : ByteArray) (nL : Nat) (rm : Room) : Prop :=
  (C.p.tables.exec = Jvm.exec ∧ C.c.code = cc ∧ C.c.maxLocals = nL ∧ C.s.vm.findClass own = some C.m.cls ∧ ∀ w ∈ kT, w.before C.args C.s = true) ∧ va_K C.D vwCl (ktys C.cy) C.s ∧ (∀ q, C.s.heap.size ≤ q → C.A q) ∧ kNs C.e0.2 C.s ∧ C.R = rm ∧ kE0 C.e0.1 C.A C.s C.s.heap
def kG (C : kC) (nL : Nat) (S : kS) (k n pc : Nat) (lv : List (Nat × Value)) (st : List Value) : Prop :=
  ∀ (H : Heap) (locs : List Loc) (ls : Array Slot), va_P C.D vwCl (kW C.cy S) H → va_D C.A (kW C.cy S) → va_S C.A C.s.heap H locs → lv_has ls nL lv → W C.p C.l C.e C.R C.s C.m C.args C.below C.meth C.c H locs k n C.Q (F0 C.m pc ls st)
/-! CONTRACTS -/
def kPre (cy : Nat → ClassId) (D : va_G) (e0 : Nat × Nat) (sz : Nat) (av : List Value) (S : kS) : Array Value → State → Prop := va_Pc av (fun U => U.heap.size = sz ∧ kHold cy D e0 S U)
def kM (l : Launch) (e0 : Nat × Nat) (y : MethodName) (cc : ByteArray) (nL : Nat) (ret : Option FieldType) (rm : Room) (mc ms : Nat) (av : List Value) (S : kS) (Qg : (Nat → ClassId) → va_G → (Nat → Prop) → Array Value → State → Outcome → State → Prop) : Prop :=
  ∀ (cy : Nat → ClassId) (D : va_G) (sz : Nat), Met l y (Cond.code y cc nL ret :: kT) rm (kPre cy D e0 sz av S) (Qg cy D (va_A (kW cy S) sz)) mc ms (va_A (kW cy S) sz)
def kQi (post : Int32 → kS → Prop) : (Nat → ClassId) → va_G → (Nat → Prop) → Array Value → State → Outcome → State → Prop := fun cy D A => va_Qi post (kB cy D A) A
def kQl (post : Int64 → kS → Prop) : (Nat → ClassId) → va_G → (Nat → Prop) → Array Value → State → Outcome → State → Prop := fun cy D A => va_Ql post (kB cy D A) A
def kQq (post : Option Nat → kS → Prop) : (Nat → ClassId) → va_G → (Nat → Prop) → Array Value → State → Outcome → State → Prop := fun cy D A => va_Qq post (kB cy D A) A
def kQv (post : kS → Prop) : (Nat → ClassId) → va_G → (Nat → Prop) → Array Value → State → Outcome → State → Prop := fun cy D A => va_Qv post (kB cy D A) A
theorem kPre_blind {cy : Nat → ClassId} {D : va_G} {e0 : Nat × Nat} {sz : Nat} {av : List Value} {S : kS} : FrameBlind (kPre cy D e0 sz av S) := by
  intro a U g mk q
  obtain ⟨q1, q2, qP, qK, qD, qN, qE⟩ := q
  have hv : U.vm.Alike (U.calling g mk a).vm := Vm.Alike.refl U.vm
  refine ⟨q1, q2, qP, va_K.moved (u := U) (U := U.calling g mk a) hv qK, qD, ?_, ?_⟩
  · exact kNs.same (s := U) (U := U.calling g mk a) rfl qN
  · exact ⟨va_Z.moved hv qE.1, by obtain ⟨cell, h2, h3, h4⟩ := qE.2.1; exact ⟨cell, h2, State.isArrayOf_alike hv h3, h4⟩, qE.2.2⟩
/-- a method's walk, from its entry, is its contract -/
theorem kMet {l : Launch} {e0 : Nat × Nat} {y : MethodName} {cc : ByteArray} {nL : Nat} {ret : Option FieldType} {rm : Room} {mc ms : Nat} {av : List Value} {S : kS} {Qg : (Nat → ClassId) → va_G → (Nat → Prop) → Array Value → State → Outcome → State → Prop} (hy : plainName y.cls = true) (hlen : (lg_sl av).length ≤ nL)
    (walk : ∀ C : kC, C.e0 = e0 → kX C y.cls cc nL rm → C.meth.sig.returnType = ret → C.meth.name = y.name → C.meth.locks = false → C.Q = MQ C.below (Qg C.cy C.D C.A) C.args C.s mc ms C.A → kG C nL S 0 0 0 (lv_args 0 av) []) : kM l e0 y cc nL ret rm mc ms av S Qg := by
  intro cy D sz
  refine Met.ofW (cc := cc) (maxL := nL) (ret := ret) hy rfl ?_
  intro p e s m args below meth c s₁ B hml hv
  obtain ⟨rfl, hsz, hP, hK, hD, hN, hE⟩ := hv
  subst hsz
  have hts := atoms_spec (ws := Cond.code y cc nL ret :: kT) B.pre
  have hown : s.vm.findClass y.cls = some m.cls := findClass_of_methodNamed B.named
  rw [lg_entry_eq]
  have hl := lv_entry av (n := nL) hlen
  exact walk (p, l, e, (headSpec (Cond.code y cc nL ret :: kT) rm).room, s, m, av.toArray, below, meth, c, MQ below (Qg cy D (va_A (kW cy S) s.heap.size)) av.toArray s mc ms (va_A (kW cy S) s.heap.size), va_A (kW cy S) s.heap.size, cy, D, e0) rfl
    ⟨⟨B.exec, B.bytes, hml, hown, fun w hw => hts w (List.mem_cons_of_mem _ hw)⟩, hK, fun q h => Or.inr h, hN, rfl, hE⟩ B.returns (name_of_methodNamed B.named B.method).1 B.notSynchronized rfl s.heap [] _ hP (hD.self (sz := s.heap.size)) va_S.rf hl

