/-! THE START: what the launch gives, as the context of the law's walk -/
theorem klen0 {args : Array Value} {s : State} {t : Term} (h : (Term.length t).eval args s none [] s = some (.int 0)) : ∃ a cell, t.eval args s none [] s = some (.ref a) ∧ s.arrayAt? a = some cell ∧ cell.slots.size = 0 := by
  obtain ⟨a, cell, h1, h2, h3⟩ := Term.length_spec h
  refine ⟨a, cell, h1, h2, ?_⟩
  simp only [Term.eval, h1, Option.bind_eq_bind, Option.bind_some, h2] at h
  by_cases hn : cell.slots.size < 2147483648
  · exact nI_inj (a := cell.slots.size) (b := 0) (by omega) (by omega) (Value.int.inj h3.symm)
  · rw [if_neg hn] at h; cases h
theorem kover {args : Array Value} {s : State} (h : (Cond.arrayOver (.array .int)).before args s = true) : ∃ comp c k, s.vm.findClass "[I" = some comp ∧ s.vm.classes[c]? = some k ∧ k.kind = .array comp (.array .int) ∧ s.vm.findClass "[[I" = some c := by
  have h0 : (s.vm.findClass (FieldType.array .int).toString).bind (fun comp => (s.vm.classes.findIdx? fun (x : Class) => match x.kind with | .array component _ => component == comp | _ => false).bind fun c => (s.vm.classes[c]?).map fun (k : Class) => match k.kind with
      | .array _ ty => decide (ty = .array .int) && decide (s.vm.findClass ("[" ++ (FieldType.array .int).toString) = some c)
      | _ => false) = some true := beq_iff_eq.mp h
  obtain ⟨comp, h1, h0⟩ := Option.bind_eq_some_iff.mp h0
  obtain ⟨c, h2, h0⟩ := Option.bind_eq_some_iff.mp h0
  obtain ⟨k, h3, h4⟩ := Option.map_eq_some_iff.mp h0
  obtain ⟨hlt, hp, -⟩ := Array.findIdx?_eq_some_iff_getElem.mp h2
  rw [(Array.getElem?_eq_some_iff.mp h3).2] at hp
  cases hk : k.kind with
  | array component ty =>
    rw [hk] at h4 hp
    simp only [Bool.and_eq_true, decide_eq_true_eq] at h4
    have hc : component = comp := beq_iff_eq.mp hp
    exact ⟨comp, c, k, h1, h3, by rw [hk, hc, h4.1], h4.2⟩
  | _ => rw [hk] at h4; cases h4
theorem karr {s : State} {c comp : ClassId} {k : Class} {ty : FieldType} (h2 : s.vm.classes[c]? = some k) (h3 : k.kind = .array comp ty) : ArrOfT s c ty := fun n z => ⟨fun x => by simp [arrV], k, h2, comp, h3⟩
/-- the world's frame, at the start -/
theorem kStart {s : State} {args : Array Value} (hts : ∀ w ∈ lw_tbl, w.before args s = true) (hg : ∀ w ∈ flatC (Jvm.Cond.and given_1 narrow_1), w.before args s = true) :
    ∃ (cy : Nat → ClassId) (D : va_G) (e0 : Nat × Nat), va_K D vwCl (ktys cy) s ∧ kNs e0.2 s ∧ kE0 e0.1 (fun q => s.heap.size ≤ q) s s.heap ∧ kThr (fun q => s.heap.size ≤ q) s s.heap ∧ kMA cy s := by
  have hkT : ∀ w ∈ kT, w.before args s = true := fun w hw => hts w (List.mem_filter.mp hw).1
  have hin : ∀ (i : Nat) (w : Cond), lw_tbl[i]? = some w → w.before args s = true := fun i w h => hts w (List.mem_of_getElem? h)
  have hA : ∀ a : Nat, a < s.heap.size → ¬ (fun q => s.heap.size ≤ q) a := fun a h => Nat.not_le.mpr h
  -- classes
  obtain ⟨c0, i0, k0⟩ := u_known hkT qwJx4a65c (hkT _ qNJx4a65c)
  obtain ⟨c1, i1, k1⟩ := u_known hkT qwX0 (hkT _ qNX0)
  obtain ⟨c2, i2, k2⟩ := u_known hkT qwX1 (hkT _ qNX1)
  obtain ⟨c3, i3, k3⟩ := u_known hkT qwX2 (hkT _ qNX2)
  obtain ⟨c4, i4, k4⟩ := u_known hkT qwX3 (hkT _ qNX3)
  obtain ⟨c5, i5, k5⟩ := u_known hkT qwX4 (hkT _ qNX4)
  obtain ⟨c6, i6, k6⟩ := u_known hkT qwX5 (hkT _ qNX5)
  obtain ⟨c7, i7, k7⟩ := u_known hkT qwX6 (hkT _ qNX6)
  obtain ⟨c8, i8, k8⟩ := u_known hkT qwX7 (hkT _ qNX7)
  obtain ⟨c9, i9, k9⟩ := u_known hkT qwX8 (hkT _ qNX8)
  obtain ⟨c10, i10, k10⟩ := u_known hkT qwX9 (hkT _ qNX9)
  obtain ⟨c11, i11, k11⟩ := u_known hkT qwX10 (hkT _ qNX10)
  obtain ⟨c12, i12, k12⟩ := u_known hkT qwX11 (hkT _ qNX11)
  -- rows
  obtain ⟨a0, b0, e0, r1, r2, r3⟩ := Cond.arrayClass_spec (hkT _ qAI)
  obtain ⟨a4, b4, e4, r4, r5, r6⟩ := Cond.arrayClass_spec (hkT _ qAZ)
  have hoC := hin 124 (.arrayOver (.object "Kleroterion$Citizen")) (by decide +kernel)
  have hoO := hin 208 (.arrayOver (.object "java/lang/Object")) (by decide +kernel)
  have hoI := hin 1704 (.arrayOver (.array .int)) (by decide +kernel)
  obtain ⟨m1, a1, b1, s1, -, s2, s3, s4⟩ := Cond.arrayOver_spec (n := "Kleroterion$Citizen") hoC
  obtain ⟨m2, a2, b2, s5, -, s6, s7, s8⟩ := Cond.arrayOver_spec (n := "java/lang/Object") hoO
  obtain ⟨m3, a3, b3, s9, s10, s11, s12⟩ := kover hoI
  have hm3 : m3 = a0 := Option.some.inj (s9.symm.trans r1)
  subst hm3
  -- what the machine's own statics hold
  obtain ⟨mi, hmi⟩ := va_Mi.of (C := "[Ljava/lang/Object;") (hg (Cond.isRef (.mirror "[Ljava/lang/Object;")) (by decide +kernel))
  obtain ⟨ae, ce, t1, t2, t3⟩ := klen0 (va_eqt (hg (Cond.eq (.length (.static "java/util/ArrayList" "DEFAULTCAPACITY_EMPTY_ELEMENTDATA" "[Ljava/lang/Object;")) (.int 0)) (by decide +kernel)))
  obtain ⟨t4, t5, -, -⟩ := State.arrayAt?_spec t2
  obtain ⟨t6, -⟩ := Cond.arrayOf_spec (hg (Cond.arrayOf (.static "java/util/ArrayList" "DEFAULTCAPACITY_EMPTY_ELEMENTDATA" "[Ljava/lang/Object;") (.object "java/lang/Object")) (by decide +kernel)) t1 t4
  have hlt := (Array.getElem?_eq_some_iff.mp t4).1
  refine ⟨fun k => match k with | 0 => m3 | 1 => a1 | 2 => a2 | 3 => a3 | _ => a4, (fun k => match k with | 0 => c0 | 1 => c1 | 2 => c2 | 3 => c3 | 4 => c4 | 5 => c5 | 6 => c6 | 7 => c7 | 8 => c8 | 9 => c9 | 10 => c10 | 11 => c11 | _ => c12, fun k => match k with | 0 => i0 | 1 => i1 | 2 => i2 | 3 => i3 | 4 => i4 | 5 => i5 | 6 => i6 | 7 => i7 | 8 => i8 | 9 => i9 | 10 => i10 | 11 => i11 | _ => i12), (ae, mi), ⟨fun k q hq => ?_, fun k q hq => ?_⟩, ⟨fun w hw => ?_, hmi, va_Dc.of (hin 1742 _ (by decide +kernel)), va_AO.of hoO, va_AO.of hoC⟩, ⟨va_Zof (hin 110 _ (by decide +kernel)) (hin 46 _ (by decide +kernel)) t1 hA, ⟨ce, t4, t6, t3⟩, hA ae hlt, hlt⟩, ⟨fun w hw => ?_, vx_Zqof (hin 566 _ (by decide +kernel)) (hin 57 _ (by decide +kernel)) (hg (Cond.isRef (.static Bundle.tN "UNASSIGNED_STACK" Bundle.steD)) (by decide +kernel)) hA, vx_Zqof (hin 568 _ (by decide +kernel)) (hin 57 _ (by decide +kernel)) (hg (Cond.isRef (.static Bundle.tN "SUPPRESSED_SENTINEL" Bundle.listD)) (by decide +kernel)) hA, va_Nc.of (hg (Cond.not (.castable xIAE xIOO)) (by decide +kernel)), va_Nc.of (hg (Cond.not (.castable xISE xIOO)) (by decide +kernel)), va_Nc.of (hg (Cond.not (.castable xISE xIAE)) (by decide +kernel))⟩, ⟨b3, s10, s11⟩⟩
  · match k, hq with
    | 0, hq => cases hq; exact k0
    | 1, hq => cases hq; exact k1
    | 2, hq => cases hq; exact k2
    | 3, hq => cases hq; exact k3
    | 4, hq => cases hq; exact k4
    | 5, hq => cases hq; exact k5
    | 6, hq => cases hq; exact k6
    | 7, hq => cases hq; exact k7
    | 8, hq => cases hq; exact k8
    | 9, hq => cases hq; exact k9
    | 10, hq => cases hq; exact k10
    | 11, hq => cases hq; exact k11
    | 12, hq => cases hq; exact k12
    | k + 13, hq => simp at hq
  · match k, hq with
    | 0, hq => cases hq; exact ⟨karr r2 r3, r1⟩
    | 1, hq => cases hq; exact ⟨karr s2 s3, ⟨b1, m1, s2, s3, s1, s4⟩⟩
    | 2, hq => cases hq; exact ⟨karr s6 s7, ⟨b2, m2, s6, s7, s5, s8⟩⟩
    | 3, hq => cases hq; exact ⟨karr s10 s11, s12⟩
    | 4, hq => cases hq; exact ⟨karr r5 r6, r4⟩
    | k + 5, hq => simp [ktys] at hq
  · have h1 := hts w (List.mem_filter.mp hw).1
    have h2 := (List.mem_filter.mp hw).2
    cases w <;> first | exact va_Nw.of rfl h1 | (simp [kNq] at h2)
  · have h1 := hts w (List.mem_filter.mp hw).1
    have h2 := (List.mem_filter.mp hw).2
    cases w <;> first | exact va_Nw.of rfl h1 | (simp [kDq] at h2)
