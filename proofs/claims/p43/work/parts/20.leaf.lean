theorem cat_i (x : Int32) : (Value.int x).category = 1 := rfl
theorem cat_r (x : Nat) : (Value.ref x).category = 1 := rfl
theorem cat_l (x : Int64) : (Value.long x).category = 2 := rfl
def kabs (x : Int32) : Int32 := if 0 ≤ x then x else 0 - x
def kmin (x y : Int32) : Int32 := if y < x then y else x
def kmax (x y : Int32) : Int32 := if x < y then y else x
theorem qcAbs : Cond.code Lib.Math.abs.name Lib.Math.abs.code 1 (some .int) ∈ kT := kT_in 990 (by decide +kernel) rfl
theorem qcMin : Cond.code Lib.Math.min.name Lib.Math.min.code 2 (some .int) ∈ kT := kT_in 212 (by decide +kernel) rfl
theorem qcMax : Cond.code Lib.Math.max.name Lib.Math.max.code 2 (some .int) ∈ kT := kT_in 176 (by decide +kernel) rfl
section KMA
variable {C : kC} {own : String} {cc : ByteArray} {nL : Nat} {rm : Room} {S : kS} {k n pc idx : Nat} {lv : List (Nat × Value)} {st : List Value}
theorem k_abs (X : kX C own cc nL rm) {x : Int32} (hw : Cond.methodLink own idx yJ9_abs_0f7a4 ∈ kT) (hf : 1 ≤ rm.frames) (hl : (st.map fun v => v.category).sum + 13 ≤ rm.locals) (hk : k ≤ rm.cells ∧ n ≤ rm.slots) (hdg : decode cc pc = .ok (.invokestatic idx, 3)) (kk : ∀ v, v = kabs x → kG C nL S k n (pc + 3) lv (.int v :: st)) : kG C nL S k n pc lv (.int x :: st) := by
  intro H locs ls hP hD hS h
  have hRm : C.R = rm := X.2.2.2.2.1
  subst hRm
  exact va_mabs X.1.1 X.1.2.1 (by rw [X.1.2.2.1]; exact h.1.symm) X.1.2.2.2.1 (X.1.2.2.2.2 _ hw) (X.1.2.2.2.2 _ qsJ9_abs_0f7a4) (X.1.2.2.2.2 _ qIJ9) (X.1.2.2.2.2 _ qcAbs) hf hl hk.1 hk.2 hdg (kk _ rfl H locs ls hP hD hS h)
theorem k_min (X : kX C own cc nL rm) {x y : Int32} (hw : Cond.methodLink own idx yJ9_min_7cf53 ∈ kT) (hf : 1 ≤ rm.frames) (hl : (st.map fun v => v.category).sum + 13 ≤ rm.locals) (hk : k ≤ rm.cells ∧ n ≤ rm.slots) (hdg : decode cc pc = .ok (.invokestatic idx, 3)) (kk : ∀ v, v = kmin x y → kG C nL S k n (pc + 3) lv (.int v :: st)) : kG C nL S k n pc lv (.int y :: .int x :: st) := by
  intro H locs ls hP hD hS h
  have hRm : C.R = rm := X.2.2.2.2.1
  subst hRm
  exact va_mmin X.1.1 X.1.2.1 (by rw [X.1.2.2.1]; exact h.1.symm) X.1.2.2.2.1 (X.1.2.2.2.2 _ hw) (X.1.2.2.2.2 _ qsJ9_min_7cf53) (X.1.2.2.2.2 _ qIJ9) (X.1.2.2.2.2 _ qcMin) hf hl hk.1 hk.2 hdg (kk _ rfl H locs ls hP hD hS h)
theorem k_max (X : kX C own cc nL rm) {x y : Int32} (hw : Cond.methodLink own idx yJ9_max_7cf53 ∈ kT) (hf : 1 ≤ rm.frames) (hl : (st.map fun v => v.category).sum + 13 ≤ rm.locals) (hk : k ≤ rm.cells ∧ n ≤ rm.slots) (hdg : decode cc pc = .ok (.invokestatic idx, 3)) (kk : ∀ v, v = kmax x y → kG C nL S k n (pc + 3) lv (.int v :: st)) : kG C nL S k n pc lv (.int y :: .int x :: st) := by
  intro H locs ls hP hD hS h
  have hRm : C.R = rm := X.2.2.2.2.1
  subst hRm
  exact va_mmax X.1.1 X.1.2.1 (by rw [X.1.2.2.1]; exact h.1.symm) X.1.2.2.2.1 (X.1.2.2.2.2 _ hw) (X.1.2.2.2.2 _ qsJ9_max_7cf53) (X.1.2.2.2.2 _ qIJ9) (X.1.2.2.2.2 _ qcMax) hf hl hk.1 hk.2 hdg (kk _ rfl H locs ls hP hD hS h)
end KMA
/-- a truth as a number -/
def kb (p : Bool) : Int32 := if p then 1 else 0
theorem kb_01 (p : Bool) : kb p = 0 ∨ kb p = 1 := by cases p <;> simp [kb]
set_option maxHeartbeats 1000000 in
set_option maxRecDepth 20000 in
theorem c_X11_isFrom (l : Launch) (e0 : Nat × Nat) (S : kS) (x : Int32) (y : Int32) (z : Int32)  : kM l e0 yX11_isFrom cX11_isFrom 3 (Option.some Jvm.ClassFile.FieldType.boolean) ({ frames := 0, cells := 0, slots := 0, locals := 0 } : Room) 0 0 [.int x, .int y, .int z] S (kQi (fun v S9 => S = S9 ∧ v = kb (decide (y ≤ x) && decide (x ≤ z)))) := by
  refine kMetE (by decide +kernel) (Nat.le_of_ble_eq_true rfl) (fun C he hl X E hm => ?_)
  have X : kX C RX11 cX11_isFrom 3 ({ frames := 0, cells := 0, slots := 0, locals := 0 } : Room) := X
  subst he hl
  show kG C 3 S 0 0 0 [(0, .int x), (1, .int y), (2, .int z)] []
  refine k_iload_n X (q := 0) dX11_isFrom_0 rfl rfl ?_
  refine k_iload_n X (q := 1) dX11_isFrom_1 rfl rfl ?_
  refine k_icmp_lt (tgt := 14) X dX11_isFrom_2 (by decide) (fun c_2 => ?_) (fun c_2 => ?_)
  · skip
    refine k_iconst X (v := 0) dX11_isFrom_14 (by decide) ?_
    exact k_zret X E (Or.inl rfl) dX11_isFrom_15 (Nat.le_of_ble_eq_true rfl) (Nat.le_of_ble_eq_true rfl) (⟨rfl, by (try subst_vars); simp_all [kabs, kmin, kmax, kb, ← Int32.not_le]⟩)
  · skip
    refine k_iload_n X (q := 0) dX11_isFrom_5 rfl rfl ?_
    refine k_iload_n X (q := 2) dX11_isFrom_6 rfl rfl ?_
    refine k_icmp_gt (tgt := 14) X dX11_isFrom_7 (by decide) (fun c_7 => ?_) (fun c_7 => ?_)
    · skip
      refine k_iconst X (v := 0) dX11_isFrom_14 (by decide) ?_
      exact k_zret X E (Or.inl rfl) dX11_isFrom_15 (Nat.le_of_ble_eq_true rfl) (Nat.le_of_ble_eq_true rfl) (⟨rfl, by (try subst_vars); simp_all [kabs, kmin, kmax, kb, ← Int32.not_le]⟩)
    · skip
      refine k_iconst X (v := 1) dX11_isFrom_10 (by decide) ?_
      refine k_goto (tgt := 15) X dX11_isFrom_11 (by decide) ?_
      exact k_zret X E (Or.inr rfl) dX11_isFrom_15 (Nat.le_of_ble_eq_true rfl) (Nat.le_of_ble_eq_true rfl) (⟨rfl, by (try subst_vars); simp_all [kabs, kmin, kmax, kb, ← Int32.not_le]⟩)
set_option maxHeartbeats 1000000 in
set_option maxRecDepth 20000 in
theorem c_X11_isLean (l : Launch) (e0 : Nat × Nat) (S : kS) (x : Int32)  : kM l e0 yX11_isLean cX11_isLean 1 (Option.some Jvm.ClassFile.FieldType.boolean) ({ frames := 1, cells := 0, slots := 0, locals := 22 } : Room) 0 0 [.int x] S (kQi (fun v S9 => S = S9 ∧ v = kb (decide (0 ≤ x) && decide (x ≤ 15)))) := by
  refine kMetE (by decide +kernel) (Nat.le_of_ble_eq_true rfl) (fun C he hl X E hm => ?_)
  have X : kX C RX11 cX11_isLean 1 ({ frames := 1, cells := 0, slots := 0, locals := 22 } : Room) := X
  subst he hl
  show kG C 1 S 0 0 0 [(0, .int x)] []
  refine k_iload_n X (q := 0) dX11_isLean_0 rfl rfl ?_
  refine k_iconst X (v := 0) dX11_isLean_1 (by decide) ?_
  refine k_bipush X (v := 15) dX11_isLean_2 (by decide) ?_
  refine k_gotI X (vX11_61 X (S := S) (c_X11_isFrom C.l C.e0 S x 0 15 ) (As := [.int x, .int 0, .int 15]) (rest := []) rfl rfl rfl rfl ⟨Nat.le_of_ble_eq_true rfl, Nat.le_of_ble_eq_true rfl⟩ (Nat.le_of_ble_eq_true rfl) ⟨Nat.le_of_ble_eq_true rfl, Nat.le_of_ble_eq_true rfl⟩ dX11_isLean_4) (fun v_4_2 S_4_3 h_4_0 => ?_)
  obtain ⟨rfl, ev_4_2⟩ := h_4_0
  exact k_zret X E (by first | assumption | (subst_vars; exact kb_01 _)) dX11_isLean_7 (Nat.le_of_ble_eq_true rfl) (Nat.le_of_ble_eq_true rfl) (⟨rfl, by (try subst_vars); simp_all [kabs, kmin, kmax, kb, ← Int32.not_le]⟩)
set_option maxHeartbeats 1000000 in
set_option maxRecDepth 20000 in
theorem c_X11_gap (l : Launch) (e0 : Nat × Nat) (S : kS) (x : Int32) (y : Int32)  : kM l e0 yX11_gap cX11_gap 2 (Option.some Jvm.ClassFile.FieldType.int) ({ frames := 1, cells := 0, slots := 0, locals := 24 } : Room) 0 0 [.int x, .int y] S (kQi (fun v S9 => S = S9 ∧ v = kabs (x - y))) := by
  refine kMetE (by decide +kernel) (Nat.le_of_ble_eq_true rfl) (fun C he hl X E hm => ?_)
  have X : kX C RX11 cX11_gap 2 ({ frames := 1, cells := 0, slots := 0, locals := 24 } : Room) := X
  subst he hl
  show kG C 2 S 0 0 0 [(0, .int x), (1, .int y)] []
  refine k_iload_n X (q := 0) dX11_gap_0 rfl rfl ?_
  refine k_iload_n X (q := 1) dX11_gap_1 rfl rfl ?_
  refine k_isub X dX11_gap_2 (fun v_2_1 ev_2_1 => ?_)
  refine k_abs X qmX11_616 (Nat.le_of_ble_eq_true rfl) (Nat.le_of_ble_eq_true rfl) ⟨Nat.le_of_ble_eq_true rfl, Nat.le_of_ble_eq_true rfl⟩ dX11_gap_3 (fun v_3_2 ev_3_2 => ?_)
  exact k_iret X E dX11_gap_6 (Nat.le_of_ble_eq_true rfl) (Nat.le_of_ble_eq_true rfl) (⟨rfl, by subst_vars; rfl⟩)
set_option maxHeartbeats 1000000 in
set_option maxRecDepth 20000 in
theorem c_X11_asNumber (l : Launch) (e0 : Nat × Nat) (S : kS) (x : Int32)  : kM l e0 yX11_asNumber cX11_asNumber 1 (Option.some Jvm.ClassFile.FieldType.int) ({ frames := 0, cells := 0, slots := 0, locals := 0 } : Room) 0 0 [.int x] S (kQi (fun v S9 => S = S9 ∧ v = (if x = 0 then 0 else 1))) := by
  refine kMetE (by decide +kernel) (Nat.le_of_ble_eq_true rfl) (fun C he hl X E hm => ?_)
  have X : kX C RX11 cX11_asNumber 1 ({ frames := 0, cells := 0, slots := 0, locals := 0 } : Room) := X
  subst he hl
  show kG C 1 S 0 0 0 [(0, .int x)] []
  refine k_iload_n X (q := 0) dX11_asNumber_0 rfl rfl ?_
  refine k_if_eq (tgt := 8) X dX11_asNumber_1 (by decide) (fun c_1 => ?_) (fun c_1 => ?_)
  · skip
    refine k_iconst X (v := 0) dX11_asNumber_8 (by decide) ?_
    exact k_iret X E dX11_asNumber_9 (Nat.le_of_ble_eq_true rfl) (Nat.le_of_ble_eq_true rfl) (⟨rfl, by (try subst_vars); simp_all [kabs, kmin, kmax, kb, ← Int32.not_le]⟩)
  · skip
    refine k_iconst X (v := 1) dX11_asNumber_4 (by decide) ?_
    refine k_goto (tgt := 9) X dX11_asNumber_5 (by decide) ?_
    exact k_iret X E dX11_asNumber_9 (Nat.le_of_ble_eq_true rfl) (Nat.le_of_ble_eq_true rfl) (⟨rfl, by (try subst_vars); simp_all [kabs, kmin, kmax, kb, ← Int32.not_le]⟩)
set_option maxHeartbeats 1000000 in
set_option maxRecDepth 20000 in
theorem c_X1_tribe (l : Launch) (e0 : Nat × Nat) (S : kS) (a : Nat) (ha : S.at a 1) : kM l e0 yX1_tribe cX1_tribe 1 (Option.some Jvm.ClassFile.FieldType.int) ({ frames := 0, cells := 0, slots := 0, locals := 0 } : Room) 0 0 [.ref a] S (kQi (fun v S9 => S = S9 ∧ v = S.I a 1 - S.I a 1 / 4 * 4)) := by
  refine kMetE (by decide +kernel) (Nat.le_of_ble_eq_true rfl) (fun C he hl X E hm => ?_)
  have X : kX C RX1 cX1_tribe 1 ({ frames := 0, cells := 0, slots := 0, locals := 0 } : Room) := X
  subst he hl
  show kG C 1 S 0 0 0 [(0, .ref a)] []
  refine k_aload_n X (q := 0) dX1_tribe_0 rfl rfl ?_
  refine gX1_46 X (S := S) ha.1 ha.2 dX1_tribe_1 (fun v_1_1 ev_1_1 => ?_)
  refine k_iconst X (v := 4) dX1_tribe_4 (by decide) ?_
  refine k_irem X dX1_tribe_5 (by decide) (fun v_5_2 ev_5_2 => ?_)
  exact k_iret X E dX1_tribe_6 (Nat.le_of_ble_eq_true rfl) (Nat.le_of_ble_eq_true rfl) (⟨rfl, by subst_vars; rfl⟩)
/-- a citizen's class of wealth -/
def kwc (x : Int32) : Int32 := if x < 20 then 0 else if x < 60 then 1 else if x < 120 then 2 else 3
set_option maxHeartbeats 1000000 in
set_option maxRecDepth 20000 in
theorem c_X1_wealthClass (l : Launch) (e0 : Nat × Nat) (S : kS) (a : Nat) (ha : S.at a 1) : kM l e0 yX1_wealthClass cX1_wealthClass 1 (Option.some Jvm.ClassFile.FieldType.int) ({ frames := 0, cells := 0, slots := 0, locals := 0 } : Room) 0 0 [.ref a] S (kQi (fun v S9 => S = S9 ∧ v = kwc (S.I a 4))) := by
  refine kMetE (by decide +kernel) (Nat.le_of_ble_eq_true rfl) (fun C he hl X E hm => ?_)
  have X : kX C RX1 cX1_wealthClass 1 ({ frames := 0, cells := 0, slots := 0, locals := 0 } : Room) := X
  subst he hl
  show kG C 1 S 0 0 0 [(0, .ref a)] []
  refine k_aload_n X (q := 0) dX1_wealthClass_0 rfl rfl ?_
  refine gX1_52 X (S := S) ha.1 ha.2 dX1_wealthClass_1 (fun v_1_1 ev_1_1 => ?_)
  refine k_bipush X (v := 20) dX1_wealthClass_4 (by decide) ?_
  refine k_icmp_ge (tgt := 11) X dX1_wealthClass_6 (by decide) (fun c_6 => ?_) (fun c_6 => ?_)
  · skip
    refine k_aload_n X (q := 0) dX1_wealthClass_11 rfl rfl ?_
    refine gX1_52 X (S := S) ha.1 ha.2 dX1_wealthClass_12 (fun v_12_2 ev_12_2 => ?_)
    refine k_bipush X (v := 60) dX1_wealthClass_15 (by decide) ?_
    refine k_icmp_ge (tgt := 22) X dX1_wealthClass_17 (by decide) (fun c_17 => ?_) (fun c_17 => ?_)
    · skip
      refine k_aload_n X (q := 0) dX1_wealthClass_22 rfl rfl ?_
      refine gX1_52 X (S := S) ha.1 ha.2 dX1_wealthClass_23 (fun v_23_3 ev_23_3 => ?_)
      refine k_bipush X (v := 120) dX1_wealthClass_26 (by decide) ?_
      refine k_icmp_ge (tgt := 35) X dX1_wealthClass_28 (by decide) (fun c_28 => ?_) (fun c_28 => ?_)
      · skip
        refine k_iconst X (v := 3) dX1_wealthClass_35 (by decide) ?_
        exact k_iret X E dX1_wealthClass_36 (Nat.le_of_ble_eq_true rfl) (Nat.le_of_ble_eq_true rfl) (⟨rfl, by subst_vars; simp_all [kwc, kb, ← Int32.not_le]⟩)
      · skip
        refine k_iconst X (v := 2) dX1_wealthClass_31 (by decide) ?_
        refine k_goto (tgt := 36) X dX1_wealthClass_32 (by decide) ?_
        exact k_iret X E dX1_wealthClass_36 (Nat.le_of_ble_eq_true rfl) (Nat.le_of_ble_eq_true rfl) (⟨rfl, by subst_vars; simp_all [kwc, kb, ← Int32.not_le]⟩)
    · skip
      refine k_iconst X (v := 1) dX1_wealthClass_20 (by decide) ?_
      exact k_iret X E dX1_wealthClass_21 (Nat.le_of_ble_eq_true rfl) (Nat.le_of_ble_eq_true rfl) (⟨rfl, by subst_vars; simp_all [kwc, kb, ← Int32.not_le]⟩)
  · skip
    refine k_iconst X (v := 0) dX1_wealthClass_9 (by decide) ?_
    exact k_iret X E dX1_wealthClass_10 (Nat.le_of_ble_eq_true rfl) (Nat.le_of_ble_eq_true rfl) (⟨rfl, by subst_vars; simp_all [kwc, kb, ← Int32.not_le]⟩)
set_option maxHeartbeats 1000000 in
set_option maxRecDepth 20000 in
theorem c_X1_isRich (l : Launch) (e0 : Nat × Nat) (S : kS) (a : Nat) (ha : S.at a 1) : kM l e0 yX1_isRich cX1_isRich 1 (Option.some Jvm.ClassFile.FieldType.boolean) ({ frames := 1, cells := 0, slots := 0, locals := 20 } : Room) 0 0 [.ref a] S (kQi (fun v S9 => S = S9 ∧ v = kb (decide (kwc (S.I a 4) = 3)))) := by
  refine kMetE (by decide +kernel) (Nat.le_of_ble_eq_true rfl) (fun C he hl X E hm => ?_)
  have X : kX C RX1 cX1_isRich 1 ({ frames := 1, cells := 0, slots := 0, locals := 20 } : Room) := X
  subst he hl
  show kG C 1 S 0 0 0 [(0, .ref a)] []
  refine k_aload_n X (q := 0) dX1_isRich_0 rfl rfl ?_
  refine k_gotI X (vX1_61 X (S := S) ⟨ha.1, ha.2⟩ (c_X1_wealthClass C.l C.e0 S a ha) (As := []) (rest := []) rfl rfl rfl rfl ⟨Nat.le_of_ble_eq_true rfl, Nat.le_of_ble_eq_true rfl⟩ (Nat.le_of_ble_eq_true rfl) ⟨Nat.le_of_ble_eq_true rfl, Nat.le_of_ble_eq_true rfl⟩ dX1_isRich_1) (fun v_1_2 S_1_3 h_1_0 => ?_)
  obtain ⟨rfl, ev_1_2⟩ := h_1_0
  refine k_iconst X (v := 3) dX1_isRich_4 (by decide) ?_
  refine k_icmp_ne (tgt := 12) X dX1_isRich_5 (by decide) (fun c_5 => ?_) (fun c_5 => ?_)
  · skip
    refine k_iconst X (v := 0) dX1_isRich_12 (by decide) ?_
    exact k_zret X E (Or.inl rfl) dX1_isRich_13 (Nat.le_of_ble_eq_true rfl) (Nat.le_of_ble_eq_true rfl) (⟨rfl, by subst_vars; simp_all [kb]⟩)
  · skip
    refine k_iconst X (v := 1) dX1_isRich_8 (by decide) ?_
    refine k_goto (tgt := 13) X dX1_isRich_9 (by decide) ?_
    exact k_zret X E (Or.inr rfl) dX1_isRich_13 (Nat.le_of_ble_eq_true rfl) (Nat.le_of_ble_eq_true rfl) (⟨rfl, by subst_vars; simp_all [kb]⟩)
set_option maxHeartbeats 1000000 in
set_option maxRecDepth 20000 in
theorem c_X1_agrees (l : Launch) (e0 : Nat × Nat) (S : kS) (a : Nat) (x : Int32) (ha : S.at a 1) : kM l e0 yX1_agrees cX1_agrees 2 (Option.some Jvm.ClassFile.FieldType.boolean) ({ frames := 2, cells := 0, slots := 0, locals := 45 } : Room) 0 0 [.ref a, .int x] S (kQi (fun v S9 => S = S9 ∧ v = kb (decide (kabs (S.I a 2 - x) ≤ 5)))) := by
  refine kMetE (by decide +kernel) (Nat.le_of_ble_eq_true rfl) (fun C he hl X E hm => ?_)
  have X : kX C RX1 cX1_agrees 2 ({ frames := 2, cells := 0, slots := 0, locals := 45 } : Room) := X
  subst he hl
  show kG C 2 S 0 0 0 [(0, .ref a), (1, .int x)] []
  refine k_aload_n X (q := 0) dX1_agrees_0 rfl rfl ?_
  refine gX1_55 X (S := S) ha.1 ha.2 dX1_agrees_1 (fun v_1_1 ev_1_1 => ?_)
  refine k_iload_n X (q := 1) dX1_agrees_4 rfl rfl ?_
  refine k_gotI X (vX1_65 X (S := S) (c_X11_gap C.l C.e0 S v_1_1 x ) (As := [.int v_1_1, .int x]) (rest := []) rfl rfl rfl rfl ⟨Nat.le_of_ble_eq_true rfl, Nat.le_of_ble_eq_true rfl⟩ (Nat.le_of_ble_eq_true rfl) ⟨Nat.le_of_ble_eq_true rfl, Nat.le_of_ble_eq_true rfl⟩ dX1_agrees_5) (fun v_5_3 S_5_4 h_5_1 => ?_)
  obtain ⟨rfl, ev_5_3⟩ := h_5_1
  refine k_iconst X (v := 5) dX1_agrees_8 (by decide) ?_
  refine k_icmp_gt (tgt := 16) X dX1_agrees_9 (by decide) (fun c_9 => ?_) (fun c_9 => ?_)
  · skip
    refine k_iconst X (v := 0) dX1_agrees_16 (by decide) ?_
    exact k_zret X E (Or.inl rfl) dX1_agrees_17 (Nat.le_of_ble_eq_true rfl) (Nat.le_of_ble_eq_true rfl) (⟨rfl, by subst_vars; simp_all [kb, ← Int32.not_le]⟩)
  · skip
    refine k_iconst X (v := 1) dX1_agrees_12 (by decide) ?_
    refine k_goto (tgt := 17) X dX1_agrees_13 (by decide) ?_
    exact k_zret X E (Or.inr rfl) dX1_agrees_17 (Nat.le_of_ble_eq_true rfl) (Nat.le_of_ble_eq_true rfl) (⟨rfl, by subst_vars; simp_all [kb, ← Int32.not_le]⟩)
set_option maxHeartbeats 1000000 in
set_option maxRecDepth 20000 in
theorem c_X1_isFull (l : Launch) (e0 : Nat × Nat) (S : kS) (a : Nat) (ha : S.at a 1) : kM l e0 yX1_isFull cX1_isFull 1 (Option.some Jvm.ClassFile.FieldType.boolean) ({ frames := 0, cells := 0, slots := 0, locals := 0 } : Room) 0 0 [.ref a] S (kQi (fun v S9 => S = S9 ∧ v = kb (decide (S.I a 6 = 1)))) := by
  refine kMetE (by decide +kernel) (Nat.le_of_ble_eq_true rfl) (fun C he hl X E hm => ?_)
  have X : kX C RX1 cX1_isFull 1 ({ frames := 0, cells := 0, slots := 0, locals := 0 } : Room) := X
  subst he hl
  show kG C 1 S 0 0 0 [(0, .ref a)] []
  refine k_aload_n X (q := 0) dX1_isFull_0 rfl rfl ?_
  refine gX1_58 X (S := S) ha.1 ha.2 dX1_isFull_1 (fun v_1_1 ev_1_1 => ?_)
  refine k_iconst X (v := 1) dX1_isFull_4 (by decide) ?_
  refine k_icmp_ne (tgt := 12) X dX1_isFull_5 (by decide) (fun c_5 => ?_) (fun c_5 => ?_)
  · skip
    refine k_iconst X (v := 0) dX1_isFull_12 (by decide) ?_
    exact k_zret X E (Or.inl rfl) dX1_isFull_13 (Nat.le_of_ble_eq_true rfl) (Nat.le_of_ble_eq_true rfl) (⟨rfl, by subst_vars; simp_all [kb, ← Int32.not_le]⟩)
  · skip
    refine k_iconst X (v := 1) dX1_isFull_8 (by decide) ?_
    refine k_goto (tgt := 13) X dX1_isFull_9 (by decide) ?_
    exact k_zret X E (Or.inr rfl) dX1_isFull_13 (Nat.le_of_ble_eq_true rfl) (Nat.le_of_ble_eq_true rfl) (⟨rfl, by subst_vars; simp_all [kb, ← Int32.not_le]⟩)
set_option maxHeartbeats 1000000 in
set_option maxRecDepth 20000 in
theorem c_X1_isFullOrOut (l : Launch) (e0 : Nat × Nat) (S : kS) (a : Nat) (ha : S.at a 1) : kM l e0 yX1_isFullOrOut cX1_isFullOrOut 1 (Option.some Jvm.ClassFile.FieldType.boolean) ({ frames := 0, cells := 0, slots := 0, locals := 0 } : Room) 0 0 [.ref a] S (kQi (fun v S9 => S = S9 ∧ v = kb (decide (S.I a 6 = 1) || decide (S.I a 6 = 2)))) := by
  refine kMetE (by decide +kernel) (Nat.le_of_ble_eq_true rfl) (fun C he hl X E hm => ?_)
  have X : kX C RX1 cX1_isFullOrOut 1 ({ frames := 0, cells := 0, slots := 0, locals := 0 } : Room) := X
  subst he hl
  show kG C 1 S 0 0 0 [(0, .ref a)] []
  refine k_aload_n X (q := 0) dX1_isFullOrOut_0 rfl rfl ?_
  refine gX1_58 X (S := S) ha.1 ha.2 dX1_isFullOrOut_1 (fun v_1_1 ev_1_1 => ?_)
  refine k_iconst X (v := 1) dX1_isFullOrOut_4 (by decide) ?_
  refine k_icmp_eq (tgt := 16) X dX1_isFullOrOut_5 (by decide) (fun c_5 => ?_) (fun c_5 => ?_)
  · skip
    refine k_iconst X (v := 1) dX1_isFullOrOut_16 (by decide) ?_
    refine k_goto (tgt := 21) X dX1_isFullOrOut_17 (by decide) ?_
    exact k_zret X E (Or.inr rfl) dX1_isFullOrOut_21 (Nat.le_of_ble_eq_true rfl) (Nat.le_of_ble_eq_true rfl) (⟨rfl, by subst_vars; simp_all [kb, ← Int32.not_le]⟩)
  · skip
    refine k_aload_n X (q := 0) dX1_isFullOrOut_8 rfl rfl ?_
    refine gX1_58 X (S := S) ha.1 ha.2 dX1_isFullOrOut_9 (fun v_9_2 ev_9_2 => ?_)
    refine k_iconst X (v := 2) dX1_isFullOrOut_12 (by decide) ?_
    refine k_icmp_ne (tgt := 20) X dX1_isFullOrOut_13 (by decide) (fun c_13 => ?_) (fun c_13 => ?_)
    · skip
      refine k_iconst X (v := 0) dX1_isFullOrOut_20 (by decide) ?_
      exact k_zret X E (Or.inl rfl) dX1_isFullOrOut_21 (Nat.le_of_ble_eq_true rfl) (Nat.le_of_ble_eq_true rfl) (⟨rfl, by subst_vars; simp_all [kb, ← Int32.not_le]⟩)
    · skip
      refine k_iconst X (v := 1) dX1_isFullOrOut_16 (by decide) ?_
      refine k_goto (tgt := 21) X dX1_isFullOrOut_17 (by decide) ?_
      exact k_zret X E (Or.inr rfl) dX1_isFullOrOut_21 (Nat.le_of_ble_eq_true rfl) (Nat.le_of_ble_eq_true rfl) (⟨rfl, by subst_vars; simp_all [kb, ← Int32.not_le]⟩)
set_option maxHeartbeats 1000000 in
set_option maxRecDepth 20000 in
theorem c_X1_isGone (l : Launch) (e0 : Nat × Nat) (S : kS) (a : Nat) (ha : S.at a 1) : kM l e0 yX1_isGone cX1_isGone 1 (Option.some Jvm.ClassFile.FieldType.boolean) ({ frames := 0, cells := 0, slots := 0, locals := 0 } : Room) 0 0 [.ref a] S (kQi (fun v S9 => S = S9 ∧ v = kb (decide (S.I a 6 = 3) || decide (S.I a 6 = 4) || decide (S.I a 6 = 5)))) := by
  refine kMetE (by decide +kernel) (Nat.le_of_ble_eq_true rfl) (fun C he hl X E hm => ?_)
  have X : kX C RX1 cX1_isGone 1 ({ frames := 0, cells := 0, slots := 0, locals := 0 } : Room) := X
  subst he hl
  show kG C 1 S 0 0 0 [(0, .ref a)] []
  refine k_aload_n X (q := 0) dX1_isGone_0 rfl rfl ?_
  refine gX1_58 X (S := S) ha.1 ha.2 dX1_isGone_1 (fun v_1_1 ev_1_1 => ?_)
  refine k_iconst X (v := 3) dX1_isGone_4 (by decide) ?_
  refine k_icmp_eq (tgt := 24) X dX1_isGone_5 (by decide) (fun c_5 => ?_) (fun c_5 => ?_)
  · skip
    refine k_iconst X (v := 1) dX1_isGone_24 (by decide) ?_
    refine k_goto (tgt := 29) X dX1_isGone_25 (by decide) ?_
    exact k_zret X E (Or.inr rfl) dX1_isGone_29 (Nat.le_of_ble_eq_true rfl) (Nat.le_of_ble_eq_true rfl) (⟨rfl, by subst_vars; simp_all [kb, ← Int32.not_le]⟩)
  · skip
    refine k_aload_n X (q := 0) dX1_isGone_8 rfl rfl ?_
    refine gX1_58 X (S := S) ha.1 ha.2 dX1_isGone_9 (fun v_9_2 ev_9_2 => ?_)
    refine k_iconst X (v := 4) dX1_isGone_12 (by decide) ?_
    refine k_icmp_eq (tgt := 24) X dX1_isGone_13 (by decide) (fun c_13 => ?_) (fun c_13 => ?_)
    · skip
      refine k_iconst X (v := 1) dX1_isGone_24 (by decide) ?_
      refine k_goto (tgt := 29) X dX1_isGone_25 (by decide) ?_
      exact k_zret X E (Or.inr rfl) dX1_isGone_29 (Nat.le_of_ble_eq_true rfl) (Nat.le_of_ble_eq_true rfl) (⟨rfl, by subst_vars; simp_all [kb, ← Int32.not_le]⟩)
    · skip
      refine k_aload_n X (q := 0) dX1_isGone_16 rfl rfl ?_
      refine gX1_58 X (S := S) ha.1 ha.2 dX1_isGone_17 (fun v_17_3 ev_17_3 => ?_)
      refine k_iconst X (v := 5) dX1_isGone_20 (by decide) ?_
      refine k_icmp_ne (tgt := 28) X dX1_isGone_21 (by decide) (fun c_21 => ?_) (fun c_21 => ?_)
      · skip
        refine k_iconst X (v := 0) dX1_isGone_28 (by decide) ?_
        exact k_zret X E (Or.inl rfl) dX1_isGone_29 (Nat.le_of_ble_eq_true rfl) (Nat.le_of_ble_eq_true rfl) (⟨rfl, by subst_vars; simp_all [kb, ← Int32.not_le]⟩)
      · skip
        refine k_iconst X (v := 1) dX1_isGone_24 (by decide) ?_
        refine k_goto (tgt := 29) X dX1_isGone_25 (by decide) ?_
        exact k_zret X E (Or.inr rfl) dX1_isGone_29 (Nat.le_of_ble_eq_true rfl) (Nat.le_of_ble_eq_true rfl) (⟨rfl, by subst_vars; simp_all [kb, ← Int32.not_le]⟩)
set_option maxHeartbeats 1000000 in
set_option maxRecDepth 20000 in
theorem c_X1_isBarred (l : Launch) (e0 : Nat × Nat) (S : kS) (a : Nat) (x : Int32) (ha : S.at a 1) : kM l e0 yX1_isBarred cX1_isBarred 2 (Option.some Jvm.ClassFile.FieldType.boolean) ({ frames := 0, cells := 0, slots := 0, locals := 0 } : Room) 0 0 [.ref a, .int x] S (kQi (fun v S9 => S = S9 ∧ v = kb (decide (x < S.I a 7)))) := by
  refine kMetE (by decide +kernel) (Nat.le_of_ble_eq_true rfl) (fun C he hl X E hm => ?_)
  have X : kX C RX1 cX1_isBarred 2 ({ frames := 0, cells := 0, slots := 0, locals := 0 } : Room) := X
  subst he hl
  show kG C 2 S 0 0 0 [(0, .ref a), (1, .int x)] []
  refine k_iload_n X (q := 1) dX1_isBarred_0 rfl rfl ?_
  refine k_aload_n X (q := 0) dX1_isBarred_1 rfl rfl ?_
  refine gX1_15 X (S := S) ha.1 ha.2 dX1_isBarred_2 (fun v_2_1 ev_2_1 => ?_)
  refine k_icmp_ge (tgt := 12) X dX1_isBarred_5 (by decide) (fun c_5 => ?_) (fun c_5 => ?_)
  · skip
    refine k_iconst X (v := 0) dX1_isBarred_12 (by decide) ?_
    exact k_zret X E (Or.inl rfl) dX1_isBarred_13 (Nat.le_of_ble_eq_true rfl) (Nat.le_of_ble_eq_true rfl) (⟨rfl, by subst_vars; simp_all [kb, ← Int32.not_le]⟩)
  · skip
    refine k_iconst X (v := 1) dX1_isBarred_8 (by decide) ?_
    refine k_goto (tgt := 13) X dX1_isBarred_9 (by decide) ?_
    exact k_zret X E (Or.inr rfl) dX1_isBarred_13 (Nat.le_of_ble_eq_true rfl) (Nat.le_of_ble_eq_true rfl) (⟨rfl, by subst_vars; simp_all [kb, ← Int32.not_le]⟩)
set_option maxHeartbeats 1000000 in
set_option maxRecDepth 20000 in
theorem c_X1_canJudge (l : Launch) (e0 : Nat × Nat) (S : kS) (a : Nat) (ha : S.at a 1) : kM l e0 yX1_canJudge cX1_canJudge 1 (Option.some Jvm.ClassFile.FieldType.boolean) ({ frames := 1, cells := 0, slots := 0, locals := 20 } : Room) 0 0 [.ref a] S (kQi (fun v S9 => S = S9 ∧ v = kb (decide (S.I a 6 = 1) && decide (30 ≤ S.I a 3)))) := by
  refine kMetE (by decide +kernel) (Nat.le_of_ble_eq_true rfl) (fun C he hl X E hm => ?_)
  have X : kX C RX1 cX1_canJudge 1 ({ frames := 1, cells := 0, slots := 0, locals := 20 } : Room) := X
  subst he hl
  show kG C 1 S 0 0 0 [(0, .ref a)] []
  refine k_aload_n X (q := 0) dX1_canJudge_0 rfl rfl ?_
  refine k_gotI X (vX1_69 X (S := S) ⟨ha.1, ha.2⟩ (c_X1_isFull C.l C.e0 S a ha) (As := []) (rest := []) rfl rfl rfl rfl ⟨Nat.le_of_ble_eq_true rfl, Nat.le_of_ble_eq_true rfl⟩ (Nat.le_of_ble_eq_true rfl) ⟨Nat.le_of_ble_eq_true rfl, Nat.le_of_ble_eq_true rfl⟩ dX1_canJudge_1) (fun v_1_2 S_1_3 h_1_0 => ?_)
  obtain ⟨rfl, ev_1_2⟩ := h_1_0
  refine k_if_eq (tgt := 20) X dX1_canJudge_4 (by decide) (fun c_4 => ?_) (fun c_4 => ?_)
  · skip
    rw [ev_1_2] at c_4
    refine k_iconst X (v := 0) dX1_canJudge_20 (by decide) ?_
    exact k_zret X E (Or.inl rfl) dX1_canJudge_21 (Nat.le_of_ble_eq_true rfl) (Nat.le_of_ble_eq_true rfl) (⟨rfl, by subst_vars; simp_all [kb, ← Int32.not_le]⟩)
  · skip
    rw [ev_1_2] at c_4
    refine k_aload_n X (q := 0) dX1_canJudge_7 rfl rfl ?_
    refine gX1_49 X (S := S) ha.1 ha.2 dX1_canJudge_8 (fun v_8_4 ev_8_4 => ?_)
    refine k_bipush X (v := 30) dX1_canJudge_11 (by decide) ?_
    refine k_icmp_lt (tgt := 20) X dX1_canJudge_13 (by decide) (fun c_13 => ?_) (fun c_13 => ?_)
    · skip
      refine k_iconst X (v := 0) dX1_canJudge_20 (by decide) ?_
      exact k_zret X E (Or.inl rfl) dX1_canJudge_21 (Nat.le_of_ble_eq_true rfl) (Nat.le_of_ble_eq_true rfl) (⟨rfl, by subst_vars; simp_all [kb, ← Int32.not_le]⟩)
    · skip
      refine k_iconst X (v := 1) dX1_canJudge_16 (by decide) ?_
      refine k_goto (tgt := 21) X dX1_canJudge_17 (by decide) ?_
      exact k_zret X E (Or.inr rfl) dX1_canJudge_21 (Nat.le_of_ble_eq_true rfl) (Nat.le_of_ble_eq_true rfl) (⟨rfl, by subst_vars; simp_all [kb, ← Int32.not_le]⟩)
set_option maxHeartbeats 1000000 in
set_option maxRecDepth 20000 in
theorem c_X1_hasToBear (l : Launch) (e0 : Nat × Nat) (S : kS) (a : Nat) (ha : S.at a 1) : kM l e0 yX1_hasToBear cX1_hasToBear 1 (Option.some Jvm.ClassFile.FieldType.boolean) ({ frames := 1, cells := 0, slots := 0, locals := 20 } : Room) 0 0 [.ref a] S (kQi (fun v S9 => S = S9 ∧ v = kb ((decide (S.I a 6 = 1) || decide (S.I a 6 = 2)) && !decide (S.I a 12 = 0) && decide (S.I a 13 = 0)))) := by
  refine kMetE (by decide +kernel) (Nat.le_of_ble_eq_true rfl) (fun C he hl X E hm => ?_)
  have X : kX C RX1 cX1_hasToBear 1 ({ frames := 1, cells := 0, slots := 0, locals := 20 } : Room) := X
  subst he hl
  show kG C 1 S 0 0 0 [(0, .ref a)] []
  refine k_aload_n X (q := 0) dX1_hasToBear_0 rfl rfl ?_
  refine k_gotI X (vX1_73 X (S := S) ⟨ha.1, ha.2⟩ (c_X1_isFullOrOut C.l C.e0 S a ha) (As := []) (rest := []) rfl rfl rfl rfl ⟨Nat.le_of_ble_eq_true rfl, Nat.le_of_ble_eq_true rfl⟩ (Nat.le_of_ble_eq_true rfl) ⟨Nat.le_of_ble_eq_true rfl, Nat.le_of_ble_eq_true rfl⟩ dX1_hasToBear_1) (fun v_1_2 S_1_3 h_1_0 => ?_)
  obtain ⟨rfl, ev_1_2⟩ := h_1_0
  refine k_if_eq (tgt := 25) X dX1_hasToBear_4 (by decide) (fun c_4 => ?_) (fun c_4 => ?_)
  · skip
    rw [ev_1_2] at c_4
    refine k_iconst X (v := 0) dX1_hasToBear_25 (by decide) ?_
    exact k_zret X E (Or.inl rfl) dX1_hasToBear_26 (Nat.le_of_ble_eq_true rfl) (Nat.le_of_ble_eq_true rfl) (⟨rfl, by subst_vars; simp_all [kb, ← Int32.not_le]⟩)
  · skip
    rw [ev_1_2] at c_4
    refine k_aload_n X (q := 0) dX1_hasToBear_7 rfl rfl ?_
    refine gX1_31 X (S := S) ha.1 ha.2 dX1_hasToBear_8 (fun v_8_4 ev_8_4 => ?_)
    refine k_if_eq (tgt := 25) X dX1_hasToBear_11 (by decide) (fun c_11 => ?_) (fun c_11 => ?_)
    · skip
      refine k_iconst X (v := 0) dX1_hasToBear_25 (by decide) ?_
      exact k_zret X E (Or.inl rfl) dX1_hasToBear_26 (Nat.le_of_ble_eq_true rfl) (Nat.le_of_ble_eq_true rfl) (⟨rfl, by subst_vars; simp_all [kb, ← Int32.not_le]⟩)
    · skip
      refine k_aload_n X (q := 0) dX1_hasToBear_14 rfl rfl ?_
      refine gX1_34 X (S := S) ha.1 ha.2 dX1_hasToBear_15 (fun v_15_5 ev_15_5 => ?_)
      refine k_if_ne (tgt := 25) X dX1_hasToBear_18 (by decide) (fun c_18 => ?_) (fun c_18 => ?_)
      · skip
        refine k_iconst X (v := 0) dX1_hasToBear_25 (by decide) ?_
        exact k_zret X E (Or.inl rfl) dX1_hasToBear_26 (Nat.le_of_ble_eq_true rfl) (Nat.le_of_ble_eq_true rfl) (⟨rfl, by subst_vars; simp_all [kb, ← Int32.not_le]⟩)
      · skip
        refine k_iconst X (v := 1) dX1_hasToBear_21 (by decide) ?_
        refine k_goto (tgt := 26) X dX1_hasToBear_22 (by decide) ?_
        exact k_zret X E (Or.inr rfl) dX1_hasToBear_26 (Nat.le_of_ble_eq_true rfl) (Nat.le_of_ble_eq_true rfl) (⟨rfl, by subst_vars; simp_all [kb, ← Int32.not_le]⟩)
set_option maxHeartbeats 1000000 in
set_option maxRecDepth 20000 in
theorem c_X1_mayClaim (l : Launch) (e0 : Nat × Nat) (S : kS) (a : Nat) (ha : S.at a 1) : kM l e0 yX1_mayClaim cX1_mayClaim 1 (Option.some Jvm.ClassFile.FieldType.boolean) ({ frames := 2, cells := 0, slots := 0, locals := 40 } : Room) 0 0 [.ref a] S (kQi (fun v S9 => S = S9 ∧ v = kb ((decide (S.I a 6 = 1) || decide (S.I a 6 = 2)) && !decide (S.I a 12 = 0) && decide (S.I a 13 = 0) && decide (S.I a 15 = 0)))) := by
  refine kMetE (by decide +kernel) (Nat.le_of_ble_eq_true rfl) (fun C he hl X E hm => ?_)
  have X : kX C RX1 cX1_mayClaim 1 ({ frames := 2, cells := 0, slots := 0, locals := 40 } : Room) := X
  subst he hl
  show kG C 1 S 0 0 0 [(0, .ref a)] []
  refine k_aload_n X (q := 0) dX1_mayClaim_0 rfl rfl ?_
  refine k_gotI X (vX1_76 X (S := S) ⟨ha.1, ha.2⟩ (c_X1_hasToBear C.l C.e0 S a ha) (As := []) (rest := []) rfl rfl rfl rfl ⟨Nat.le_of_ble_eq_true rfl, Nat.le_of_ble_eq_true rfl⟩ (Nat.le_of_ble_eq_true rfl) ⟨Nat.le_of_ble_eq_true rfl, Nat.le_of_ble_eq_true rfl⟩ dX1_mayClaim_1) (fun v_1_2 S_1_3 h_1_0 => ?_)
  obtain ⟨rfl, ev_1_2⟩ := h_1_0
  refine k_if_eq (tgt := 18) X dX1_mayClaim_4 (by decide) (fun c_4 => ?_) (fun c_4 => ?_)
  · skip
    rw [ev_1_2] at c_4
    refine k_iconst X (v := 0) dX1_mayClaim_18 (by decide) ?_
    exact k_zret X E (Or.inl rfl) dX1_mayClaim_19 (Nat.le_of_ble_eq_true rfl) (Nat.le_of_ble_eq_true rfl) (⟨rfl, by subst_vars; simp_all [kb, ← Int32.not_le]⟩)
  · skip
    rw [ev_1_2] at c_4
    refine k_aload_n X (q := 0) dX1_mayClaim_7 rfl rfl ?_
    refine gX1_40 X (S := S) ha.1 ha.2 dX1_mayClaim_8 (fun v_8_4 ev_8_4 => ?_)
    refine k_if_ne (tgt := 18) X dX1_mayClaim_11 (by decide) (fun c_11 => ?_) (fun c_11 => ?_)
    · skip
      refine k_iconst X (v := 0) dX1_mayClaim_18 (by decide) ?_
      exact k_zret X E (Or.inl rfl) dX1_mayClaim_19 (Nat.le_of_ble_eq_true rfl) (Nat.le_of_ble_eq_true rfl) (⟨rfl, by subst_vars; simp_all [kb, ← Int32.not_le]⟩)
    · skip
      refine k_iconst X (v := 1) dX1_mayClaim_14 (by decide) ?_
      refine k_goto (tgt := 19) X dX1_mayClaim_15 (by decide) ?_
      exact k_zret X E (Or.inr rfl) dX1_mayClaim_19 (Nat.le_of_ble_eq_true rfl) (Nat.le_of_ble_eq_true rfl) (⟨rfl, by subst_vars; simp_all [kb, ← Int32.not_le]⟩)
set_option maxHeartbeats 1000000 in
set_option maxRecDepth 20000 in
theorem c_X1_mayBeClaimed (l : Launch) (e0 : Nat × Nat) (S : kS) (a : Nat) (b : Nat) (ha : S.at a 1) (hb : S.at b 1) : kM l e0 yX1_mayBeClaimed cX1_mayBeClaimed 2 (Option.some Jvm.ClassFile.FieldType.boolean) ({ frames := 1, cells := 0, slots := 0, locals := 20 } : Room) 0 0 [.ref a, .ref b] S (kQi (fun v S9 => S = S9 ∧ v = kb (decide (S.I a 6 = 1) && decide (S.I a 1 - S.I a 1 / 4 * 4 = S.I b 1 - S.I b 1 / 4 * 4) && decide (S.I a 12 = 0)))) := by
  refine kMetE (by decide +kernel) (Nat.le_of_ble_eq_true rfl) (fun C he hl X E hm => ?_)
  have X : kX C RX1 cX1_mayBeClaimed 2 ({ frames := 1, cells := 0, slots := 0, locals := 20 } : Room) := X
  subst he hl
  show kG C 2 S 0 0 0 [(0, .ref a), (1, .ref b)] []
  refine k_aload_n X (q := 0) dX1_mayBeClaimed_0 rfl rfl ?_
  refine k_gotI X (vX1_69 X (S := S) ⟨ha.1, ha.2⟩ (c_X1_isFull C.l C.e0 S a ha) (As := []) (rest := []) rfl rfl rfl rfl ⟨Nat.le_of_ble_eq_true rfl, Nat.le_of_ble_eq_true rfl⟩ (Nat.le_of_ble_eq_true rfl) ⟨Nat.le_of_ble_eq_true rfl, Nat.le_of_ble_eq_true rfl⟩ dX1_mayBeClaimed_1) (fun v_1_2 S_1_3 h_1_0 => ?_)
  obtain ⟨rfl, ev_1_2⟩ := h_1_0
  refine k_if_eq (tgt := 29) X dX1_mayBeClaimed_4 (by decide) (fun c_4 => ?_) (fun c_4 => ?_)
  · skip
    rw [ev_1_2] at c_4
    refine k_iconst X (v := 0) dX1_mayBeClaimed_29 (by decide) ?_
    exact k_zret X E (Or.inl rfl) dX1_mayBeClaimed_30 (Nat.le_of_ble_eq_true rfl) (Nat.le_of_ble_eq_true rfl) (⟨rfl, by subst_vars; simp_all [kb, ← Int32.not_le]⟩)
  · skip
    rw [ev_1_2] at c_4
    refine k_aload_n X (q := 0) dX1_mayBeClaimed_7 rfl rfl ?_
    refine k_gotI X (vX1_79 X (S := S) ⟨ha.1, ha.2⟩ (c_X1_tribe C.l C.e0 S a ha) (As := []) (rest := []) rfl rfl rfl rfl ⟨Nat.le_of_ble_eq_true rfl, Nat.le_of_ble_eq_true rfl⟩ (Nat.le_of_ble_eq_true rfl) ⟨Nat.le_of_ble_eq_true rfl, Nat.le_of_ble_eq_true rfl⟩ dX1_mayBeClaimed_8) (fun v_8_5 S_8_6 h_8_3 => ?_)
    obtain ⟨rfl, ev_8_5⟩ := h_8_3
    refine k_aload_n X (q := 1) dX1_mayBeClaimed_11 rfl rfl ?_
    refine k_gotI X (vX1_79 X (S := S) ⟨hb.1, hb.2⟩ (c_X1_tribe C.l C.e0 S b hb) (As := []) (rest := [.int v_8_5]) rfl rfl rfl rfl ⟨Nat.le_of_ble_eq_true rfl, Nat.le_of_ble_eq_true rfl⟩ (Nat.le_of_ble_eq_true rfl) ⟨Nat.le_of_ble_eq_true rfl, Nat.le_of_ble_eq_true rfl⟩ dX1_mayBeClaimed_12) (fun v_12_8 S_12_9 h_12_6 => ?_)
    obtain ⟨rfl, ev_12_8⟩ := h_12_6
    refine k_icmp_ne (tgt := 29) X dX1_mayBeClaimed_15 (by decide) (fun c_15 => ?_) (fun c_15 => ?_)
    · skip
      refine k_iconst X (v := 0) dX1_mayBeClaimed_29 (by decide) ?_
      exact k_zret X E (Or.inl rfl) dX1_mayBeClaimed_30 (Nat.le_of_ble_eq_true rfl) (Nat.le_of_ble_eq_true rfl) (⟨rfl, by subst_vars; simp_all [kb, ← Int32.not_le]⟩)
    · skip
      refine k_aload_n X (q := 0) dX1_mayBeClaimed_18 rfl rfl ?_
      refine gX1_31 X (S := S) ha.1 ha.2 dX1_mayBeClaimed_19 (fun v_19_10 ev_19_10 => ?_)
      refine k_if_ne (tgt := 29) X dX1_mayBeClaimed_22 (by decide) (fun c_22 => ?_) (fun c_22 => ?_)
      · skip
        refine k_iconst X (v := 0) dX1_mayBeClaimed_29 (by decide) ?_
        exact k_zret X E (Or.inl rfl) dX1_mayBeClaimed_30 (Nat.le_of_ble_eq_true rfl) (Nat.le_of_ble_eq_true rfl) (⟨rfl, by subst_vars; simp_all [kb, ← Int32.not_le]⟩)
      · skip
        refine k_iconst X (v := 1) dX1_mayBeClaimed_25 (by decide) ?_
        refine k_goto (tgt := 30) X dX1_mayBeClaimed_26 (by decide) ?_
        exact k_zret X E (Or.inr rfl) dX1_mayBeClaimed_30 (Nat.le_of_ble_eq_true rfl) (Nat.le_of_ble_eq_true rfl) (⟨rfl, by subst_vars; simp_all [kb, ← Int32.not_le]⟩)
set_option maxHeartbeats 1000000 in
set_option maxRecDepth 20000 in
theorem c_X11_numberOf (l : Launch) (e0 : Nat × Nat) (S : kS) (a : Option Nat) (ha : ∀ x, a = some x → S.at x 1) : kM l e0 yX11_numberOf cX11_numberOf 1 (Option.some Jvm.ClassFile.FieldType.int) ({ frames := 0, cells := 0, slots := 0, locals := 0 } : Room) 0 0 [va_rf a] S (kQi (fun v S9 => S = S9 ∧ v = (match a with | none => -1 | some x => S.I x 0))) := by
  refine kMetE (by decide +kernel) (by simp [lg_sl, va_cat, cat_i, cat_r, cat_l]) (fun C he hl X E hm => ?_)
  have X : kX C RX11 cX11_numberOf 1 ({ frames := 0, cells := 0, slots := 0, locals := 0 } : Room) := X
  subst he hl
  rw [show lv_args 0 [va_rf a] = [(0, va_rf a)] from by simp [lv_args, va_cat, cat_i, cat_r, cat_l]]
  show kG C 1 S 0 0 0 [(0, va_rf a)] []
  refine k_aload_nQ X (q := 0) dX11_numberOf_0 rfl rfl ?_
  refine k_ifnonnull (tgt := 8) X dX11_numberOf_1 (by decide) (fun a_1_1 c_1 => ?_) (fun c_1 => ?_)
  · skip
    subst c_1
    have ha := ha _ rfl
    refine k_aload_n X (q := 0) dX11_numberOf_8 rfl rfl ?_
    refine gX11_228 X (S := S) ha.1 ha.2 dX11_numberOf_9 (fun v_9_2 ev_9_2 => ?_)
    exact k_iret X E dX11_numberOf_12 (Nat.le_of_ble_eq_true rfl) (Nat.le_of_ble_eq_true rfl) (⟨rfl, by subst_vars; rfl⟩)
  · skip
    subst c_1
    refine k_iconst X (v := (-1)) dX11_numberOf_4 (by decide) ?_
    refine k_goto (tgt := 12) X dX11_numberOf_5 (by decide) ?_
    exact k_iret X E dX11_numberOf_12 (Nat.le_of_ble_eq_true rfl) (Nat.le_of_ble_eq_true rfl) (⟨rfl, by subst_vars; rfl⟩)
theorem dummy_20 : True := trivial
