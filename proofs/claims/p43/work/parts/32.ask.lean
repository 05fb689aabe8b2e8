/-- how many are FULL -/
def kfull (S : kS) (cz : Nat → Nat) (n : Nat) : Int32 := ksum (fun i => kb (decide (S.I (cz i) 6 = 1) && decide (0 ≤ S.I (cz i) 3) && (decide ((-1 : Int32) = -1) || decide (S.I (cz i) 1 - S.I (cz i) 1 / 4 * 4 = -1)))) n
def kfag (S : kS) (cz : Nat → Nat) (n : Nat) (x : Int32) : Int32 := ksum (fun i => kb (decide (S.I (cz i) 6 = 1) && decide (kabs (S.I (cz i) 2 - x) ≤ 5))) n
def kcag (S : kS) (cz : Nat → Nat) (n : Nat) (x : Int32) : Int32 := ksum (fun i => kb (!decide (S.I (cz i) 9 = 0) && decide (kabs (S.I (cz i) 2 - x) ≤ 5))) n
def kcou (S : kS) (cz : Nat → Nat) (n : Nat) : Int32 := ksum (fun i => if S.I (cz i) 9 = 0 then 0 else 1) n
/-- the remainder as the machine has it -/
def krem (x y : Int32) : Int32 := x - x / y * y
def ktr (S : kS) (c : Nat) : Int32 := krem (S.I c 1) 4
set_option maxHeartbeats 1000000 in
set_option maxRecDepth 20000 in
theorem c_X2_full (l : Launch) (e0 : Nat × Nat) (S : kS)  (A : Nat → Nat) (n : Nat) (cz : Nat → Nat) (hst : kSt A S) (hC : kLs e0 S (A 10) 1 n cz) (hn : n ≤ 40)  : kM l e0 yX2_full cX2_full 1 (Option.some Jvm.ClassFile.FieldType.int) ({ frames := 4, cells := 0, slots := 0, locals := 91 } : Room) 0 0 [.ref (A 1)] S (kQi (fun v S9 => S = S9 ∧ v = kfull S cz n)) := by
  refine kMetE (by decide +kernel) (Nat.le_of_ble_eq_true rfl) (fun C he hl X E hm => ?_)
  have X : kX C RX2 cX2_full 1 ({ frames := 4, cells := 0, slots := 0, locals := 91 } : Room) := X
  subst he hl
  show kG C 1 S 0 0 0 [(0, .ref (A 1))] []
  refine k_aload_n X (q := 0) dX2_full_0 rfl rfl ?_
  refine k_iconst X (v := 1) dX2_full_1 (by decide) ?_
  refine k_iconst X (v := 0) dX2_full_2 (by decide) ?_
  refine k_iconst X (v := (-1)) dX2_full_3 (by decide) ?_
  refine k_gotI X (vX2_130 X (S := S) ⟨(st_1 hst).1, (st_1 hst).2⟩ (c_X2_countOf C.l C.e0 S 1 0 (-1 : Int32) A n cz hst hC hn ) (As := [.int 1, .int 0, .int (-1 : Int32)]) (rest := []) rfl rfl rfl rfl ⟨Nat.le_of_ble_eq_true rfl, Nat.le_of_ble_eq_true rfl⟩ (Nat.le_of_ble_eq_true rfl) ⟨Nat.le_of_ble_eq_true rfl, Nat.le_of_ble_eq_true rfl⟩ dX2_full_4) (fun v_4_2 S_4_3 h_4_0 => ?_)
  obtain ⟨rfl, ev_4_2⟩ := h_4_0
  exact k_iret X E dX2_full_7 (Nat.le_of_ble_eq_true rfl) (Nat.le_of_ble_eq_true rfl) (⟨rfl, by (try subst_vars); rfl⟩)
set_option maxHeartbeats 1000000 in
set_option maxRecDepth 20000 in
theorem c_X2_year (l : Launch) (e0 : Nat × Nat) (S : kS)  (A : Nat → Nat) (hst : kSt A S)  : kM l e0 yX2_year cX2_year 1 (Option.some Jvm.ClassFile.FieldType.int) ({ frames := 0, cells := 0, slots := 0, locals := 0 } : Room) 0 0 [.ref (A 1)] S (kQi (fun v S9 => S = S9 ∧ v = S.I (A 1) 0 / 40)) := by
  refine kMetE (by decide +kernel) (Nat.le_of_ble_eq_true rfl) (fun C he hl X E hm => ?_)
  have X : kX C RX2 cX2_year 1 ({ frames := 0, cells := 0, slots := 0, locals := 0 } : Room) := X
  subst he hl
  show kG C 1 S 0 0 0 [(0, .ref (A 1))] []
  refine k_aload_n X (q := 0) dX2_year_0 rfl rfl ?_
  refine gX2_9 X (S := S) (st_1 hst).1 (st_1 hst).2 dX2_year_1 (fun v_1_1 ev_1_1 => ?_)
  refine k_bipush X (v := 40) dX2_year_4 (by decide) ?_
  refine k_idiv X dX2_year_6 (by decide) (fun v_6_2 ev_6_2 => ?_)
  exact k_iret X E dX2_year_7 (Nat.le_of_ble_eq_true rfl) (Nat.le_of_ble_eq_true rfl) (⟨rfl, by (try subst_vars); rfl⟩)
set_option maxHeartbeats 1000000 in
set_option maxRecDepth 20000 in
theorem c_X2_prytany (l : Launch) (e0 : Nat × Nat) (S : kS)  (A : Nat → Nat) (hst : kSt A S)  : kM l e0 yX2_prytany cX2_prytany 1 (Option.some Jvm.ClassFile.FieldType.int) ({ frames := 0, cells := 0, slots := 0, locals := 0 } : Room) 0 0 [.ref (A 1)] S (kQi (fun v S9 => S = S9 ∧ v = krem (S.I (A 1) 0) 40 / 10)) := by
  refine kMetE (by decide +kernel) (Nat.le_of_ble_eq_true rfl) (fun C he hl X E hm => ?_)
  have X : kX C RX2 cX2_prytany 1 ({ frames := 0, cells := 0, slots := 0, locals := 0 } : Room) := X
  subst he hl
  show kG C 1 S 0 0 0 [(0, .ref (A 1))] []
  refine k_aload_n X (q := 0) dX2_prytany_0 rfl rfl ?_
  refine gX2_9 X (S := S) (st_1 hst).1 (st_1 hst).2 dX2_prytany_1 (fun v_1_1 ev_1_1 => ?_)
  refine k_bipush X (v := 40) dX2_prytany_4 (by decide) ?_
  refine k_irem X dX2_prytany_6 (by decide) (fun v_6_2 ev_6_2 => ?_)
  refine k_bipush X (v := 10) dX2_prytany_7 (by decide) ?_
  refine k_idiv X dX2_prytany_9 (by decide) (fun v_9_3 ev_9_3 => ?_)
  exact k_iret X E dX2_prytany_10 (Nat.le_of_ble_eq_true rfl) (Nat.le_of_ble_eq_true rfl) (⟨rfl, by (try subst_vars); rfl⟩)
set_option maxHeartbeats 1000000 in
set_option maxRecDepth 20000 in
theorem c_X2_mayAct (l : Launch) (e0 : Nat × Nat) (S : kS) (c : Nat) (A : Nat → Nat) (hst : kSt A S) (hc : S.at c 1) : kM l e0 yX2_mayAct cX2_mayAct 2 (Option.some Jvm.ClassFile.FieldType.boolean) ({ frames := 1, cells := 0, slots := 0, locals := 21 } : Room) 0 0 [.ref (A 1), .ref c] S (kQi (fun v S9 => S = S9 ∧ v = kb (decide (S.I c 6 = 1) && !decide (S.I (A 1) 0 < S.I c 7)))) := by
  refine kMetE (by decide +kernel) (Nat.le_of_ble_eq_true rfl) (fun C he hl X E hm => ?_)
  have X : kX C RX2 cX2_mayAct 2 ({ frames := 1, cells := 0, slots := 0, locals := 21 } : Room) := X
  subst he hl
  show kG C 2 S 0 0 0 [(0, .ref (A 1)), (1, .ref c)] []
  refine k_aload_n X (q := 1) dX2_mayAct_0 rfl rfl ?_
  refine k_gotI X (vX2_101 X (S := S) ⟨hc.1, hc.2⟩ (c_X1_isFull C.l C.e0 S c hc) (As := []) (rest := []) rfl rfl rfl rfl ⟨Nat.le_of_ble_eq_true rfl, Nat.le_of_ble_eq_true rfl⟩ (Nat.le_of_ble_eq_true rfl) ⟨Nat.le_of_ble_eq_true rfl, Nat.le_of_ble_eq_true rfl⟩ dX2_mayAct_1) (fun v_1_2 S_1_3 h_1_0 => ?_)
  obtain ⟨rfl, ev_1_2⟩ := h_1_0
  refine k_if_eq (tgt := 22) X dX2_mayAct_4 (by decide) (fun c_4 => ?_) (fun c_4 => ?_)
  · skip
    rw [ev_1_2] at c_4
    refine k_iconst X (v := 0) dX2_mayAct_22 (by decide) ?_
    exact k_zret X E (Or.inl rfl) dX2_mayAct_23 (Nat.le_of_ble_eq_true rfl) (Nat.le_of_ble_eq_true rfl) (⟨rfl, by (try subst_vars); by_cases h1 : S.I c 6 = 1 <;> by_cases h2 : S.I (A 1) 0 < S.I c 7 <;> first | (simp [kb, h1, h2] at c_4 c_15 ⊢; done) | (simp [kb, h1, h2] at c_4 ⊢; done) | (simp_all [kb]; done)⟩)
  · skip
    rw [ev_1_2] at c_4
    refine k_aload_n X (q := 1) dX2_mayAct_7 rfl rfl ?_
    refine k_aload_n X (q := 0) dX2_mayAct_8 rfl rfl ?_
    refine gX2_9 X (S := S) (st_1 hst).1 (st_1 hst).2 dX2_mayAct_9 (fun v_9_4 ev_9_4 => ?_)
    refine k_gotI X (vX2_146 X (S := S) ⟨hc.1, hc.2⟩ (c_X1_isBarred C.l C.e0 S c v_9_4 hc) (As := [.int v_9_4]) (rest := []) rfl rfl rfl rfl ⟨Nat.le_of_ble_eq_true rfl, Nat.le_of_ble_eq_true rfl⟩ (Nat.le_of_ble_eq_true rfl) ⟨Nat.le_of_ble_eq_true rfl, Nat.le_of_ble_eq_true rfl⟩ dX2_mayAct_12) (fun v_12_6 S_12_7 h_12_4 => ?_)
    obtain ⟨rfl, ev_12_6⟩ := h_12_4
    refine k_if_ne (tgt := 22) X dX2_mayAct_15 (by decide) (fun c_15 => ?_) (fun c_15 => ?_)
    · skip
      rw [ev_12_6] at c_15
      refine k_iconst X (v := 0) dX2_mayAct_22 (by decide) ?_
      exact k_zret X E (Or.inl rfl) dX2_mayAct_23 (Nat.le_of_ble_eq_true rfl) (Nat.le_of_ble_eq_true rfl) (⟨rfl, by (try subst_vars); by_cases h1 : S.I c 6 = 1 <;> by_cases h2 : S.I (A 1) 0 < S.I c 7 <;> first | (simp [kb, h1, h2] at c_4 c_15 ⊢; done) | (simp [kb, h1, h2] at c_4 ⊢; done) | (simp_all [kb]; done)⟩)
    · skip
      rw [ev_12_6] at c_15
      refine k_iconst X (v := 1) dX2_mayAct_18 (by decide) ?_
      refine k_goto (tgt := 23) X dX2_mayAct_19 (by decide) ?_
      exact k_zret X E (Or.inr rfl) dX2_mayAct_23 (Nat.le_of_ble_eq_true rfl) (Nat.le_of_ble_eq_true rfl) (⟨rfl, by (try subst_vars); by_cases h1 : S.I c 6 = 1 <;> by_cases h2 : S.I (A 1) 0 < S.I c 7 <;> first | (simp [kb, h1, h2] at c_4 c_15 ⊢; done) | (simp [kb, h1, h2] at c_4 ⊢; done) | (simp_all [kb]; done)⟩)
set_option maxHeartbeats 1000000 in
set_option maxRecDepth 20000 in
theorem c_X2_isTreasurySound (l : Launch) (e0 : Nat × Nat) (S : kS)  (A : Nat → Nat) (hst : kSt A S)  : kM l e0 yX2_isTreasurySound cX2_isTreasurySound 1 (Option.some Jvm.ClassFile.FieldType.boolean) ({ frames := 0, cells := 0, slots := 0, locals := 0 } : Room) 0 0 [.ref (A 1)] S (kQi (fun v S9 => S = S9 ∧ v = kb (decide (S.I (A 1) 3 = 300 + S.I (A 1) 4 - S.I (A 1) 5)))) := by
  refine kMetE (by decide +kernel) (Nat.le_of_ble_eq_true rfl) (fun C he hl X E hm => ?_)
  have X : kX C RX2 cX2_isTreasurySound 1 ({ frames := 0, cells := 0, slots := 0, locals := 0 } : Room) := X
  subst he hl
  show kG C 1 S 0 0 0 [(0, .ref (A 1))] []
  refine k_aload_n X (q := 0) dX2_isTreasurySound_0 rfl rfl ?_
  refine gX2_22 X (S := S) (st_1 hst).1 (st_1 hst).2 dX2_isTreasurySound_1 (fun v_1_1 ev_1_1 => ?_)
  refine k_sipush X (v := 300) dX2_isTreasurySound_4 (by decide) ?_
  refine k_aload_n X (q := 0) dX2_isTreasurySound_7 rfl rfl ?_
  refine gX2_25 X (S := S) (st_1 hst).1 (st_1 hst).2 dX2_isTreasurySound_8 (fun v_8_2 ev_8_2 => ?_)
  refine k_iadd X dX2_isTreasurySound_11 (fun v_11_3 ev_11_3 => ?_)
  refine k_aload_n X (q := 0) dX2_isTreasurySound_12 rfl rfl ?_
  refine gX2_28 X (S := S) (st_1 hst).1 (st_1 hst).2 dX2_isTreasurySound_13 (fun v_13_4 ev_13_4 => ?_)
  refine k_isub X dX2_isTreasurySound_16 (fun v_16_5 ev_16_5 => ?_)
  refine k_icmp_ne (tgt := 24) X dX2_isTreasurySound_17 (by decide) (fun c_17 => ?_) (fun c_17 => ?_)
  · skip
    refine k_iconst X (v := 0) dX2_isTreasurySound_24 (by decide) ?_
    exact k_zret X E (Or.inl rfl) dX2_isTreasurySound_25 (Nat.le_of_ble_eq_true rfl) (Nat.le_of_ble_eq_true rfl) (⟨rfl, by (try subst_vars); simp_all [kb, ← Int32.not_le]⟩)
  · skip
    refine k_iconst X (v := 1) dX2_isTreasurySound_20 (by decide) ?_
    refine k_goto (tgt := 25) X dX2_isTreasurySound_21 (by decide) ?_
    exact k_zret X E (Or.inr rfl) dX2_isTreasurySound_25 (Nat.le_of_ble_eq_true rfl) (Nat.le_of_ble_eq_true rfl) (⟨rfl, by (try subst_vars); simp_all [kb, ← Int32.not_le]⟩)
set_option maxHeartbeats 1000000 in
set_option maxRecDepth 20000 in
theorem c_X7_isPassing (l : Launch) (e0 : Nat × Nat) (S : kS) (m : Nat) (x : Int32) (y : Int32) (z : Int32)  (hm9 : S.at m 7) : kM l e0 yX7_isPassing cX7_isPassing 4 (Option.some Jvm.ClassFile.FieldType.boolean) ({ frames := 0, cells := 0, slots := 0, locals := 0 } : Room) 0 0 [.ref m, .int x, .int y, .int z] S (kQi (fun v S9 => S = S9 ∧ v = kb (if S.I m 1 = 4 then decide (2 * y ≤ 3 * x) && decide (6 * z ≤ 10 * y) else decide (y < 2 * x)))) := by
  refine kMetE (by decide +kernel) (Nat.le_of_ble_eq_true rfl) (fun C he hl X E hm => ?_)
  have X : kX C RX7 cX7_isPassing 4 ({ frames := 0, cells := 0, slots := 0, locals := 0 } : Room) := X
  subst he hl
  show kG C 4 S 0 0 0 [(0, .ref m), (1, .int x), (2, .int y), (3, .int z)] []
  refine k_aload_n X (q := 0) dX7_isPassing_0 rfl rfl ?_
  refine gX7_29 X (S := S) hm9.1 hm9.2 dX7_isPassing_1 (fun v_1_1 ev_1_1 => ?_)
  refine k_iconst X (v := 4) dX7_isPassing_4 (by decide) ?_
  refine k_icmp_ne (tgt := 34) X dX7_isPassing_5 (by decide) (fun c_5 => ?_) (fun c_5 => ?_)
  · skip
    refine k_iconst X (v := 2) dX7_isPassing_34 (by decide) ?_
    refine k_iload_n X (q := 1) dX7_isPassing_35 rfl rfl ?_
    refine k_imul X dX7_isPassing_36 (fun v_36_2 ev_36_2 => ?_)
    refine k_iload_n X (q := 2) dX7_isPassing_37 rfl rfl ?_
    refine k_icmp_le (tgt := 45) X dX7_isPassing_38 (by decide) (fun c_38 => ?_) (fun c_38 => ?_)
    · skip
      refine k_iconst X (v := 0) dX7_isPassing_45 (by decide) ?_
      exact k_zret X E (Or.inl rfl) dX7_isPassing_46 (Nat.le_of_ble_eq_true rfl) (Nat.le_of_ble_eq_true rfl) (⟨rfl, by (try subst_vars); simp_all [kb, ← Int32.not_le]⟩)
    · skip
      refine k_iconst X (v := 1) dX7_isPassing_41 (by decide) ?_
      refine k_goto (tgt := 46) X dX7_isPassing_42 (by decide) ?_
      exact k_zret X E (Or.inr rfl) dX7_isPassing_46 (Nat.le_of_ble_eq_true rfl) (Nat.le_of_ble_eq_true rfl) (⟨rfl, by (try subst_vars); simp_all [kb, ← Int32.not_le]⟩)
  · skip
    refine k_iconst X (v := 3) dX7_isPassing_8 (by decide) ?_
    refine k_iload_n X (q := 1) dX7_isPassing_9 rfl rfl ?_
    refine k_imul X dX7_isPassing_10 (fun v_10_3 ev_10_3 => ?_)
    refine k_iconst X (v := 2) dX7_isPassing_11 (by decide) ?_
    refine k_iload_n X (q := 2) dX7_isPassing_12 rfl rfl ?_
    refine k_imul X dX7_isPassing_13 (fun v_13_4 ev_13_4 => ?_)
    refine k_icmp_lt (tgt := 32) X dX7_isPassing_14 (by decide) (fun c_14 => ?_) (fun c_14 => ?_)
    · skip
      refine k_iconst X (v := 0) dX7_isPassing_32 (by decide) ?_
      exact k_zret X E (Or.inl rfl) dX7_isPassing_33 (Nat.le_of_ble_eq_true rfl) (Nat.le_of_ble_eq_true rfl) (⟨rfl, by (try subst_vars); simp_all [kb, ← Int32.not_le]⟩)
    · skip
      refine k_bipush X (v := 10) dX7_isPassing_17 (by decide) ?_
      refine k_iload_n X (q := 2) dX7_isPassing_19 rfl rfl ?_
      refine k_imul X dX7_isPassing_20 (fun v_20_5 ev_20_5 => ?_)
      refine k_bipush X (v := 6) dX7_isPassing_21 (by decide) ?_
      refine k_iload_n X (q := 3) dX7_isPassing_23 rfl rfl ?_
      refine k_imul X dX7_isPassing_24 (fun v_24_6 ev_24_6 => ?_)
      refine k_icmp_lt (tgt := 32) X dX7_isPassing_25 (by decide) (fun c_25 => ?_) (fun c_25 => ?_)
      · skip
        refine k_iconst X (v := 0) dX7_isPassing_32 (by decide) ?_
        exact k_zret X E (Or.inl rfl) dX7_isPassing_33 (Nat.le_of_ble_eq_true rfl) (Nat.le_of_ble_eq_true rfl) (⟨rfl, by (try subst_vars); simp_all [kb, ← Int32.not_le]⟩)
      · skip
        refine k_iconst X (v := 1) dX7_isPassing_28 (by decide) ?_
        refine k_goto (tgt := 33) X dX7_isPassing_29 (by decide) ?_
        exact k_zret X E (Or.inr rfl) dX7_isPassing_33 (Nat.le_of_ble_eq_true rfl) (Nat.le_of_ble_eq_true rfl) (⟨rfl, by (try subst_vars); simp_all [kb, ← Int32.not_le]⟩)
set_option maxHeartbeats 1000000 in
set_option maxRecDepth 20000 in
theorem c_X10_isPrivate (l : Launch) (e0 : Nat × Nat) (S : kS) (u : Nat)  (hu : S.at u 10) : kM l e0 yX10_isPrivate cX10_isPrivate 1 (Option.some Jvm.ClassFile.FieldType.boolean) ({ frames := 0, cells := 0, slots := 0, locals := 0 } : Room) 0 0 [.ref u] S (kQi (fun v S9 => S = S9 ∧ v = kb (decide (S.I u 2 = 0)))) := by
  refine kMetE (by decide +kernel) (Nat.le_of_ble_eq_true rfl) (fun C he hl X E hm => ?_)
  have X : kX C RX10 cX10_isPrivate 1 ({ frames := 0, cells := 0, slots := 0, locals := 0 } : Room) := X
  subst he hl
  show kG C 1 S 0 0 0 [(0, .ref u)] []
  refine k_aload_n X (q := 0) dX10_isPrivate_0 rfl rfl ?_
  refine gX10_20 X (S := S) hu.1 hu.2 dX10_isPrivate_1 (fun v_1_1 ev_1_1 => ?_)
  refine k_if_ne (tgt := 11) X dX10_isPrivate_4 (by decide) (fun c_4 => ?_) (fun c_4 => ?_)
  · skip
    refine k_iconst X (v := 0) dX10_isPrivate_11 (by decide) ?_
    exact k_zret X E (Or.inl rfl) dX10_isPrivate_12 (Nat.le_of_ble_eq_true rfl) (Nat.le_of_ble_eq_true rfl) (⟨rfl, by (try subst_vars); simp_all [kb, ← Int32.not_le]⟩)
  · skip
    refine k_iconst X (v := 1) dX10_isPrivate_7 (by decide) ?_
    refine k_goto (tgt := 12) X dX10_isPrivate_8 (by decide) ?_
    exact k_zret X E (Or.inr rfl) dX10_isPrivate_12 (Nat.le_of_ble_eq_true rfl) (Nat.le_of_ble_eq_true rfl) (⟨rfl, by (try subst_vars); simp_all [kb, ← Int32.not_le]⟩)
set_option maxHeartbeats 1000000 in
set_option maxRecDepth 20000 in
theorem c_X10_water (l : Launch) (e0 : Nat × Nat) (S : kS) (u : Nat)  (hu : S.at u 10) : kM l e0 yX10_water cX10_water 1 (Option.some Jvm.ClassFile.FieldType.int) ({ frames := 1, cells := 0, slots := 0, locals := 20 } : Room) 0 0 [.ref u] S (kQi (fun v S9 => S = S9 ∧ v = (if S.I u 2 = 0 then 4 + S.I u 3 / 10 else 20))) := by
  refine kMetE (by decide +kernel) (Nat.le_of_ble_eq_true rfl) (fun C he hl X E hm => ?_)
  have X : kX C RX10 cX10_water 1 ({ frames := 1, cells := 0, slots := 0, locals := 20 } : Room) := X
  subst he hl
  show kG C 1 S 0 0 0 [(0, .ref u)] []
  refine k_aload_n X (q := 0) dX10_water_0 rfl rfl ?_
  refine k_gotI X (vX10_34 X (S := S) ⟨hu.1, hu.2⟩ (c_X10_isPrivate C.l C.e0 S u  ⟨hu.1, hu.2⟩) (As := []) (rest := []) rfl rfl rfl rfl ⟨Nat.le_of_ble_eq_true rfl, Nat.le_of_ble_eq_true rfl⟩ (Nat.le_of_ble_eq_true rfl) ⟨Nat.le_of_ble_eq_true rfl, Nat.le_of_ble_eq_true rfl⟩ dX10_water_1) (fun v_1_2 S_1_3 h_1_0 => ?_)
  obtain ⟨rfl, ev_1_2⟩ := h_1_0
  refine k_if_eq (tgt := 19) X dX10_water_4 (by decide) (fun c_4 => ?_) (fun c_4 => ?_)
  · skip
    rw [ev_1_2] at c_4
    refine k_bipush X (v := 20) dX10_water_19 (by decide) ?_
    exact k_iret X E dX10_water_21 (Nat.le_of_ble_eq_true rfl) (Nat.le_of_ble_eq_true rfl) (⟨rfl, by (try subst_vars); simp_all [kb, ← Int32.not_le]⟩)
  · skip
    rw [ev_1_2] at c_4
    refine k_iconst X (v := 4) dX10_water_7 (by decide) ?_
    refine k_aload_n X (q := 0) dX10_water_8 rfl rfl ?_
    refine gX10_24 X (S := S) hu.1 hu.2 dX10_water_9 (fun v_9_4 ev_9_4 => ?_)
    refine k_bipush X (v := 10) dX10_water_12 (by decide) ?_
    refine k_idiv X dX10_water_14 (by decide) (fun v_14_5 ev_14_5 => ?_)
    refine k_iadd X dX10_water_15 (fun v_15_6 ev_15_6 => ?_)
    refine k_goto (tgt := 21) X dX10_water_16 (by decide) ?_
    exact k_iret X E dX10_water_21 (Nat.le_of_ble_eq_true rfl) (Nat.le_of_ble_eq_true rfl) (⟨rfl, by (try subst_vars); simp_all [kb, ← Int32.not_le]⟩)
set_option maxHeartbeats 1000000 in
set_option maxRecDepth 20000 in
theorem c_X8_isGeneral (l : Launch) (e0 : Nat × Nat) (S : kS) (o : Nat)  (ho : S.at o 8) : kM l e0 yX8_isGeneral cX8_isGeneral 1 (Option.some Jvm.ClassFile.FieldType.boolean) ({ frames := 0, cells := 0, slots := 0, locals := 0 } : Room) 0 0 [.ref o] S (kQi (fun v S9 => S = S9 ∧ v = kb (decide (3 ≤ S.I o 0)))) := by
  refine kMetE (by decide +kernel) (Nat.le_of_ble_eq_true rfl) (fun C he hl X E hm => ?_)
  have X : kX C RX8 cX8_isGeneral 1 ({ frames := 0, cells := 0, slots := 0, locals := 0 } : Room) := X
  subst he hl
  show kG C 1 S 0 0 0 [(0, .ref o)] []
  refine k_aload_n X (q := 0) dX8_isGeneral_0 rfl rfl ?_
  refine gX8_29 X (S := S) ho.1 ho.2 dX8_isGeneral_1 (fun v_1_1 ev_1_1 => ?_)
  refine k_iconst X (v := 3) dX8_isGeneral_4 (by decide) ?_
  refine k_icmp_lt (tgt := 12) X dX8_isGeneral_5 (by decide) (fun c_5 => ?_) (fun c_5 => ?_)
  · skip
    refine k_iconst X (v := 0) dX8_isGeneral_12 (by decide) ?_
    exact k_zret X E (Or.inl rfl) dX8_isGeneral_13 (Nat.le_of_ble_eq_true rfl) (Nat.le_of_ble_eq_true rfl) (⟨rfl, by (try subst_vars); simp_all [kb, ← Int32.not_le]⟩)
  · skip
    refine k_iconst X (v := 1) dX8_isGeneral_8 (by decide) ?_
    refine k_goto (tgt := 13) X dX8_isGeneral_9 (by decide) ?_
    exact k_zret X E (Or.inr rfl) dX8_isGeneral_13 (Nat.le_of_ble_eq_true rfl) (Nat.le_of_ble_eq_true rfl) (⟨rfl, by (try subst_vars); simp_all [kb, ← Int32.not_le]⟩)
set_option maxHeartbeats 1000000 in
set_option maxRecDepth 20000 in
theorem c_X8_generalOf (l : Launch) (e0 : Nat × Nat) (S : kS) (x : Int32)   : kM l e0 yX8_generalOf cX8_generalOf 1 (Option.some Jvm.ClassFile.FieldType.int) ({ frames := 0, cells := 0, slots := 0, locals := 0 } : Room) 0 0 [.int x] S (kQi (fun v S9 => S = S9 ∧ v = 3 + x)) := by
  refine kMetE (by decide +kernel) (Nat.le_of_ble_eq_true rfl) (fun C he hl X E hm => ?_)
  have X : kX C RX8 cX8_generalOf 1 ({ frames := 0, cells := 0, slots := 0, locals := 0 } : Room) := X
  subst he hl
  show kG C 1 S 0 0 0 [(0, .int x)] []
  refine k_iconst X (v := 3) dX8_generalOf_0 (by decide) ?_
  refine k_iload_n X (q := 0) dX8_generalOf_1 rfl rfl ?_
  refine k_iadd X dX8_generalOf_2 (fun v_2_1 ev_2_1 => ?_)
  exact k_iret X E dX8_generalOf_3 (Nat.le_of_ble_eq_true rfl) (Nat.le_of_ble_eq_true rfl) (⟨rfl, by (try subst_vars); rfl⟩)
set_option maxHeartbeats 1000000 in
set_option maxRecDepth 20000 in
theorem c_X0_isTooFar (l : Launch) (e0 : Nat × Nat) (S : kS) (x : Int32) (y : Int32)   : kM l e0 yX0_isTooFar cX0_isTooFar 2 (Option.some Jvm.ClassFile.FieldType.boolean) ({ frames := 2, cells := 0, slots := 0, locals := 45 } : Room) 0 0 [.int x, .int y] S (kQi (fun v S9 => S = S9 ∧ v = kb (!decide (x = -1) && decide (6 < kabs (x - y))))) := by
  refine kMetE (by decide +kernel) (Nat.le_of_ble_eq_true rfl) (fun C he hl X E hm => ?_)
  have X : kX C RX0 cX0_isTooFar 2 ({ frames := 2, cells := 0, slots := 0, locals := 45 } : Room) := X
  subst he hl
  show kG C 2 S 0 0 0 [(0, .int x), (1, .int y)] []
  refine k_iload_n X (q := 0) dX0_isTooFar_0 rfl rfl ?_
  refine k_iconst X (v := (-1)) dX0_isTooFar_1 (by decide) ?_
  refine k_icmp_eq (tgt := 19) X dX0_isTooFar_2 (by decide) (fun c_2 => ?_) (fun c_2 => ?_)
  · skip
    refine k_iconst X (v := 0) dX0_isTooFar_19 (by decide) ?_
    exact k_zret X E (Or.inl rfl) dX0_isTooFar_20 (Nat.le_of_ble_eq_true rfl) (Nat.le_of_ble_eq_true rfl) (⟨rfl, by (try subst_vars); simp_all [kb, ← Int32.not_le]⟩)
  · skip
    refine k_iload_n X (q := 0) dX0_isTooFar_5 rfl rfl ?_
    refine k_iload_n X (q := 1) dX0_isTooFar_6 rfl rfl ?_
    refine k_gotI X (vX0_60 X (S := S) (c_X11_gap C.l C.e0 S x y ) (As := [.int x, .int y]) (rest := []) rfl rfl rfl rfl ⟨Nat.le_of_ble_eq_true rfl, Nat.le_of_ble_eq_true rfl⟩ (Nat.le_of_ble_eq_true rfl) ⟨Nat.le_of_ble_eq_true rfl, Nat.le_of_ble_eq_true rfl⟩ dX0_isTooFar_7) (fun v_7_2 S_7_3 h_7_0 => ?_)
    obtain ⟨rfl, ev_7_2⟩ := h_7_0
    refine k_bipush X (v := 6) dX0_isTooFar_10 (by decide) ?_
    refine k_icmp_le (tgt := 19) X dX0_isTooFar_12 (by decide) (fun c_12 => ?_) (fun c_12 => ?_)
    · skip
      refine k_iconst X (v := 0) dX0_isTooFar_19 (by decide) ?_
      exact k_zret X E (Or.inl rfl) dX0_isTooFar_20 (Nat.le_of_ble_eq_true rfl) (Nat.le_of_ble_eq_true rfl) (⟨rfl, by (try subst_vars); simp_all [kb, ← Int32.not_le]⟩)
    · skip
      refine k_iconst X (v := 1) dX0_isTooFar_15 (by decide) ?_
      refine k_goto (tgt := 20) X dX0_isTooFar_16 (by decide) ?_
      exact k_zret X E (Or.inr rfl) dX0_isTooFar_20 (Nat.le_of_ble_eq_true rfl) (Nat.le_of_ble_eq_true rfl) (⟨rfl, by (try subst_vars); simp_all [kb, ← Int32.not_le]⟩)
set_option maxHeartbeats 1000000 in
set_option maxRecDepth 20000 in
theorem c_X0_lawOn (l : Launch) (e0 : Nat × Nat) (S : kS) (x : Int32) (A : Nat → Nat) (hst : kSt A S)  : kM l e0 yX0_lawOn cX0_lawOn 2 (Option.some Jvm.ClassFile.FieldType.int) ({ frames := 1, cells := 0, slots := 0, locals := 21 } : Room) 0 0 [.ref (A 4), .int x] S (kQi (fun v S9 => S = S9 ∧ v = kvat S (A 43) x)) := by
  refine kMetE (by decide +kernel) (Nat.le_of_ble_eq_true rfl) (fun C he hl X E hm => ?_)
  have X : kX C RX0 cX0_lawOn 2 ({ frames := 1, cells := 0, slots := 0, locals := 21 } : Room) := X
  subst he hl
  show kG C 2 S 0 0 0 [(0, .ref (A 4)), (1, .int x)] []
  refine k_aload_n X (q := 0) dX0_lawOn_0 rfl rfl ?_
  refine gX0_21s X (S := S) (st_4 hst).1 (st_4 hst).2 (sr_4_4 hst) dX0_lawOn_1 ?_
  refine k_iload_n X (q := 1) dX0_lawOn_4 rfl rfl ?_
  refine k_gotI X (vX0_52 X (S := S) (c_X11_valueAt C.l C.e0 S (A 43) x (st_43 hst) (sm_43 hst)) (As := [.ref (A 43), .int x]) (rest := []) rfl rfl rfl rfl ⟨Nat.le_of_ble_eq_true rfl, Nat.le_of_ble_eq_true rfl⟩ (Nat.le_of_ble_eq_true rfl) ⟨Nat.le_of_ble_eq_true rfl, Nat.le_of_ble_eq_true rfl⟩ dX0_lawOn_5) (fun v_5_2 S_5_3 h_5_0 => ?_)
  obtain ⟨rfl, ev_5_2⟩ := h_5_0
  exact k_iret X E dX0_lawOn_8 (Nat.le_of_ble_eq_true rfl) (Nat.le_of_ble_eq_true rfl) (⟨rfl, by (try subst_vars); rfl⟩)
set_option maxHeartbeats 1000000 in
set_option maxRecDepth 20000 in
theorem c_X3_size (l : Launch) (e0 : Nat × Nat) (S : kS)  (A : Nat → Nat) (n : Nat) (cz : Nat → Nat) (hst : kSt A S) (hC : kLs e0 S (A 10) 1 n cz) (hn : n ≤ 40)  : kM l e0 yX3_size cX3_size 1 (Option.some Jvm.ClassFile.FieldType.int) ({ frames := 4, cells := 0, slots := 0, locals := 86 } : Room) 0 0 [.ref (A 2)] S (kQi (fun v S9 => S = S9 ∧ v = kcou S cz n)) := by
  refine kMetE (by decide +kernel) (Nat.le_of_ble_eq_true rfl) (fun C he hl X E hm => ?_)
  have X : kX C RX3 cX3_size 1 ({ frames := 4, cells := 0, slots := 0, locals := 86 } : Room) := X
  subst he hl
  show kG C 1 S 0 0 0 [(0, .ref (A 2))] []
  refine k_aload_n X (q := 0) dX3_size_0 rfl rfl ?_
  refine gX3_28s X (S := S) (st_2 hst).1 (st_2 hst).2 (sr_2_0 hst) dX3_size_1 ?_
  refine k_gotI X (vX3_38 X (S := S) ⟨(st_1 hst).1, (st_1 hst).2⟩ (c_X2_councillors C.l C.e0 S  A n cz hst hC hn ) (As := []) (rest := []) rfl rfl rfl rfl ⟨Nat.le_of_ble_eq_true rfl, Nat.le_of_ble_eq_true rfl⟩ (Nat.le_of_ble_eq_true rfl) ⟨Nat.le_of_ble_eq_true rfl, Nat.le_of_ble_eq_true rfl⟩ dX3_size_4) (fun v_4_2 S_4_3 h_4_0 => ?_)
  obtain ⟨rfl, ev_4_2⟩ := h_4_0
  exact k_iret X E dX3_size_7 (Nat.le_of_ble_eq_true rfl) (Nat.le_of_ble_eq_true rfl) (⟨rfl, by (try subst_vars); rfl⟩)
set_option maxHeartbeats 1000000 in
set_option maxRecDepth 20000 in
theorem c_X3_prytanyTribe (l : Launch) (e0 : Nat × Nat) (S : kS)  (A : Nat → Nat) (hst : kSt A S)  : kM l e0 yX3_prytanyTribe cX3_prytanyTribe 1 (Option.some Jvm.ClassFile.FieldType.int) ({ frames := 1, cells := 0, slots := 0, locals := 21 } : Room) 0 0 [.ref (A 2)] S (kQi (fun v S9 => S = S9 ∧ v = kvat S (A 41) (krem (S.I (A 1) 0) 40 / 10))) := by
  refine kMetE (by decide +kernel) (Nat.le_of_ble_eq_true rfl) (fun C he hl X E hm => ?_)
  have X : kX C RX3 cX3_prytanyTribe 1 ({ frames := 1, cells := 0, slots := 0, locals := 21 } : Room) := X
  subst he hl
  show kG C 1 S 0 0 0 [(0, .ref (A 2))] []
  refine k_aload_n X (q := 0) dX3_prytanyTribe_0 rfl rfl ?_
  refine gX3_9s X (S := S) (st_2 hst).1 (st_2 hst).2 (sr_2_1 hst) dX3_prytanyTribe_1 ?_
  refine k_aload_n X (q := 0) dX3_prytanyTribe_4 rfl rfl ?_
  refine gX3_28s X (S := S) (st_2 hst).1 (st_2 hst).2 (sr_2_0 hst) dX3_prytanyTribe_5 ?_
  refine k_gotI X (vX3_128 X (S := S) ⟨(st_1 hst).1, (st_1 hst).2⟩ (c_X2_prytany C.l C.e0 S  A hst ) (As := []) (rest := [.ref (A 41)]) rfl rfl rfl rfl ⟨Nat.le_of_ble_eq_true rfl, Nat.le_of_ble_eq_true rfl⟩ (Nat.le_of_ble_eq_true rfl) ⟨Nat.le_of_ble_eq_true rfl, Nat.le_of_ble_eq_true rfl⟩ dX3_prytanyTribe_8) (fun v_8_2 S_8_3 h_8_0 => ?_)
  obtain ⟨rfl, ev_8_2⟩ := h_8_0
  refine k_gotI X (vX3_120 X (S := S) (c_X11_valueAt C.l C.e0 S (A 41) v_8_2 (st_41 hst) (sm_41 hst)) (As := [.ref (A 41), .int v_8_2]) (rest := []) rfl rfl rfl rfl ⟨Nat.le_of_ble_eq_true rfl, Nat.le_of_ble_eq_true rfl⟩ (Nat.le_of_ble_eq_true rfl) ⟨Nat.le_of_ble_eq_true rfl, Nat.le_of_ble_eq_true rfl⟩ dX3_prytanyTribe_11) (fun v_11_5 S_11_6 h_11_3 => ?_)
  obtain ⟨rfl, ev_11_5⟩ := h_11_3
  exact k_iret X E dX3_prytanyTribe_14 (Nat.le_of_ble_eq_true rfl) (Nat.le_of_ble_eq_true rfl) (⟨rfl, by (try subst_vars); rfl⟩)
set_option maxHeartbeats 1000000 in
set_option maxRecDepth 20000 in
theorem c_X3_isPrytanis (l : Launch) (e0 : Nat × Nat) (S : kS) (c : Nat) (A : Nat → Nat) (hst : kSt A S) (hc : S.at c 1) : kM l e0 yX3_isPrytanis cX3_isPrytanis 2 (Option.some Jvm.ClassFile.FieldType.boolean) ({ frames := 2, cells := 0, slots := 0, locals := 41 } : Room) 0 0 [.ref (A 2), .ref c] S (kQi (fun v S9 => S = S9 ∧ v = kb (!decide (S.I c 9 = 0) && decide (S.I c 1 - S.I c 1 / 4 * 4 = kvat S (A 41) (krem (S.I (A 1) 0) 40 / 10))))) := by
  refine kMetE (by decide +kernel) (Nat.le_of_ble_eq_true rfl) (fun C he hl X E hm => ?_)
  have X : kX C RX3 cX3_isPrytanis 2 ({ frames := 2, cells := 0, slots := 0, locals := 41 } : Room) := X
  subst he hl
  show kG C 2 S 0 0 0 [(0, .ref (A 2)), (1, .ref c)] []
  refine k_aload_n X (q := 1) dX3_isPrytanis_0 rfl rfl ?_
  refine gX3_73 X (S := S) hc.1 hc.2 dX3_isPrytanis_1 (fun v_1_1 ev_1_1 => ?_)
  refine k_if_eq (tgt := 22) X dX3_isPrytanis_4 (by decide) (fun c_4 => ?_) (fun c_4 => ?_)
  · skip
    refine k_iconst X (v := 0) dX3_isPrytanis_22 (by decide) ?_
    exact k_zret X E (Or.inl rfl) dX3_isPrytanis_23 (Nat.le_of_ble_eq_true rfl) (Nat.le_of_ble_eq_true rfl) (⟨rfl, by (try subst_vars); simp_all [kb, ← Int32.not_le]⟩)
  · skip
    refine k_aload_n X (q := 1) dX3_isPrytanis_7 rfl rfl ?_
    refine k_gotI X (vX3_87 X (S := S) ⟨hc.1, hc.2⟩ (c_X1_tribe C.l C.e0 S c hc) (As := []) (rest := []) rfl rfl rfl rfl ⟨Nat.le_of_ble_eq_true rfl, Nat.le_of_ble_eq_true rfl⟩ (Nat.le_of_ble_eq_true rfl) ⟨Nat.le_of_ble_eq_true rfl, Nat.le_of_ble_eq_true rfl⟩ dX3_isPrytanis_8) (fun v_8_3 S_8_4 h_8_1 => ?_)
    obtain ⟨rfl, ev_8_3⟩ := h_8_1
    refine k_aload_n X (q := 0) dX3_isPrytanis_11 rfl rfl ?_
    refine k_gotI X (vX3_131 X (S := S) ⟨(st_2 hst).1, (st_2 hst).2⟩ (c_X3_prytanyTribe C.l C.e0 S  A hst ) (As := []) (rest := [.int v_8_3]) rfl rfl rfl rfl ⟨Nat.le_of_ble_eq_true rfl, Nat.le_of_ble_eq_true rfl⟩ (Nat.le_of_ble_eq_true rfl) ⟨Nat.le_of_ble_eq_true rfl, Nat.le_of_ble_eq_true rfl⟩ dX3_isPrytanis_12) (fun v_12_6 S_12_7 h_12_4 => ?_)
    obtain ⟨rfl, ev_12_6⟩ := h_12_4
    refine k_icmp_ne (tgt := 22) X dX3_isPrytanis_15 (by decide) (fun c_15 => ?_) (fun c_15 => ?_)
    · skip
      refine k_iconst X (v := 0) dX3_isPrytanis_22 (by decide) ?_
      exact k_zret X E (Or.inl rfl) dX3_isPrytanis_23 (Nat.le_of_ble_eq_true rfl) (Nat.le_of_ble_eq_true rfl) (⟨rfl, by (try subst_vars); simp_all [kb, ← Int32.not_le]⟩)
    · skip
      refine k_iconst X (v := 1) dX3_isPrytanis_18 (by decide) ?_
      refine k_goto (tgt := 23) X dX3_isPrytanis_19 (by decide) ?_
      exact k_zret X E (Or.inr rfl) dX3_isPrytanis_23 (Nat.le_of_ble_eq_true rfl) (Nat.le_of_ble_eq_true rfl) (⟨rfl, by (try subst_vars); simp_all [kb, ← Int32.not_le]⟩)
set_option maxHeartbeats 1000000 in
set_option maxRecDepth 20000 in
theorem c_X9_isAmnesty (l : Launch) (e0 : Nat × Nat) (S : kS)  (A : Nat → Nat) (hst : kSt A S)  : kM l e0 yX9_isAmnesty cX9_isAmnesty 1 (Option.some Jvm.ClassFile.FieldType.boolean) ({ frames := 0, cells := 0, slots := 0, locals := 0 } : Room) 0 0 [.ref (A 6)] S (kQi (fun v S9 => S = S9 ∧ v = kb (!decide (S.I (A 6) 7 = -1) && decide (S.I (A 1) 0 ≤ S.I (A 6) 7 + 40)))) := by
  refine kMetE (by decide +kernel) (Nat.le_of_ble_eq_true rfl) (fun C he hl X E hm => ?_)
  have X : kX C RX9 cX9_isAmnesty 1 ({ frames := 0, cells := 0, slots := 0, locals := 0 } : Room) := X
  subst he hl
  show kG C 1 S 0 0 0 [(0, .ref (A 6))] []
  refine k_aload_n X (q := 0) dX9_isAmnesty_0 rfl rfl ?_
  refine gX9_29 X (S := S) (st_6 hst).1 (st_6 hst).2 dX9_isAmnesty_1 (fun v_1_1 ev_1_1 => ?_)
  refine k_iconst X (v := (-1)) dX9_isAmnesty_4 (by decide) ?_
  refine k_icmp_eq (tgt := 29) X dX9_isAmnesty_5 (by decide) (fun c_5 => ?_) (fun c_5 => ?_)
  · skip
    refine k_iconst X (v := 0) dX9_isAmnesty_29 (by decide) ?_
    exact k_zret X E (Or.inl rfl) dX9_isAmnesty_30 (Nat.le_of_ble_eq_true rfl) (Nat.le_of_ble_eq_true rfl) (⟨rfl, by (try subst_vars); simp_all [kb, ← Int32.not_le]⟩)
  · skip
    refine k_aload_n X (q := 0) dX9_isAmnesty_8 rfl rfl ?_
    refine gX9_32s X (S := S) (st_6 hst).1 (st_6 hst).2 (sr_6_0 hst) dX9_isAmnesty_9 ?_
    refine gX9_44 X (S := S) (st_1 hst).1 (st_1 hst).2 dX9_isAmnesty_12 (fun v_12_2 ev_12_2 => ?_)
    refine k_aload_n X (q := 0) dX9_isAmnesty_15 rfl rfl ?_
    refine gX9_29 X (S := S) (st_6 hst).1 (st_6 hst).2 dX9_isAmnesty_16 (fun v_16_3 ev_16_3 => ?_)
    refine k_bipush X (v := 40) dX9_isAmnesty_19 (by decide) ?_
    refine k_iadd X dX9_isAmnesty_21 (fun v_21_4 ev_21_4 => ?_)
    refine k_icmp_gt (tgt := 29) X dX9_isAmnesty_22 (by decide) (fun c_22 => ?_) (fun c_22 => ?_)
    · skip
      refine k_iconst X (v := 0) dX9_isAmnesty_29 (by decide) ?_
      exact k_zret X E (Or.inl rfl) dX9_isAmnesty_30 (Nat.le_of_ble_eq_true rfl) (Nat.le_of_ble_eq_true rfl) (⟨rfl, by (try subst_vars); simp_all [kb, ← Int32.not_le]⟩)
    · skip
      refine k_iconst X (v := 1) dX9_isAmnesty_25 (by decide) ?_
      refine k_goto (tgt := 30) X dX9_isAmnesty_26 (by decide) ?_
      exact k_zret X E (Or.inr rfl) dX9_isAmnesty_30 (Nat.le_of_ble_eq_true rfl) (Nat.le_of_ble_eq_true rfl) (⟨rfl, by (try subst_vars); simp_all [kb, ← Int32.not_le]⟩)
