def kgive (S : kS) (c : Nat) (x : Int32) : kS := S.uI c 4 (S.I c 4 - kmin (S.I c 4) x)
def ktake (S : kS) (A : Nat → Nat) (x : Int32) : kS := (S.uI (A 1) 3 (S.I (A 1) 3 + x)).uI (A 1) 4 (S.I (A 1) 4 + x)
def kpay (S : kS) (A : Nat → Nat) (x : Int32) : kS := (S.uI (A 1) 3 (S.I (A 1) 3 - kmin (S.I (A 1) 3) x)).uI (A 1) 5 (S.I (A 1) 5 + kmin (S.I (A 1) 3) x)
def kcalm (S : kS) (A : Nat → Nat) (x : Int32) : kS := S.uI (A 1) 2 (kmax 0 (S.I (A 1) 2 - x))
def kbar (S : kS) (A : Nat → Nat) (c : Nat) : kS := S.uI c 7 (S.I (A 1) 0 + 40)
def kleave (S : kS) (A : Nat → Nat) (c : Nat) : kS := if S.R (A 1) 10 = some c then (S.uI c 9 0).uR (A 1) 10 none else S.uI c 9 0
def kluck (S : kS) (A : Nat → Nat) : Int32 := krem (13 * S.I (A 7) 0 + 5) 64
def kdraw (S : kS) (A : Nat → Nat) : kS := (S.uI (A 7) 0 (kluck S A)).uI (A 7) 1 (S.I (A 7) 1 + 1)
theorem kgive_st {S : kS} {A : Nat → Nat} {c : Nat} {x : Int32} (h : kSt A S) : kSt A (kgive S c x) := kSt.uI h
theorem ktake_st {S : kS} {A : Nat → Nat} {x : Int32} (h : kSt A S) : kSt A (ktake S A x) := kSt.uI (kSt.uI h)
theorem kpay_st {S : kS} {A : Nat → Nat} {x : Int32} (h : kSt A S) : kSt A (kpay S A x) := kSt.uI (kSt.uI h)
theorem kcalm_st {S : kS} {A : Nat → Nat} {x : Int32} (h : kSt A S) : kSt A (kcalm S A x) := kSt.uI h
theorem kbar_st {S : kS} {A : Nat → Nat} {c : Nat} (h : kSt A S) : kSt A (kbar S A c) := kSt.uI h
theorem kdraw_st {S : kS} {A : Nat → Nat} (h : kSt A S) : kSt A (kdraw S A) := kSt.uI (kSt.uI h)
theorem kleave_st {S : kS} {A : Nat → Nat} {c : Nat} (h : kSt A S) : kSt A (kleave S A c) := by
  unfold kleave
  by_cases hc : S.R (A 1) 10 = some c
  · rw [if_pos hc]; exact kSt.uRg (kSt.uI h) (κ := 2) ⟨(st_1 h).1, (st_1 h).2⟩ (by decide +kernel)
  · rw [if_neg hc]; exact kSt.uI h
def kback (S : kS) (c : Option Nat) : kS := match c with
  | some x => if S.I x 6 = 3 then S.uI x 6 1 else S
  | none => S
set_option maxHeartbeats 1000000 in
set_option maxRecDepth 20000 in
theorem c_X1_give (l : Launch) (e0 : Nat × Nat) (S : kS) (c : Nat) (x : Int32)  (hc : S.at c 1) : kM l e0 yX1_give cX1_give 3 (Option.some Jvm.ClassFile.FieldType.int) ({ frames := 1, cells := 0, slots := 0, locals := 24 } : Room) 0 0 [.ref c, .int x] S (kQi (fun v S9 => S9 = kgive S c x ∧ v = kmin (S.I c 4) x)) := by
  refine kMetE (by decide +kernel) (Nat.le_of_ble_eq_true rfl) (fun C he hl X E hm => ?_)
  have X : kX C RX1 cX1_give 3 ({ frames := 1, cells := 0, slots := 0, locals := 24 } : Room) := X
  subst he hl
  show kG C 3 S 0 0 0 [(0, .ref c), (1, .int x)] []
  refine k_aload_n X (q := 0) dX1_give_0 rfl rfl ?_
  refine gX1_52 X (S := S) hc.1 hc.2 dX1_give_1 (fun v_1_1 ev_1_1 => ?_)
  refine k_iload_n X (q := 1) dX1_give_4 rfl rfl ?_
  refine k_min X qmX1_82 (Nat.le_of_ble_eq_true rfl) (Nat.le_of_ble_eq_true rfl) ⟨Nat.le_of_ble_eq_true rfl, Nat.le_of_ble_eq_true rfl⟩ dX1_give_5 (fun v_5_2 ev_5_2 => ?_)
  refine k_istore_n X [(2, .int v_5_2), (0, .ref c), (1, .int x)] dX1_give_8 rfl (by decide) rfl ?_
  refine k_aload_n X (q := 1) dX1_give_9 rfl rfl ?_
  refine k_dup X dX1_give_10 rfl ?_
  refine gX1_52 X (S := S) hc.1 hc.2 dX1_give_11 (fun v_11_3 ev_11_3 => ?_)
  refine k_iload_n X (q := 0) dX1_give_14 rfl rfl ?_
  refine k_isub X dX1_give_15 (fun v_15_4 ev_15_4 => ?_)
  refine pX1_52 X (S := S) hc.1 hc.2 dX1_give_16 ?_
  refine k_iload_n X (q := 0) dX1_give_19 rfl rfl ?_
  exact k_iret X E dX1_give_20 (Nat.le_of_ble_eq_true rfl) (Nat.le_of_ble_eq_true rfl) (⟨by (try subst_vars); rfl, by (try subst_vars); rfl⟩)
set_option maxHeartbeats 1000000 in
set_option maxRecDepth 20000 in
theorem c_X2_takeIn (l : Launch) (e0 : Nat × Nat) (S : kS) (x : Int32) (A : Nat → Nat) (hst : kSt A S)  : kM l e0 yX2_takeIn cX2_takeIn 2 none ({ frames := 0, cells := 0, slots := 0, locals := 0 } : Room) 0 0 [.ref (A 1), .int x] S (kQv (fun S9 => S9 = ktake S A x)) := by
  refine kMetE (by decide +kernel) (Nat.le_of_ble_eq_true rfl) (fun C he hl X E hm => ?_)
  have X : kX C RX2 cX2_takeIn 2 ({ frames := 0, cells := 0, slots := 0, locals := 0 } : Room) := X
  subst he hl
  show kG C 2 S 0 0 0 [(0, .ref (A 1)), (1, .int x)] []
  refine k_aload_n X (q := 0) dX2_takeIn_0 rfl rfl ?_
  refine k_dup X dX2_takeIn_1 rfl ?_
  refine gX2_22 X (S := S) (st_1 hst).1 (st_1 hst).2 dX2_takeIn_2 (fun v_2_1 ev_2_1 => ?_)
  refine k_iload_n X (q := 1) dX2_takeIn_5 rfl rfl ?_
  refine k_iadd X dX2_takeIn_6 (fun v_6_2 ev_6_2 => ?_)
  refine pX2_22 X (S := S) (st_1 hst).1 (st_1 hst).2 dX2_takeIn_7 ?_
  refine k_aload_n X (q := 0) dX2_takeIn_10 rfl rfl ?_
  refine k_dup X dX2_takeIn_11 rfl ?_
  refine gX2_25 X (S := (S.uI (A 1) 3 v_6_2)) (st_1 (kSt.uI hst)).1 (st_1 (kSt.uI hst)).2 dX2_takeIn_12 (fun v_12_3 ev_12_3 => ?_)
  refine k_iload_n X (q := 1) dX2_takeIn_15 rfl rfl ?_
  refine k_iadd X dX2_takeIn_16 (fun v_16_4 ev_16_4 => ?_)
  refine pX2_25 X (S := (S.uI (A 1) 3 v_6_2)) (st_1 (kSt.uI hst)).1 (st_1 (kSt.uI hst)).2 dX2_takeIn_17 ?_
  exact k_vret X E dX2_takeIn_20 (Nat.le_of_ble_eq_true rfl) (Nat.le_of_ble_eq_true rfl) (by (try subst_vars); simp [uI_I, uI_R, uR_I, uR_R, ktake])
set_option maxHeartbeats 1000000 in
set_option maxRecDepth 20000 in
theorem c_X2_payOut (l : Launch) (e0 : Nat × Nat) (S : kS) (x : Int32) (A : Nat → Nat) (hst : kSt A S)  : kM l e0 yX2_payOut cX2_payOut 3 (Option.some Jvm.ClassFile.FieldType.boolean) ({ frames := 1, cells := 0, slots := 0, locals := 24 } : Room) 0 0 [.ref (A 1), .int x] S (kQi (fun v S9 => S9 = kpay S A x ∧ v = kb (decide (kmin (S.I (A 1) 3) x = x)))) := by
  refine kMetE (by decide +kernel) (Nat.le_of_ble_eq_true rfl) (fun C he hl X E hm => ?_)
  have X : kX C RX2 cX2_payOut 3 ({ frames := 1, cells := 0, slots := 0, locals := 24 } : Room) := X
  subst he hl
  show kG C 3 S 0 0 0 [(0, .ref (A 1)), (1, .int x)] []
  refine k_aload_n X (q := 0) dX2_payOut_0 rfl rfl ?_
  refine gX2_22 X (S := S) (st_1 hst).1 (st_1 hst).2 dX2_payOut_1 (fun v_1_1 ev_1_1 => ?_)
  refine k_iload_n X (q := 1) dX2_payOut_4 rfl rfl ?_
  refine k_min X qmX2_152 (Nat.le_of_ble_eq_true rfl) (Nat.le_of_ble_eq_true rfl) ⟨Nat.le_of_ble_eq_true rfl, Nat.le_of_ble_eq_true rfl⟩ dX2_payOut_5 (fun v_5_2 ev_5_2 => ?_)
  refine k_istore_n X [(2, .int v_5_2), (0, .ref (A 1)), (1, .int x)] dX2_payOut_8 rfl (by decide) rfl ?_
  refine k_aload_n X (q := 1) dX2_payOut_9 rfl rfl ?_
  refine k_dup X dX2_payOut_10 rfl ?_
  refine gX2_22 X (S := S) (st_1 hst).1 (st_1 hst).2 dX2_payOut_11 (fun v_11_3 ev_11_3 => ?_)
  refine k_iload_n X (q := 0) dX2_payOut_14 rfl rfl ?_
  refine k_isub X dX2_payOut_15 (fun v_15_4 ev_15_4 => ?_)
  refine pX2_22 X (S := S) (st_1 hst).1 (st_1 hst).2 dX2_payOut_16 ?_
  refine k_aload_n X (q := 1) dX2_payOut_19 rfl rfl ?_
  refine k_dup X dX2_payOut_20 rfl ?_
  refine gX2_28 X (S := (S.uI (A 1) 3 v_15_4)) (st_1 (kSt.uI hst)).1 (st_1 (kSt.uI hst)).2 dX2_payOut_21 (fun v_21_5 ev_21_5 => ?_)
  refine k_iload_n X (q := 0) dX2_payOut_24 rfl rfl ?_
  refine k_iadd X dX2_payOut_25 (fun v_25_6 ev_25_6 => ?_)
  refine pX2_28 X (S := (S.uI (A 1) 3 v_15_4)) (st_1 (kSt.uI hst)).1 (st_1 (kSt.uI hst)).2 dX2_payOut_26 ?_
  refine k_iload_n X (q := 0) dX2_payOut_29 rfl rfl ?_
  refine k_iload_n X (q := 2) dX2_payOut_30 rfl rfl ?_
  refine k_icmp_ne (tgt := 38) X dX2_payOut_31 (by decide) (fun c_31 => ?_) (fun c_31 => ?_)
  · skip
    rw [ev_5_2] at c_31
    refine k_iconst X (v := 0) dX2_payOut_38 (by decide) ?_
    exact k_zret X E (Or.inl rfl) dX2_payOut_39 (Nat.le_of_ble_eq_true rfl) (Nat.le_of_ble_eq_true rfl) (⟨by (try subst_vars); simp [uI_I, uI_R, uR_I, uR_R, kpay], by (try subst_vars); simp [kb, c_31]⟩)
  · skip
    rw [ev_5_2] at c_31
    refine k_iconst X (v := 1) dX2_payOut_34 (by decide) ?_
    refine k_goto (tgt := 39) X dX2_payOut_35 (by decide) ?_
    exact k_zret X E (Or.inr rfl) dX2_payOut_39 (Nat.le_of_ble_eq_true rfl) (Nat.le_of_ble_eq_true rfl) (⟨by (try subst_vars); simp [uI_I, uI_R, uR_I, uR_R, kpay], by (try subst_vars); simp [kb, c_31]⟩)
set_option maxHeartbeats 1000000 in
set_option maxRecDepth 20000 in
theorem c_X2_calm (l : Launch) (e0 : Nat × Nat) (S : kS) (x : Int32) (A : Nat → Nat) (hst : kSt A S)  : kM l e0 yX2_calm cX2_calm 2 none ({ frames := 1, cells := 0, slots := 0, locals := 24 } : Room) 0 0 [.ref (A 1), .int x] S (kQv (fun S9 => S9 = kcalm S A x)) := by
  refine kMetE (by decide +kernel) (Nat.le_of_ble_eq_true rfl) (fun C he hl X E hm => ?_)
  have X : kX C RX2 cX2_calm 2 ({ frames := 1, cells := 0, slots := 0, locals := 24 } : Room) := X
  subst he hl
  show kG C 2 S 0 0 0 [(0, .ref (A 1)), (1, .int x)] []
  refine k_aload_n X (q := 0) dX2_calm_0 rfl rfl ?_
  refine k_iconst X (v := 0) dX2_calm_1 (by decide) ?_
  refine k_aload_n X (q := 0) dX2_calm_2 rfl rfl ?_
  refine gX2_19 X (S := S) (st_1 hst).1 (st_1 hst).2 dX2_calm_3 (fun v_3_1 ev_3_1 => ?_)
  refine k_iload_n X (q := 1) dX2_calm_6 rfl rfl ?_
  refine k_isub X dX2_calm_7 (fun v_7_2 ev_7_2 => ?_)
  refine k_max X qmX2_158 (Nat.le_of_ble_eq_true rfl) (Nat.le_of_ble_eq_true rfl) ⟨Nat.le_of_ble_eq_true rfl, Nat.le_of_ble_eq_true rfl⟩ dX2_calm_8 (fun v_8_3 ev_8_3 => ?_)
  refine pX2_19 X (S := S) (st_1 hst).1 (st_1 hst).2 dX2_calm_11 ?_
  exact k_vret X E dX2_calm_14 (Nat.le_of_ble_eq_true rfl) (Nat.le_of_ble_eq_true rfl) (by (try subst_vars); rfl)
set_option maxHeartbeats 1000000 in
set_option maxRecDepth 20000 in
theorem c_X2_bar (l : Launch) (e0 : Nat × Nat) (S : kS) (c : Nat) (A : Nat → Nat) (hst : kSt A S) (hc : S.at c 1) : kM l e0 yX2_bar cX2_bar 2 none ({ frames := 0, cells := 0, slots := 0, locals := 0 } : Room) 0 0 [.ref (A 1), .ref c] S (kQv (fun S9 => S9 = kbar S A c)) := by
  refine kMetE (by decide +kernel) (Nat.le_of_ble_eq_true rfl) (fun C he hl X E hm => ?_)
  have X : kX C RX2 cX2_bar 2 ({ frames := 0, cells := 0, slots := 0, locals := 0 } : Room) := X
  subst he hl
  show kG C 2 S 0 0 0 [(0, .ref (A 1)), (1, .ref c)] []
  refine k_aload_n X (q := 1) dX2_bar_0 rfl rfl ?_
  refine k_aload_n X (q := 0) dX2_bar_1 rfl rfl ?_
  refine gX2_9 X (S := S) (st_1 hst).1 (st_1 hst).2 dX2_bar_2 (fun v_2_1 ev_2_1 => ?_)
  refine k_bipush X (v := 40) dX2_bar_5 (by decide) ?_
  refine k_iadd X dX2_bar_7 (fun v_7_2 ev_7_2 => ?_)
  refine pX2_149 X (S := S) hc.1 hc.2 dX2_bar_8 ?_
  exact k_vret X E dX2_bar_11 (Nat.le_of_ble_eq_true rfl) (Nat.le_of_ble_eq_true rfl) (by (try subst_vars); rfl)
set_option maxHeartbeats 1000000 in
set_option maxRecDepth 20000 in
theorem c_X2_leaveCouncil (l : Launch) (e0 : Nat × Nat) (S : kS) (c : Nat) (A : Nat → Nat) (hst : kSt A S) (hc : S.at c 1) : kM l e0 yX2_leaveCouncil cX2_leaveCouncil 2 none ({ frames := 0, cells := 0, slots := 0, locals := 0 } : Room) 0 0 [.ref (A 1), .ref c] S (kQv (fun S9 => S9 = kleave S A c)) := by
  refine kMetE (by decide +kernel) (Nat.le_of_ble_eq_true rfl) (fun C he hl X E hm => ?_)
  have X : kX C RX2 cX2_leaveCouncil 2 ({ frames := 0, cells := 0, slots := 0, locals := 0 } : Room) := X
  subst he hl
  show kG C 2 S 0 0 0 [(0, .ref (A 1)), (1, .ref c)] []
  refine k_aload_n X (q := 1) dX2_leaveCouncil_0 rfl rfl ?_
  refine k_iconst X (v := 0) dX2_leaveCouncil_1 (by decide) ?_
  refine pX2_134 X (S := S) hc.1 hc.2 (Or.inl rfl) dX2_leaveCouncil_2 ?_
  refine k_aload_n X (q := 0) dX2_leaveCouncil_5 rfl rfl ?_
  refine gX2_43 X (S := (S.uI c 9 0)) (st_1 (kSt.uI hst)).1 (st_1 (kSt.uI hst)).2 dX2_leaveCouncil_6 (fun r_6_1 er_6_1 => ?_)
  refine k_aload_n X (q := 1) dX2_leaveCouncil_9 rfl rfl ?_
  refine k_acmp_ne (rx := r_6_1) (ry := some c) (tgt := 18) X dX2_leaveCouncil_10 (by decide) (fun c_10 => ?_) (fun c_10 => ?_)
  · skip
    exact k_vret X E dX2_leaveCouncil_18 (Nat.le_of_ble_eq_true rfl) (Nat.le_of_ble_eq_true rfl) (by unfold kleave; first | (rw [if_pos (by (try subst_vars); first | assumption | (simpa [uI_R] using c_10)  | (rw [← c_10]; rfl))]; done) | (rw [if_neg (by (try subst_vars); first | assumption | (simpa [uI_R] using c_10))]; done))
  · skip
    refine k_aload_n X (q := 0) dX2_leaveCouncil_13 rfl rfl ?_
    refine k_null X dX2_leaveCouncil_14 ?_
    refine pX2_43 X (S := (S.uI c 9 0)) (st_1 (kSt.uI hst)).1 (st_1 (kSt.uI hst)).2 (r := none) dX2_leaveCouncil_15 ?_
    exact k_vret X E dX2_leaveCouncil_18 (Nat.le_of_ble_eq_true rfl) (Nat.le_of_ble_eq_true rfl) (by unfold kleave; first | (rw [if_pos (by (try subst_vars); first | assumption | (simpa [uI_R] using c_10)  | (rw [← c_10]; rfl))]; done) | (rw [if_neg (by (try subst_vars); first | assumption | (simpa [uI_R] using c_10))]; done))
set_option maxHeartbeats 1000000 in
set_option maxRecDepth 20000 in
theorem c_X6_drawOneOf (l : Launch) (e0 : Nat × Nat) (S : kS) (x : Int32) (A : Nat → Nat) (hst : kSt A S)  : kM l e0 yX6_drawOneOf cX6_drawOneOf 2 (Option.some Jvm.ClassFile.FieldType.int) ({ frames := 0, cells := 0, slots := 0, locals := 0 } : Room) 0 0 [.ref (A 7), .int x] S (kQi (fun v S9 => S9 = kdraw S A ∧ v = kluck S A * x / 64)) := by
  refine kMetE (by decide +kernel) (Nat.le_of_ble_eq_true rfl) (fun C he hl X E hm => ?_)
  have X : kX C RX6 cX6_drawOneOf 2 ({ frames := 0, cells := 0, slots := 0, locals := 0 } : Room) := X
  subst he hl
  show kG C 2 S 0 0 0 [(0, .ref (A 7)), (1, .int x)] []
  refine k_aload_n X (q := 0) dX6_drawOneOf_0 rfl rfl ?_
  refine k_bipush X (v := 13) dX6_drawOneOf_1 (by decide) ?_
  refine k_aload_n X (q := 0) dX6_drawOneOf_3 rfl rfl ?_
  refine gX6_7 X (S := S) (st_7 hst).1 (st_7 hst).2 dX6_drawOneOf_4 (fun v_4_1 ev_4_1 => ?_)
  refine k_imul X dX6_drawOneOf_7 (fun v_7_2 ev_7_2 => ?_)
  refine k_iconst X (v := 5) dX6_drawOneOf_8 (by decide) ?_
  refine k_iadd X dX6_drawOneOf_9 (fun v_9_3 ev_9_3 => ?_)
  refine k_bipush X (v := 64) dX6_drawOneOf_10 (by decide) ?_
  refine k_irem X dX6_drawOneOf_12 (by decide) (fun v_12_4 ev_12_4 => ?_)
  refine pX6_7 X (S := S) (st_7 hst).1 (st_7 hst).2 dX6_drawOneOf_13 ?_
  refine k_aload_n X (q := 0) dX6_drawOneOf_16 rfl rfl ?_
  refine k_dup X dX6_drawOneOf_17 rfl ?_
  refine gX6_13 X (S := (S.uI (A 7) 0 v_12_4)) (st_7 (kSt.uI hst)).1 (st_7 (kSt.uI hst)).2 dX6_drawOneOf_18 (fun v_18_5 ev_18_5 => ?_)
  refine k_iconst X (v := 1) dX6_drawOneOf_21 (by decide) ?_
  refine k_iadd X dX6_drawOneOf_22 (fun v_22_6 ev_22_6 => ?_)
  refine pX6_13 X (S := (S.uI (A 7) 0 v_12_4)) (st_7 (kSt.uI hst)).1 (st_7 (kSt.uI hst)).2 dX6_drawOneOf_23 ?_
  refine k_aload_n X (q := 0) dX6_drawOneOf_26 rfl rfl ?_
  refine gX6_7 X (S := ((S.uI (A 7) 0 v_12_4).uI (A 7) 1 v_22_6)) (st_7 (kSt.uI (kSt.uI hst))).1 (st_7 (kSt.uI (kSt.uI hst))).2 dX6_drawOneOf_27 (fun v_27_7 ev_27_7 => ?_)
  refine k_iload_n X (q := 1) dX6_drawOneOf_30 rfl rfl ?_
  refine k_imul X dX6_drawOneOf_31 (fun v_31_8 ev_31_8 => ?_)
  refine k_bipush X (v := 64) dX6_drawOneOf_32 (by decide) ?_
  refine k_idiv X dX6_drawOneOf_34 (by decide) (fun v_34_9 ev_34_9 => ?_)
  exact k_iret X E dX6_drawOneOf_35 (Nat.le_of_ble_eq_true rfl) (Nat.le_of_ble_eq_true rfl) (⟨by (try subst_vars); simp [uI_I, uI_R, uR_I, uR_R, kdraw, kluck, krem], by (try subst_vars); simp [uI_I, uI_R, uR_I, uR_R, kluck, krem]⟩)
