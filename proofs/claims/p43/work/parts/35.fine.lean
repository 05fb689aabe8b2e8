def kfin1 (S : kS) (A : Nat → Nat) (c : Nat) (x : Int32) : kS := (ktake (kgive S c x) A (kmin (S.I c 4) x)).uI c 5 (S.I c 5 + (x - kmin (S.I c 4) x))
def kfine (S : kS) (A : Nat → Nat) (c : Nat) (x : Int32) : kS := if S.I c 6 = 1 ∧ 0 < S.I c 5 + (x - kmin (S.I c 4) x) then kleave ((kfin1 S A c x).uI c 6 2) A c else kfin1 S A c x
theorem kfin1_st {S : kS} {A : Nat → Nat} {c : Nat} {x : Int32} (h : kSt A S) : kSt A (kfin1 S A c x) := kSt.uI (ktake_st (kgive_st h))
theorem kfine_st {S : kS} {A : Nat → Nat} {c : Nat} {x : Int32} (h : kSt A S) : kSt A (kfine S A c x) := by
  unfold kfine
  by_cases hc : S.I c 6 = 1 ∧ 0 < S.I c 5 + (x - kmin (S.I c 4) x)
  · rw [if_pos hc]; exact kleave_st (kSt.uI (kfin1_st h))
  · rw [if_neg hc]; exact kfin1_st h
theorem kback_st {S : kS} {A : Nat → Nat} {c : Option Nat} (h : kSt A S) : kSt A (kback S c) := by
  cases c with
  | none => exact h
  | some x =>
    show kSt A (if S.I x 6 = 3 then S.uI x 6 1 else S)
    by_cases hc : S.I x 6 = 3
    · rw [if_pos hc]; exact kSt.uI h
    · rw [if_neg hc]; exact h
theorem kfin0_I {S : kS} {A : Nat → Nat} {c : Nat} {x : Int32} {j : Nat} (hne : ¬ c = A 1) (hj : ¬ j = 4) : (ktake (kgive S c x) A (kmin (S.I c 4) x)).I c j = S.I c j := by
  unfold ktake kgive
  rw [uI_I, if_neg (fun z => hne z.1), uI_I, if_neg (fun z => hne z.1), uI_I, if_neg (fun z => hj z.2)]
theorem kfin1_I {S : kS} {A : Nat → Nat} {c : Nat} {x : Int32} {j : Nat} (hne : ¬ c = A 1) (hj : ¬ j = 4) (hj5 : ¬ j = 5) : (kfin1 S A c x).I c j = S.I c j := by
  unfold kfin1
  rw [uI_I, if_neg (fun z => hj5 z.2), kfin0_I hne hj]
set_option maxHeartbeats 1000000 in
set_option maxRecDepth 20000 in
theorem c_X2_fine (l : Launch) (e0 : Nat × Nat) (S : kS) (c : Nat) (x : Int32) (A : Nat → Nat) (hst : kSt A S) (hc : S.at c 1) : kM l e0 yX2_fine cX2_fine 4 none ({ frames := 2, cells := 0, slots := 0, locals := 46 } : Room) 0 0 [.ref (A 1), .ref c, .int x] S (kQv (fun S9 => S9 = kfine S A c x)) := by
  refine kMetE (by decide +kernel) (Nat.le_of_ble_eq_true rfl) (fun C he hl X E hm => ?_)
  have X : kX C RX2 cX2_fine 4 ({ frames := 2, cells := 0, slots := 0, locals := 46 } : Room) := X
  subst he hl
  show kG C 4 S 0 0 0 [(0, .ref (A 1)), (1, .ref c), (2, .int x)] []
  have hne : ¬ c = A 1 := hc.ne (st_1 hst) (by decide)
  refine k_aload_n X (q := 1) dX2_fine_0 rfl rfl ?_
  refine k_iload_n X (q := 2) dX2_fine_1 rfl rfl ?_
  refine k_gotI X (vX2_161 X (S := S) ⟨hc.1, hc.2⟩ (c_X1_give C.l C.e0 S c x  ⟨hc.1, hc.2⟩) (As := [.int x]) (rest := []) rfl rfl rfl rfl ⟨Nat.le_of_ble_eq_true rfl, Nat.le_of_ble_eq_true rfl⟩ (Nat.le_of_ble_eq_true rfl) ⟨Nat.le_of_ble_eq_true rfl, Nat.le_of_ble_eq_true rfl⟩ dX2_fine_2) (fun v_2_2 S_2_3 h_2_0 => ?_)
  obtain ⟨rfl, ev_2_2⟩ := h_2_0
  refine k_istore_n X [(3, .int v_2_2), (0, .ref (A 1)), (1, .ref c), (2, .int x)] dX2_fine_5 rfl (by decide) rfl ?_
  refine k_aload_n X (q := 1) dX2_fine_6 rfl rfl ?_
  refine k_iload_n X (q := 0) dX2_fine_7 rfl rfl ?_
  refine k_gotV X (vX2_165 X (S := (kgive S c x)) ⟨(st_1 (kgive_st hst)).1, (st_1 (kgive_st hst)).2⟩ (c_X2_takeIn C.l C.e0 (kgive S c x) v_2_2 A (kgive_st hst) ) (As := [.int v_2_2]) (rest := []) rfl rfl rfl rfl ⟨Nat.le_of_ble_eq_true rfl, Nat.le_of_ble_eq_true rfl⟩ (Nat.le_of_ble_eq_true rfl) ⟨Nat.le_of_ble_eq_true rfl, Nat.le_of_ble_eq_true rfl⟩ dX2_fine_8) (fun S_8_5 h_8_3 => ?_)
  subst h_8_3
  refine k_aload_n X (q := 2) dX2_fine_11 rfl rfl ?_
  refine k_dup X dX2_fine_12 rfl ?_
  refine gX2_168 X (S := (ktake (kgive S c x) A v_2_2)) hc.1 hc.2 dX2_fine_13 (fun v_13_6 ev_13_6 => ?_)
  refine k_iload_n X (q := 3) dX2_fine_16 rfl rfl ?_
  refine k_iload_n X (q := 0) dX2_fine_17 rfl rfl ?_
  refine k_isub X dX2_fine_18 (fun v_18_7 ev_18_7 => ?_)
  refine k_iadd X dX2_fine_19 (fun v_19_8 ev_19_8 => ?_)
  refine pX2_168 X (S := (ktake (kgive S c x) A v_2_2)) hc.1 hc.2 dX2_fine_20 ?_
  have hs1 : ((ktake (kgive S c x) A v_2_2).uI c 5 v_19_8) = kfin1 S A c x := by
    rw [ev_19_8, ev_18_7, ev_13_6, ev_2_2, kfin0_I hne (by decide)]; rfl
  rw [hs1]
  refine k_aload_n X (q := 2) dX2_fine_23 rfl rfl ?_
  refine k_gotI X (vX2_101 X (S := (kfin1 S A c x)) ⟨hc.1, hc.2⟩ (c_X1_isFull C.l C.e0 (kfin1 S A c x) c hc) (As := []) (rest := []) rfl rfl rfl rfl ⟨Nat.le_of_ble_eq_true rfl, Nat.le_of_ble_eq_true rfl⟩ (Nat.le_of_ble_eq_true rfl) ⟨Nat.le_of_ble_eq_true rfl, Nat.le_of_ble_eq_true rfl⟩ dX2_fine_24) (fun v_24_10 S_24_11 h_24_8 => ?_)
  obtain ⟨rfl, ev_24_10⟩ := h_24_8
  refine k_if_eq (tgt := 47) X dX2_fine_27 (by decide) (fun c_27 => ?_) (fun c_27 => ?_)
  · skip
    rw [ev_24_10] at c_27
    rw [kfin1_I hne (by decide) (by decide)] at c_27
    exact k_vret X E dX2_fine_47 (Nat.le_of_ble_eq_true rfl) (Nat.le_of_ble_eq_true rfl) (by unfold kfine; rw [if_neg (fun z => absurd c_27 (by simp [kb, z.1]))])
  · skip
    rw [ev_24_10] at c_27
    rw [kfin1_I hne (by decide) (by decide)] at c_27
    refine k_aload_n X (q := 2) dX2_fine_30 rfl rfl ?_
    refine gX2_168 X (S := (kfin1 S A c x)) hc.1 hc.2 dX2_fine_31 (fun v_31_12 ev_31_12 => ?_)
    refine k_if_le (tgt := 47) X dX2_fine_34 (by decide) (fun c_34 => ?_) (fun c_34 => ?_)
    · skip
      have hd9 : v_31_12 = S.I c 5 + (x - kmin (S.I c 4) x) := by rw [ev_31_12]; unfold kfin1; rw [uI_I, if_pos ⟨rfl, rfl⟩]
      rw [hd9] at c_34
      exact k_vret X E dX2_fine_47 (Nat.le_of_ble_eq_true rfl) (Nat.le_of_ble_eq_true rfl) (by unfold kfine; rw [if_neg (fun z => absurd c_34 (Int32.not_le.mpr z.2))])
    · skip
      have hd9 : v_31_12 = S.I c 5 + (x - kmin (S.I c 4) x) := by rw [ev_31_12]; unfold kfin1; rw [uI_I, if_pos ⟨rfl, rfl⟩]
      rw [hd9] at c_34
      refine k_aload_n X (q := 2) dX2_fine_37 rfl rfl ?_
      refine k_iconst X (v := 2) dX2_fine_38 (by decide) ?_
      refine pX2_140 X (S := (kfin1 S A c x)) hc.1 hc.2 dX2_fine_39 ?_
      refine k_aload_n X (q := 1) dX2_fine_42 rfl rfl ?_
      refine k_aload_n X (q := 2) dX2_fine_43 rfl rfl ?_
      refine k_gotV X (vX2_171 X (S := ((kfin1 S A c x).uI c 6 2)) ⟨(st_1 (kSt.uI (kfin1_st hst))).1, (st_1 (kSt.uI (kfin1_st hst))).2⟩ (c_X2_leaveCouncil C.l C.e0 ((kfin1 S A c x).uI c 6 2) c A (kSt.uI (kfin1_st hst)) ⟨hc.1, hc.2⟩) (As := [.ref c]) (rest := []) rfl rfl rfl rfl ⟨Nat.le_of_ble_eq_true rfl, Nat.le_of_ble_eq_true rfl⟩ (Nat.le_of_ble_eq_true rfl) ⟨Nat.le_of_ble_eq_true rfl, Nat.le_of_ble_eq_true rfl⟩ dX2_fine_44) (fun S_44_14 h_44_12 => ?_)
      subst h_44_12
      exact k_vret X E dX2_fine_47 (Nat.le_of_ble_eq_true rfl) (Nat.le_of_ble_eq_true rfl) (by unfold kfine; rw [if_pos ⟨by simpa [kb] using c_27, Int32.not_le.mp c_34⟩])
set_option maxHeartbeats 1000000 in
set_option maxRecDepth 20000 in
theorem c_X8_handled (l : Launch) (e0 : Nat × Nat) (S : kS) (o : Nat) (A : Nat → Nat) (hst : kSt A S) (ho : S.at o 8) : kM l e0 yX8_handled cX8_handled 2 (Option.some Jvm.ClassFile.FieldType.int) ({ frames := 0, cells := 0, slots := 0, locals := 0 } : Room) 0 0 [.ref o, .ref (A 1)] S (kQi (fun v S9 => S = S9 ∧ v = (match S.R o 1 with | none => 0 | some _ => if S.I o 0 = 1 then S.I (A 1) 4 + S.I (A 1) 5 - S.I o 3 else S.I (A 1) 0 - S.I o 2))) := by
  refine kMetE (by decide +kernel) (Nat.le_of_ble_eq_true rfl) (fun C he hl X E hm => ?_)
  have X : kX C RX8 cX8_handled 2 ({ frames := 0, cells := 0, slots := 0, locals := 0 } : Room) := X
  subst he hl
  show kG C 2 S 0 0 0 [(0, .ref o), (1, .ref (A 1))] []
  refine k_aload_n X (q := 0) dX8_handled_0 rfl rfl ?_
  refine gX8_9 X (S := S) ho.1 ho.2 dX8_handled_1 (fun r_1_1 er_1_1 => ?_)
  refine k_ifnonnull (tgt := 9) X dX8_handled_4 (by decide) (fun a_4_2 c_4 => ?_) (fun c_4 => ?_)
  · skip
    subst c_4
    refine k_aload_n X (q := 0) dX8_handled_9 rfl rfl ?_
    refine gX8_29 X (S := S) ho.1 ho.2 dX8_handled_10 (fun v_10_3 ev_10_3 => ?_)
    refine k_iconst X (v := 1) dX8_handled_13 (by decide) ?_
    refine k_icmp_ne (tgt := 32) X dX8_handled_14 (by decide) (fun c_14 => ?_) (fun c_14 => ?_)
    · skip
      refine k_aload_n X (q := 1) dX8_handled_32 rfl rfl ?_
      refine gX8_120 X (S := S) (st_1 hst).1 (st_1 hst).2 dX8_handled_33 (fun v_33_4 ev_33_4 => ?_)
      refine k_aload_n X (q := 0) dX8_handled_36 rfl rfl ?_
      refine gX8_15 X (S := S) ho.1 ho.2 dX8_handled_37 (fun v_37_5 ev_37_5 => ?_)
      refine k_isub X dX8_handled_40 (fun v_40_6 ev_40_6 => ?_)
      exact k_iret X E dX8_handled_41 (Nat.le_of_ble_eq_true rfl) (Nat.le_of_ble_eq_true rfl) (⟨rfl, by (try subst_vars); rw [← er_1_1]; try (first | rfl | (exact (if_pos c_14).symm) | (exact (if_neg c_14).symm))⟩)
    · skip
      refine k_aload_n X (q := 1) dX8_handled_17 rfl rfl ?_
      refine gX8_123 X (S := S) (st_1 hst).1 (st_1 hst).2 dX8_handled_18 (fun v_18_7 ev_18_7 => ?_)
      refine k_aload_n X (q := 1) dX8_handled_21 rfl rfl ?_
      refine gX8_126 X (S := S) (st_1 hst).1 (st_1 hst).2 dX8_handled_22 (fun v_22_8 ev_22_8 => ?_)
      refine k_iadd X dX8_handled_25 (fun v_25_9 ev_25_9 => ?_)
      refine k_aload_n X (q := 0) dX8_handled_26 rfl rfl ?_
      refine gX8_19 X (S := S) ho.1 ho.2 dX8_handled_27 (fun v_27_10 ev_27_10 => ?_)
      refine k_isub X dX8_handled_30 (fun v_30_11 ev_30_11 => ?_)
      exact k_iret X E dX8_handled_31 (Nat.le_of_ble_eq_true rfl) (Nat.le_of_ble_eq_true rfl) (⟨rfl, by (try subst_vars); rw [← er_1_1]; try (first | rfl | (exact (if_pos c_14).symm) | (exact (if_neg c_14).symm))⟩)
  · skip
    subst c_4
    refine k_iconst X (v := 0) dX8_handled_7 (by decide) ?_
    exact k_iret X E dX8_handled_8 (Nat.le_of_ble_eq_true rfl) (Nat.le_of_ble_eq_true rfl) (⟨rfl, by (try subst_vars); rw [← er_1_1]; try (first | rfl | (exact (if_pos c_14).symm) | (exact (if_neg c_14).symm))⟩)
set_option maxHeartbeats 1000000 in
set_option maxRecDepth 20000 in
theorem c_X0_callBack (l : Launch) (e0 : Nat × Nat) (S : kS) (c : Option Nat)  (hc : ∀ x, c = some x → S.at x 1) : kM l e0 yX0_callBack cX0_callBack 1 none ({ frames := 0, cells := 0, slots := 0, locals := 0 } : Room) 0 0 [va_rf c] S (kQv (fun S9 => S9 = kback S c)) := by
  refine kMetE (by decide +kernel) (by simp [lg_sl, va_cat, cat_i, cat_r, cat_l]) (fun C he hl X E hm => ?_)
  have X : kX C RX0 cX0_callBack 1 ({ frames := 0, cells := 0, slots := 0, locals := 0 } : Room) := X
  subst he hl
  rw [show lv_args 0 [va_rf c] = [(0, va_rf c)] from by simp [lv_args, va_cat, cat_i, cat_r, cat_l]]
  show kG C 1 S 0 0 0 [(0, va_rf c)] []
  refine k_aload_nQ X (q := 0) dX0_callBack_0 rfl rfl ?_
  refine k_ifnull (tgt := 17) X dX0_callBack_1 (by decide) (fun c_1 => ?_) (fun a_1_1 c_1 => ?_)
  · skip
    subst c_1
    exact k_vret X E dX0_callBack_17 (Nat.le_of_ble_eq_true rfl) (Nat.le_of_ble_eq_true rfl) (by (try subst_vars); simp_all [kback])
  · skip
    subst c_1
    have hc := hc _ rfl
    refine k_aload_n X (q := 0) dX0_callBack_4 rfl rfl ?_
    refine gX0_183 X (S := S) hc.1 hc.2 dX0_callBack_5 (fun v_5_2 ev_5_2 => ?_)
    refine k_iconst X (v := 3) dX0_callBack_8 (by decide) ?_
    refine k_icmp_ne (tgt := 17) X dX0_callBack_9 (by decide) (fun c_9 => ?_) (fun c_9 => ?_)
    · skip
      exact k_vret X E dX0_callBack_17 (Nat.le_of_ble_eq_true rfl) (Nat.le_of_ble_eq_true rfl) (by (try subst_vars); simp_all [kback])
    · skip
      refine k_aload_n X (q := 0) dX0_callBack_12 rfl rfl ?_
      refine k_iconst X (v := 1) dX0_callBack_13 (by decide) ?_
      refine pX0_183 X (S := S) hc.1 hc.2 dX0_callBack_14 ?_
      exact k_vret X E dX0_callBack_17 (Nat.le_of_ble_eq_true rfl) (Nat.le_of_ble_eq_true rfl) (by (try subst_vars); simp_all [kback])
