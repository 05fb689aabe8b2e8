set_option maxHeartbeats 1000000 in
set_option maxRecDepth 20000 in
theorem c_X2_councillors (l : Launch) (e0 : Nat × Nat) (S : kS)  (A : Nat → Nat) (n : Nat) (cz : Nat → Nat) (hst : kSt A S) (hC : kLs e0 S (A 10) 1 n cz) (hn : n ≤ 40)  : kM l e0 yX2_councillors cX2_councillors 3 (Option.some Jvm.ClassFile.FieldType.int) ({ frames := 3, cells := 0, slots := 0, locals := 64 } : Room) 0 0 [.ref (A 1)] S (kQi (fun v S9 => S = S9 ∧ v = ksum (fun i => (if S.I (cz i) 9 = 0 then 0 else 1)) n)) := by
  refine kMetE (by decide +kernel) (Nat.le_of_ble_eq_true rfl) (fun C he hl X E hm => ?_)
  have X : kX C RX2 cX2_councillors 3 ({ frames := 3, cells := 0, slots := 0, locals := 64 } : Room) := X
  subst he hl
  show kG C 3 S 0 0 0 [(0, .ref (A 1))] []
  obtain ⟨F, hF⟩ : ∃ F : Nat → Int32, F = fun i => (if S.I (cz i) 9 = 0 then 0 else 1) := ⟨_, rfl⟩
  refine k_iconst X (v := 0) dX2_councillors_0 (by decide) ?_
  refine k_istore_n X [(1, .int 0), (0, .ref (A 1))] dX2_councillors_1 rfl (by decide) rfl ?_
  refine k_iconst X (v := 0) dX2_councillors_2 (by decide) ?_
  refine k_istore_n X [(2, .int 0), (1, .int 0), (0, .ref (A 1))] dX2_councillors_3 rfl (by decide) rfl ?_
  have L_4 : ∀ (N : Nat) (i : Nat) (x y : Int32), n - i = N → x = nI i → y = ksum F i → i ≤ n → kG C 3 S 0 0 4 [(2, .int x), (1, .int y), (0, .ref (A 1))] [] := by
    intro N
    induction N using Nat.strongRecOn with
    | _ N ih =>
    intro i x y hMs h4_0 h4_1 h4_2
    subst h4_0 h4_1
    refine k_iload_n X (q := 0) dX2_councillors_4 rfl rfl ?_
    refine k_aload_n X (q := 2) dX2_councillors_5 rfl rfl ?_
    refine gX2_57s X (S := S) (st_1 hst).1 (st_1 hst).2 (sr_1_12 hst) dX2_councillors_6 ?_
    refine k_gotI X (vX2_86 X (S := S) ⟨(st_10 hst).1, (st_10 hst).2⟩ (c_Jx4a65c_size_8abf5 C.l C.e0 S (A 10) (st_10 hst)) (As := []) (rest := [.int (nI i)]) rfl rfl rfl rfl ⟨Nat.le_of_ble_eq_true rfl, Nat.le_of_ble_eq_true rfl⟩ (Nat.le_of_ble_eq_true rfl) ⟨Nat.le_of_ble_eq_true rfl, Nat.le_of_ble_eq_true rfl⟩ dX2_councillors_9) (fun v_9_2 S_9_3 h_9_0 => ?_)
    obtain ⟨rfl, ev_9_2⟩ := h_9_0
    have hz_v_9_2 : nI n = v_9_2 := by rw [ev_9_2]; exact (hC).2.1.symm
    subst hz_v_9_2
    refine k_icmp_ge (tgt := 41) X dX2_councillors_12 (by decide) (fun c_12 => ?_) (fun c_12 => ?_)
    · skip
      have hin : n = i := by have := ge_of_le c_12 (by omega); omega
      subst hin
      refine k_iload_n X (q := 1) dX2_councillors_41 rfl rfl ?_
      exact k_iret X E dX2_councillors_42 (Nat.le_of_ble_eq_true rfl) (Nat.le_of_ble_eq_true rfl) (⟨rfl, by rw [hF]⟩)
    · skip
      have hlt : i < n := lt_of_nle c_12 (by omega)
      refine k_iload_n X (q := 1) dX2_councillors_15 rfl rfl ?_
      refine k_aload_n X (q := 2) dX2_councillors_16 rfl rfl ?_
      refine gX2_57s X (S := S) (st_1 hst).1 (st_1 hst).2 (sr_1_12 hst) dX2_councillors_17 ?_
      refine k_iload_n X (q := 0) dX2_councillors_20 rfl rfl ?_
      refine k_gotQ X (vX2_94 X (S := S) ⟨(st_10 hst).1, (st_10 hst).2⟩ (c_Jx4a65c_get_915e3 C.l C.e0 S (A 10) 1 n i cz (hC) hlt) (As := [.int (nI i)]) (rest := [.int (ksum F i)]) rfl rfl rfl rfl ⟨Nat.le_of_ble_eq_true rfl, Nat.le_of_ble_eq_true rfl⟩ (Nat.le_of_ble_eq_true rfl) ⟨Nat.le_of_ble_eq_true rfl, Nat.le_of_ble_eq_true rfl⟩ dX2_councillors_21) (fun r_21_5 S_21_6 h_21_3 => ?_)
      obtain ⟨rfl, er_21_5⟩ := h_21_3
      subst er_21_5
      refine tX2_64 X (S := S) ⟨(kLs.el (hC) hlt).1, (kLs.el (hC) hlt).2⟩ dX2_councillors_24 ?_
      refine gX2_134 X (S := S) (kLs.el (hC) hlt).1 (kLs.el (hC) hlt).2 dX2_councillors_27 (fun v_27_7 ev_27_7 => ?_)
      refine k_gotI X (vX2_112 X (S := S) (c_X11_asNumber C.l C.e0 S v_27_7 ) (As := [.int v_27_7]) (rest := [.int (ksum F i)]) rfl rfl rfl rfl ⟨Nat.le_of_ble_eq_true rfl, Nat.le_of_ble_eq_true rfl⟩ (Nat.le_of_ble_eq_true rfl) ⟨Nat.le_of_ble_eq_true rfl, Nat.le_of_ble_eq_true rfl⟩ dX2_councillors_30) (fun v_30_9 S_30_10 h_30_7 => ?_)
      obtain ⟨rfl, ev_30_9⟩ := h_30_7
      refine k_iadd X dX2_councillors_33 (fun v_33_11 ev_33_11 => ?_)
      refine k_istore_n X [(1, .int v_33_11), (2, .int (nI i)), (0, .ref (A 1))] dX2_councillors_34 rfl (by decide) rfl ?_
      obtain ⟨v_35_12, ev_35_12⟩ : ∃ z : Int32, z = (nI i) + 1 := ⟨_, rfl⟩
      refine k_iinc X (q := 1) (v := v_35_12) [(2, .int v_35_12), (1, .int v_33_11), (0, .ref (A 1))] dX2_councillors_35 rfl (by rw [ev_35_12]; rfl) (by decide) rfl ?_
      refine k_goto (tgt := 4) X dX2_councillors_38 (by decide) ?_
      refine k_lv [0, 1, 2] _ rfl ?_
      exact ih (n - (i + 1)) (by omega) (i + 1) _ _ rfl (by rw [ev_35_12, nI_1]) (by rw [ev_33_11]; show _ = ksum F i + F i; refine congrArg (fun z => ksum F i + z) ?_; exact Eq.symm (by rw [hF]; (try subst_vars); simp_all [kb])) (by omega)
  refine k_lv [0, 1, 2] _ rfl ?_
  exact L_4 _ 0 0 0 rfl nI_0.symm rfl (Nat.zero_le _)
set_option maxHeartbeats 1000000 in
set_option maxRecDepth 20000 in
theorem c_X2_allDebts (l : Launch) (e0 : Nat × Nat) (S : kS)  (A : Nat → Nat) (n : Nat) (cz : Nat → Nat) (hst : kSt A S) (hC : kLs e0 S (A 10) 1 n cz) (hn : n ≤ 40)  : kM l e0 yX2_allDebts cX2_allDebts 3 (Option.some Jvm.ClassFile.FieldType.int) ({ frames := 3, cells := 0, slots := 0, locals := 64 } : Room) 0 0 [.ref (A 1)] S (kQi (fun v S9 => S = S9 ∧ v = ksum (fun i => S.I (cz i) 5) n)) := by
  refine kMetE (by decide +kernel) (Nat.le_of_ble_eq_true rfl) (fun C he hl X E hm => ?_)
  have X : kX C RX2 cX2_allDebts 3 ({ frames := 3, cells := 0, slots := 0, locals := 64 } : Room) := X
  subst he hl
  show kG C 3 S 0 0 0 [(0, .ref (A 1))] []
  obtain ⟨F, hF⟩ : ∃ F : Nat → Int32, F = fun i => S.I (cz i) 5 := ⟨_, rfl⟩
  refine k_iconst X (v := 0) dX2_allDebts_0 (by decide) ?_
  refine k_istore_n X [(1, .int 0), (0, .ref (A 1))] dX2_allDebts_1 rfl (by decide) rfl ?_
  refine k_iconst X (v := 0) dX2_allDebts_2 (by decide) ?_
  refine k_istore_n X [(2, .int 0), (1, .int 0), (0, .ref (A 1))] dX2_allDebts_3 rfl (by decide) rfl ?_
  have L_4 : ∀ (N : Nat) (i : Nat) (x y : Int32), n - i = N → x = nI i → y = ksum F i → i ≤ n → kG C 3 S 0 0 4 [(2, .int x), (1, .int y), (0, .ref (A 1))] [] := by
    intro N
    induction N using Nat.strongRecOn with
    | _ N ih =>
    intro i x y hMs h4_0 h4_1 h4_2
    subst h4_0 h4_1
    refine k_iload_n X (q := 0) dX2_allDebts_4 rfl rfl ?_
    refine k_aload_n X (q := 2) dX2_allDebts_5 rfl rfl ?_
    refine gX2_57s X (S := S) (st_1 hst).1 (st_1 hst).2 (sr_1_12 hst) dX2_allDebts_6 ?_
    refine k_gotI X (vX2_86 X (S := S) ⟨(st_10 hst).1, (st_10 hst).2⟩ (c_Jx4a65c_size_8abf5 C.l C.e0 S (A 10) (st_10 hst)) (As := []) (rest := [.int (nI i)]) rfl rfl rfl rfl ⟨Nat.le_of_ble_eq_true rfl, Nat.le_of_ble_eq_true rfl⟩ (Nat.le_of_ble_eq_true rfl) ⟨Nat.le_of_ble_eq_true rfl, Nat.le_of_ble_eq_true rfl⟩ dX2_allDebts_9) (fun v_9_2 S_9_3 h_9_0 => ?_)
    obtain ⟨rfl, ev_9_2⟩ := h_9_0
    have hz_v_9_2 : nI n = v_9_2 := by rw [ev_9_2]; exact (hC).2.1.symm
    subst hz_v_9_2
    refine k_icmp_ge (tgt := 38) X dX2_allDebts_12 (by decide) (fun c_12 => ?_) (fun c_12 => ?_)
    · skip
      have hin : n = i := by have := ge_of_le c_12 (by omega); omega
      subst hin
      refine k_iload_n X (q := 1) dX2_allDebts_38 rfl rfl ?_
      exact k_iret X E dX2_allDebts_39 (Nat.le_of_ble_eq_true rfl) (Nat.le_of_ble_eq_true rfl) (⟨rfl, by rw [hF]⟩)
    · skip
      have hlt : i < n := lt_of_nle c_12 (by omega)
      refine k_iload_n X (q := 1) dX2_allDebts_15 rfl rfl ?_
      refine k_aload_n X (q := 2) dX2_allDebts_16 rfl rfl ?_
      refine gX2_57s X (S := S) (st_1 hst).1 (st_1 hst).2 (sr_1_12 hst) dX2_allDebts_17 ?_
      refine k_iload_n X (q := 0) dX2_allDebts_20 rfl rfl ?_
      refine k_gotQ X (vX2_94 X (S := S) ⟨(st_10 hst).1, (st_10 hst).2⟩ (c_Jx4a65c_get_915e3 C.l C.e0 S (A 10) 1 n i cz (hC) hlt) (As := [.int (nI i)]) (rest := [.int (ksum F i)]) rfl rfl rfl rfl ⟨Nat.le_of_ble_eq_true rfl, Nat.le_of_ble_eq_true rfl⟩ (Nat.le_of_ble_eq_true rfl) ⟨Nat.le_of_ble_eq_true rfl, Nat.le_of_ble_eq_true rfl⟩ dX2_allDebts_21) (fun r_21_5 S_21_6 h_21_3 => ?_)
      obtain ⟨rfl, er_21_5⟩ := h_21_3
      subst er_21_5
      refine tX2_64 X (S := S) ⟨(kLs.el (hC) hlt).1, (kLs.el (hC) hlt).2⟩ dX2_allDebts_24 ?_
      refine gX2_168 X (S := S) (kLs.el (hC) hlt).1 (kLs.el (hC) hlt).2 dX2_allDebts_27 (fun v_27_7 ev_27_7 => ?_)
      refine k_iadd X dX2_allDebts_30 (fun v_30_8 ev_30_8 => ?_)
      refine k_istore_n X [(1, .int v_30_8), (2, .int (nI i)), (0, .ref (A 1))] dX2_allDebts_31 rfl (by decide) rfl ?_
      obtain ⟨v_32_9, ev_32_9⟩ : ∃ z : Int32, z = (nI i) + 1 := ⟨_, rfl⟩
      refine k_iinc X (q := 1) (v := v_32_9) [(2, .int v_32_9), (1, .int v_30_8), (0, .ref (A 1))] dX2_allDebts_32 rfl (by rw [ev_32_9]; rfl) (by decide) rfl ?_
      refine k_goto (tgt := 4) X dX2_allDebts_35 (by decide) ?_
      refine k_lv [0, 1, 2] _ rfl ?_
      exact ih (n - (i + 1)) (by omega) (i + 1) _ _ rfl (by rw [ev_32_9, nI_1]) (by rw [ev_30_8]; show _ = ksum F i + F i; refine congrArg (fun z => ksum F i + z) ?_; exact Eq.symm (by rw [hF]; (try subst_vars); simp_all [kb])) (by omega)
  refine k_lv [0, 1, 2] _ rfl ?_
  exact L_4 _ 0 0 0 rfl nI_0.symm rfl (Nat.zero_le _)
set_option maxHeartbeats 1000000 in
set_option maxRecDepth 20000 in
theorem c_X2_fullAgreeing (l : Launch) (e0 : Nat × Nat) (S : kS) (x1 : Int32) (A : Nat → Nat) (n : Nat) (cz : Nat → Nat) (hst : kSt A S) (hC : kLs e0 S (A 10) 1 n cz) (hn : n ≤ 40)  : kM l e0 yX2_fullAgreeing cX2_fullAgreeing 5 (Option.some Jvm.ClassFile.FieldType.int) ({ frames := 3, cells := 0, slots := 0, locals := 66 } : Room) 0 0 [.ref (A 1), .int x1] S (kQi (fun v S9 => S = S9 ∧ v = ksum (fun i => kb (decide (S.I (cz i) 6 = 1) && decide (kabs (S.I (cz i) 2 - x1) ≤ 5))) n)) := by
  refine kMetE (by decide +kernel) (Nat.le_of_ble_eq_true rfl) (fun C he hl X E hm => ?_)
  have X : kX C RX2 cX2_fullAgreeing 5 ({ frames := 3, cells := 0, slots := 0, locals := 66 } : Room) := X
  subst he hl
  show kG C 5 S 0 0 0 [(0, .ref (A 1)), (1, .int x1)] []
  obtain ⟨F, hF⟩ : ∃ F : Nat → Int32, F = fun i => kb (decide (S.I (cz i) 6 = 1) && decide (kabs (S.I (cz i) 2 - x1) ≤ 5)) := ⟨_, rfl⟩
  refine k_iconst X (v := 0) dX2_fullAgreeing_0 (by decide) ?_
  refine k_istore_n X [(2, .int 0), (0, .ref (A 1)), (1, .int x1)] dX2_fullAgreeing_1 rfl (by decide) rfl ?_
  refine k_iconst X (v := 0) dX2_fullAgreeing_2 (by decide) ?_
  refine k_istore_n X [(3, .int 0), (2, .int 0), (0, .ref (A 1)), (1, .int x1)] dX2_fullAgreeing_3 rfl (by decide) rfl ?_
  have L_4 : ∀ (N : Nat) (i : Nat) (x y : Int32), n - i = N → x = nI i → y = ksum F i → i ≤ n → kG C 5 S 0 0 4 [(3, .int x), (2, .int y), (0, .ref (A 1)), (1, .int x1)] [] := by
    intro N
    induction N using Nat.strongRecOn with
    | _ N ih =>
    intro i x y hMs h4_0 h4_1 h4_2
    subst h4_0 h4_1
    refine k_iload_n X (q := 0) dX2_fullAgreeing_4 rfl rfl ?_
    refine k_aload_n X (q := 2) dX2_fullAgreeing_5 rfl rfl ?_
    refine gX2_57s X (S := S) (st_1 hst).1 (st_1 hst).2 (sr_1_12 hst) dX2_fullAgreeing_6 ?_
    refine k_gotI X (vX2_86 X (S := S) ⟨(st_10 hst).1, (st_10 hst).2⟩ (c_Jx4a65c_size_8abf5 C.l C.e0 S (A 10) (st_10 hst)) (As := []) (rest := [.int (nI i)]) rfl rfl rfl rfl ⟨Nat.le_of_ble_eq_true rfl, Nat.le_of_ble_eq_true rfl⟩ (Nat.le_of_ble_eq_true rfl) ⟨Nat.le_of_ble_eq_true rfl, Nat.le_of_ble_eq_true rfl⟩ dX2_fullAgreeing_9) (fun v_9_2 S_9_3 h_9_0 => ?_)
    obtain ⟨rfl, ev_9_2⟩ := h_9_0
    have hz_v_9_2 : nI n = v_9_2 := by rw [ev_9_2]; exact (hC).2.1.symm
    subst hz_v_9_2
    refine k_icmp_ge (tgt := 62) X dX2_fullAgreeing_12 (by decide) (fun c_12 => ?_) (fun c_12 => ?_)
    · skip
      have hin : n = i := by have := ge_of_le c_12 (by omega); omega
      subst hin
      refine k_iload_n X (q := 1) dX2_fullAgreeing_62 rfl rfl ?_
      exact k_iret X E dX2_fullAgreeing_63 (Nat.le_of_ble_eq_true rfl) (Nat.le_of_ble_eq_true rfl) (⟨rfl, by rw [hF]⟩)
    · skip
      have hlt : i < n := lt_of_nle c_12 (by omega)
      refine k_aload_n X (q := 2) dX2_fullAgreeing_15 rfl rfl ?_
      refine gX2_57s X (S := S) (st_1 hst).1 (st_1 hst).2 (sr_1_12 hst) dX2_fullAgreeing_16 ?_
      refine k_iload_n X (q := 0) dX2_fullAgreeing_19 rfl rfl ?_
      refine k_gotQ X (vX2_94 X (S := S) ⟨(st_10 hst).1, (st_10 hst).2⟩ (c_Jx4a65c_get_915e3 C.l C.e0 S (A 10) 1 n i cz (hC) hlt) (As := [.int (nI i)]) (rest := []) rfl rfl rfl rfl ⟨Nat.le_of_ble_eq_true rfl, Nat.le_of_ble_eq_true rfl⟩ (Nat.le_of_ble_eq_true rfl) ⟨Nat.le_of_ble_eq_true rfl, Nat.le_of_ble_eq_true rfl⟩ dX2_fullAgreeing_20) (fun r_20_5 S_20_6 h_20_3 => ?_)
      obtain ⟨rfl, er_20_5⟩ := h_20_3
      subst er_20_5
      refine tX2_64 X (S := S) ⟨(kLs.el (hC) hlt).1, (kLs.el (hC) hlt).2⟩ dX2_fullAgreeing_23 ?_
      refine k_astore X [(4, .ref (cz i)), (3, .int (nI i)), (2, .int (ksum F i)), (0, .ref (A 1)), (1, .int x1)] dX2_fullAgreeing_26 (by decide) rfl ?_
      refine k_iload_n X (q := 2) dX2_fullAgreeing_28 rfl rfl ?_
      refine k_aload X (q := 0) dX2_fullAgreeing_29 rfl ?_
      refine k_gotI X (vX2_101 X (S := S) ⟨(kLs.el (hC) hlt).1, (kLs.el (hC) hlt).2⟩ (c_X1_isFull C.l C.e0 S (cz i) (kLs.el (hC) hlt)) (As := []) (rest := [.int (ksum F i)]) rfl rfl rfl rfl ⟨Nat.le_of_ble_eq_true rfl, Nat.le_of_ble_eq_true rfl⟩ (Nat.le_of_ble_eq_true rfl) ⟨Nat.le_of_ble_eq_true rfl, Nat.le_of_ble_eq_true rfl⟩ dX2_fullAgreeing_31) (fun v_31_8 S_31_9 h_31_6 => ?_)
      obtain ⟨rfl, ev_31_8⟩ := h_31_6
      refine k_if_eq (tgt := 50) X dX2_fullAgreeing_34 (by decide) (fun c_34 => ?_) (fun c_34 => ?_)
      · skip
        rw [ev_31_8] at c_34
        refine k_iconst X (v := 0) dX2_fullAgreeing_50 (by decide) ?_
        refine k_gotI X (vX2_112 X (S := S) (c_X11_asNumber C.l C.e0 S 0 ) (As := [.int 0]) (rest := [.int (ksum F i)]) rfl rfl rfl rfl ⟨Nat.le_of_ble_eq_true rfl, Nat.le_of_ble_eq_true rfl⟩ (Nat.le_of_ble_eq_true rfl) ⟨Nat.le_of_ble_eq_true rfl, Nat.le_of_ble_eq_true rfl⟩ dX2_fullAgreeing_51) (fun v_51_11 S_51_12 h_51_9 => ?_)
        obtain ⟨rfl, ev_51_11⟩ := h_51_9
        refine k_iadd X dX2_fullAgreeing_54 (fun v_54_13 ev_54_13 => ?_)
        refine k_istore_n X [(2, .int v_54_13), (4, .ref (cz i)), (3, .int (nI i)), (0, .ref (A 1)), (1, .int x1)] dX2_fullAgreeing_55 rfl (by decide) rfl ?_
        obtain ⟨v_56_14, ev_56_14⟩ : ∃ z : Int32, z = (nI i) + 1 := ⟨_, rfl⟩
        refine k_iinc X (q := 2) (v := v_56_14) [(3, .int v_56_14), (2, .int v_54_13), (4, .ref (cz i)), (0, .ref (A 1)), (1, .int x1)] dX2_fullAgreeing_56 rfl (by rw [ev_56_14]; rfl) (by decide) rfl ?_
        refine k_goto (tgt := 4) X dX2_fullAgreeing_59 (by decide) ?_
        refine k_lv [0, 1, 3, 4] _ rfl ?_
        exact ih (n - (i + 1)) (by omega) (i + 1) _ _ rfl (by rw [ev_56_14, nI_1]) (by rw [ev_54_13]; show _ = ksum F i + F i; refine congrArg (fun z => ksum F i + z) ?_; exact Eq.symm (by rw [hF]; (try subst_vars); simp_all [kb])) (by omega)
      · skip
        rw [ev_31_8] at c_34
        refine k_aload X (q := 0) dX2_fullAgreeing_37 rfl ?_
        refine k_iload_n X (q := 4) dX2_fullAgreeing_39 rfl rfl ?_
        refine k_gotI X (vX2_108 X (S := S) ⟨(kLs.el (hC) hlt).1, (kLs.el (hC) hlt).2⟩ (c_X1_agrees C.l C.e0 S (cz i) x1 (kLs.el (hC) hlt)) (As := [.int x1]) (rest := [.int (ksum F i)]) rfl rfl rfl rfl ⟨Nat.le_of_ble_eq_true rfl, Nat.le_of_ble_eq_true rfl⟩ (Nat.le_of_ble_eq_true rfl) ⟨Nat.le_of_ble_eq_true rfl, Nat.le_of_ble_eq_true rfl⟩ dX2_fullAgreeing_40) (fun v_40_16 S_40_17 h_40_14 => ?_)
        obtain ⟨rfl, ev_40_16⟩ := h_40_14
        refine k_if_eq (tgt := 50) X dX2_fullAgreeing_43 (by decide) (fun c_43 => ?_) (fun c_43 => ?_)
        · skip
          rw [ev_40_16] at c_43
          refine k_iconst X (v := 0) dX2_fullAgreeing_50 (by decide) ?_
          refine k_gotI X (vX2_112 X (S := S) (c_X11_asNumber C.l C.e0 S 0 ) (As := [.int 0]) (rest := [.int (ksum F i)]) rfl rfl rfl rfl ⟨Nat.le_of_ble_eq_true rfl, Nat.le_of_ble_eq_true rfl⟩ (Nat.le_of_ble_eq_true rfl) ⟨Nat.le_of_ble_eq_true rfl, Nat.le_of_ble_eq_true rfl⟩ dX2_fullAgreeing_51) (fun v_51_19 S_51_20 h_51_17 => ?_)
          obtain ⟨rfl, ev_51_19⟩ := h_51_17
          refine k_iadd X dX2_fullAgreeing_54 (fun v_54_21 ev_54_21 => ?_)
          refine k_istore_n X [(2, .int v_54_21), (4, .ref (cz i)), (3, .int (nI i)), (0, .ref (A 1)), (1, .int x1)] dX2_fullAgreeing_55 rfl (by decide) rfl ?_
          obtain ⟨v_56_22, ev_56_22⟩ : ∃ z : Int32, z = (nI i) + 1 := ⟨_, rfl⟩
          refine k_iinc X (q := 2) (v := v_56_22) [(3, .int v_56_22), (2, .int v_54_21), (4, .ref (cz i)), (0, .ref (A 1)), (1, .int x1)] dX2_fullAgreeing_56 rfl (by rw [ev_56_22]; rfl) (by decide) rfl ?_
          refine k_goto (tgt := 4) X dX2_fullAgreeing_59 (by decide) ?_
          refine k_lv [0, 1, 3, 4] _ rfl ?_
          exact ih (n - (i + 1)) (by omega) (i + 1) _ _ rfl (by rw [ev_56_22, nI_1]) (by rw [ev_54_21]; show _ = ksum F i + F i; refine congrArg (fun z => ksum F i + z) ?_; exact Eq.symm (by rw [hF]; (try subst_vars); simp_all [kb])) (by omega)
        · skip
          rw [ev_40_16] at c_43
          refine k_iconst X (v := 1) dX2_fullAgreeing_46 (by decide) ?_
          refine k_goto (tgt := 51) X dX2_fullAgreeing_47 (by decide) ?_
          refine k_gotI X (vX2_112 X (S := S) (c_X11_asNumber C.l C.e0 S 1 ) (As := [.int 1]) (rest := [.int (ksum F i)]) rfl rfl rfl rfl ⟨Nat.le_of_ble_eq_true rfl, Nat.le_of_ble_eq_true rfl⟩ (Nat.le_of_ble_eq_true rfl) ⟨Nat.le_of_ble_eq_true rfl, Nat.le_of_ble_eq_true rfl⟩ dX2_fullAgreeing_51) (fun v_51_24 S_51_25 h_51_22 => ?_)
          obtain ⟨rfl, ev_51_24⟩ := h_51_22
          refine k_iadd X dX2_fullAgreeing_54 (fun v_54_26 ev_54_26 => ?_)
          refine k_istore_n X [(2, .int v_54_26), (4, .ref (cz i)), (3, .int (nI i)), (0, .ref (A 1)), (1, .int x1)] dX2_fullAgreeing_55 rfl (by decide) rfl ?_
          obtain ⟨v_56_27, ev_56_27⟩ : ∃ z : Int32, z = (nI i) + 1 := ⟨_, rfl⟩
          refine k_iinc X (q := 2) (v := v_56_27) [(3, .int v_56_27), (2, .int v_54_26), (4, .ref (cz i)), (0, .ref (A 1)), (1, .int x1)] dX2_fullAgreeing_56 rfl (by rw [ev_56_27]; rfl) (by decide) rfl ?_
          refine k_goto (tgt := 4) X dX2_fullAgreeing_59 (by decide) ?_
          refine k_lv [0, 1, 3, 4] _ rfl ?_
          exact ih (n - (i + 1)) (by omega) (i + 1) _ _ rfl (by rw [ev_56_27, nI_1]) (by rw [ev_54_26]; show _ = ksum F i + F i; refine congrArg (fun z => ksum F i + z) ?_; exact Eq.symm (by rw [hF]; (try subst_vars); simp_all [kb])) (by omega)
  refine k_lv [0, 1, 2, 3] _ rfl ?_
  exact L_4 _ 0 0 0 rfl nI_0.symm rfl (Nat.zero_le _)
set_option maxHeartbeats 1000000 in
set_option maxRecDepth 20000 in
theorem c_X2_councilAgreeing (l : Launch) (e0 : Nat × Nat) (S : kS) (x1 : Int32) (A : Nat → Nat) (n : Nat) (cz : Nat → Nat) (hst : kSt A S) (hC : kLs e0 S (A 10) 1 n cz) (hn : n ≤ 40)  : kM l e0 yX2_councilAgreeing cX2_councilAgreeing 5 (Option.some Jvm.ClassFile.FieldType.int) ({ frames := 3, cells := 0, slots := 0, locals := 66 } : Room) 0 0 [.ref (A 1), .int x1] S (kQi (fun v S9 => S = S9 ∧ v = ksum (fun i => kb (!decide (S.I (cz i) 9 = 0) && decide (kabs (S.I (cz i) 2 - x1) ≤ 5))) n)) := by
  refine kMetE (by decide +kernel) (Nat.le_of_ble_eq_true rfl) (fun C he hl X E hm => ?_)
  have X : kX C RX2 cX2_councilAgreeing 5 ({ frames := 3, cells := 0, slots := 0, locals := 66 } : Room) := X
  subst he hl
  show kG C 5 S 0 0 0 [(0, .ref (A 1)), (1, .int x1)] []
  obtain ⟨F, hF⟩ : ∃ F : Nat → Int32, F = fun i => kb (!decide (S.I (cz i) 9 = 0) && decide (kabs (S.I (cz i) 2 - x1) ≤ 5)) := ⟨_, rfl⟩
  refine k_iconst X (v := 0) dX2_councilAgreeing_0 (by decide) ?_
  refine k_istore_n X [(2, .int 0), (0, .ref (A 1)), (1, .int x1)] dX2_councilAgreeing_1 rfl (by decide) rfl ?_
  refine k_iconst X (v := 0) dX2_councilAgreeing_2 (by decide) ?_
  refine k_istore_n X [(3, .int 0), (2, .int 0), (0, .ref (A 1)), (1, .int x1)] dX2_councilAgreeing_3 rfl (by decide) rfl ?_
  have L_4 : ∀ (N : Nat) (i : Nat) (x y : Int32), n - i = N → x = nI i → y = ksum F i → i ≤ n → kG C 5 S 0 0 4 [(3, .int x), (2, .int y), (0, .ref (A 1)), (1, .int x1)] [] := by
    intro N
    induction N using Nat.strongRecOn with
    | _ N ih =>
    intro i x y hMs h4_0 h4_1 h4_2
    subst h4_0 h4_1
    refine k_iload_n X (q := 0) dX2_councilAgreeing_4 rfl rfl ?_
    refine k_aload_n X (q := 2) dX2_councilAgreeing_5 rfl rfl ?_
    refine gX2_57s X (S := S) (st_1 hst).1 (st_1 hst).2 (sr_1_12 hst) dX2_councilAgreeing_6 ?_
    refine k_gotI X (vX2_86 X (S := S) ⟨(st_10 hst).1, (st_10 hst).2⟩ (c_Jx4a65c_size_8abf5 C.l C.e0 S (A 10) (st_10 hst)) (As := []) (rest := [.int (nI i)]) rfl rfl rfl rfl ⟨Nat.le_of_ble_eq_true rfl, Nat.le_of_ble_eq_true rfl⟩ (Nat.le_of_ble_eq_true rfl) ⟨Nat.le_of_ble_eq_true rfl, Nat.le_of_ble_eq_true rfl⟩ dX2_councilAgreeing_9) (fun v_9_2 S_9_3 h_9_0 => ?_)
    obtain ⟨rfl, ev_9_2⟩ := h_9_0
    have hz_v_9_2 : nI n = v_9_2 := by rw [ev_9_2]; exact (hC).2.1.symm
    subst hz_v_9_2
    refine k_icmp_ge (tgt := 62) X dX2_councilAgreeing_12 (by decide) (fun c_12 => ?_) (fun c_12 => ?_)
    · skip
      have hin : n = i := by have := ge_of_le c_12 (by omega); omega
      subst hin
      refine k_iload_n X (q := 1) dX2_councilAgreeing_62 rfl rfl ?_
      exact k_iret X E dX2_councilAgreeing_63 (Nat.le_of_ble_eq_true rfl) (Nat.le_of_ble_eq_true rfl) (⟨rfl, by rw [hF]⟩)
    · skip
      have hlt : i < n := lt_of_nle c_12 (by omega)
      refine k_aload_n X (q := 2) dX2_councilAgreeing_15 rfl rfl ?_
      refine gX2_57s X (S := S) (st_1 hst).1 (st_1 hst).2 (sr_1_12 hst) dX2_councilAgreeing_16 ?_
      refine k_iload_n X (q := 0) dX2_councilAgreeing_19 rfl rfl ?_
      refine k_gotQ X (vX2_94 X (S := S) ⟨(st_10 hst).1, (st_10 hst).2⟩ (c_Jx4a65c_get_915e3 C.l C.e0 S (A 10) 1 n i cz (hC) hlt) (As := [.int (nI i)]) (rest := []) rfl rfl rfl rfl ⟨Nat.le_of_ble_eq_true rfl, Nat.le_of_ble_eq_true rfl⟩ (Nat.le_of_ble_eq_true rfl) ⟨Nat.le_of_ble_eq_true rfl, Nat.le_of_ble_eq_true rfl⟩ dX2_councilAgreeing_20) (fun r_20_5 S_20_6 h_20_3 => ?_)
      obtain ⟨rfl, er_20_5⟩ := h_20_3
      subst er_20_5
      refine tX2_64 X (S := S) ⟨(kLs.el (hC) hlt).1, (kLs.el (hC) hlt).2⟩ dX2_councilAgreeing_23 ?_
      refine k_astore X [(4, .ref (cz i)), (3, .int (nI i)), (2, .int (ksum F i)), (0, .ref (A 1)), (1, .int x1)] dX2_councilAgreeing_26 (by decide) rfl ?_
      refine k_iload_n X (q := 2) dX2_councilAgreeing_28 rfl rfl ?_
      refine k_aload X (q := 0) dX2_councilAgreeing_29 rfl ?_
      refine gX2_134 X (S := S) (kLs.el (hC) hlt).1 (kLs.el (hC) hlt).2 dX2_councilAgreeing_31 (fun v_31_7 ev_31_7 => ?_)
      refine k_if_eq (tgt := 50) X dX2_councilAgreeing_34 (by decide) (fun c_34 => ?_) (fun c_34 => ?_)
      · skip
        refine k_iconst X (v := 0) dX2_councilAgreeing_50 (by decide) ?_
        refine k_gotI X (vX2_112 X (S := S) (c_X11_asNumber C.l C.e0 S 0 ) (As := [.int 0]) (rest := [.int (ksum F i)]) rfl rfl rfl rfl ⟨Nat.le_of_ble_eq_true rfl, Nat.le_of_ble_eq_true rfl⟩ (Nat.le_of_ble_eq_true rfl) ⟨Nat.le_of_ble_eq_true rfl, Nat.le_of_ble_eq_true rfl⟩ dX2_councilAgreeing_51) (fun v_51_9 S_51_10 h_51_7 => ?_)
        obtain ⟨rfl, ev_51_9⟩ := h_51_7
        refine k_iadd X dX2_councilAgreeing_54 (fun v_54_11 ev_54_11 => ?_)
        refine k_istore_n X [(2, .int v_54_11), (4, .ref (cz i)), (3, .int (nI i)), (0, .ref (A 1)), (1, .int x1)] dX2_councilAgreeing_55 rfl (by decide) rfl ?_
        obtain ⟨v_56_12, ev_56_12⟩ : ∃ z : Int32, z = (nI i) + 1 := ⟨_, rfl⟩
        refine k_iinc X (q := 2) (v := v_56_12) [(3, .int v_56_12), (2, .int v_54_11), (4, .ref (cz i)), (0, .ref (A 1)), (1, .int x1)] dX2_councilAgreeing_56 rfl (by rw [ev_56_12]; rfl) (by decide) rfl ?_
        refine k_goto (tgt := 4) X dX2_councilAgreeing_59 (by decide) ?_
        refine k_lv [0, 1, 3, 4] _ rfl ?_
        exact ih (n - (i + 1)) (by omega) (i + 1) _ _ rfl (by rw [ev_56_12, nI_1]) (by rw [ev_54_11]; show _ = ksum F i + F i; refine congrArg (fun z => ksum F i + z) ?_; exact Eq.symm (by rw [hF]; (try subst_vars); simp_all [kb])) (by omega)
      · skip
        refine k_aload X (q := 0) dX2_councilAgreeing_37 rfl ?_
        refine k_iload_n X (q := 4) dX2_councilAgreeing_39 rfl rfl ?_
        refine k_gotI X (vX2_108 X (S := S) ⟨(kLs.el (hC) hlt).1, (kLs.el (hC) hlt).2⟩ (c_X1_agrees C.l C.e0 S (cz i) x1 (kLs.el (hC) hlt)) (As := [.int x1]) (rest := [.int (ksum F i)]) rfl rfl rfl rfl ⟨Nat.le_of_ble_eq_true rfl, Nat.le_of_ble_eq_true rfl⟩ (Nat.le_of_ble_eq_true rfl) ⟨Nat.le_of_ble_eq_true rfl, Nat.le_of_ble_eq_true rfl⟩ dX2_councilAgreeing_40) (fun v_40_14 S_40_15 h_40_12 => ?_)
        obtain ⟨rfl, ev_40_14⟩ := h_40_12
        refine k_if_eq (tgt := 50) X dX2_councilAgreeing_43 (by decide) (fun c_43 => ?_) (fun c_43 => ?_)
        · skip
          rw [ev_40_14] at c_43
          refine k_iconst X (v := 0) dX2_councilAgreeing_50 (by decide) ?_
          refine k_gotI X (vX2_112 X (S := S) (c_X11_asNumber C.l C.e0 S 0 ) (As := [.int 0]) (rest := [.int (ksum F i)]) rfl rfl rfl rfl ⟨Nat.le_of_ble_eq_true rfl, Nat.le_of_ble_eq_true rfl⟩ (Nat.le_of_ble_eq_true rfl) ⟨Nat.le_of_ble_eq_true rfl, Nat.le_of_ble_eq_true rfl⟩ dX2_councilAgreeing_51) (fun v_51_17 S_51_18 h_51_15 => ?_)
          obtain ⟨rfl, ev_51_17⟩ := h_51_15
          refine k_iadd X dX2_councilAgreeing_54 (fun v_54_19 ev_54_19 => ?_)
          refine k_istore_n X [(2, .int v_54_19), (4, .ref (cz i)), (3, .int (nI i)), (0, .ref (A 1)), (1, .int x1)] dX2_councilAgreeing_55 rfl (by decide) rfl ?_
          obtain ⟨v_56_20, ev_56_20⟩ : ∃ z : Int32, z = (nI i) + 1 := ⟨_, rfl⟩
          refine k_iinc X (q := 2) (v := v_56_20) [(3, .int v_56_20), (2, .int v_54_19), (4, .ref (cz i)), (0, .ref (A 1)), (1, .int x1)] dX2_councilAgreeing_56 rfl (by rw [ev_56_20]; rfl) (by decide) rfl ?_
          refine k_goto (tgt := 4) X dX2_councilAgreeing_59 (by decide) ?_
          refine k_lv [0, 1, 3, 4] _ rfl ?_
          exact ih (n - (i + 1)) (by omega) (i + 1) _ _ rfl (by rw [ev_56_20, nI_1]) (by rw [ev_54_19]; show _ = ksum F i + F i; refine congrArg (fun z => ksum F i + z) ?_; exact Eq.symm (by rw [hF]; (try subst_vars); simp_all [kb])) (by omega)
        · skip
          rw [ev_40_14] at c_43
          refine k_iconst X (v := 1) dX2_councilAgreeing_46 (by decide) ?_
          refine k_goto (tgt := 51) X dX2_councilAgreeing_47 (by decide) ?_
          refine k_gotI X (vX2_112 X (S := S) (c_X11_asNumber C.l C.e0 S 1 ) (As := [.int 1]) (rest := [.int (ksum F i)]) rfl rfl rfl rfl ⟨Nat.le_of_ble_eq_true rfl, Nat.le_of_ble_eq_true rfl⟩ (Nat.le_of_ble_eq_true rfl) ⟨Nat.le_of_ble_eq_true rfl, Nat.le_of_ble_eq_true rfl⟩ dX2_councilAgreeing_51) (fun v_51_22 S_51_23 h_51_20 => ?_)
          obtain ⟨rfl, ev_51_22⟩ := h_51_20
          refine k_iadd X dX2_councilAgreeing_54 (fun v_54_24 ev_54_24 => ?_)
          refine k_istore_n X [(2, .int v_54_24), (4, .ref (cz i)), (3, .int (nI i)), (0, .ref (A 1)), (1, .int x1)] dX2_councilAgreeing_55 rfl (by decide) rfl ?_
          obtain ⟨v_56_25, ev_56_25⟩ : ∃ z : Int32, z = (nI i) + 1 := ⟨_, rfl⟩
          refine k_iinc X (q := 2) (v := v_56_25) [(3, .int v_56_25), (2, .int v_54_24), (4, .ref (cz i)), (0, .ref (A 1)), (1, .int x1)] dX2_councilAgreeing_56 rfl (by rw [ev_56_25]; rfl) (by decide) rfl ?_
          refine k_goto (tgt := 4) X dX2_councilAgreeing_59 (by decide) ?_
          refine k_lv [0, 1, 3, 4] _ rfl ?_
          exact ih (n - (i + 1)) (by omega) (i + 1) _ _ rfl (by rw [ev_56_25, nI_1]) (by rw [ev_54_24]; show _ = ksum F i + F i; refine congrArg (fun z => ksum F i + z) ?_; exact Eq.symm (by rw [hF]; (try subst_vars); simp_all [kb])) (by omega)
  refine k_lv [0, 1, 2, 3] _ rfl ?_
  exact L_4 _ 0 0 0 rfl nI_0.symm rfl (Nat.zero_le _)
set_option maxHeartbeats 1000000 in
set_option maxRecDepth 20000 in
theorem c_X2_countOf (l : Launch) (e0 : Nat × Nat) (S : kS) (x1 : Int32) (x2 : Int32) (x3 : Int32) (A : Nat → Nat) (n : Nat) (cz : Nat → Nat) (hst : kSt A S) (hC : kLs e0 S (A 10) 1 n cz) (hn : n ≤ 40)  : kM l e0 yX2_countOf cX2_countOf 8 (Option.some Jvm.ClassFile.FieldType.int) ({ frames := 3, cells := 0, slots := 0, locals := 64 } : Room) 0 0 [.ref (A 1), .int x1, .int x2, .int x3] S (kQi (fun v S9 => S = S9 ∧ v = ksum (fun i => kb (decide (S.I (cz i) 6 = x1) && decide (x2 ≤ S.I (cz i) 3) && (decide (x3 = -1) || decide ((S.I (cz i) 1 - S.I (cz i) 1 / 4 * 4) = x3)))) n)) := by
  refine kMetE (by decide +kernel) (Nat.le_of_ble_eq_true rfl) (fun C he hl X E hm => ?_)
  have X : kX C RX2 cX2_countOf 8 ({ frames := 3, cells := 0, slots := 0, locals := 64 } : Room) := X
  subst he hl
  show kG C 8 S 0 0 0 [(0, .ref (A 1)), (1, .int x1), (2, .int x2), (3, .int x3)] []
  obtain ⟨F, hF⟩ : ∃ F : Nat → Int32, F = fun i => kb (decide (S.I (cz i) 6 = x1) && decide (x2 ≤ S.I (cz i) 3) && (decide (x3 = -1) || decide ((S.I (cz i) 1 - S.I (cz i) 1 / 4 * 4) = x3))) := ⟨_, rfl⟩
  refine k_iconst X (v := 0) dX2_countOf_0 (by decide) ?_
  refine k_istore X [(4, .int 0), (0, .ref (A 1)), (1, .int x1), (2, .int x2), (3, .int x3)] dX2_countOf_1 (by decide) rfl ?_
  refine k_iconst X (v := 0) dX2_countOf_3 (by decide) ?_
  refine k_istore X [(5, .int 0), (4, .int 0), (0, .ref (A 1)), (1, .int x1), (2, .int x2), (3, .int x3)] dX2_countOf_4 (by decide) rfl ?_
  have L_6 : ∀ (N : Nat) (i : Nat) (x y : Int32), n - i = N → x = nI i → y = ksum F i → i ≤ n → kG C 8 S 0 0 6 [(5, .int x), (4, .int y), (0, .ref (A 1)), (1, .int x1), (2, .int x2), (3, .int x3)] [] := by
    intro N
    induction N using Nat.strongRecOn with
    | _ N ih =>
    intro i x y hMs h6_0 h6_1 h6_2
    subst h6_0 h6_1
    refine k_iload X (q := 0) dX2_countOf_6 rfl ?_
    refine k_aload_n X (q := 2) dX2_countOf_8 rfl rfl ?_
    refine gX2_57s X (S := S) (st_1 hst).1 (st_1 hst).2 (sr_1_12 hst) dX2_countOf_9 ?_
    refine k_gotI X (vX2_86 X (S := S) ⟨(st_10 hst).1, (st_10 hst).2⟩ (c_Jx4a65c_size_8abf5 C.l C.e0 S (A 10) (st_10 hst)) (As := []) (rest := [.int (nI i)]) rfl rfl rfl rfl ⟨Nat.le_of_ble_eq_true rfl, Nat.le_of_ble_eq_true rfl⟩ (Nat.le_of_ble_eq_true rfl) ⟨Nat.le_of_ble_eq_true rfl, Nat.le_of_ble_eq_true rfl⟩ dX2_countOf_12) (fun v_12_2 S_12_3 h_12_0 => ?_)
    obtain ⟨rfl, ev_12_2⟩ := h_12_0
    have hz_v_12_2 : nI n = v_12_2 := by rw [ev_12_2]; exact (hC).2.1.symm
    subst hz_v_12_2
    refine k_icmp_ge (tgt := 95) X dX2_countOf_15 (by decide) (fun c_15 => ?_) (fun c_15 => ?_)
    · skip
      have hin : n = i := by have := ge_of_le c_15 (by omega); omega
      subst hin
      refine k_iload X (q := 1) dX2_countOf_95 rfl ?_
      exact k_iret X E dX2_countOf_97 (Nat.le_of_ble_eq_true rfl) (Nat.le_of_ble_eq_true rfl) (⟨rfl, by rw [hF]⟩)
    · skip
      have hlt : i < n := lt_of_nle c_15 (by omega)
      refine k_aload_n X (q := 2) dX2_countOf_18 rfl rfl ?_
      refine gX2_57s X (S := S) (st_1 hst).1 (st_1 hst).2 (sr_1_12 hst) dX2_countOf_19 ?_
      refine k_iload X (q := 0) dX2_countOf_22 rfl ?_
      refine k_gotQ X (vX2_94 X (S := S) ⟨(st_10 hst).1, (st_10 hst).2⟩ (c_Jx4a65c_get_915e3 C.l C.e0 S (A 10) 1 n i cz (hC) hlt) (As := [.int (nI i)]) (rest := []) rfl rfl rfl rfl ⟨Nat.le_of_ble_eq_true rfl, Nat.le_of_ble_eq_true rfl⟩ (Nat.le_of_ble_eq_true rfl) ⟨Nat.le_of_ble_eq_true rfl, Nat.le_of_ble_eq_true rfl⟩ dX2_countOf_24) (fun r_24_5 S_24_6 h_24_3 => ?_)
      obtain ⟨rfl, er_24_5⟩ := h_24_3
      subst er_24_5
      refine tX2_64 X (S := S) ⟨(kLs.el (hC) hlt).1, (kLs.el (hC) hlt).2⟩ dX2_countOf_27 ?_
      refine k_astore X [(6, .ref (cz i)), (5, .int (nI i)), (4, .int (ksum F i)), (0, .ref (A 1)), (1, .int x1), (2, .int x2), (3, .int x3)] dX2_countOf_30 (by decide) rfl ?_
      refine k_iload_n X (q := 6) dX2_countOf_32 rfl rfl ?_
      refine k_iconst X (v := (-1)) dX2_countOf_33 (by decide) ?_
      refine k_icmp_eq (tgt := 46) X dX2_countOf_34 (by decide) (fun c_34 => ?_) (fun c_34 => ?_)
      · skip
        refine k_iconst X (v := 1) dX2_countOf_46 (by decide) ?_
        refine k_goto (tgt := 51) X dX2_countOf_47 (by decide) ?_
        refine k_istore X [(7, .int 1), (6, .ref (cz i)), (5, .int (nI i)), (4, .int (ksum F i)), (0, .ref (A 1)), (1, .int x1), (2, .int x2), (3, .int x3)] dX2_countOf_51 (by decide) rfl ?_
        refine k_iload X (q := 3) dX2_countOf_53 rfl ?_
        refine k_aload X (q := 1) dX2_countOf_55 rfl ?_
        refine gX2_140 X (S := S) (kLs.el (hC) hlt).1 (kLs.el (hC) hlt).2 dX2_countOf_57 (fun v_57_7 ev_57_7 => ?_)
        refine k_iload_n X (q := 5) dX2_countOf_60 rfl rfl ?_
        refine k_icmp_ne (tgt := 82) X dX2_countOf_61 (by decide) (fun c_61 => ?_) (fun c_61 => ?_)
        · skip
          refine k_iconst X (v := 0) dX2_countOf_82 (by decide) ?_
          refine k_gotI X (vX2_112 X (S := S) (c_X11_asNumber C.l C.e0 S 0 ) (As := [.int 0]) (rest := [.int (ksum F i)]) rfl rfl rfl rfl ⟨Nat.le_of_ble_eq_true rfl, Nat.le_of_ble_eq_true rfl⟩ (Nat.le_of_ble_eq_true rfl) ⟨Nat.le_of_ble_eq_true rfl, Nat.le_of_ble_eq_true rfl⟩ dX2_countOf_83) (fun v_83_9 S_83_10 h_83_7 => ?_)
          obtain ⟨rfl, ev_83_9⟩ := h_83_7
          refine k_iadd X dX2_countOf_86 (fun v_86_11 ev_86_11 => ?_)
          refine k_istore X [(4, .int v_86_11), (7, .int 1), (6, .ref (cz i)), (5, .int (nI i)), (0, .ref (A 1)), (1, .int x1), (2, .int x2), (3, .int x3)] dX2_countOf_87 (by decide) rfl ?_
          obtain ⟨v_89_12, ev_89_12⟩ : ∃ z : Int32, z = (nI i) + 1 := ⟨_, rfl⟩
          refine k_iinc X (q := 3) (v := v_89_12) [(5, .int v_89_12), (4, .int v_86_11), (7, .int 1), (6, .ref (cz i)), (0, .ref (A 1)), (1, .int x1), (2, .int x2), (3, .int x3)] dX2_countOf_89 rfl (by rw [ev_89_12]; rfl) (by decide) rfl ?_
          refine k_goto (tgt := 6) X dX2_countOf_92 (by decide) ?_
          refine k_lv [0, 1, 4, 5, 6, 7] _ rfl ?_
          exact ih (n - (i + 1)) (by omega) (i + 1) _ _ rfl (by rw [ev_89_12, nI_1]) (by rw [ev_86_11]; show _ = ksum F i + F i; refine congrArg (fun z => ksum F i + z) ?_; exact Eq.symm (by rw [hF]; (try subst_vars); simp_all [kb])) (by omega)
        · skip
          refine k_aload X (q := 1) dX2_countOf_64 rfl ?_
          refine gX2_143 X (S := S) (kLs.el (hC) hlt).1 (kLs.el (hC) hlt).2 dX2_countOf_66 (fun v_66_13 ev_66_13 => ?_)
          refine k_iload_n X (q := 6) dX2_countOf_69 rfl rfl ?_
          refine k_icmp_lt (tgt := 82) X dX2_countOf_70 (by decide) (fun c_70 => ?_) (fun c_70 => ?_)
          · skip
            refine k_iconst X (v := 0) dX2_countOf_82 (by decide) ?_
            refine k_gotI X (vX2_112 X (S := S) (c_X11_asNumber C.l C.e0 S 0 ) (As := [.int 0]) (rest := [.int (ksum F i)]) rfl rfl rfl rfl ⟨Nat.le_of_ble_eq_true rfl, Nat.le_of_ble_eq_true rfl⟩ (Nat.le_of_ble_eq_true rfl) ⟨Nat.le_of_ble_eq_true rfl, Nat.le_of_ble_eq_true rfl⟩ dX2_countOf_83) (fun v_83_15 S_83_16 h_83_13 => ?_)
            obtain ⟨rfl, ev_83_15⟩ := h_83_13
            refine k_iadd X dX2_countOf_86 (fun v_86_17 ev_86_17 => ?_)
            refine k_istore X [(4, .int v_86_17), (7, .int 1), (6, .ref (cz i)), (5, .int (nI i)), (0, .ref (A 1)), (1, .int x1), (2, .int x2), (3, .int x3)] dX2_countOf_87 (by decide) rfl ?_
            obtain ⟨v_89_18, ev_89_18⟩ : ∃ z : Int32, z = (nI i) + 1 := ⟨_, rfl⟩
            refine k_iinc X (q := 3) (v := v_89_18) [(5, .int v_89_18), (4, .int v_86_17), (7, .int 1), (6, .ref (cz i)), (0, .ref (A 1)), (1, .int x1), (2, .int x2), (3, .int x3)] dX2_countOf_89 rfl (by rw [ev_89_18]; rfl) (by decide) rfl ?_
            refine k_goto (tgt := 6) X dX2_countOf_92 (by decide) ?_
            refine k_lv [0, 1, 4, 5, 6, 7] _ rfl ?_
            exact ih (n - (i + 1)) (by omega) (i + 1) _ _ rfl (by rw [ev_89_18, nI_1]) (by rw [ev_86_17]; show _ = ksum F i + F i; refine congrArg (fun z => ksum F i + z) ?_; exact Eq.symm (by rw [hF]; (try subst_vars); simp_all [kb])) (by omega)
          · skip
            refine k_iload X (q := 0) dX2_countOf_73 rfl ?_
            refine k_if_eq (tgt := 82) X dX2_countOf_75 (by decide) (fun c_75 => ?_) (fun c_75 => ?_)
            · skip
              refine k_iconst X (v := 0) dX2_countOf_82 (by decide) ?_
              refine k_gotI X (vX2_112 X (S := S) (c_X11_asNumber C.l C.e0 S 0 ) (As := [.int 0]) (rest := [.int (ksum F i)]) rfl rfl rfl rfl ⟨Nat.le_of_ble_eq_true rfl, Nat.le_of_ble_eq_true rfl⟩ (Nat.le_of_ble_eq_true rfl) ⟨Nat.le_of_ble_eq_true rfl, Nat.le_of_ble_eq_true rfl⟩ dX2_countOf_83) (fun v_83_20 S_83_21 h_83_18 => ?_)
              obtain ⟨rfl, ev_83_20⟩ := h_83_18
              refine k_iadd X dX2_countOf_86 (fun v_86_22 ev_86_22 => ?_)
              refine k_istore X [(4, .int v_86_22), (7, .int 1), (6, .ref (cz i)), (5, .int (nI i)), (0, .ref (A 1)), (1, .int x1), (2, .int x2), (3, .int x3)] dX2_countOf_87 (by decide) rfl ?_
              obtain ⟨v_89_23, ev_89_23⟩ : ∃ z : Int32, z = (nI i) + 1 := ⟨_, rfl⟩
              refine k_iinc X (q := 3) (v := v_89_23) [(5, .int v_89_23), (4, .int v_86_22), (7, .int 1), (6, .ref (cz i)), (0, .ref (A 1)), (1, .int x1), (2, .int x2), (3, .int x3)] dX2_countOf_89 rfl (by rw [ev_89_23]; rfl) (by decide) rfl ?_
              refine k_goto (tgt := 6) X dX2_countOf_92 (by decide) ?_
              refine k_lv [0, 1, 4, 5, 6, 7] _ rfl ?_
              exact ih (n - (i + 1)) (by omega) (i + 1) _ _ rfl (by rw [ev_89_23, nI_1]) (by rw [ev_86_22]; show _ = ksum F i + F i; refine congrArg (fun z => ksum F i + z) ?_; exact Eq.symm (by rw [hF]; (try subst_vars); simp_all [kb])) (by omega)
            · skip
              refine k_iconst X (v := 1) dX2_countOf_78 (by decide) ?_
              refine k_goto (tgt := 83) X dX2_countOf_79 (by decide) ?_
              refine k_gotI X (vX2_112 X (S := S) (c_X11_asNumber C.l C.e0 S 1 ) (As := [.int 1]) (rest := [.int (ksum F i)]) rfl rfl rfl rfl ⟨Nat.le_of_ble_eq_true rfl, Nat.le_of_ble_eq_true rfl⟩ (Nat.le_of_ble_eq_true rfl) ⟨Nat.le_of_ble_eq_true rfl, Nat.le_of_ble_eq_true rfl⟩ dX2_countOf_83) (fun v_83_25 S_83_26 h_83_23 => ?_)
              obtain ⟨rfl, ev_83_25⟩ := h_83_23
              refine k_iadd X dX2_countOf_86 (fun v_86_27 ev_86_27 => ?_)
              refine k_istore X [(4, .int v_86_27), (7, .int 1), (6, .ref (cz i)), (5, .int (nI i)), (0, .ref (A 1)), (1, .int x1), (2, .int x2), (3, .int x3)] dX2_countOf_87 (by decide) rfl ?_
              obtain ⟨v_89_28, ev_89_28⟩ : ∃ z : Int32, z = (nI i) + 1 := ⟨_, rfl⟩
              refine k_iinc X (q := 3) (v := v_89_28) [(5, .int v_89_28), (4, .int v_86_27), (7, .int 1), (6, .ref (cz i)), (0, .ref (A 1)), (1, .int x1), (2, .int x2), (3, .int x3)] dX2_countOf_89 rfl (by rw [ev_89_28]; rfl) (by decide) rfl ?_
              refine k_goto (tgt := 6) X dX2_countOf_92 (by decide) ?_
              refine k_lv [0, 1, 4, 5, 6, 7] _ rfl ?_
              exact ih (n - (i + 1)) (by omega) (i + 1) _ _ rfl (by rw [ev_89_28, nI_1]) (by rw [ev_86_27]; show _ = ksum F i + F i; refine congrArg (fun z => ksum F i + z) ?_; exact Eq.symm (by rw [hF]; (try subst_vars); simp_all [kb])) (by omega)
      · skip
        refine k_aload X (q := 0) dX2_countOf_37 rfl ?_
        refine k_gotI X (vX2_137 X (S := S) ⟨(kLs.el (hC) hlt).1, (kLs.el (hC) hlt).2⟩ (c_X1_tribe C.l C.e0 S (cz i) (kLs.el (hC) hlt)) (As := []) (rest := []) rfl rfl rfl rfl ⟨Nat.le_of_ble_eq_true rfl, Nat.le_of_ble_eq_true rfl⟩ (Nat.le_of_ble_eq_true rfl) ⟨Nat.le_of_ble_eq_true rfl, Nat.le_of_ble_eq_true rfl⟩ dX2_countOf_39) (fun v_39_30 S_39_31 h_39_28 => ?_)
        obtain ⟨rfl, ev_39_30⟩ := h_39_28
        refine k_iload_n X (q := 6) dX2_countOf_42 rfl rfl ?_
        refine k_icmp_ne (tgt := 50) X dX2_countOf_43 (by decide) (fun c_43 => ?_) (fun c_43 => ?_)
        · skip
          refine k_iconst X (v := 0) dX2_countOf_50 (by decide) ?_
          refine k_istore X [(7, .int 0), (6, .ref (cz i)), (5, .int (nI i)), (4, .int (ksum F i)), (0, .ref (A 1)), (1, .int x1), (2, .int x2), (3, .int x3)] dX2_countOf_51 (by decide) rfl ?_
          refine k_iload X (q := 3) dX2_countOf_53 rfl ?_
          refine k_aload X (q := 1) dX2_countOf_55 rfl ?_
          refine gX2_140 X (S := S) (kLs.el (hC) hlt).1 (kLs.el (hC) hlt).2 dX2_countOf_57 (fun v_57_32 ev_57_32 => ?_)
          refine k_iload_n X (q := 5) dX2_countOf_60 rfl rfl ?_
          refine k_icmp_ne (tgt := 82) X dX2_countOf_61 (by decide) (fun c_61 => ?_) (fun c_61 => ?_)
          · skip
            refine k_iconst X (v := 0) dX2_countOf_82 (by decide) ?_
            refine k_gotI X (vX2_112 X (S := S) (c_X11_asNumber C.l C.e0 S 0 ) (As := [.int 0]) (rest := [.int (ksum F i)]) rfl rfl rfl rfl ⟨Nat.le_of_ble_eq_true rfl, Nat.le_of_ble_eq_true rfl⟩ (Nat.le_of_ble_eq_true rfl) ⟨Nat.le_of_ble_eq_true rfl, Nat.le_of_ble_eq_true rfl⟩ dX2_countOf_83) (fun v_83_34 S_83_35 h_83_32 => ?_)
            obtain ⟨rfl, ev_83_34⟩ := h_83_32
            refine k_iadd X dX2_countOf_86 (fun v_86_36 ev_86_36 => ?_)
            refine k_istore X [(4, .int v_86_36), (7, .int 0), (6, .ref (cz i)), (5, .int (nI i)), (0, .ref (A 1)), (1, .int x1), (2, .int x2), (3, .int x3)] dX2_countOf_87 (by decide) rfl ?_
            obtain ⟨v_89_37, ev_89_37⟩ : ∃ z : Int32, z = (nI i) + 1 := ⟨_, rfl⟩
            refine k_iinc X (q := 3) (v := v_89_37) [(5, .int v_89_37), (4, .int v_86_36), (7, .int 0), (6, .ref (cz i)), (0, .ref (A 1)), (1, .int x1), (2, .int x2), (3, .int x3)] dX2_countOf_89 rfl (by rw [ev_89_37]; rfl) (by decide) rfl ?_
            refine k_goto (tgt := 6) X dX2_countOf_92 (by decide) ?_
            refine k_lv [0, 1, 4, 5, 6, 7] _ rfl ?_
            exact ih (n - (i + 1)) (by omega) (i + 1) _ _ rfl (by rw [ev_89_37, nI_1]) (by rw [ev_86_36]; show _ = ksum F i + F i; refine congrArg (fun z => ksum F i + z) ?_; exact Eq.symm (by rw [hF]; (try subst_vars); simp_all [kb])) (by omega)
          · skip
            refine k_aload X (q := 1) dX2_countOf_64 rfl ?_
            refine gX2_143 X (S := S) (kLs.el (hC) hlt).1 (kLs.el (hC) hlt).2 dX2_countOf_66 (fun v_66_38 ev_66_38 => ?_)
            refine k_iload_n X (q := 6) dX2_countOf_69 rfl rfl ?_
            refine k_icmp_lt (tgt := 82) X dX2_countOf_70 (by decide) (fun c_70 => ?_) (fun c_70 => ?_)
            · skip
              refine k_iconst X (v := 0) dX2_countOf_82 (by decide) ?_
              refine k_gotI X (vX2_112 X (S := S) (c_X11_asNumber C.l C.e0 S 0 ) (As := [.int 0]) (rest := [.int (ksum F i)]) rfl rfl rfl rfl ⟨Nat.le_of_ble_eq_true rfl, Nat.le_of_ble_eq_true rfl⟩ (Nat.le_of_ble_eq_true rfl) ⟨Nat.le_of_ble_eq_true rfl, Nat.le_of_ble_eq_true rfl⟩ dX2_countOf_83) (fun v_83_40 S_83_41 h_83_38 => ?_)
              obtain ⟨rfl, ev_83_40⟩ := h_83_38
              refine k_iadd X dX2_countOf_86 (fun v_86_42 ev_86_42 => ?_)
              refine k_istore X [(4, .int v_86_42), (7, .int 0), (6, .ref (cz i)), (5, .int (nI i)), (0, .ref (A 1)), (1, .int x1), (2, .int x2), (3, .int x3)] dX2_countOf_87 (by decide) rfl ?_
              obtain ⟨v_89_43, ev_89_43⟩ : ∃ z : Int32, z = (nI i) + 1 := ⟨_, rfl⟩
              refine k_iinc X (q := 3) (v := v_89_43) [(5, .int v_89_43), (4, .int v_86_42), (7, .int 0), (6, .ref (cz i)), (0, .ref (A 1)), (1, .int x1), (2, .int x2), (3, .int x3)] dX2_countOf_89 rfl (by rw [ev_89_43]; rfl) (by decide) rfl ?_
              refine k_goto (tgt := 6) X dX2_countOf_92 (by decide) ?_
              refine k_lv [0, 1, 4, 5, 6, 7] _ rfl ?_
              exact ih (n - (i + 1)) (by omega) (i + 1) _ _ rfl (by rw [ev_89_43, nI_1]) (by rw [ev_86_42]; show _ = ksum F i + F i; refine congrArg (fun z => ksum F i + z) ?_; exact Eq.symm (by rw [hF]; (try subst_vars); simp_all [kb])) (by omega)
            · skip
              refine k_iload X (q := 0) dX2_countOf_73 rfl ?_
              refine k_if_eq (tgt := 82) X dX2_countOf_75 (by decide) (fun c_75 => ?_) (fun c_75 => ?_)
              · skip
                refine k_iconst X (v := 0) dX2_countOf_82 (by decide) ?_
                refine k_gotI X (vX2_112 X (S := S) (c_X11_asNumber C.l C.e0 S 0 ) (As := [.int 0]) (rest := [.int (ksum F i)]) rfl rfl rfl rfl ⟨Nat.le_of_ble_eq_true rfl, Nat.le_of_ble_eq_true rfl⟩ (Nat.le_of_ble_eq_true rfl) ⟨Nat.le_of_ble_eq_true rfl, Nat.le_of_ble_eq_true rfl⟩ dX2_countOf_83) (fun v_83_45 S_83_46 h_83_43 => ?_)
                obtain ⟨rfl, ev_83_45⟩ := h_83_43
                refine k_iadd X dX2_countOf_86 (fun v_86_47 ev_86_47 => ?_)
                refine k_istore X [(4, .int v_86_47), (7, .int 0), (6, .ref (cz i)), (5, .int (nI i)), (0, .ref (A 1)), (1, .int x1), (2, .int x2), (3, .int x3)] dX2_countOf_87 (by decide) rfl ?_
                obtain ⟨v_89_48, ev_89_48⟩ : ∃ z : Int32, z = (nI i) + 1 := ⟨_, rfl⟩
                refine k_iinc X (q := 3) (v := v_89_48) [(5, .int v_89_48), (4, .int v_86_47), (7, .int 0), (6, .ref (cz i)), (0, .ref (A 1)), (1, .int x1), (2, .int x2), (3, .int x3)] dX2_countOf_89 rfl (by rw [ev_89_48]; rfl) (by decide) rfl ?_
                refine k_goto (tgt := 6) X dX2_countOf_92 (by decide) ?_
                refine k_lv [0, 1, 4, 5, 6, 7] _ rfl ?_
                exact ih (n - (i + 1)) (by omega) (i + 1) _ _ rfl (by rw [ev_89_48, nI_1]) (by rw [ev_86_47]; show _ = ksum F i + F i; refine congrArg (fun z => ksum F i + z) ?_; exact Eq.symm (by rw [hF]; (try subst_vars); simp_all [kb])) (by omega)
              · skip
                refine k_iconst X (v := 1) dX2_countOf_78 (by decide) ?_
                refine k_goto (tgt := 83) X dX2_countOf_79 (by decide) ?_
                refine k_gotI X (vX2_112 X (S := S) (c_X11_asNumber C.l C.e0 S 1 ) (As := [.int 1]) (rest := [.int (ksum F i)]) rfl rfl rfl rfl ⟨Nat.le_of_ble_eq_true rfl, Nat.le_of_ble_eq_true rfl⟩ (Nat.le_of_ble_eq_true rfl) ⟨Nat.le_of_ble_eq_true rfl, Nat.le_of_ble_eq_true rfl⟩ dX2_countOf_83) (fun v_83_50 S_83_51 h_83_48 => ?_)
                obtain ⟨rfl, ev_83_50⟩ := h_83_48
                refine k_iadd X dX2_countOf_86 (fun v_86_52 ev_86_52 => ?_)
                refine k_istore X [(4, .int v_86_52), (7, .int 0), (6, .ref (cz i)), (5, .int (nI i)), (0, .ref (A 1)), (1, .int x1), (2, .int x2), (3, .int x3)] dX2_countOf_87 (by decide) rfl ?_
                obtain ⟨v_89_53, ev_89_53⟩ : ∃ z : Int32, z = (nI i) + 1 := ⟨_, rfl⟩
                refine k_iinc X (q := 3) (v := v_89_53) [(5, .int v_89_53), (4, .int v_86_52), (7, .int 0), (6, .ref (cz i)), (0, .ref (A 1)), (1, .int x1), (2, .int x2), (3, .int x3)] dX2_countOf_89 rfl (by rw [ev_89_53]; rfl) (by decide) rfl ?_
                refine k_goto (tgt := 6) X dX2_countOf_92 (by decide) ?_
                refine k_lv [0, 1, 4, 5, 6, 7] _ rfl ?_
                exact ih (n - (i + 1)) (by omega) (i + 1) _ _ rfl (by rw [ev_89_53, nI_1]) (by rw [ev_86_52]; show _ = ksum F i + F i; refine congrArg (fun z => ksum F i + z) ?_; exact Eq.symm (by rw [hF]; (try subst_vars); simp_all [kb])) (by omega)
        · skip
          refine k_iconst X (v := 1) dX2_countOf_46 (by decide) ?_
          refine k_goto (tgt := 51) X dX2_countOf_47 (by decide) ?_
          refine k_istore X [(7, .int 1), (6, .ref (cz i)), (5, .int (nI i)), (4, .int (ksum F i)), (0, .ref (A 1)), (1, .int x1), (2, .int x2), (3, .int x3)] dX2_countOf_51 (by decide) rfl ?_
          refine k_iload X (q := 3) dX2_countOf_53 rfl ?_
          refine k_aload X (q := 1) dX2_countOf_55 rfl ?_
          refine gX2_140 X (S := S) (kLs.el (hC) hlt).1 (kLs.el (hC) hlt).2 dX2_countOf_57 (fun v_57_54 ev_57_54 => ?_)
          refine k_iload_n X (q := 5) dX2_countOf_60 rfl rfl ?_
          refine k_icmp_ne (tgt := 82) X dX2_countOf_61 (by decide) (fun c_61 => ?_) (fun c_61 => ?_)
          · skip
            refine k_iconst X (v := 0) dX2_countOf_82 (by decide) ?_
            refine k_gotI X (vX2_112 X (S := S) (c_X11_asNumber C.l C.e0 S 0 ) (As := [.int 0]) (rest := [.int (ksum F i)]) rfl rfl rfl rfl ⟨Nat.le_of_ble_eq_true rfl, Nat.le_of_ble_eq_true rfl⟩ (Nat.le_of_ble_eq_true rfl) ⟨Nat.le_of_ble_eq_true rfl, Nat.le_of_ble_eq_true rfl⟩ dX2_countOf_83) (fun v_83_56 S_83_57 h_83_54 => ?_)
            obtain ⟨rfl, ev_83_56⟩ := h_83_54
            refine k_iadd X dX2_countOf_86 (fun v_86_58 ev_86_58 => ?_)
            refine k_istore X [(4, .int v_86_58), (7, .int 1), (6, .ref (cz i)), (5, .int (nI i)), (0, .ref (A 1)), (1, .int x1), (2, .int x2), (3, .int x3)] dX2_countOf_87 (by decide) rfl ?_
            obtain ⟨v_89_59, ev_89_59⟩ : ∃ z : Int32, z = (nI i) + 1 := ⟨_, rfl⟩
            refine k_iinc X (q := 3) (v := v_89_59) [(5, .int v_89_59), (4, .int v_86_58), (7, .int 1), (6, .ref (cz i)), (0, .ref (A 1)), (1, .int x1), (2, .int x2), (3, .int x3)] dX2_countOf_89 rfl (by rw [ev_89_59]; rfl) (by decide) rfl ?_
            refine k_goto (tgt := 6) X dX2_countOf_92 (by decide) ?_
            refine k_lv [0, 1, 4, 5, 6, 7] _ rfl ?_
            exact ih (n - (i + 1)) (by omega) (i + 1) _ _ rfl (by rw [ev_89_59, nI_1]) (by rw [ev_86_58]; show _ = ksum F i + F i; refine congrArg (fun z => ksum F i + z) ?_; exact Eq.symm (by rw [hF]; (try subst_vars); simp_all [kb])) (by omega)
          · skip
            refine k_aload X (q := 1) dX2_countOf_64 rfl ?_
            refine gX2_143 X (S := S) (kLs.el (hC) hlt).1 (kLs.el (hC) hlt).2 dX2_countOf_66 (fun v_66_60 ev_66_60 => ?_)
            refine k_iload_n X (q := 6) dX2_countOf_69 rfl rfl ?_
            refine k_icmp_lt (tgt := 82) X dX2_countOf_70 (by decide) (fun c_70 => ?_) (fun c_70 => ?_)
            · skip
              refine k_iconst X (v := 0) dX2_countOf_82 (by decide) ?_
              refine k_gotI X (vX2_112 X (S := S) (c_X11_asNumber C.l C.e0 S 0 ) (As := [.int 0]) (rest := [.int (ksum F i)]) rfl rfl rfl rfl ⟨Nat.le_of_ble_eq_true rfl, Nat.le_of_ble_eq_true rfl⟩ (Nat.le_of_ble_eq_true rfl) ⟨Nat.le_of_ble_eq_true rfl, Nat.le_of_ble_eq_true rfl⟩ dX2_countOf_83) (fun v_83_62 S_83_63 h_83_60 => ?_)
              obtain ⟨rfl, ev_83_62⟩ := h_83_60
              refine k_iadd X dX2_countOf_86 (fun v_86_64 ev_86_64 => ?_)
              refine k_istore X [(4, .int v_86_64), (7, .int 1), (6, .ref (cz i)), (5, .int (nI i)), (0, .ref (A 1)), (1, .int x1), (2, .int x2), (3, .int x3)] dX2_countOf_87 (by decide) rfl ?_
              obtain ⟨v_89_65, ev_89_65⟩ : ∃ z : Int32, z = (nI i) + 1 := ⟨_, rfl⟩
              refine k_iinc X (q := 3) (v := v_89_65) [(5, .int v_89_65), (4, .int v_86_64), (7, .int 1), (6, .ref (cz i)), (0, .ref (A 1)), (1, .int x1), (2, .int x2), (3, .int x3)] dX2_countOf_89 rfl (by rw [ev_89_65]; rfl) (by decide) rfl ?_
              refine k_goto (tgt := 6) X dX2_countOf_92 (by decide) ?_
              refine k_lv [0, 1, 4, 5, 6, 7] _ rfl ?_
              exact ih (n - (i + 1)) (by omega) (i + 1) _ _ rfl (by rw [ev_89_65, nI_1]) (by rw [ev_86_64]; show _ = ksum F i + F i; refine congrArg (fun z => ksum F i + z) ?_; exact Eq.symm (by rw [hF]; (try subst_vars); simp_all [kb])) (by omega)
            · skip
              refine k_iload X (q := 0) dX2_countOf_73 rfl ?_
              refine k_if_eq (tgt := 82) X dX2_countOf_75 (by decide) (fun c_75 => ?_) (fun c_75 => ?_)
              · skip
                refine k_iconst X (v := 0) dX2_countOf_82 (by decide) ?_
                refine k_gotI X (vX2_112 X (S := S) (c_X11_asNumber C.l C.e0 S 0 ) (As := [.int 0]) (rest := [.int (ksum F i)]) rfl rfl rfl rfl ⟨Nat.le_of_ble_eq_true rfl, Nat.le_of_ble_eq_true rfl⟩ (Nat.le_of_ble_eq_true rfl) ⟨Nat.le_of_ble_eq_true rfl, Nat.le_of_ble_eq_true rfl⟩ dX2_countOf_83) (fun v_83_67 S_83_68 h_83_65 => ?_)
                obtain ⟨rfl, ev_83_67⟩ := h_83_65
                refine k_iadd X dX2_countOf_86 (fun v_86_69 ev_86_69 => ?_)
                refine k_istore X [(4, .int v_86_69), (7, .int 1), (6, .ref (cz i)), (5, .int (nI i)), (0, .ref (A 1)), (1, .int x1), (2, .int x2), (3, .int x3)] dX2_countOf_87 (by decide) rfl ?_
                obtain ⟨v_89_70, ev_89_70⟩ : ∃ z : Int32, z = (nI i) + 1 := ⟨_, rfl⟩
                refine k_iinc X (q := 3) (v := v_89_70) [(5, .int v_89_70), (4, .int v_86_69), (7, .int 1), (6, .ref (cz i)), (0, .ref (A 1)), (1, .int x1), (2, .int x2), (3, .int x3)] dX2_countOf_89 rfl (by rw [ev_89_70]; rfl) (by decide) rfl ?_
                refine k_goto (tgt := 6) X dX2_countOf_92 (by decide) ?_
                refine k_lv [0, 1, 4, 5, 6, 7] _ rfl ?_
                exact ih (n - (i + 1)) (by omega) (i + 1) _ _ rfl (by rw [ev_89_70, nI_1]) (by rw [ev_86_69]; show _ = ksum F i + F i; refine congrArg (fun z => ksum F i + z) ?_; exact Eq.symm (by rw [hF]; (try subst_vars); simp_all [kb])) (by omega)
              · skip
                refine k_iconst X (v := 1) dX2_countOf_78 (by decide) ?_
                refine k_goto (tgt := 83) X dX2_countOf_79 (by decide) ?_
                refine k_gotI X (vX2_112 X (S := S) (c_X11_asNumber C.l C.e0 S 1 ) (As := [.int 1]) (rest := [.int (ksum F i)]) rfl rfl rfl rfl ⟨Nat.le_of_ble_eq_true rfl, Nat.le_of_ble_eq_true rfl⟩ (Nat.le_of_ble_eq_true rfl) ⟨Nat.le_of_ble_eq_true rfl, Nat.le_of_ble_eq_true rfl⟩ dX2_countOf_83) (fun v_83_72 S_83_73 h_83_70 => ?_)
                obtain ⟨rfl, ev_83_72⟩ := h_83_70
                refine k_iadd X dX2_countOf_86 (fun v_86_74 ev_86_74 => ?_)
                refine k_istore X [(4, .int v_86_74), (7, .int 1), (6, .ref (cz i)), (5, .int (nI i)), (0, .ref (A 1)), (1, .int x1), (2, .int x2), (3, .int x3)] dX2_countOf_87 (by decide) rfl ?_
                obtain ⟨v_89_75, ev_89_75⟩ : ∃ z : Int32, z = (nI i) + 1 := ⟨_, rfl⟩
                refine k_iinc X (q := 3) (v := v_89_75) [(5, .int v_89_75), (4, .int v_86_74), (7, .int 1), (6, .ref (cz i)), (0, .ref (A 1)), (1, .int x1), (2, .int x2), (3, .int x3)] dX2_countOf_89 rfl (by rw [ev_89_75]; rfl) (by decide) rfl ?_
                refine k_goto (tgt := 6) X dX2_countOf_92 (by decide) ?_
                refine k_lv [0, 1, 4, 5, 6, 7] _ rfl ?_
                exact ih (n - (i + 1)) (by omega) (i + 1) _ _ rfl (by rw [ev_89_75, nI_1]) (by rw [ev_86_74]; show _ = ksum F i + F i; refine congrArg (fun z => ksum F i + z) ?_; exact Eq.symm (by rw [hF]; (try subst_vars); simp_all [kb])) (by omega)
  refine k_lv [0, 1, 2, 3, 4, 5] _ rfl ?_
  exact L_6 _ 0 0 0 rfl nI_0.symm rfl (Nat.zero_le _)
