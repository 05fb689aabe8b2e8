set_option maxHeartbeats 1000000 in
set_option maxRecDepth 20000 in
theorem c_X5_fineIdle (l : Launch) (e0 : Nat × Nat) (S : kS)  (A : Nat → Nat) (n : Nat) (cz : Nat → Nat) (T G Z : Nat) (h : kI e0 A n cz T G Z S)  (hb : T + 0 ≤ 900000 ∧ G + 40 ≤ 60000 ∧ Z + 0 ≤ 150000) : kM l e0 yX5_fineIdle cX5_fineIdle 2 none ({ frames := 3, cells := 0, slots := 0, locals := 69 } : Room) 0 0 [.ref (A 5)] S (kQv (fun S9 => kI e0 A n cz (T + 0) (G + 40) (Z + 0) S9 ∧ kKe A S S9)) := by
  refine kMetE (by decide +kernel) (Nat.le_of_ble_eq_true rfl) (fun C he hl X E hm => ?_)
  have X : kX C RX5 cX5_fineIdle 2 ({ frames := 3, cells := 0, slots := 0, locals := 69 } : Room) := X
  subst he hl
  show kG C 2 S 0 0 0 [(0, .ref (A 5))] []
  have hn := h.n40
  refine k_iconst X (v := 0) dX5_fineIdle_0 (by decide) ?_
  refine k_istore_n X [(1, .int 0), (0, .ref (A 5))] dX5_fineIdle_1 rfl (by decide) rfl ?_
  have L_2 : ∀ (N : Nat) (i : Nat) (x : Int32) (Si : kS), n - i = N → x = nI i → (i ≤ n ∧ kI C.e0 A n cz T (G + 1 * i) Z Si ∧ kKe A S Si) → kG C 2 Si 0 0 2 [(1, .int x), (0, .ref (A 5))] [] := by
    intro N
    induction N using Nat.strongRecOn with
    | _ N ih =>
    intro i x Si hMs h2_0 h2_1
    subst h2_0
    obtain ⟨hBi, hIi, hKi⟩ := h2_1
    refine k_iload_n X (q := 0) dX5_fineIdle_2 rfl rfl ?_
    refine k_aload_n X (q := 1) dX5_fineIdle_3 rfl rfl ?_
    refine gX5_47s X (S := Si) (st_5 hIi.st).1 (st_5 hIi.st).2 (sr_5_0 hIi.st) dX5_fineIdle_4 ?_
    refine gX5_75s X (S := Si) (st_1 hIi.st).1 (st_1 hIi.st).2 (sr_1_12 hIi.st) dX5_fineIdle_7 ?_
    refine k_gotI X (vX5_78 X (S := Si) ⟨(st_10 hIi.st).1, (st_10 hIi.st).2⟩ (c_Jx4a65c_size_8abf5 C.l C.e0 Si (A 10) (st_10 hIi.st)) (As := []) (rest := [.int (nI i)]) rfl rfl rfl rfl ⟨Nat.le_of_ble_eq_true rfl, Nat.le_of_ble_eq_true rfl⟩ (Nat.le_of_ble_eq_true rfl) ⟨Nat.le_of_ble_eq_true rfl, Nat.le_of_ble_eq_true rfl⟩ dX5_fineIdle_10) (fun v_10_2 S_10_3 h_10_0 => ?_)
    obtain ⟨rfl, ev_10_2⟩ := h_10_0
    have hz_v_10_2 : nI n = v_10_2 := by rw [ev_10_2]; exact (hIi.hC).2.1.symm
    subst hz_v_10_2
    refine k_icmp_ge (tgt := 65) X dX5_fineIdle_13 (by decide) (fun c_13 => ?_) (fun c_13 => ?_)
    · skip
      have hin : n = i := by have := ge_of_le c_13 (by omega); omega
      subst hin
      exact k_vret X E dX5_fineIdle_65 (Nat.le_of_ble_eq_true rfl) (Nat.le_of_ble_eq_true rfl) (⟨hIi.mono (by omega) (by omega) (by omega), hKi⟩)
    · skip
      have hlti : i < n := lt_of_nle c_13 (by omega)
      refine k_aload_n X (q := 1) dX5_fineIdle_16 rfl rfl ?_
      refine gX5_47s X (S := Si) (st_5 hIi.st).1 (st_5 hIi.st).2 (sr_5_0 hIi.st) dX5_fineIdle_17 ?_
      refine gX5_75s X (S := Si) (st_1 hIi.st).1 (st_1 hIi.st).2 (sr_1_12 hIi.st) dX5_fineIdle_20 ?_
      refine k_iload_n X (q := 0) dX5_fineIdle_23 rfl rfl ?_
      refine k_gotQ X (vX5_82 X (S := Si) ⟨(st_10 hIi.st).1, (st_10 hIi.st).2⟩ (c_Jx4a65c_get_915e3 C.l C.e0 Si (A 10) 1 n i cz (hIi.hC) hlti) (As := [.int (nI i)]) (rest := []) rfl rfl rfl rfl ⟨Nat.le_of_ble_eq_true rfl, Nat.le_of_ble_eq_true rfl⟩ (Nat.le_of_ble_eq_true rfl) ⟨Nat.le_of_ble_eq_true rfl, Nat.le_of_ble_eq_true rfl⟩ dX5_fineIdle_24) (fun r_24_5 S_24_6 h_24_3 => ?_)
      obtain ⟨rfl, er_24_5⟩ := h_24_3
      subst er_24_5
      refine tX5_86 X (S := Si) ⟨(kLs.el (hIi.hC) hlti).1, (kLs.el (hIi.hC) hlti).2⟩ dX5_fineIdle_27 ?_
      refine k_gotI X (vX5_88 X (S := Si) ⟨(kLs.el (hIi.hC) hlti).1, (kLs.el (hIi.hC) hlti).2⟩ (c_X1_hasToBear C.l C.e0 Si (cz i) (kLs.el (hIi.hC) hlti)) (As := []) (rest := []) rfl rfl rfl rfl ⟨Nat.le_of_ble_eq_true rfl, Nat.le_of_ble_eq_true rfl⟩ (Nat.le_of_ble_eq_true rfl) ⟨Nat.le_of_ble_eq_true rfl, Nat.le_of_ble_eq_true rfl⟩ dX5_fineIdle_30) (fun v_30_8 S_30_9 h_30_6 => ?_)
      obtain ⟨rfl, ev_30_8⟩ := h_30_6
      refine k_if_eq (tgt := 59) X dX5_fineIdle_33 (by decide) (fun c_33 => ?_) (fun c_33 => ?_)
      · skip
        rw [ev_30_8] at c_33
        obtain ⟨v_59_10, ev_59_10⟩ : ∃ z : Int32, z = (nI i) + 1 := ⟨_, rfl⟩
        refine k_iinc X (q := 0) (v := v_59_10) [(1, .int v_59_10), (0, .ref (A 5))] dX5_fineIdle_59 rfl (by rw [ev_59_10]; rfl) (by decide) rfl ?_
        refine k_goto (tgt := 2) X dX5_fineIdle_62 (by decide) ?_
        refine k_lv [0, 1] _ rfl ?_
        exact ih (n - (i + 1)) (by omega) (i + 1) _ _ rfl (by rw [ev_59_10, nI_1]) ⟨by omega, hIi.mono (by omega) (by omega) (by omega), hKi⟩
      · skip
        rw [ev_30_8] at c_33
        have hst9 : Si.I (cz i) 6 = 1 ∨ Si.I (cz i) 6 = 2 := by
          by_cases g1 : Si.I (cz i) 6 = 1
          · exact Or.inl g1
          · by_cases g2 : Si.I (cz i) 6 = 2
            · exact Or.inr g2
            · simp [kb, g1, g2] at c_33
        refine k_aload_n X (q := 1) dX5_fineIdle_36 rfl rfl ?_
        refine gX5_47s X (S := Si) (st_5 hIi.st).1 (st_5 hIi.st).2 (sr_5_0 hIi.st) dX5_fineIdle_37 ?_
        refine k_aload_n X (q := 1) dX5_fineIdle_40 rfl rfl ?_
        refine gX5_47s X (S := Si) (st_5 hIi.st).1 (st_5 hIi.st).2 (sr_5_0 hIi.st) dX5_fineIdle_41 ?_
        refine gX5_75s X (S := Si) (st_1 hIi.st).1 (st_1 hIi.st).2 (sr_1_12 hIi.st) dX5_fineIdle_44 ?_
        refine k_iload_n X (q := 0) dX5_fineIdle_47 rfl rfl ?_
        refine k_gotQ X (vX5_82 X (S := Si) ⟨(st_10 hIi.st).1, (st_10 hIi.st).2⟩ (c_Jx4a65c_get_915e3 C.l C.e0 Si (A 10) 1 n i cz (hIi.hC) hlti) (As := [.int (nI i)]) (rest := [.ref (A 1)]) rfl rfl rfl rfl ⟨Nat.le_of_ble_eq_true rfl, Nat.le_of_ble_eq_true rfl⟩ (Nat.le_of_ble_eq_true rfl) ⟨Nat.le_of_ble_eq_true rfl, Nat.le_of_ble_eq_true rfl⟩ dX5_fineIdle_48) (fun r_48_12 S_48_13 h_48_10 => ?_)
        obtain ⟨rfl, er_48_12⟩ := h_48_10
        subst er_48_12
        refine tX5_86 X (S := Si) ⟨(kLs.el (hIi.hC) hlti).1, (kLs.el (hIi.hC) hlti).2⟩ dX5_fineIdle_51 ?_
        refine k_bipush X (v := 60) dX5_fineIdle_54 (by decide) ?_
        refine k_gotV X (vX5_92 X (S := Si) ⟨(st_1 hIi.st).1, (st_1 hIi.st).2⟩ (c_X2_fine C.l C.e0 Si (cz i) 60 A hIi.st ⟨(kLs.el (hIi.hC) hlti).1, (kLs.el (hIi.hC) hlti).2⟩) (As := [.ref (cz i), .int 60]) (rest := []) rfl rfl rfl rfl ⟨Nat.le_of_ble_eq_true rfl, Nat.le_of_ble_eq_true rfl⟩ (Nat.le_of_ble_eq_true rfl) ⟨Nat.le_of_ble_eq_true rfl, Nat.le_of_ble_eq_true rfl⟩ dX5_fineIdle_56) (fun S_56_15 h_56_13 => ?_)
        subst h_56_13
        obtain ⟨hI_16, hx_16⟩ := hIi.fine (i := i) hlti (x := 60) (by decide) (hst9) (by omega) (by omega)
        have hK_16 := (hKi).tr hx_16
        obtain ⟨v_59_17, ev_59_17⟩ : ∃ z : Int32, z = (nI i) + 1 := ⟨_, rfl⟩
        refine k_iinc X (q := 0) (v := v_59_17) [(1, .int v_59_17), (0, .ref (A 5))] dX5_fineIdle_59 rfl (by rw [ev_59_17]; rfl) (by decide) rfl ?_
        refine k_goto (tgt := 2) X dX5_fineIdle_62 (by decide) ?_
        refine k_lv [0, 1] _ rfl ?_
        exact ih (n - (i + 1)) (by omega) (i + 1) _ _ rfl (by rw [ev_59_17, nI_1]) ⟨by omega, hI_16.mono (by omega) (by omega) (by omega), hK_16⟩
  refine k_lv [0, 1] _ rfl ?_
  exact L_2 _ 0 0 _ rfl nI_0.symm ⟨by omega, h.mono (by omega) (by omega) (by omega), kKe.rf⟩
set_option maxHeartbeats 1000000 in
set_option maxRecDepth 20000 in
theorem c_X5_toBearIn (l : Launch) (e0 : Nat × Nat) (S : kS) (x1 : Int32) (A : Nat → Nat) (n : Nat) (cz : Nat → Nat) (hst : kSt A S) (hC : kLs e0 S (A 10) 1 n cz) (hn : n ≤ 40)  : kM l e0 yX5_toBearIn cX5_toBearIn 5 (Option.some Jvm.ClassFile.FieldType.int) ({ frames := 3, cells := 0, slots := 0, locals := 64 } : Room) 0 0 [.ref (A 5), .int x1] S (kQi (fun v S9 => S = S9 ∧ v = ksum (fun i => kb (decide (S.I (cz i) 1 - S.I (cz i) 1 / 4 * 4 = x1) && ((decide (S.I (cz i) 6 = 1) || decide (S.I (cz i) 6 = 2)) && !decide (S.I (cz i) 12 = 0) && decide (S.I (cz i) 13 = 0)))) n)) := by
  refine kMetE (by decide +kernel) (Nat.le_of_ble_eq_true rfl) (fun C he hl X E hm => ?_)
  have X : kX C RX5 cX5_toBearIn 5 ({ frames := 3, cells := 0, slots := 0, locals := 64 } : Room) := X
  subst he hl
  show kG C 5 S 0 0 0 [(0, .ref (A 5)), (1, .int x1)] []
  obtain ⟨F, hF⟩ : ∃ F : Nat → Int32, F = fun i => kb (decide (S.I (cz i) 1 - S.I (cz i) 1 / 4 * 4 = x1) && ((decide (S.I (cz i) 6 = 1) || decide (S.I (cz i) 6 = 2)) && !decide (S.I (cz i) 12 = 0) && decide (S.I (cz i) 13 = 0))) := ⟨_, rfl⟩
  refine k_iconst X (v := 0) dX5_toBearIn_0 (by decide) ?_
  refine k_istore_n X [(2, .int 0), (0, .ref (A 5)), (1, .int x1)] dX5_toBearIn_1 rfl (by decide) rfl ?_
  refine k_iconst X (v := 0) dX5_toBearIn_2 (by decide) ?_
  refine k_istore_n X [(3, .int 0), (2, .int 0), (0, .ref (A 5)), (1, .int x1)] dX5_toBearIn_3 rfl (by decide) rfl ?_
  have L_4 : ∀ (N : Nat) (i : Nat) (x y : Int32), n - i = N → x = nI i → y = ksum F i → i ≤ n → kG C 5 S 0 0 4 [(3, .int x), (2, .int y), (0, .ref (A 5)), (1, .int x1)] [] := by
    intro N
    induction N using Nat.strongRecOn with
    | _ N ih =>
    intro i x y hMs h4_0 h4_1 h4_2
    subst h4_0 h4_1
    refine k_iload_n X (q := 0) dX5_toBearIn_4 rfl rfl ?_
    refine k_aload_n X (q := 2) dX5_toBearIn_5 rfl rfl ?_
    refine gX5_47s X (S := S) (st_5 hst).1 (st_5 hst).2 (sr_5_0 hst) dX5_toBearIn_6 ?_
    refine gX5_75s X (S := S) (st_1 hst).1 (st_1 hst).2 (sr_1_12 hst) dX5_toBearIn_9 ?_
    refine k_gotI X (vX5_78 X (S := S) ⟨(st_10 hst).1, (st_10 hst).2⟩ (c_Jx4a65c_size_8abf5 C.l C.e0 S (A 10) (st_10 hst)) (As := []) (rest := [.int (nI i)]) rfl rfl rfl rfl ⟨Nat.le_of_ble_eq_true rfl, Nat.le_of_ble_eq_true rfl⟩ (Nat.le_of_ble_eq_true rfl) ⟨Nat.le_of_ble_eq_true rfl, Nat.le_of_ble_eq_true rfl⟩ dX5_toBearIn_12) (fun v_12_2 S_12_3 h_12_0 => ?_)
    obtain ⟨rfl, ev_12_2⟩ := h_12_0
    have hz_v_12_2 : nI n = v_12_2 := by rw [ev_12_2]; exact (hC).2.1.symm
    subst hz_v_12_2
    refine k_icmp_ge (tgt := 68) X dX5_toBearIn_15 (by decide) (fun c_15 => ?_) (fun c_15 => ?_)
    · skip
      have hin : n = i := by have := ge_of_le c_15 (by omega); omega
      subst hin
      refine k_iload_n X (q := 1) dX5_toBearIn_68 rfl rfl ?_
      exact k_iret X E dX5_toBearIn_69 (Nat.le_of_ble_eq_true rfl) (Nat.le_of_ble_eq_true rfl) (⟨rfl, by rw [hF]⟩)
    · skip
      have hlt : i < n := lt_of_nle c_15 (by omega)
      refine k_aload_n X (q := 2) dX5_toBearIn_18 rfl rfl ?_
      refine gX5_47s X (S := S) (st_5 hst).1 (st_5 hst).2 (sr_5_0 hst) dX5_toBearIn_19 ?_
      refine gX5_75s X (S := S) (st_1 hst).1 (st_1 hst).2 (sr_1_12 hst) dX5_toBearIn_22 ?_
      refine k_iload_n X (q := 0) dX5_toBearIn_25 rfl rfl ?_
      refine k_gotQ X (vX5_82 X (S := S) ⟨(st_10 hst).1, (st_10 hst).2⟩ (c_Jx4a65c_get_915e3 C.l C.e0 S (A 10) 1 n i cz (hC) hlt) (As := [.int (nI i)]) (rest := []) rfl rfl rfl rfl ⟨Nat.le_of_ble_eq_true rfl, Nat.le_of_ble_eq_true rfl⟩ (Nat.le_of_ble_eq_true rfl) ⟨Nat.le_of_ble_eq_true rfl, Nat.le_of_ble_eq_true rfl⟩ dX5_toBearIn_26) (fun r_26_5 S_26_6 h_26_3 => ?_)
      obtain ⟨rfl, er_26_5⟩ := h_26_3
      subst er_26_5
      refine tX5_86 X (S := S) ⟨(kLs.el (hC) hlt).1, (kLs.el (hC) hlt).2⟩ dX5_toBearIn_29 ?_
      refine k_astore X [(4, .ref (cz i)), (3, .int (nI i)), (2, .int (ksum F i)), (0, .ref (A 5)), (1, .int x1)] dX5_toBearIn_32 (by decide) rfl ?_
      refine k_iload_n X (q := 2) dX5_toBearIn_34 rfl rfl ?_
      refine k_aload X (q := 0) dX5_toBearIn_35 rfl ?_
      refine k_gotI X (vX5_96 X (S := S) ⟨(kLs.el (hC) hlt).1, (kLs.el (hC) hlt).2⟩ (c_X1_tribe C.l C.e0 S (cz i) (kLs.el (hC) hlt)) (As := []) (rest := [.int (ksum F i)]) rfl rfl rfl rfl ⟨Nat.le_of_ble_eq_true rfl, Nat.le_of_ble_eq_true rfl⟩ (Nat.le_of_ble_eq_true rfl) ⟨Nat.le_of_ble_eq_true rfl, Nat.le_of_ble_eq_true rfl⟩ dX5_toBearIn_37) (fun v_37_8 S_37_9 h_37_6 => ?_)
      obtain ⟨rfl, ev_37_8⟩ := h_37_6
      refine k_iload_n X (q := 4) dX5_toBearIn_40 rfl rfl ?_
      refine k_icmp_ne (tgt := 56) X dX5_toBearIn_41 (by decide) (fun c_41 => ?_) (fun c_41 => ?_)
      · skip
        refine k_iconst X (v := 0) dX5_toBearIn_56 (by decide) ?_
        refine k_gotI X (vX5_99 X (S := S) (c_X11_asNumber C.l C.e0 S 0 ) (As := [.int 0]) (rest := [.int (ksum F i)]) rfl rfl rfl rfl ⟨Nat.le_of_ble_eq_true rfl, Nat.le_of_ble_eq_true rfl⟩ (Nat.le_of_ble_eq_true rfl) ⟨Nat.le_of_ble_eq_true rfl, Nat.le_of_ble_eq_true rfl⟩ dX5_toBearIn_57) (fun v_57_11 S_57_12 h_57_9 => ?_)
        obtain ⟨rfl, ev_57_11⟩ := h_57_9
        refine k_iadd X dX5_toBearIn_60 (fun v_60_13 ev_60_13 => ?_)
        refine k_istore_n X [(2, .int v_60_13), (4, .ref (cz i)), (3, .int (nI i)), (0, .ref (A 5)), (1, .int x1)] dX5_toBearIn_61 rfl (by decide) rfl ?_
        obtain ⟨v_62_14, ev_62_14⟩ : ∃ z : Int32, z = (nI i) + 1 := ⟨_, rfl⟩
        refine k_iinc X (q := 2) (v := v_62_14) [(3, .int v_62_14), (2, .int v_60_13), (4, .ref (cz i)), (0, .ref (A 5)), (1, .int x1)] dX5_toBearIn_62 rfl (by rw [ev_62_14]; rfl) (by decide) rfl ?_
        refine k_goto (tgt := 4) X dX5_toBearIn_65 (by decide) ?_
        refine k_lv [0, 1, 3, 4] _ rfl ?_
        exact ih (n - (i + 1)) (by omega) (i + 1) _ _ rfl (by rw [ev_62_14, nI_1]) (by rw [ev_60_13]; show _ = ksum F i + F i; refine congrArg (fun z => ksum F i + z) ?_; exact Eq.symm (by rw [hF]; (try subst_vars); simp_all [kb])) (by omega)
      · skip
        refine k_aload X (q := 0) dX5_toBearIn_44 rfl ?_
        refine k_gotI X (vX5_88 X (S := S) ⟨(kLs.el (hC) hlt).1, (kLs.el (hC) hlt).2⟩ (c_X1_hasToBear C.l C.e0 S (cz i) (kLs.el (hC) hlt)) (As := []) (rest := [.int (ksum F i)]) rfl rfl rfl rfl ⟨Nat.le_of_ble_eq_true rfl, Nat.le_of_ble_eq_true rfl⟩ (Nat.le_of_ble_eq_true rfl) ⟨Nat.le_of_ble_eq_true rfl, Nat.le_of_ble_eq_true rfl⟩ dX5_toBearIn_46) (fun v_46_16 S_46_17 h_46_14 => ?_)
        obtain ⟨rfl, ev_46_16⟩ := h_46_14
        refine k_if_eq (tgt := 56) X dX5_toBearIn_49 (by decide) (fun c_49 => ?_) (fun c_49 => ?_)
        · skip
          rw [ev_46_16] at c_49
          refine k_iconst X (v := 0) dX5_toBearIn_56 (by decide) ?_
          refine k_gotI X (vX5_99 X (S := S) (c_X11_asNumber C.l C.e0 S 0 ) (As := [.int 0]) (rest := [.int (ksum F i)]) rfl rfl rfl rfl ⟨Nat.le_of_ble_eq_true rfl, Nat.le_of_ble_eq_true rfl⟩ (Nat.le_of_ble_eq_true rfl) ⟨Nat.le_of_ble_eq_true rfl, Nat.le_of_ble_eq_true rfl⟩ dX5_toBearIn_57) (fun v_57_19 S_57_20 h_57_17 => ?_)
          obtain ⟨rfl, ev_57_19⟩ := h_57_17
          refine k_iadd X dX5_toBearIn_60 (fun v_60_21 ev_60_21 => ?_)
          refine k_istore_n X [(2, .int v_60_21), (4, .ref (cz i)), (3, .int (nI i)), (0, .ref (A 5)), (1, .int x1)] dX5_toBearIn_61 rfl (by decide) rfl ?_
          obtain ⟨v_62_22, ev_62_22⟩ : ∃ z : Int32, z = (nI i) + 1 := ⟨_, rfl⟩
          refine k_iinc X (q := 2) (v := v_62_22) [(3, .int v_62_22), (2, .int v_60_21), (4, .ref (cz i)), (0, .ref (A 5)), (1, .int x1)] dX5_toBearIn_62 rfl (by rw [ev_62_22]; rfl) (by decide) rfl ?_
          refine k_goto (tgt := 4) X dX5_toBearIn_65 (by decide) ?_
          refine k_lv [0, 1, 3, 4] _ rfl ?_
          exact ih (n - (i + 1)) (by omega) (i + 1) _ _ rfl (by rw [ev_62_22, nI_1]) (by rw [ev_60_21]; show _ = ksum F i + F i; refine congrArg (fun z => ksum F i + z) ?_; exact Eq.symm (by rw [hF]; (try subst_vars); simp_all [kb])) (by omega)
        · skip
          rw [ev_46_16] at c_49
          refine k_iconst X (v := 1) dX5_toBearIn_52 (by decide) ?_
          refine k_goto (tgt := 57) X dX5_toBearIn_53 (by decide) ?_
          refine k_gotI X (vX5_99 X (S := S) (c_X11_asNumber C.l C.e0 S 1 ) (As := [.int 1]) (rest := [.int (ksum F i)]) rfl rfl rfl rfl ⟨Nat.le_of_ble_eq_true rfl, Nat.le_of_ble_eq_true rfl⟩ (Nat.le_of_ble_eq_true rfl) ⟨Nat.le_of_ble_eq_true rfl, Nat.le_of_ble_eq_true rfl⟩ dX5_toBearIn_57) (fun v_57_24 S_57_25 h_57_22 => ?_)
          obtain ⟨rfl, ev_57_24⟩ := h_57_22
          refine k_iadd X dX5_toBearIn_60 (fun v_60_26 ev_60_26 => ?_)
          refine k_istore_n X [(2, .int v_60_26), (4, .ref (cz i)), (3, .int (nI i)), (0, .ref (A 5)), (1, .int x1)] dX5_toBearIn_61 rfl (by decide) rfl ?_
          obtain ⟨v_62_27, ev_62_27⟩ : ∃ z : Int32, z = (nI i) + 1 := ⟨_, rfl⟩
          refine k_iinc X (q := 2) (v := v_62_27) [(3, .int v_62_27), (2, .int v_60_26), (4, .ref (cz i)), (0, .ref (A 5)), (1, .int x1)] dX5_toBearIn_62 rfl (by rw [ev_62_27]; rfl) (by decide) rfl ?_
          refine k_goto (tgt := 4) X dX5_toBearIn_65 (by decide) ?_
          refine k_lv [0, 1, 3, 4] _ rfl ?_
          exact ih (n - (i + 1)) (by omega) (i + 1) _ _ rfl (by rw [ev_62_27, nI_1]) (by rw [ev_60_26]; show _ = ksum F i + F i; refine congrArg (fun z => ksum F i + z) ?_; exact Eq.symm (by rw [hF]; (try subst_vars); simp_all [kb])) (by omega)
  refine k_lv [0, 1, 2, 3] _ rfl ?_
  exact L_4 _ 0 0 0 rfl nI_0.symm rfl (Nat.zero_le _)
set_option maxHeartbeats 1000000 in
set_option maxRecDepth 20000 in
theorem c_X5_isToBeBurdened (l : Launch) (e0 : Nat × Nat) (S : kS) (a : Nat) (ha : S.at a 1) : kM l e0 yX5_isToBeBurdened cX5_isToBeBurdened 1 (Option.some Jvm.ClassFile.FieldType.boolean) ({ frames := 2, cells := 0, slots := 0, locals := 40 } : Room) 0 0 [.ref a] S (kQi (fun v S9 => S = S9 ∧ v = kb (decide (S.I a 6 = 1) && decide (kwc (S.I a 4) = 3) && decide (S.I a 14 = 0) && decide (S.I a 12 = 0)))) := by
  refine kMetE (by decide +kernel) (Nat.le_of_ble_eq_true rfl) (fun C he hl X E hm => ?_)
  have X : kX C RX5 cX5_isToBeBurdened 1 ({ frames := 2, cells := 0, slots := 0, locals := 40 } : Room) := X
  subst he hl
  show kG C 1 S 0 0 0 [(0, .ref a)] []
  refine k_aload_n X (q := 0) dX5_isToBeBurdened_0 rfl rfl ?_
  refine k_gotI X (vX5_133 X (S := S) ⟨ha.1, ha.2⟩ (c_X1_isFull C.l C.e0 S a ha) (As := []) (rest := []) rfl rfl rfl rfl ⟨Nat.le_of_ble_eq_true rfl, Nat.le_of_ble_eq_true rfl⟩ (Nat.le_of_ble_eq_true rfl) ⟨Nat.le_of_ble_eq_true rfl, Nat.le_of_ble_eq_true rfl⟩ dX5_isToBeBurdened_1) (fun v_1_2 S_1_3 h_1_0 => ?_)
  obtain ⟨rfl, ev_1_2⟩ := h_1_0
  refine k_if_eq (tgt := 32) X dX5_isToBeBurdened_4 (by decide) (fun c_4 => ?_) (fun c_4 => ?_)
  · skip
    rw [ev_1_2] at c_4
    refine k_iconst X (v := 0) dX5_isToBeBurdened_32 (by decide) ?_
    exact k_zret X E (Or.inl rfl) dX5_isToBeBurdened_33 (Nat.le_of_ble_eq_true rfl) (Nat.le_of_ble_eq_true rfl) (⟨rfl, by (try subst_vars); simp_all [kb, ← Int32.not_le]⟩)
  · skip
    rw [ev_1_2] at c_4
    refine k_aload_n X (q := 0) dX5_isToBeBurdened_7 rfl rfl ?_
    refine k_gotI X (vX5_136 X (S := S) ⟨ha.1, ha.2⟩ (c_X1_isRich C.l C.e0 S a ha) (As := []) (rest := []) rfl rfl rfl rfl ⟨Nat.le_of_ble_eq_true rfl, Nat.le_of_ble_eq_true rfl⟩ (Nat.le_of_ble_eq_true rfl) ⟨Nat.le_of_ble_eq_true rfl, Nat.le_of_ble_eq_true rfl⟩ dX5_isToBeBurdened_8) (fun v_8_5 S_8_6 h_8_3 => ?_)
    obtain ⟨rfl, ev_8_5⟩ := h_8_3
    refine k_if_eq (tgt := 32) X dX5_isToBeBurdened_11 (by decide) (fun c_11 => ?_) (fun c_11 => ?_)
    · skip
      rw [ev_8_5] at c_11
      refine k_iconst X (v := 0) dX5_isToBeBurdened_32 (by decide) ?_
      exact k_zret X E (Or.inl rfl) dX5_isToBeBurdened_33 (Nat.le_of_ble_eq_true rfl) (Nat.le_of_ble_eq_true rfl) (⟨rfl, by (try subst_vars); simp_all [kb, ← Int32.not_le]⟩)
    · skip
      rw [ev_8_5] at c_11
      refine k_aload_n X (q := 0) dX5_isToBeBurdened_14 rfl rfl ?_
      refine gX5_112 X (S := S) ha.1 ha.2 dX5_isToBeBurdened_15 (fun v_15_7 ev_15_7 => ?_)
      refine k_if_ne (tgt := 32) X dX5_isToBeBurdened_18 (by decide) (fun c_18 => ?_) (fun c_18 => ?_)
      · skip
        refine k_iconst X (v := 0) dX5_isToBeBurdened_32 (by decide) ?_
        exact k_zret X E (Or.inl rfl) dX5_isToBeBurdened_33 (Nat.le_of_ble_eq_true rfl) (Nat.le_of_ble_eq_true rfl) (⟨rfl, by (try subst_vars); simp_all [kb, ← Int32.not_le]⟩)
      · skip
        refine k_aload_n X (q := 0) dX5_isToBeBurdened_21 rfl rfl ?_
        refine gX5_109 X (S := S) ha.1 ha.2 dX5_isToBeBurdened_22 (fun v_22_8 ev_22_8 => ?_)
        refine k_if_ne (tgt := 32) X dX5_isToBeBurdened_25 (by decide) (fun c_25 => ?_) (fun c_25 => ?_)
        · skip
          refine k_iconst X (v := 0) dX5_isToBeBurdened_32 (by decide) ?_
          exact k_zret X E (Or.inl rfl) dX5_isToBeBurdened_33 (Nat.le_of_ble_eq_true rfl) (Nat.le_of_ble_eq_true rfl) (⟨rfl, by (try subst_vars); simp_all [kb, ← Int32.not_le]⟩)
        · skip
          refine k_iconst X (v := 1) dX5_isToBeBurdened_28 (by decide) ?_
          refine k_goto (tgt := 33) X dX5_isToBeBurdened_29 (by decide) ?_
          exact k_zret X E (Or.inr rfl) dX5_isToBeBurdened_33 (Nat.le_of_ble_eq_true rfl) (Nat.le_of_ble_eq_true rfl) (⟨rfl, by (try subst_vars); simp_all [kb, ← Int32.not_le]⟩)
set_option maxHeartbeats 1000000 in
set_option maxRecDepth 20000 in
theorem c_X5_tellBurden (l : Launch) (e0 : Nat × Nat) (S : kS) (x1 : Int32) (x2 : Int32) (A : Nat → Nat) (n : Nat) (cz : Nat → Nat) (T G Z : Nat) (h : kI e0 A n cz T G Z S)  (hb : T + 0 ≤ 900000 ∧ G + 0 ≤ 60000 ∧ Z + 0 ≤ 150000) : kM l e0 yX5_tellBurden cX5_tellBurden 7 none ({ frames := 3, cells := 0, slots := 0, locals := 64 } : Room) 0 0 [.ref (A 5), .int x1, .int x2] S (kQv (fun S9 => kI e0 A n cz (T + 0) (G + 0) (Z + 0) S9 ∧ kKe A S S9)) := by
  refine kMetE (by decide +kernel) (Nat.le_of_ble_eq_true rfl) (fun C he hl X E hm => ?_)
  have X : kX C RX5 cX5_tellBurden 7 ({ frames := 3, cells := 0, slots := 0, locals := 64 } : Room) := X
  subst he hl
  show kG C 7 S 0 0 0 [(0, .ref (A 5)), (1, .int x1), (2, .int x2)] []
  have hn := h.n40
  refine k_null X dX5_tellBurden_0 ?_
  refine k_astore_nQ X (r := none) [(3, .null), (0, .ref (A 5)), (1, .int x1), (2, .int x2)] dX5_tellBurden_1 rfl (by decide) rfl ?_
  refine k_iconst X (v := 0) dX5_tellBurden_2 (by decide) ?_
  refine k_istore X [(4, .int 0), (3, .null), (0, .ref (A 5)), (1, .int x1), (2, .int x2)] dX5_tellBurden_3 (by decide) rfl ?_
  have L_5 : ∀ (N : Nat) (i : Nat) (x : Int32) (o : Option Nat), n - i = N → x = nI i → (i ≤ n ∧ (o = none ∨ ∃ z, z < n ∧ o = some (cz z))) → kG C 7 S 0 0 5 [(4, .int x), (3, va_rf o), (0, .ref (A 5)), (1, .int x1), (2, .int x2)] [] := by
    intro N
    induction N using Nat.strongRecOn with
    | _ N ih =>
    intro i x o hMs h5_0 h5_1
    subst h5_0
    obtain ⟨hBi, hor⟩ := h5_1
    refine k_iload X (q := 0) dX5_tellBurden_5 rfl ?_
    refine k_aload_n X (q := 2) dX5_tellBurden_7 rfl rfl ?_
    refine gX5_47s X (S := S) (st_5 h.st).1 (st_5 h.st).2 (sr_5_0 h.st) dX5_tellBurden_8 ?_
    refine gX5_75s X (S := S) (st_1 h.st).1 (st_1 h.st).2 (sr_1_12 h.st) dX5_tellBurden_11 ?_
    refine k_gotI X (vX5_78 X (S := S) ⟨(st_10 h.st).1, (st_10 h.st).2⟩ (c_Jx4a65c_size_8abf5 C.l C.e0 S (A 10) (st_10 h.st)) (As := []) (rest := [.int (nI i)]) rfl rfl rfl rfl ⟨Nat.le_of_ble_eq_true rfl, Nat.le_of_ble_eq_true rfl⟩ (Nat.le_of_ble_eq_true rfl) ⟨Nat.le_of_ble_eq_true rfl, Nat.le_of_ble_eq_true rfl⟩ dX5_tellBurden_14) (fun v_14_2 S_14_3 h_14_0 => ?_)
    obtain ⟨rfl, ev_14_2⟩ := h_14_0
    have hz_v_14_2 : nI n = v_14_2 := by rw [ev_14_2]; exact (h.hC).2.1.symm
    subst hz_v_14_2
    refine k_icmp_ge (tgt := 91) X dX5_tellBurden_17 (by decide) (fun c_17 => ?_) (fun c_17 => ?_)
    · skip
      refine k_aload_nQ X (q := 1) dX5_tellBurden_91 rfl rfl ?_
      refine k_ifnull (tgt := 100) X dX5_tellBurden_92 (by decide) (fun c_92 => ?_) (fun a_92_4 c_92 => ?_)
      · skip
        subst c_92
        exact k_vret X E dX5_tellBurden_100 (Nat.le_of_ble_eq_true rfl) (Nat.le_of_ble_eq_true rfl) (⟨h.mono (by omega) (by omega) (by omega), kKe.rf⟩)
      · skip
        subst c_92
        obtain ⟨b, hb, hzb⟩ : ∃ z, z < n ∧ a_92_4 = cz z := by
          rcases hor with z | ⟨z, z1, z2⟩
          · cases z
          · exact ⟨z, z1, Option.some.inj z2⟩
        subst hzb
        refine k_aload_n X (q := 1) dX5_tellBurden_95 rfl rfl ?_
        refine k_iload_n X (q := 4) dX5_tellBurden_96 rfl rfl ?_
        refine pX5_109 X (S := S) (h.at hb).1 (h.at hb).2 dX5_tellBurden_97 ?_
        obtain ⟨hI_5, hx_5⟩ := (⟨h.fI (i := 12) (v := x2) (h.oc _ hb) (by unfold pSM; omega) (by unfold pVM pCi pHo pCh pLe pMy pMs pOf; omega) (by unfold pLu; omega), h.fIk (i := 12) (v := x2) (h.oc _ hb) (by unfold pKe; omega)⟩ : _ ∧ _)
        have hK_5 := (kKe.rf).tr hx_5
        exact k_vret X E dX5_tellBurden_100 (Nat.le_of_ble_eq_true rfl) (Nat.le_of_ble_eq_true rfl) (⟨hI_5.mono (by omega) (by omega) (by omega), hK_5⟩)
    · skip
      have hlti : i < n := lt_of_nle c_17 (by omega)
      refine k_aload_n X (q := 2) dX5_tellBurden_20 rfl rfl ?_
      refine gX5_47s X (S := S) (st_5 h.st).1 (st_5 h.st).2 (sr_5_0 h.st) dX5_tellBurden_21 ?_
      refine gX5_75s X (S := S) (st_1 h.st).1 (st_1 h.st).2 (sr_1_12 h.st) dX5_tellBurden_24 ?_
      refine k_iload X (q := 0) dX5_tellBurden_27 rfl ?_
      refine k_gotQ X (vX5_82 X (S := S) ⟨(st_10 h.st).1, (st_10 h.st).2⟩ (c_Jx4a65c_get_915e3 C.l C.e0 S (A 10) 1 n i cz (h.hC) hlti) (As := [.int (nI i)]) (rest := []) rfl rfl rfl rfl ⟨Nat.le_of_ble_eq_true rfl, Nat.le_of_ble_eq_true rfl⟩ (Nat.le_of_ble_eq_true rfl) ⟨Nat.le_of_ble_eq_true rfl, Nat.le_of_ble_eq_true rfl⟩ dX5_tellBurden_29) (fun r_29_7 S_29_8 h_29_5 => ?_)
      obtain ⟨rfl, er_29_7⟩ := h_29_5
      subst er_29_7
      refine tX5_86 X (S := S) ⟨(kLs.el (h.hC) hlti).1, (kLs.el (h.hC) hlti).2⟩ dX5_tellBurden_32 ?_
      refine k_astore X [(5, .ref (cz i)), (4, .int (nI i)), (3, va_rf o), (0, .ref (A 5)), (1, .int x1), (2, .int x2)] dX5_tellBurden_35 (by decide) rfl ?_
      refine k_aload_nQ X (q := 2) dX5_tellBurden_37 rfl rfl ?_
      refine k_ifnull (tgt := 53) X dX5_tellBurden_38 (by decide) (fun c_38 => ?_) (fun a_38_9 c_38 => ?_)
      · skip
        subst c_38
        refine k_iconst X (v := 1) dX5_tellBurden_53 (by decide) ?_
        refine k_goto (tgt := 58) X dX5_tellBurden_54 (by decide) ?_
        refine k_istore X [(6, .int 1), (5, .ref (cz i)), (4, .int (nI i)), (3, .null), (0, .ref (A 5)), (1, .int x1), (2, .int x2)] dX5_tellBurden_58 (by decide) rfl ?_
        refine k_aload X (q := 1) dX5_tellBurden_60 rfl ?_
        refine k_gotI X (vX5_96 X (S := S) ⟨(h.at hlti).1, (h.at hlti).2⟩ (c_X1_tribe C.l C.e0 S (cz i) (h.at hlti)) (As := []) (rest := []) rfl rfl rfl rfl ⟨Nat.le_of_ble_eq_true rfl, Nat.le_of_ble_eq_true rfl⟩ (Nat.le_of_ble_eq_true rfl) ⟨Nat.le_of_ble_eq_true rfl, Nat.le_of_ble_eq_true rfl⟩ dX5_tellBurden_62) (fun v_62_11 S_62_12 h_62_9 => ?_)
        obtain ⟨rfl, ev_62_11⟩ := h_62_9
        refine k_iload_n X (q := 5) dX5_tellBurden_65 rfl rfl ?_
        refine k_icmp_ne (tgt := 85) X dX5_tellBurden_66 (by decide) (fun c_66 => ?_) (fun c_66 => ?_)
        · skip
          obtain ⟨v_85_13, ev_85_13⟩ : ∃ z : Int32, z = (nI i) + 1 := ⟨_, rfl⟩
          refine k_iinc X (q := 2) (v := v_85_13) [(4, .int v_85_13), (6, .int 1), (5, .ref (cz i)), (3, .null), (0, .ref (A 5)), (1, .int x1), (2, .int x2)] dX5_tellBurden_85 rfl (by rw [ev_85_13]; rfl) (by decide) rfl ?_
          refine k_goto (tgt := 5) X dX5_tellBurden_88 (by decide) ?_
          refine k_lv [0, 3, 4, 5, 6] _ rfl ?_
          exact ih (n - (i + 1)) (by omega) (i + 1) _ none rfl (by rw [ev_85_13, nI_1]) ⟨by omega, Or.inl rfl⟩
        · skip
          refine k_aload X (q := 1) dX5_tellBurden_69 rfl ?_
          refine k_gotI X (vX5_129 X (S := S) (c_X5_isToBeBurdened C.l C.e0 S (cz i) (h.at hlti)) (As := [.ref (cz i)]) (rest := []) rfl rfl rfl rfl ⟨Nat.le_of_ble_eq_true rfl, Nat.le_of_ble_eq_true rfl⟩ (Nat.le_of_ble_eq_true rfl) ⟨Nat.le_of_ble_eq_true rfl, Nat.le_of_ble_eq_true rfl⟩ dX5_tellBurden_71) (fun v_71_15 S_71_16 h_71_13 => ?_)
          obtain ⟨rfl, ev_71_15⟩ := h_71_13
          refine k_if_eq (tgt := 85) X dX5_tellBurden_74 (by decide) (fun c_74 => ?_) (fun c_74 => ?_)
          · skip
            rw [ev_71_15] at c_74
            obtain ⟨v_85_17, ev_85_17⟩ : ∃ z : Int32, z = (nI i) + 1 := ⟨_, rfl⟩
            refine k_iinc X (q := 2) (v := v_85_17) [(4, .int v_85_17), (6, .int 1), (5, .ref (cz i)), (3, .null), (0, .ref (A 5)), (1, .int x1), (2, .int x2)] dX5_tellBurden_85 rfl (by rw [ev_85_17]; rfl) (by decide) rfl ?_
            refine k_goto (tgt := 5) X dX5_tellBurden_88 (by decide) ?_
            refine k_lv [0, 3, 4, 5, 6] _ rfl ?_
            exact ih (n - (i + 1)) (by omega) (i + 1) _ none rfl (by rw [ev_85_17, nI_1]) ⟨by omega, Or.inl rfl⟩
          · skip
            rw [ev_71_15] at c_74
            refine k_iload X (q := 0) dX5_tellBurden_77 rfl ?_
            refine k_if_eq (tgt := 85) X dX5_tellBurden_79 (by decide) (fun c_79 => ?_) (fun c_79 => ?_)
            · skip
              obtain ⟨v_85_18, ev_85_18⟩ : ∃ z : Int32, z = (nI i) + 1 := ⟨_, rfl⟩
              refine k_iinc X (q := 2) (v := v_85_18) [(4, .int v_85_18), (6, .int 1), (5, .ref (cz i)), (3, .null), (0, .ref (A 5)), (1, .int x1), (2, .int x2)] dX5_tellBurden_85 rfl (by rw [ev_85_18]; rfl) (by decide) rfl ?_
              refine k_goto (tgt := 5) X dX5_tellBurden_88 (by decide) ?_
              refine k_lv [0, 3, 4, 5, 6] _ rfl ?_
              exact ih (n - (i + 1)) (by omega) (i + 1) _ none rfl (by rw [ev_85_18, nI_1]) ⟨by omega, Or.inl rfl⟩
            · skip
              refine k_aload X (q := 1) dX5_tellBurden_82 rfl ?_
              refine k_astore_n X [(3, .ref (cz i)), (6, .int 1), (5, .ref (cz i)), (4, .int (nI i)), (0, .ref (A 5)), (1, .int x1), (2, .int x2)] dX5_tellBurden_84 rfl (by decide) rfl ?_
              obtain ⟨v_85_19, ev_85_19⟩ : ∃ z : Int32, z = (nI i) + 1 := ⟨_, rfl⟩
              refine k_iinc X (q := 3) (v := v_85_19) [(4, .int v_85_19), (3, .ref (cz i)), (6, .int 1), (5, .ref (cz i)), (0, .ref (A 5)), (1, .int x1), (2, .int x2)] dX5_tellBurden_85 rfl (by rw [ev_85_19]; rfl) (by decide) rfl ?_
              refine k_goto (tgt := 5) X dX5_tellBurden_88 (by decide) ?_
              refine k_lv [0, 1, 4, 5, 6] _ rfl ?_
              exact ih (n - (i + 1)) (by omega) (i + 1) _ (some (cz i)) rfl (by rw [ev_85_19, nI_1]) ⟨by omega, Or.inr ⟨_, hlti, rfl⟩⟩
      · skip
        subst c_38
        obtain ⟨b, hb, hzb⟩ : ∃ z, z < n ∧ a_38_9 = cz z := by
          rcases hor with z | ⟨z, z1, z2⟩
          · cases z
          · exact ⟨z, z1, Option.some.inj z2⟩
        subst hzb
        refine k_aload X (q := 0) dX5_tellBurden_41 rfl ?_
        refine gX5_126 X (S := S) (h.at hlti).1 (h.at hlti).2 dX5_tellBurden_43 (fun v_43_20 ev_43_20 => ?_)
        refine k_aload_n X (q := 2) dX5_tellBurden_46 rfl rfl ?_
        refine gX5_126 X (S := S) (h.at hb).1 (h.at hb).2 dX5_tellBurden_47 (fun v_47_21 ev_47_21 => ?_)
        refine k_icmp_le (tgt := 57) X dX5_tellBurden_50 (by decide) (fun c_50 => ?_) (fun c_50 => ?_)
        · skip
          refine k_iconst X (v := 0) dX5_tellBurden_57 (by decide) ?_
          refine k_istore X [(6, .int 0), (5, .ref (cz i)), (4, .int (nI i)), (3, .ref (cz b)), (0, .ref (A 5)), (1, .int x1), (2, .int x2)] dX5_tellBurden_58 (by decide) rfl ?_
          refine k_aload X (q := 1) dX5_tellBurden_60 rfl ?_
          refine k_gotI X (vX5_96 X (S := S) ⟨(h.at hlti).1, (h.at hlti).2⟩ (c_X1_tribe C.l C.e0 S (cz i) (h.at hlti)) (As := []) (rest := []) rfl rfl rfl rfl ⟨Nat.le_of_ble_eq_true rfl, Nat.le_of_ble_eq_true rfl⟩ (Nat.le_of_ble_eq_true rfl) ⟨Nat.le_of_ble_eq_true rfl, Nat.le_of_ble_eq_true rfl⟩ dX5_tellBurden_62) (fun v_62_23 S_62_24 h_62_21 => ?_)
          obtain ⟨rfl, ev_62_23⟩ := h_62_21
          refine k_iload_n X (q := 5) dX5_tellBurden_65 rfl rfl ?_
          refine k_icmp_ne (tgt := 85) X dX5_tellBurden_66 (by decide) (fun c_66 => ?_) (fun c_66 => ?_)
          · skip
            obtain ⟨v_85_25, ev_85_25⟩ : ∃ z : Int32, z = (nI i) + 1 := ⟨_, rfl⟩
            refine k_iinc X (q := 2) (v := v_85_25) [(4, .int v_85_25), (6, .int 0), (5, .ref (cz i)), (3, .ref (cz b)), (0, .ref (A 5)), (1, .int x1), (2, .int x2)] dX5_tellBurden_85 rfl (by rw [ev_85_25]; rfl) (by decide) rfl ?_
            refine k_goto (tgt := 5) X dX5_tellBurden_88 (by decide) ?_
            refine k_lv [0, 3, 4, 5, 6] _ rfl ?_
            exact ih (n - (i + 1)) (by omega) (i + 1) _ (some (cz b)) rfl (by rw [ev_85_25, nI_1]) ⟨by omega, Or.inr ⟨_, hb, rfl⟩⟩
          · skip
            refine k_aload X (q := 1) dX5_tellBurden_69 rfl ?_
            refine k_gotI X (vX5_129 X (S := S) (c_X5_isToBeBurdened C.l C.e0 S (cz i) (h.at hlti)) (As := [.ref (cz i)]) (rest := []) rfl rfl rfl rfl ⟨Nat.le_of_ble_eq_true rfl, Nat.le_of_ble_eq_true rfl⟩ (Nat.le_of_ble_eq_true rfl) ⟨Nat.le_of_ble_eq_true rfl, Nat.le_of_ble_eq_true rfl⟩ dX5_tellBurden_71) (fun v_71_27 S_71_28 h_71_25 => ?_)
            obtain ⟨rfl, ev_71_27⟩ := h_71_25
            refine k_if_eq (tgt := 85) X dX5_tellBurden_74 (by decide) (fun c_74 => ?_) (fun c_74 => ?_)
            · skip
              rw [ev_71_27] at c_74
              obtain ⟨v_85_29, ev_85_29⟩ : ∃ z : Int32, z = (nI i) + 1 := ⟨_, rfl⟩
              refine k_iinc X (q := 2) (v := v_85_29) [(4, .int v_85_29), (6, .int 0), (5, .ref (cz i)), (3, .ref (cz b)), (0, .ref (A 5)), (1, .int x1), (2, .int x2)] dX5_tellBurden_85 rfl (by rw [ev_85_29]; rfl) (by decide) rfl ?_
              refine k_goto (tgt := 5) X dX5_tellBurden_88 (by decide) ?_
              refine k_lv [0, 3, 4, 5, 6] _ rfl ?_
              exact ih (n - (i + 1)) (by omega) (i + 1) _ (some (cz b)) rfl (by rw [ev_85_29, nI_1]) ⟨by omega, Or.inr ⟨_, hb, rfl⟩⟩
            · skip
              rw [ev_71_27] at c_74
              refine k_iload X (q := 0) dX5_tellBurden_77 rfl ?_
              refine k_if_eq (tgt := 85) X dX5_tellBurden_79 (by decide) (fun c_79 => ?_) (fun c_79 => ?_)
              · skip
                obtain ⟨v_85_30, ev_85_30⟩ : ∃ z : Int32, z = (nI i) + 1 := ⟨_, rfl⟩
                refine k_iinc X (q := 2) (v := v_85_30) [(4, .int v_85_30), (6, .int 0), (5, .ref (cz i)), (3, .ref (cz b)), (0, .ref (A 5)), (1, .int x1), (2, .int x2)] dX5_tellBurden_85 rfl (by rw [ev_85_30]; rfl) (by decide) rfl ?_
                refine k_goto (tgt := 5) X dX5_tellBurden_88 (by decide) ?_
                refine k_lv [0, 3, 4, 5, 6] _ rfl ?_
                exact ih (n - (i + 1)) (by omega) (i + 1) _ (some (cz b)) rfl (by rw [ev_85_30, nI_1]) ⟨by omega, Or.inr ⟨_, hb, rfl⟩⟩
              · skip
                refine k_aload X (q := 1) dX5_tellBurden_82 rfl ?_
                refine k_astore_n X [(3, .ref (cz i)), (6, .int 0), (5, .ref (cz i)), (4, .int (nI i)), (0, .ref (A 5)), (1, .int x1), (2, .int x2)] dX5_tellBurden_84 rfl (by decide) rfl ?_
                obtain ⟨v_85_31, ev_85_31⟩ : ∃ z : Int32, z = (nI i) + 1 := ⟨_, rfl⟩
                refine k_iinc X (q := 3) (v := v_85_31) [(4, .int v_85_31), (3, .ref (cz i)), (6, .int 0), (5, .ref (cz i)), (0, .ref (A 5)), (1, .int x1), (2, .int x2)] dX5_tellBurden_85 rfl (by rw [ev_85_31]; rfl) (by decide) rfl ?_
                refine k_goto (tgt := 5) X dX5_tellBurden_88 (by decide) ?_
                refine k_lv [0, 1, 4, 5, 6] _ rfl ?_
                exact ih (n - (i + 1)) (by omega) (i + 1) _ (some (cz i)) rfl (by rw [ev_85_31, nI_1]) ⟨by omega, Or.inr ⟨_, hlti, rfl⟩⟩
        · skip
          refine k_iconst X (v := 1) dX5_tellBurden_53 (by decide) ?_
          refine k_goto (tgt := 58) X dX5_tellBurden_54 (by decide) ?_
          refine k_istore X [(6, .int 1), (5, .ref (cz i)), (4, .int (nI i)), (3, .ref (cz b)), (0, .ref (A 5)), (1, .int x1), (2, .int x2)] dX5_tellBurden_58 (by decide) rfl ?_
          refine k_aload X (q := 1) dX5_tellBurden_60 rfl ?_
          refine k_gotI X (vX5_96 X (S := S) ⟨(h.at hlti).1, (h.at hlti).2⟩ (c_X1_tribe C.l C.e0 S (cz i) (h.at hlti)) (As := []) (rest := []) rfl rfl rfl rfl ⟨Nat.le_of_ble_eq_true rfl, Nat.le_of_ble_eq_true rfl⟩ (Nat.le_of_ble_eq_true rfl) ⟨Nat.le_of_ble_eq_true rfl, Nat.le_of_ble_eq_true rfl⟩ dX5_tellBurden_62) (fun v_62_33 S_62_34 h_62_31 => ?_)
          obtain ⟨rfl, ev_62_33⟩ := h_62_31
          refine k_iload_n X (q := 5) dX5_tellBurden_65 rfl rfl ?_
          refine k_icmp_ne (tgt := 85) X dX5_tellBurden_66 (by decide) (fun c_66 => ?_) (fun c_66 => ?_)
          · skip
            obtain ⟨v_85_35, ev_85_35⟩ : ∃ z : Int32, z = (nI i) + 1 := ⟨_, rfl⟩
            refine k_iinc X (q := 2) (v := v_85_35) [(4, .int v_85_35), (6, .int 1), (5, .ref (cz i)), (3, .ref (cz b)), (0, .ref (A 5)), (1, .int x1), (2, .int x2)] dX5_tellBurden_85 rfl (by rw [ev_85_35]; rfl) (by decide) rfl ?_
            refine k_goto (tgt := 5) X dX5_tellBurden_88 (by decide) ?_
            refine k_lv [0, 3, 4, 5, 6] _ rfl ?_
            exact ih (n - (i + 1)) (by omega) (i + 1) _ (some (cz b)) rfl (by rw [ev_85_35, nI_1]) ⟨by omega, Or.inr ⟨_, hb, rfl⟩⟩
          · skip
            refine k_aload X (q := 1) dX5_tellBurden_69 rfl ?_
            refine k_gotI X (vX5_129 X (S := S) (c_X5_isToBeBurdened C.l C.e0 S (cz i) (h.at hlti)) (As := [.ref (cz i)]) (rest := []) rfl rfl rfl rfl ⟨Nat.le_of_ble_eq_true rfl, Nat.le_of_ble_eq_true rfl⟩ (Nat.le_of_ble_eq_true rfl) ⟨Nat.le_of_ble_eq_true rfl, Nat.le_of_ble_eq_true rfl⟩ dX5_tellBurden_71) (fun v_71_37 S_71_38 h_71_35 => ?_)
            obtain ⟨rfl, ev_71_37⟩ := h_71_35
            refine k_if_eq (tgt := 85) X dX5_tellBurden_74 (by decide) (fun c_74 => ?_) (fun c_74 => ?_)
            · skip
              rw [ev_71_37] at c_74
              obtain ⟨v_85_39, ev_85_39⟩ : ∃ z : Int32, z = (nI i) + 1 := ⟨_, rfl⟩
              refine k_iinc X (q := 2) (v := v_85_39) [(4, .int v_85_39), (6, .int 1), (5, .ref (cz i)), (3, .ref (cz b)), (0, .ref (A 5)), (1, .int x1), (2, .int x2)] dX5_tellBurden_85 rfl (by rw [ev_85_39]; rfl) (by decide) rfl ?_
              refine k_goto (tgt := 5) X dX5_tellBurden_88 (by decide) ?_
              refine k_lv [0, 3, 4, 5, 6] _ rfl ?_
              exact ih (n - (i + 1)) (by omega) (i + 1) _ (some (cz b)) rfl (by rw [ev_85_39, nI_1]) ⟨by omega, Or.inr ⟨_, hb, rfl⟩⟩
            · skip
              rw [ev_71_37] at c_74
              refine k_iload X (q := 0) dX5_tellBurden_77 rfl ?_
              refine k_if_eq (tgt := 85) X dX5_tellBurden_79 (by decide) (fun c_79 => ?_) (fun c_79 => ?_)
              · skip
                obtain ⟨v_85_40, ev_85_40⟩ : ∃ z : Int32, z = (nI i) + 1 := ⟨_, rfl⟩
                refine k_iinc X (q := 2) (v := v_85_40) [(4, .int v_85_40), (6, .int 1), (5, .ref (cz i)), (3, .ref (cz b)), (0, .ref (A 5)), (1, .int x1), (2, .int x2)] dX5_tellBurden_85 rfl (by rw [ev_85_40]; rfl) (by decide) rfl ?_
                refine k_goto (tgt := 5) X dX5_tellBurden_88 (by decide) ?_
                refine k_lv [0, 3, 4, 5, 6] _ rfl ?_
                exact ih (n - (i + 1)) (by omega) (i + 1) _ (some (cz b)) rfl (by rw [ev_85_40, nI_1]) ⟨by omega, Or.inr ⟨_, hb, rfl⟩⟩
              · skip
                refine k_aload X (q := 1) dX5_tellBurden_82 rfl ?_
                refine k_astore_n X [(3, .ref (cz i)), (6, .int 1), (5, .ref (cz i)), (4, .int (nI i)), (0, .ref (A 5)), (1, .int x1), (2, .int x2)] dX5_tellBurden_84 rfl (by decide) rfl ?_
                obtain ⟨v_85_41, ev_85_41⟩ : ∃ z : Int32, z = (nI i) + 1 := ⟨_, rfl⟩
                refine k_iinc X (q := 3) (v := v_85_41) [(4, .int v_85_41), (3, .ref (cz i)), (6, .int 1), (5, .ref (cz i)), (0, .ref (A 5)), (1, .int x1), (2, .int x2)] dX5_tellBurden_85 rfl (by rw [ev_85_41]; rfl) (by decide) rfl ?_
                refine k_goto (tgt := 5) X dX5_tellBurden_88 (by decide) ?_
                refine k_lv [0, 1, 4, 5, 6] _ rfl ?_
                exact ih (n - (i + 1)) (by omega) (i + 1) _ (some (cz i)) rfl (by rw [ev_85_41, nI_1]) ⟨by omega, Or.inr ⟨_, hlti, rfl⟩⟩
  refine k_lv [0, 1, 2, 3, 4] _ rfl ?_
  exact L_5 _ 0 0 none rfl nI_0.symm ⟨by omega, Or.inl rfl⟩
set_option maxHeartbeats 1000000 in
set_option maxRecDepth 20000 in
theorem c_X5_tellBurdens (l : Launch) (e0 : Nat × Nat) (S : kS)  (A : Nat → Nat) (n : Nat) (cz : Nat → Nat) (T G Z : Nat) (h : kI e0 A n cz T G Z S)  (hb : T + 0 ≤ 900000 ∧ G + 0 ≤ 60000 ∧ Z + 0 ≤ 150000) : kM l e0 yX5_tellBurdens cX5_tellBurdens 3 none ({ frames := 4, cells := 0, slots := 0, locals := 90 } : Room) 0 0 [.ref (A 5)] S (kQv (fun S9 => kI e0 A n cz (T + 0) (G + 0) (Z + 0) S9 ∧ kKe A S S9)) := by
  refine kMetE (by decide +kernel) (Nat.le_of_ble_eq_true rfl) (fun C he hl X E hm => ?_)
  have X : kX C RX5 cX5_tellBurdens 3 ({ frames := 4, cells := 0, slots := 0, locals := 90 } : Room) := X
  subst he hl
  show kG C 3 S 0 0 0 [(0, .ref (A 5))] []
  have hn := h.n40
  refine k_aload_n X (q := 0) dX5_tellBurdens_0 rfl rfl ?_
  refine gX5_47s X (S := S) (st_5 h.st).1 (st_5 h.st).2 (sr_5_0 h.st) dX5_tellBurdens_1 ?_
  refine k_iconst X (v := 0) dX5_tellBurdens_4 (by decide) ?_
  refine pX5_59 X (S := S) (st_1 h.st).1 (st_1 h.st).2 dX5_tellBurdens_5 ?_
  obtain ⟨hI_1, hx_1⟩ := (⟨h.fI (i := 8) (v := 0) (so_1 h.st) (by unfold pSM; omega) (by unfold pVM pCi pHo pCh pLe pMy pMs pOf; omega) (by unfold pLu; omega), h.fIk (i := 8) (v := 0) (so_1 h.st) (by unfold pKe; omega)⟩ : _ ∧ _)
  have hK_1 := (kKe.rf).tr hx_1
  refine k_aload_n X (q := 0) dX5_tellBurdens_8 rfl rfl ?_
  refine gX5_22s X (S := (S.uI (A 1) 8 0)) (st_5 hI_1.st).1 (st_5 hI_1.st).2 (sr_5_4 hI_1.st) dX5_tellBurdens_9 ?_
  refine k_iconst X (v := 0) dX5_tellBurdens_12 (by decide) ?_
  refine k_gotV X (vX5_103 X (S := (S.uI (A 1) 8 0)) (c_J7_fill_53178 C.l C.e0 (S.uI (A 1) 8 0) (A 47) 0 ⟨(st_47 hI_1.st).1, (st_47 hI_1.st).2⟩ (sm_47 hI_1.st)) (As := [.ref (A 47), .int 0]) (rest := []) rfl rfl rfl rfl ⟨Nat.le_of_ble_eq_true rfl, Nat.le_of_ble_eq_true rfl⟩ (Nat.le_of_ble_eq_true rfl) ⟨Nat.le_of_ble_eq_true rfl, Nat.le_of_ble_eq_true rfl⟩ dX5_tellBurdens_13) (fun S_13_3 h_13_1 => ?_)
  subst h_13_1
  obtain ⟨hI_4, hx_4⟩ := hI_1.fil (so_47 hI_1.st) (by omega)
  have hK_4 := (hK_1).tr hx_4
  refine k_iconst X (v := 0) dX5_tellBurdens_16 (by decide) ?_
  refine k_istore_n X [(1, .int 0), (0, .ref (A 5))] dX5_tellBurdens_17 rfl (by decide) rfl ?_
  have L_18 : ∀ (N : Nat) (i : Nat) (x : Int32) (Si : kS), n - i = N → x = nI i → (i ≤ n ∧ kI C.e0 A n cz T G Z Si ∧ kKe A S Si) → kG C 3 Si 0 0 18 [(1, .int x), (0, .ref (A 5))] [] := by
    intro N
    induction N using Nat.strongRecOn with
    | _ N ih =>
    intro i x Si hMs h18_0 h18_1
    subst h18_0
    obtain ⟨hBi, hIi, hKi⟩ := h18_1
    refine k_iload_n X (q := 0) dX5_tellBurdens_18 rfl rfl ?_
    refine k_aload_n X (q := 1) dX5_tellBurdens_19 rfl rfl ?_
    refine gX5_47s X (S := Si) (st_5 hIi.st).1 (st_5 hIi.st).2 (sr_5_0 hIi.st) dX5_tellBurdens_20 ?_
    refine gX5_75s X (S := Si) (st_1 hIi.st).1 (st_1 hIi.st).2 (sr_1_12 hIi.st) dX5_tellBurdens_23 ?_
    refine k_gotI X (vX5_78 X (S := Si) ⟨(st_10 hIi.st).1, (st_10 hIi.st).2⟩ (c_Jx4a65c_size_8abf5 C.l C.e0 Si (A 10) (st_10 hIi.st)) (As := []) (rest := [.int (nI i)]) rfl rfl rfl rfl ⟨Nat.le_of_ble_eq_true rfl, Nat.le_of_ble_eq_true rfl⟩ (Nat.le_of_ble_eq_true rfl) ⟨Nat.le_of_ble_eq_true rfl, Nat.le_of_ble_eq_true rfl⟩ dX5_tellBurdens_26) (fun v_26_6 S_26_7 h_26_4 => ?_)
    obtain ⟨rfl, ev_26_6⟩ := h_26_4
    have hz_v_26_6 : nI n = v_26_6 := by rw [ev_26_6]; exact (hIi.hC).2.1.symm
    subst hz_v_26_6
    refine k_icmp_ge (tgt := 84) X dX5_tellBurdens_29 (by decide) (fun c_29 => ?_) (fun c_29 => ?_)
    · skip
      have hin : n = i := by have := ge_of_le c_29 (by omega); omega
      subst hin
      refine k_iconst X (v := 0) dX5_tellBurdens_84 (by decide) ?_
      refine k_istore_n X [(1, .int 0), (0, .ref (A 5))] dX5_tellBurdens_85 rfl (by decide) rfl ?_
      have L_86 : ∀ (N : Nat) (k : Nat) (x3 : Int32) (Sk : kS), 4 - k = N → x3 = nI k → (k ≤ 4 ∧ kI C.e0 A n cz T G Z Sk ∧ kKe A S Sk) → kG C 3 Sk 0 0 86 [(1, .int x3), (0, .ref (A 5))] [] := by
        intro N
        induction N using Nat.strongRecOn with
        | _ N ih86 =>
        intro k x3 Sk hMs h86_0 h86_1
        subst h86_0
        obtain ⟨hBk, hIk, hKk⟩ := h86_1
        refine k_iload_n X (q := 0) dX5_tellBurdens_86 rfl rfl ?_
        refine k_iconst X (v := 4) dX5_tellBurdens_87 (by decide) ?_
        refine k_icmp_ge (tgt := 109) X dX5_tellBurdens_88 (by decide) (fun c_88 => ?_) (fun c_88 => ?_)
        · skip
          have hin : 4 = k := by have := ge_of_le (m := 4) c_88 (by omega); omega
          subst hin
          exact k_vret X E dX5_tellBurdens_109 (Nat.le_of_ble_eq_true rfl) (Nat.le_of_ble_eq_true rfl) (⟨hIk.mono (by omega) (by omega) (by omega), hKk⟩)
        · skip
          have hltk : k < 4 := lt_of_nle (m := 4) c_88 (by omega)
          refine k_aload_n X (q := 1) dX5_tellBurdens_91 rfl rfl ?_
          refine k_iload_n X (q := 0) dX5_tellBurdens_92 rfl rfl ?_
          refine k_iconst X (v := 1) dX5_tellBurdens_93 (by decide) ?_
          refine k_gotV X (vX5_122 X (S := Sk) ⟨(st_5 hIk.st).1, (st_5 hIk.st).2⟩ (c_X5_tellBurden C.l C.e0 Sk (nI k) 1 A n cz _ _ _ hIk  (by omega)) (As := [.int (nI k), .int 1]) (rest := []) rfl rfl rfl rfl ⟨Nat.le_of_ble_eq_true rfl, Nat.le_of_ble_eq_true rfl⟩ (Nat.le_of_ble_eq_true rfl) ⟨Nat.le_of_ble_eq_true rfl, Nat.le_of_ble_eq_true rfl⟩ dX5_tellBurdens_94) (fun S_94_9 h_94_7 => ?_)
          obtain ⟨hI_10, hx_10⟩ := h_94_7
          have hK_10 := (hKk).tr hx_10
          refine k_aload_n X (q := 1) dX5_tellBurdens_97 rfl rfl ?_
          refine k_iload_n X (q := 0) dX5_tellBurdens_98 rfl rfl ?_
          refine k_iconst X (v := 2) dX5_tellBurdens_99 (by decide) ?_
          refine k_gotV X (vX5_122 X (S := S_94_9) ⟨(st_5 hI_10.st).1, (st_5 hI_10.st).2⟩ (c_X5_tellBurden C.l C.e0 S_94_9 (nI k) 2 A n cz _ _ _ hI_10  (by omega)) (As := [.int (nI k), .int 2]) (rest := []) rfl rfl rfl rfl ⟨Nat.le_of_ble_eq_true rfl, Nat.le_of_ble_eq_true rfl⟩ (Nat.le_of_ble_eq_true rfl) ⟨Nat.le_of_ble_eq_true rfl, Nat.le_of_ble_eq_true rfl⟩ dX5_tellBurdens_100) (fun S_100_12 h_100_10 => ?_)
          obtain ⟨hI_13, hx_13⟩ := h_100_10
          have hK_13 := (hK_10).tr hx_13
          obtain ⟨v_103_14, ev_103_14⟩ : ∃ z : Int32, z = (nI k) + 1 := ⟨_, rfl⟩
          refine k_iinc X (q := 0) (v := v_103_14) [(1, .int v_103_14), (0, .ref (A 5))] dX5_tellBurdens_103 rfl (by rw [ev_103_14]; rfl) (by decide) rfl ?_
          refine k_goto (tgt := 86) X dX5_tellBurdens_106 (by decide) ?_
          refine k_lv [0, 1] _ rfl ?_
          exact ih86 (4 - (k + 1)) (by omega) (k + 1) _ _ rfl (by rw [ev_103_14, nI_1]) ⟨by omega, hI_13.mono (by omega) (by omega) (by omega), hK_13⟩
      refine k_lv [0, 1] _ rfl ?_
      exact L_86 _ 0 0 _ rfl nI_0.symm ⟨by omega, hIi.mono (by omega) (by omega) (by omega), hKi⟩
    · skip
      have hlti : i < n := lt_of_nle c_29 (by omega)
      refine k_aload_n X (q := 1) dX5_tellBurdens_32 rfl rfl ?_
      refine gX5_47s X (S := Si) (st_5 hIi.st).1 (st_5 hIi.st).2 (sr_5_0 hIi.st) dX5_tellBurdens_33 ?_
      refine gX5_75s X (S := Si) (st_1 hIi.st).1 (st_1 hIi.st).2 (sr_1_12 hIi.st) dX5_tellBurdens_36 ?_
      refine k_iload_n X (q := 0) dX5_tellBurdens_39 rfl rfl ?_
      refine k_gotQ X (vX5_82 X (S := Si) ⟨(st_10 hIi.st).1, (st_10 hIi.st).2⟩ (c_Jx4a65c_get_915e3 C.l C.e0 Si (A 10) 1 n i cz (hIi.hC) hlti) (As := [.int (nI i)]) (rest := []) rfl rfl rfl rfl ⟨Nat.le_of_ble_eq_true rfl, Nat.le_of_ble_eq_true rfl⟩ (Nat.le_of_ble_eq_true rfl) ⟨Nat.le_of_ble_eq_true rfl, Nat.le_of_ble_eq_true rfl⟩ dX5_tellBurdens_40) (fun r_40_16 S_40_17 h_40_14 => ?_)
      obtain ⟨rfl, er_40_16⟩ := h_40_14
      subst er_40_16
      refine tX5_86 X (S := Si) ⟨(kLs.el (hIi.hC) hlti).1, (kLs.el (hIi.hC) hlti).2⟩ dX5_tellBurdens_43 ?_
      refine k_astore_n X [(2, .ref (cz i)), (1, .int (nI i)), (0, .ref (A 5))] dX5_tellBurdens_46 rfl (by decide) rfl ?_
      refine k_aload_n X (q := 0) dX5_tellBurdens_47 rfl rfl ?_
      refine k_aload_n X (q := 0) dX5_tellBurdens_48 rfl rfl ?_
      refine gX5_109 X (S := Si) (hIi.at hlti).1 (hIi.at hlti).2 dX5_tellBurdens_49 (fun v_49_18 ev_49_18 => ?_)
      refine k_if_eq (tgt := 59) X dX5_tellBurdens_52 (by decide) (fun c_52 => ?_) (fun c_52 => ?_)
      · skip
        refine k_iconst X (v := 0) dX5_tellBurdens_59 (by decide) ?_
        refine pX5_112 X (S := Si) (hIi.at hlti).1 (hIi.at hlti).2 (Or.inl rfl) dX5_tellBurdens_60 ?_
        obtain ⟨hI_19, hx_19⟩ := (⟨hIi.fI (i := 14) (v := 0) (hIi.oc _ hlti) (by unfold pSM; omega) (by unfold pVM pCi pHo pCh pLe pMy pMs pOf; omega) (by unfold pLu; omega), hIi.fIk (i := 14) (v := 0) (hIi.oc _ hlti) (by unfold pKe; omega)⟩ : _ ∧ _)
        have hK_19 := (hKi).tr hx_19
        refine k_aload_n X (q := 0) dX5_tellBurdens_63 rfl rfl ?_
        refine k_iconst X (v := 0) dX5_tellBurdens_64 (by decide) ?_
        refine pX5_109 X (S := (Si.uI (cz i) 14 0)) (hI_19.at hlti).1 (hI_19.at hlti).2 dX5_tellBurdens_65 ?_
        obtain ⟨hI_20, hx_20⟩ := (⟨hI_19.fI (i := 12) (v := 0) (hI_19.oc _ hlti) (by unfold pSM; omega) (by unfold pVM pCi pHo pCh pLe pMy pMs pOf; omega) (by unfold pLu; omega), hI_19.fIk (i := 12) (v := 0) (hI_19.oc _ hlti) (by unfold pKe; omega)⟩ : _ ∧ _)
        have hK_20 := (hK_19).tr hx_20
        refine k_aload_n X (q := 0) dX5_tellBurdens_68 rfl rfl ?_
        refine k_iconst X (v := 0) dX5_tellBurdens_69 (by decide) ?_
        refine pX5_116 X (S := ((Si.uI (cz i) 14 0).uI (cz i) 12 0)) (hI_20.at hlti).1 (hI_20.at hlti).2 (Or.inl rfl) dX5_tellBurdens_70 ?_
        obtain ⟨hI_21, hx_21⟩ := (⟨hI_20.fI (i := 13) (v := 0) (hI_20.oc _ hlti) (by unfold pSM; omega) (by unfold pVM pCi pHo pCh pLe pMy pMs pOf; omega) (by unfold pLu; omega), hI_20.fIk (i := 13) (v := 0) (hI_20.oc _ hlti) (by unfold pKe; omega)⟩ : _ ∧ _)
        have hK_21 := (hK_20).tr hx_21
        refine k_aload_n X (q := 0) dX5_tellBurdens_73 rfl rfl ?_
        refine k_iconst X (v := 0) dX5_tellBurdens_74 (by decide) ?_
        refine pX5_119 X (S := (((Si.uI (cz i) 14 0).uI (cz i) 12 0).uI (cz i) 13 0)) (hI_21.at hlti).1 (hI_21.at hlti).2 (Or.inl rfl) dX5_tellBurdens_75 ?_
        obtain ⟨hI_22, hx_22⟩ := (⟨hI_21.fI (i := 15) (v := 0) (hI_21.oc _ hlti) (by unfold pSM; omega) (by unfold pVM pCi pHo pCh pLe pMy pMs pOf; omega) (by unfold pLu; omega), hI_21.fIk (i := 15) (v := 0) (hI_21.oc _ hlti) (by unfold pKe; omega)⟩ : _ ∧ _)
        have hK_22 := (hK_21).tr hx_22
        obtain ⟨v_78_23, ev_78_23⟩ : ∃ z : Int32, z = (nI i) + 1 := ⟨_, rfl⟩
        refine k_iinc X (q := 1) (v := v_78_23) [(1, .int v_78_23), (2, .ref (cz i)), (0, .ref (A 5))] dX5_tellBurdens_78 rfl (by rw [ev_78_23]; rfl) (by decide) rfl ?_
        refine k_goto (tgt := 18) X dX5_tellBurdens_81 (by decide) ?_
        refine k_lv [0, 2] _ rfl ?_
        exact ih (n - (i + 1)) (by omega) (i + 1) _ _ rfl (by rw [ev_78_23, nI_1]) ⟨by omega, hI_22.mono (by omega) (by omega) (by omega), hK_22⟩
      · skip
        refine k_iconst X (v := 1) dX5_tellBurdens_55 (by decide) ?_
        refine k_goto (tgt := 60) X dX5_tellBurdens_56 (by decide) ?_
        refine pX5_112 X (S := Si) (hIi.at hlti).1 (hIi.at hlti).2 (Or.inr rfl) dX5_tellBurdens_60 ?_
        obtain ⟨hI_24, hx_24⟩ := (⟨hIi.fI (i := 14) (v := 1) (hIi.oc _ hlti) (by unfold pSM; omega) (by unfold pVM pCi pHo pCh pLe pMy pMs pOf; omega) (by unfold pLu; omega), hIi.fIk (i := 14) (v := 1) (hIi.oc _ hlti) (by unfold pKe; omega)⟩ : _ ∧ _)
        have hK_24 := (hKi).tr hx_24
        refine k_aload_n X (q := 0) dX5_tellBurdens_63 rfl rfl ?_
        refine k_iconst X (v := 0) dX5_tellBurdens_64 (by decide) ?_
        refine pX5_109 X (S := (Si.uI (cz i) 14 1)) (hI_24.at hlti).1 (hI_24.at hlti).2 dX5_tellBurdens_65 ?_
        obtain ⟨hI_25, hx_25⟩ := (⟨hI_24.fI (i := 12) (v := 0) (hI_24.oc _ hlti) (by unfold pSM; omega) (by unfold pVM pCi pHo pCh pLe pMy pMs pOf; omega) (by unfold pLu; omega), hI_24.fIk (i := 12) (v := 0) (hI_24.oc _ hlti) (by unfold pKe; omega)⟩ : _ ∧ _)
        have hK_25 := (hK_24).tr hx_25
        refine k_aload_n X (q := 0) dX5_tellBurdens_68 rfl rfl ?_
        refine k_iconst X (v := 0) dX5_tellBurdens_69 (by decide) ?_
        refine pX5_116 X (S := ((Si.uI (cz i) 14 1).uI (cz i) 12 0)) (hI_25.at hlti).1 (hI_25.at hlti).2 (Or.inl rfl) dX5_tellBurdens_70 ?_
        obtain ⟨hI_26, hx_26⟩ := (⟨hI_25.fI (i := 13) (v := 0) (hI_25.oc _ hlti) (by unfold pSM; omega) (by unfold pVM pCi pHo pCh pLe pMy pMs pOf; omega) (by unfold pLu; omega), hI_25.fIk (i := 13) (v := 0) (hI_25.oc _ hlti) (by unfold pKe; omega)⟩ : _ ∧ _)
        have hK_26 := (hK_25).tr hx_26
        refine k_aload_n X (q := 0) dX5_tellBurdens_73 rfl rfl ?_
        refine k_iconst X (v := 0) dX5_tellBurdens_74 (by decide) ?_
        refine pX5_119 X (S := (((Si.uI (cz i) 14 1).uI (cz i) 12 0).uI (cz i) 13 0)) (hI_26.at hlti).1 (hI_26.at hlti).2 (Or.inl rfl) dX5_tellBurdens_75 ?_
        obtain ⟨hI_27, hx_27⟩ := (⟨hI_26.fI (i := 15) (v := 0) (hI_26.oc _ hlti) (by unfold pSM; omega) (by unfold pVM pCi pHo pCh pLe pMy pMs pOf; omega) (by unfold pLu; omega), hI_26.fIk (i := 15) (v := 0) (hI_26.oc _ hlti) (by unfold pKe; omega)⟩ : _ ∧ _)
        have hK_27 := (hK_26).tr hx_27
        obtain ⟨v_78_28, ev_78_28⟩ : ∃ z : Int32, z = (nI i) + 1 := ⟨_, rfl⟩
        refine k_iinc X (q := 1) (v := v_78_28) [(1, .int v_78_28), (2, .ref (cz i)), (0, .ref (A 5))] dX5_tellBurdens_78 rfl (by rw [ev_78_28]; rfl) (by decide) rfl ?_
        refine k_goto (tgt := 18) X dX5_tellBurdens_81 (by decide) ?_
        refine k_lv [0, 2] _ rfl ?_
        exact ih (n - (i + 1)) (by omega) (i + 1) _ _ rfl (by rw [ev_78_28, nI_1]) ⟨by omega, hI_27.mono (by omega) (by omega) (by omega), hK_27⟩
  refine k_lv [0, 1] _ rfl ?_
  exact L_18 _ 0 0 _ rfl nI_0.symm ⟨by omega, hI_4.mono (by omega) (by omega) (by omega), hK_4⟩
set_option maxHeartbeats 1000000 in
set_option maxRecDepth 20000 in
theorem c_X5_compare (l : Launch) (e0 : Nat × Nat) (S : kS)  (A : Nat → Nat) (n : Nat) (cz : Nat → Nat) (T G Z : Nat) (h : kI e0 A n cz T G Z S) (i j : Nat) (hi : i < n) (hj : j < n) (hij : ¬ i = j) (hb : T + 0 ≤ 900000 ∧ G + 0 ≤ 60000 ∧ Z + 0 ≤ 150000) : kM l e0 yX5_compare cX5_compare 4 (Option.some Jvm.ClassFile.FieldType.int) ({ frames := 0, cells := 0, slots := 0, locals := 0 } : Room) 0 0 [.ref (A 5), .ref (cz i), .ref (cz j)] S (kQi (fun v S9 => kI e0 A n cz (T + 0) (G + 0) (Z + 0) S9 ∧ kKe A S S9)) := by
  refine kMetE (by decide +kernel) (Nat.le_of_ble_eq_true rfl) (fun C he hl X E hm => ?_)
  have X : kX C RX5 cX5_compare 4 ({ frames := 0, cells := 0, slots := 0, locals := 0 } : Room) := X
  subst he hl
  show kG C 4 S 0 0 0 [(0, .ref (A 5)), (1, .ref (cz i)), (2, .ref (cz j))] []
  have hn := h.n40
  refine k_aload_n X (q := 1) dX5_compare_0 rfl rfl ?_
  refine k_iconst X (v := 1) dX5_compare_1 (by decide) ?_
  refine pX5_119 X (S := S) (h.at hi).1 (h.at hi).2 (Or.inr rfl) dX5_compare_2 ?_
  obtain ⟨hI_1, hx_1⟩ := (⟨h.fI (i := 15) (v := 1) (h.oc _ hi) (by unfold pSM; omega) (by unfold pVM pCi pHo pCh pLe pMy pMs pOf; omega) (by unfold pLu; omega), h.fIk (i := 15) (v := 1) (h.oc _ hi) (by unfold pKe; omega)⟩ : _ ∧ _)
  have hK_1 := (kKe.rf).tr hx_1
  refine k_aload_n X (q := 2) dX5_compare_5 rfl rfl ?_
  refine gX5_126 X (S := (S.uI (cz i) 15 1)) (hI_1.at hj).1 (hI_1.at hj).2 dX5_compare_6 (fun v_6_2 ev_6_2 => ?_)
  refine k_aload_n X (q := 1) dX5_compare_9 rfl rfl ?_
  refine gX5_126 X (S := (S.uI (cz i) 15 1)) (hI_1.at hi).1 (hI_1.at hi).2 dX5_compare_10 (fun v_10_3 ev_10_3 => ?_)
  refine k_icmp_gt (tgt := 18) X dX5_compare_13 (by decide) (fun c_13 => ?_) (fun c_13 => ?_)
  · skip
    refine k_aload_n X (q := 2) dX5_compare_18 rfl rfl ?_
    refine gX5_139 X (S := (S.uI (cz i) 15 1)) (hI_1.at hj).1 (hI_1.at hj).2 dX5_compare_19 (fun v_19_4 ev_19_4 => ?_)
    refine k_iconst X (v := 2) dX5_compare_22 (by decide) ?_
    refine k_irem X dX5_compare_23 (by decide) (fun v_23_5 ev_23_5 => ?_)
    refine k_if_ne (tgt := 42) X dX5_compare_24 (by decide) (fun c_24 => ?_) (fun c_24 => ?_)
    · skip
      refine k_aload_n X (q := 1) dX5_compare_42 rfl rfl ?_
      refine gX5_126 X (S := (S.uI (cz i) 15 1)) (hI_1.at hi).1 (hI_1.at hi).2 dX5_compare_43 (fun v_43_6 ev_43_6 => ?_)
      refine k_istore_n X [(3, .int v_43_6), (0, .ref (A 5)), (1, .ref (cz i)), (2, .ref (cz j))] dX5_compare_46 rfl (by decide) rfl ?_
      refine k_aload_n X (q := 2) dX5_compare_47 rfl rfl ?_
      refine k_aload_n X (q := 3) dX5_compare_48 rfl rfl ?_
      refine gX5_126 X (S := (S.uI (cz i) 15 1)) (hI_1.at hj).1 (hI_1.at hj).2 dX5_compare_49 (fun v_49_7 ev_49_7 => ?_)
      refine pX5_126 X (S := (S.uI (cz i) 15 1)) (hI_1.at hi).1 (hI_1.at hi).2 dX5_compare_52 ?_
      refine k_aload_n X (q := 3) dX5_compare_55 rfl rfl ?_
      refine k_iload_n X (q := 0) dX5_compare_56 rfl rfl ?_
      refine pX5_126 X (S := ((S.uI (cz i) 15 1).uI (cz i) 4 v_49_7)) (hI_1.at hj).1 (hI_1.at hj).2 dX5_compare_57 ?_
      have hw1 := (hI_1.ci hi).2.1
      have hw2 := (hI_1.ci hj).2.1
      obtain ⟨hI_8, hx_8⟩ := hI_1.two hi hj hij (v := v_49_7) (w := v_43_6) (by rw [ev_49_7]; exact hw2) (by rw [ev_43_6]; exact hw1) (by rw [ev_49_7, ev_43_6]; omega)
      have hK_8 := (hK_1).tr hx_8
      refine k_iconst X (v := 2) dX5_compare_60 (by decide) ?_
      exact k_iret X E dX5_compare_61 (Nat.le_of_ble_eq_true rfl) (Nat.le_of_ble_eq_true rfl) (⟨hI_8.mono (by omega) (by omega) (by omega), hK_8⟩)
    · skip
      refine k_aload_n X (q := 2) dX5_compare_27 rfl rfl ?_
      refine k_aload_n X (q := 1) dX5_compare_28 rfl rfl ?_
      refine gX5_109 X (S := (S.uI (cz i) 15 1)) (hI_1.at hi).1 (hI_1.at hi).2 dX5_compare_29 (fun v_29_9 ev_29_9 => ?_)
      refine pX5_109 X (S := (S.uI (cz i) 15 1)) (hI_1.at hj).1 (hI_1.at hj).2 dX5_compare_32 ?_
      obtain ⟨hI_10, hx_10⟩ := (⟨hI_1.fI (i := 12) (v := v_29_9) (hI_1.oc _ hj) (by unfold pSM; omega) (by unfold pVM pCi pHo pCh pLe pMy pMs pOf; omega) (by unfold pLu; omega), hI_1.fIk (i := 12) (v := v_29_9) (hI_1.oc _ hj) (by unfold pKe; omega)⟩ : _ ∧ _)
      have hK_10 := (hK_1).tr hx_10
      refine k_aload_n X (q := 1) dX5_compare_35 rfl rfl ?_
      refine k_iconst X (v := 0) dX5_compare_36 (by decide) ?_
      refine pX5_109 X (S := ((S.uI (cz i) 15 1).uI (cz j) 12 v_29_9)) (hI_10.at hi).1 (hI_10.at hi).2 dX5_compare_37 ?_
      obtain ⟨hI_11, hx_11⟩ := (⟨hI_10.fI (i := 12) (v := 0) (hI_10.oc _ hi) (by unfold pSM; omega) (by unfold pVM pCi pHo pCh pLe pMy pMs pOf; omega) (by unfold pLu; omega), hI_10.fIk (i := 12) (v := 0) (hI_10.oc _ hi) (by unfold pKe; omega)⟩ : _ ∧ _)
      have hK_11 := (hK_10).tr hx_11
      refine k_iconst X (v := 1) dX5_compare_40 (by decide) ?_
      exact k_iret X E dX5_compare_41 (Nat.le_of_ble_eq_true rfl) (Nat.le_of_ble_eq_true rfl) (⟨hI_11.mono (by omega) (by omega) (by omega), hK_11⟩)
  · skip
    refine k_iconst X (v := 0) dX5_compare_16 (by decide) ?_
    exact k_iret X E dX5_compare_17 (Nat.le_of_ble_eq_true rfl) (Nat.le_of_ble_eq_true rfl) (⟨hI_1.mono (by omega) (by omega) (by omega), hK_1⟩)
set_option maxHeartbeats 1000000 in
set_option maxRecDepth 20000 in
theorem c_X5_discharge (l : Launch) (e0 : Nat × Nat) (S : kS)  (A : Nat → Nat) (n : Nat) (cz : Nat → Nat) (T G Z : Nat) (h : kI e0 A n cz T G Z S) (i : Nat) (hi : i < n) (hs : S.I (cz i) 6 = 1 ∨ S.I (cz i) 6 = 2) (hb : T + 0 ≤ 900000 ∧ G + 1 ≤ 60000 ∧ Z + 0 ≤ 150000) : kM l e0 yX5_discharge cX5_discharge 3 (Option.some Jvm.ClassFile.FieldType.int) ({ frames := 3, cells := 0, slots := 0, locals := 69 } : Room) 0 0 [.ref (A 5), .ref (cz i)] S (kQi (fun v S9 => kI e0 A n cz (T + 0) (G + 1) (Z + 0) S9 ∧ kKe A S S9)) := by
  refine kMetE (by decide +kernel) (Nat.le_of_ble_eq_true rfl) (fun C he hl X E hm => ?_)
  have X : kX C RX5 cX5_discharge 3 ({ frames := 3, cells := 0, slots := 0, locals := 69 } : Room) := X
  subst he hl
  show kG C 3 S 0 0 0 [(0, .ref (A 5)), (1, .ref (cz i))] []
  have hn := h.n40
  refine k_aload_n X (q := 1) dX5_discharge_0 rfl rfl ?_
  refine k_iconst X (v := 1) dX5_discharge_1 (by decide) ?_
  refine pX5_116 X (S := S) (h.at hi).1 (h.at hi).2 (Or.inr rfl) dX5_discharge_2 ?_
  obtain ⟨hI_1, hx_1⟩ := (⟨h.fI (i := 13) (v := 1) (h.oc _ hi) (by unfold pSM; omega) (by unfold pVM pCi pHo pCh pLe pMy pMs pOf; omega) (by unfold pLu; omega), h.fIk (i := 13) (v := 1) (h.oc _ hi) (by unfold pKe; omega)⟩ : _ ∧ _)
  have hK_1 := (kKe.rf).tr hx_1
  refine k_aload_n X (q := 1) dX5_discharge_5 rfl rfl ?_
  refine gX5_109 X (S := (S.uI (cz i) 13 1)) (hI_1.at hi).1 (hI_1.at hi).2 dX5_discharge_6 (fun v_6_2 ev_6_2 => ?_)
  refine k_iconst X (v := 1) dX5_discharge_9 (by decide) ?_
  refine k_icmp_ne (tgt := 37) X dX5_discharge_10 (by decide) (fun c_10 => ?_) (fun c_10 => ?_)
  · skip
    refine k_bipush X (v := 10) dX5_discharge_37 (by decide) ?_
    refine k_bipush X (v := 10) dX5_discharge_39 (by decide) ?_
    refine k_aload_n X (q := 1) dX5_discharge_41 rfl rfl ?_
    refine k_gotI X (vX5_142 X (S := (S.uI (cz i) 13 1)) ⟨(hI_1.at hi).1, (hI_1.at hi).2⟩ (c_X1_wealthClass C.l C.e0 (S.uI (cz i) 13 1) (cz i) (hI_1.at hi)) (As := []) (rest := [.int 10, .int 10]) rfl rfl rfl rfl ⟨Nat.le_of_ble_eq_true rfl, Nat.le_of_ble_eq_true rfl⟩ (Nat.le_of_ble_eq_true rfl) ⟨Nat.le_of_ble_eq_true rfl, Nat.le_of_ble_eq_true rfl⟩ dX5_discharge_42) (fun v_42_4 S_42_5 h_42_2 => ?_)
    obtain ⟨rfl, ev_42_4⟩ := h_42_2
    refine k_imul X dX5_discharge_45 (fun v_45_6 ev_45_6 => ?_)
    refine k_iadd X dX5_discharge_46 (fun v_46_7 ev_46_7 => ?_)
    refine k_istore_n X [(2, .int v_46_7), (0, .ref (A 5)), (1, .ref (cz i))] dX5_discharge_47 rfl (by decide) rfl ?_
    refine k_aload_n X (q := 1) dX5_discharge_48 rfl rfl ?_
    refine gX5_22s X (S := (S.uI (cz i) 13 1)) (st_5 hI_1.st).1 (st_5 hI_1.st).2 (sr_5_4 hI_1.st) dX5_discharge_49 ?_
    refine k_aload_n X (q := 2) dX5_discharge_52 rfl rfl ?_
    refine k_gotI X (vX5_96 X (S := (S.uI (cz i) 13 1)) ⟨(hI_1.at hi).1, (hI_1.at hi).2⟩ (c_X1_tribe C.l C.e0 (S.uI (cz i) 13 1) (cz i) (hI_1.at hi)) (As := []) (rest := [.ref (A 47)]) rfl rfl rfl rfl ⟨Nat.le_of_ble_eq_true rfl, Nat.le_of_ble_eq_true rfl⟩ (Nat.le_of_ble_eq_true rfl) ⟨Nat.le_of_ble_eq_true rfl, Nat.le_of_ble_eq_true rfl⟩ dX5_discharge_53) (fun v_53_9 S_53_10 h_53_7 => ?_)
    obtain ⟨rfl, ev_53_9⟩ := h_53_7
    refine k_iload_n X (q := 0) dX5_discharge_56 rfl rfl ?_
    refine k_gotV X (vX5_51 X (S := (S.uI (cz i) 13 1)) (c_X11_putAt C.l C.e0 (S.uI (cz i) 13 1) (A 47) v_53_9 v_46_7 ⟨(st_47 hI_1.st).1, (st_47 hI_1.st).2⟩ (sm_47 hI_1.st)) (As := [.ref (A 47), .int v_53_9, .int v_46_7]) (rest := []) rfl rfl rfl rfl ⟨Nat.le_of_ble_eq_true rfl, Nat.le_of_ble_eq_true rfl⟩ (Nat.le_of_ble_eq_true rfl) ⟨Nat.le_of_ble_eq_true rfl, Nat.le_of_ble_eq_true rfl⟩ dX5_discharge_57) (fun S_57_12 h_57_10 => ?_)
    subst h_57_10
    obtain ⟨hI_13, hx_13⟩ := (⟨(hI_1.pat (x := v_53_9) (v := v_46_7) (so_47 hI_1.st) (by omega)).1, (hI_1.pat (x := v_53_9) (v := v_46_7) (so_47 hI_1.st) (by omega)).2 (by omega)⟩ : _ ∧ _)
    have hK_13 := (hK_1).tr hx_13
    refine k_aload_n X (q := 1) dX5_discharge_60 rfl rfl ?_
    refine gX5_47s X (S := (kpat (S.uI (cz i) 13 1) (A 47) v_53_9 v_46_7)) (st_5 hI_13.st).1 (st_5 hI_13.st).2 (sr_5_0 hI_13.st) dX5_discharge_61 ?_
    refine k_aload_n X (q := 2) dX5_discharge_64 rfl rfl ?_
    refine k_bipush X (v := 40) dX5_discharge_65 (by decide) ?_
    have n11 : ¬ cz i = A 1 := h.one hi
    have n47 : ¬ cz i = A 47 := h.cne hi (r := 47) ⟨⟨13, by decide⟩, by omega⟩
    have hst9 : ((kpat (S.uI (cz i) 13 1) (A 47) v_53_9 v_46_7)).I (cz i) 6 = 1 ∨ ((kpat (S.uI (cz i) 13 1) (A 47) v_53_9 v_46_7)).I (cz i) 6 = 2 := by
      (try rw [kpat_o n47])
      simp only [uI_I, n11, false_and, if_false]
      (try rw [if_neg (by omega)])
      exact hs
    refine k_gotV X (vX5_92 X (S := (kpat (S.uI (cz i) 13 1) (A 47) v_53_9 v_46_7)) ⟨(st_1 hI_13.st).1, (st_1 hI_13.st).2⟩ (c_X2_fine C.l C.e0 (kpat (S.uI (cz i) 13 1) (A 47) v_53_9 v_46_7) (cz i) 40 A hI_13.st ⟨(hI_13.at hi).1, (hI_13.at hi).2⟩) (As := [.ref (cz i), .int 40]) (rest := []) rfl rfl rfl rfl ⟨Nat.le_of_ble_eq_true rfl, Nat.le_of_ble_eq_true rfl⟩ (Nat.le_of_ble_eq_true rfl) ⟨Nat.le_of_ble_eq_true rfl, Nat.le_of_ble_eq_true rfl⟩ dX5_discharge_67) (fun S_67_15 h_67_13 => ?_)
    subst h_67_13
    obtain ⟨hI_16, hx_16⟩ := hI_13.fine (i := i) hi (x := 40) (by decide) (hst9) (by omega) (by omega)
    have hK_16 := (hK_13).tr hx_16
    refine k_iload_n X (q := 0) dX5_discharge_70 rfl rfl ?_
    exact k_iret X E dX5_discharge_71 (Nat.le_of_ble_eq_true rfl) (Nat.le_of_ble_eq_true rfl) (⟨hI_16.mono (by omega) (by omega) (by omega), hK_16⟩)
  · skip
    refine k_aload_n X (q := 0) dX5_discharge_13 rfl rfl ?_
    refine gX5_47s X (S := (S.uI (cz i) 13 1)) (st_5 hI_1.st).1 (st_5 hI_1.st).2 (sr_5_0 hI_1.st) dX5_discharge_14 ?_
    refine k_dup X dX5_discharge_17 rfl ?_
    refine gX5_59 X (S := (S.uI (cz i) 13 1)) (st_1 hI_1.st).1 (st_1 hI_1.st).2 dX5_discharge_18 (fun v_18_17 ev_18_17 => ?_)
    refine k_iconst X (v := 1) dX5_discharge_21 (by decide) ?_
    refine k_iadd X dX5_discharge_22 (fun v_22_18 ev_22_18 => ?_)
    refine pX5_59 X (S := (S.uI (cz i) 13 1)) (st_1 hI_1.st).1 (st_1 hI_1.st).2 dX5_discharge_23 ?_
    obtain ⟨hI_19, hx_19⟩ := (⟨hI_1.fI (i := 8) (v := v_22_18) (so_1 hI_1.st) (by unfold pSM; omega) (by unfold pVM pCi pHo pCh pLe pMy pMs pOf; omega) (by unfold pLu; omega), hI_1.fIk (i := 8) (v := v_22_18) (so_1 hI_1.st) (by unfold pKe; omega)⟩ : _ ∧ _)
    have hK_19 := (hK_1).tr hx_19
    refine k_aload_n X (q := 0) dX5_discharge_26 rfl rfl ?_
    refine gX5_47s X (S := ((S.uI (cz i) 13 1).uI (A 1) 8 v_22_18)) (st_5 hI_19.st).1 (st_5 hI_19.st).2 (sr_5_0 hI_19.st) dX5_discharge_27 ?_
    refine gX5_59 X (S := ((S.uI (cz i) 13 1).uI (A 1) 8 v_22_18)) (st_1 hI_19.st).1 (st_1 hI_19.st).2 dX5_discharge_30 (fun v_30_20 ev_30_20 => ?_)
    refine k_istore_n X [(2, .int v_30_20), (0, .ref (A 5)), (1, .ref (cz i))] dX5_discharge_33 rfl (by decide) rfl ?_
    refine k_goto (tgt := 60) X dX5_discharge_34 (by decide) ?_
    refine k_aload_n X (q := 1) dX5_discharge_60 rfl rfl ?_
    refine gX5_47s X (S := ((S.uI (cz i) 13 1).uI (A 1) 8 v_22_18)) (st_5 hI_19.st).1 (st_5 hI_19.st).2 (sr_5_0 hI_19.st) dX5_discharge_61 ?_
    refine k_aload_n X (q := 2) dX5_discharge_64 rfl rfl ?_
    refine k_bipush X (v := 40) dX5_discharge_65 (by decide) ?_
    have n11 : ¬ cz i = A 1 := h.one hi
    have n47 : ¬ cz i = A 47 := h.cne hi (r := 47) ⟨⟨13, by decide⟩, by omega⟩
    have hst9 : (((S.uI (cz i) 13 1).uI (A 1) 8 v_22_18)).I (cz i) 6 = 1 ∨ (((S.uI (cz i) 13 1).uI (A 1) 8 v_22_18)).I (cz i) 6 = 2 := by
      (try rw [kpat_o n47])
      simp only [uI_I, n11, false_and, if_false]
      (try rw [if_neg (by omega)])
      exact hs
    refine k_gotV X (vX5_92 X (S := ((S.uI (cz i) 13 1).uI (A 1) 8 v_22_18)) ⟨(st_1 hI_19.st).1, (st_1 hI_19.st).2⟩ (c_X2_fine C.l C.e0 ((S.uI (cz i) 13 1).uI (A 1) 8 v_22_18) (cz i) 40 A hI_19.st ⟨(hI_19.at hi).1, (hI_19.at hi).2⟩) (As := [.ref (cz i), .int 40]) (rest := []) rfl rfl rfl rfl ⟨Nat.le_of_ble_eq_true rfl, Nat.le_of_ble_eq_true rfl⟩ (Nat.le_of_ble_eq_true rfl) ⟨Nat.le_of_ble_eq_true rfl, Nat.le_of_ble_eq_true rfl⟩ dX5_discharge_67) (fun S_67_22 h_67_20 => ?_)
    subst h_67_20
    obtain ⟨hI_23, hx_23⟩ := hI_19.fine (i := i) hi (x := 40) (by decide) (hst9) (by omega) (by omega)
    have hK_23 := (hK_19).tr hx_23
    refine k_iload_n X (q := 0) dX5_discharge_70 rfl rfl ?_
    exact k_iret X E dX5_discharge_71 (Nat.le_of_ble_eq_true rfl) (Nat.le_of_ble_eq_true rfl) (⟨hI_23.mono (by omega) (by omega) (by omega), hK_23⟩)
set_option maxHeartbeats 1000000 in
set_option maxRecDepth 20000 in
theorem c_X2_areCitizensSound (l : Launch) (e0 : Nat × Nat) (S : kS)  (A : Nat → Nat) (n : Nat) (cz : Nat → Nat) (hst : kSt A S) (hC : kLs e0 S (A 10) 1 n cz) (hn : n ≤ 40) (hci : ∀ i, i < n → (S.I (cz i) 6 = 1 → S.I (cz i) 5 = 0) ∧ (S.I (cz i) 9 = 0 ∨ S.I (cz i) 6 = 1)) : kM l e0 yX2_areCitizensSound cX2_areCitizensSound 3 (Option.some Jvm.ClassFile.FieldType.boolean) ({ frames := 3, cells := 0, slots := 0, locals := 64 } : Room) 0 0 [.ref (A 1)] S (kQi (fun v S9 => S = S9 ∧ v = 1)) := by
  refine kMetE (by decide +kernel) (Nat.le_of_ble_eq_true rfl) (fun C he hl X E hm => ?_)
  have X : kX C RX2 cX2_areCitizensSound 3 ({ frames := 3, cells := 0, slots := 0, locals := 64 } : Room) := X
  subst he hl
  show kG C 3 S 0 0 0 [(0, .ref (A 1))] []
  refine k_iconst X (v := 0) dX2_areCitizensSound_0 (by decide) ?_
  refine k_istore_n X [(1, .int 0), (0, .ref (A 1))] dX2_areCitizensSound_1 rfl (by decide) rfl ?_
  have L_2 : ∀ (N : Nat) (i : Nat) (x : Int32), n - i = N → x = nI i → i ≤ n → kG C 3 S 0 0 2 [(1, .int x), (0, .ref (A 1))] [] := by
    intro N
    induction N using Nat.strongRecOn with
    | _ N ih =>
    intro i x hMs h2_0 h2_1
    subst h2_0
    refine k_iload_n X (q := 0) dX2_areCitizensSound_2 rfl rfl ?_
    refine k_aload_n X (q := 1) dX2_areCitizensSound_3 rfl rfl ?_
    refine gX2_57s X (S := S) (st_1 hst).1 (st_1 hst).2 (sr_1_12 hst) dX2_areCitizensSound_4 ?_
    refine k_gotI X (vX2_86 X (S := S) ⟨(st_10 hst).1, (st_10 hst).2⟩ (c_Jx4a65c_size_8abf5 C.l C.e0 S (A 10) (st_10 hst)) (As := []) (rest := [.int (nI i)]) rfl rfl rfl rfl ⟨Nat.le_of_ble_eq_true rfl, Nat.le_of_ble_eq_true rfl⟩ (Nat.le_of_ble_eq_true rfl) ⟨Nat.le_of_ble_eq_true rfl, Nat.le_of_ble_eq_true rfl⟩ dX2_areCitizensSound_7) (fun v_7_2 S_7_3 h_7_0 => ?_)
    obtain ⟨rfl, ev_7_2⟩ := h_7_0
    have hz_v_7_2 : nI n = v_7_2 := by rw [ev_7_2]; exact (hC).2.1.symm
    subst hz_v_7_2
    refine k_icmp_ge (tgt := 57) X dX2_areCitizensSound_10 (by decide) (fun c_10 => ?_) (fun c_10 => ?_)
    · skip
      refine k_iconst X (v := 1) dX2_areCitizensSound_57 (by decide) ?_
      exact k_zret X E (Or.inr rfl) dX2_areCitizensSound_58 (Nat.le_of_ble_eq_true rfl) (Nat.le_of_ble_eq_true rfl) (⟨rfl, rfl⟩)
    · skip
      have hlt : i < n := lt_of_nle c_10 (by omega)
      refine k_aload_n X (q := 1) dX2_areCitizensSound_13 rfl rfl ?_
      refine gX2_57s X (S := S) (st_1 hst).1 (st_1 hst).2 (sr_1_12 hst) dX2_areCitizensSound_14 ?_
      refine k_iload_n X (q := 0) dX2_areCitizensSound_17 rfl rfl ?_
      refine k_gotQ X (vX2_94 X (S := S) ⟨(st_10 hst).1, (st_10 hst).2⟩ (c_Jx4a65c_get_915e3 C.l C.e0 S (A 10) 1 n i cz (hC) hlt) (As := [.int (nI i)]) (rest := []) rfl rfl rfl rfl ⟨Nat.le_of_ble_eq_true rfl, Nat.le_of_ble_eq_true rfl⟩ (Nat.le_of_ble_eq_true rfl) ⟨Nat.le_of_ble_eq_true rfl, Nat.le_of_ble_eq_true rfl⟩ dX2_areCitizensSound_18) (fun r_18_5 S_18_6 h_18_3 => ?_)
      obtain ⟨rfl, er_18_5⟩ := h_18_3
      subst er_18_5
      refine tX2_64 X (S := S) ⟨(kLs.el (hC) hlt).1, (kLs.el (hC) hlt).2⟩ dX2_areCitizensSound_21 ?_
      refine k_astore_n X [(2, .ref (cz i)), (1, .int (nI i)), (0, .ref (A 1))] dX2_areCitizensSound_24 rfl (by decide) rfl ?_
      refine k_aload_n X (q := 0) dX2_areCitizensSound_25 rfl rfl ?_
      refine k_gotI X (vX2_101 X (S := S) ⟨(kLs.el (hC) hlt).1, (kLs.el (hC) hlt).2⟩ (c_X1_isFull C.l C.e0 S (cz i) (kLs.el (hC) hlt)) (As := []) (rest := []) rfl rfl rfl rfl ⟨Nat.le_of_ble_eq_true rfl, Nat.le_of_ble_eq_true rfl⟩ (Nat.le_of_ble_eq_true rfl) ⟨Nat.le_of_ble_eq_true rfl, Nat.le_of_ble_eq_true rfl⟩ dX2_areCitizensSound_26) (fun v_26_8 S_26_9 h_26_6 => ?_)
      obtain ⟨rfl, ev_26_8⟩ := h_26_6
      refine k_if_eq (tgt := 42) X dX2_areCitizensSound_29 (by decide) (fun c_29 => ?_) (fun c_29 => ?_)
      · skip
        rw [ev_26_8] at c_29
        refine k_aload_n X (q := 0) dX2_areCitizensSound_42 rfl rfl ?_
        refine gX2_134 X (S := S) (kLs.el (hC) hlt).1 (kLs.el (hC) hlt).2 dX2_areCitizensSound_43 (fun v_43_10 ev_43_10 => ?_)
        refine k_if_eq (tgt := 51) X dX2_areCitizensSound_46 (by decide) (fun c_46 => ?_) (fun c_46 => ?_)
        · skip
          obtain ⟨v_51_11, ev_51_11⟩ : ∃ z : Int32, z = (nI i) + 1 := ⟨_, rfl⟩
          refine k_iinc X (q := 1) (v := v_51_11) [(1, .int v_51_11), (2, .ref (cz i)), (0, .ref (A 1))] dX2_areCitizensSound_51 rfl (by rw [ev_51_11]; rfl) (by decide) rfl ?_
          refine k_goto (tgt := 2) X dX2_areCitizensSound_54 (by decide) ?_
          refine k_lv [0, 2] _ rfl ?_
          exact ih (n - (i + 1)) (by omega) (i + 1) _ rfl (by rw [ev_51_11, nI_1]) (by omega)
        · skip
          refine k_iconst X (v := 0) dX2_areCitizensSound_49 (by decide) ?_
          exact k_zret X E (Or.inl rfl) dX2_areCitizensSound_50 (Nat.le_of_ble_eq_true rfl) (Nat.le_of_ble_eq_true rfl) (⟨rfl, by exfalso; obtain ⟨g1, g2⟩ := hci i hlt; by_cases g : S.I (cz i) 6 = 1 <;> simp_all [kb]⟩)
      · skip
        rw [ev_26_8] at c_29
        refine k_aload_n X (q := 0) dX2_areCitizensSound_32 rfl rfl ?_
        refine gX2_168 X (S := S) (kLs.el (hC) hlt).1 (kLs.el (hC) hlt).2 dX2_areCitizensSound_33 (fun v_33_12 ev_33_12 => ?_)
        refine k_if_eq (tgt := 51) X dX2_areCitizensSound_36 (by decide) (fun c_36 => ?_) (fun c_36 => ?_)
        · skip
          obtain ⟨v_51_13, ev_51_13⟩ : ∃ z : Int32, z = (nI i) + 1 := ⟨_, rfl⟩
          refine k_iinc X (q := 1) (v := v_51_13) [(1, .int v_51_13), (2, .ref (cz i)), (0, .ref (A 1))] dX2_areCitizensSound_51 rfl (by rw [ev_51_13]; rfl) (by decide) rfl ?_
          refine k_goto (tgt := 2) X dX2_areCitizensSound_54 (by decide) ?_
          refine k_lv [0, 2] _ rfl ?_
          exact ih (n - (i + 1)) (by omega) (i + 1) _ rfl (by rw [ev_51_13, nI_1]) (by omega)
        · skip
          refine k_goto (tgt := 49) X dX2_areCitizensSound_39 (by decide) ?_
          refine k_iconst X (v := 0) dX2_areCitizensSound_49 (by decide) ?_
          exact k_zret X E (Or.inl rfl) dX2_areCitizensSound_50 (Nat.le_of_ble_eq_true rfl) (Nat.le_of_ble_eq_true rfl) (⟨rfl, by exfalso; obtain ⟨g1, g2⟩ := hci i hlt; by_cases g : S.I (cz i) 6 = 1 <;> simp_all [kb]⟩)
  refine k_lv [0, 1] _ rfl ?_
  exact L_2 _ 0 0 rfl nI_0.symm (Nat.zero_le _)
set_option maxHeartbeats 1000000 in
set_option maxRecDepth 20000 in
theorem c_X2_areOfficesSound (l : Launch) (e0 : Nat × Nat) (S : kS)  (A : Nat → Nat) (hst : kSt A S) (hO : kLs e0 S (A 11) 8 7 (kof A)) (hho : ∀ k, k < 7 → ∀ c, S.R (kof A k) 1 = some c → S.at c 1 ∧ (S.I c 6 = 1 ∨ S.I c 6 = 2) ∧ kidx (kff (fun i => decide (S.R (kof A i) 1 = some c)) 7) = nI k) : kM l e0 yX2_areOfficesSound cX2_areOfficesSound 3 (Option.some Jvm.ClassFile.FieldType.boolean) ({ frames := 4, cells := 0, slots := 0, locals := 86 } : Room) 0 0 [.ref (A 1)] S (kQi (fun v S9 => S = S9 ∧ v = 1)) := by
  refine kMetE (by decide +kernel) (Nat.le_of_ble_eq_true rfl) (fun C he hl X E hm => ?_)
  have X : kX C RX2 cX2_areOfficesSound 3 ({ frames := 4, cells := 0, slots := 0, locals := 86 } : Room) := X
  subst he hl
  show kG C 3 S 0 0 0 [(0, .ref (A 1))] []
  refine k_iconst X (v := 0) dX2_areOfficesSound_0 (by decide) ?_
  refine k_istore_n X [(1, .int 0), (0, .ref (A 1))] dX2_areOfficesSound_1 rfl (by decide) rfl ?_
  have L_2 : ∀ (N : Nat) (i : Nat) (x : Int32), 7 - i = N → x = nI i → i ≤ 7 → kG C 3 S 0 0 2 [(1, .int x), (0, .ref (A 1))] [] := by
    intro N
    induction N using Nat.strongRecOn with
    | _ N ih =>
    intro i x hMs h2_0 h2_1
    subst h2_0
    refine k_iload_n X (q := 0) dX2_areOfficesSound_2 rfl rfl ?_
    refine k_aload_n X (q := 1) dX2_areOfficesSound_3 rfl rfl ?_
    refine gX2_61s X (S := S) (st_1 hst).1 (st_1 hst).2 (sr_1_13 hst) dX2_areOfficesSound_4 ?_
    refine k_gotI X (vX2_86 X (S := S) ⟨(st_11 hst).1, (st_11 hst).2⟩ (c_Jx4a65c_size_8abf5 C.l C.e0 S (A 11) (st_11 hst)) (As := []) (rest := [.int (nI i)]) rfl rfl rfl rfl ⟨Nat.le_of_ble_eq_true rfl, Nat.le_of_ble_eq_true rfl⟩ (Nat.le_of_ble_eq_true rfl) ⟨Nat.le_of_ble_eq_true rfl, Nat.le_of_ble_eq_true rfl⟩ dX2_areOfficesSound_7) (fun v_7_2 S_7_3 h_7_0 => ?_)
    obtain ⟨rfl, ev_7_2⟩ := h_7_0
    have hz_v_7_2 : nI 7 = v_7_2 := by rw [ev_7_2]; exact (hO).2.1.symm
    subst hz_v_7_2
    refine k_icmp_ge (tgt := 56) X dX2_areOfficesSound_10 (by decide) (fun c_10 => ?_) (fun c_10 => ?_)
    · skip
      refine k_iconst X (v := 1) dX2_areOfficesSound_56 (by decide) ?_
      exact k_zret X E (Or.inr rfl) dX2_areOfficesSound_57 (Nat.le_of_ble_eq_true rfl) (Nat.le_of_ble_eq_true rfl) (⟨rfl, rfl⟩)
    · skip
      have hlt : i < 7 := lt_of_nle (m := 7) c_10 (by omega)
      refine k_aload_n X (q := 1) dX2_areOfficesSound_13 rfl rfl ?_
      refine gX2_61s X (S := S) (st_1 hst).1 (st_1 hst).2 (sr_1_13 hst) dX2_areOfficesSound_14 ?_
      refine k_iload_n X (q := 0) dX2_areOfficesSound_17 rfl rfl ?_
      refine k_gotQ X (vX2_94 X (S := S) ⟨(st_11 hst).1, (st_11 hst).2⟩ (c_Jx4a65c_get_915e3 C.l C.e0 S (A 11) 8 7 i (kof A) (hO) hlt) (As := [.int (nI i)]) (rest := []) rfl rfl rfl rfl ⟨Nat.le_of_ble_eq_true rfl, Nat.le_of_ble_eq_true rfl⟩ (Nat.le_of_ble_eq_true rfl) ⟨Nat.le_of_ble_eq_true rfl, Nat.le_of_ble_eq_true rfl⟩ dX2_areOfficesSound_18) (fun r_18_5 S_18_6 h_18_3 => ?_)
      obtain ⟨rfl, er_18_5⟩ := h_18_3
      subst er_18_5
      refine tX2_77 X (S := S) ⟨(kLs.el (hO) hlt).1, (kLs.el (hO) hlt).2⟩ dX2_areOfficesSound_21 ?_
      refine gX2_175 X (S := S) (kLs.el (hO) hlt).1 (kLs.el (hO) hlt).2 dX2_areOfficesSound_24 (fun r_24_7 er_24_7 => ?_)
      refine k_astore_nQ X [(2, va_rf r_24_7), (1, .int (nI i)), (0, .ref (A 1))] dX2_areOfficesSound_27 rfl (by decide) rfl ?_
      refine k_aload_nQ X (q := 0) dX2_areOfficesSound_28 rfl rfl ?_
      refine k_ifnull (tgt := 50) X dX2_areOfficesSound_29 (by decide) (fun c_29 => ?_) (fun a_29_8 c_29 => ?_)
      · skip
        subst c_29
        obtain ⟨v_50_9, ev_50_9⟩ : ∃ z : Int32, z = (nI i) + 1 := ⟨_, rfl⟩
        refine k_iinc X (q := 1) (v := v_50_9) [(1, .int v_50_9), (2, .null), (0, .ref (A 1))] dX2_areOfficesSound_50 rfl (by rw [ev_50_9]; rfl) (by decide) rfl ?_
        refine k_goto (tgt := 2) X dX2_areOfficesSound_53 (by decide) ?_
        refine k_lv [0, 2] _ rfl ?_
        exact ih (7 - (i + 1)) (by omega) (i + 1) _ rfl (by rw [ev_50_9, nI_1]) (by omega)
      · skip
        subst c_29
        obtain ⟨hat9, hst9, hix9⟩ := hho i hlt a_29_8 er_24_7.symm
        refine k_aload_n X (q := 0) dX2_areOfficesSound_32 rfl rfl ?_
        refine k_gotI X (vX2_210 X (S := S) ⟨hat9.1, hat9.2⟩ (c_X1_isFullOrOut C.l C.e0 S a_29_8 hat9) (As := []) (rest := []) rfl rfl rfl rfl ⟨Nat.le_of_ble_eq_true rfl, Nat.le_of_ble_eq_true rfl⟩ (Nat.le_of_ble_eq_true rfl) ⟨Nat.le_of_ble_eq_true rfl, Nat.le_of_ble_eq_true rfl⟩ dX2_areOfficesSound_33) (fun v_33_11 S_33_12 h_33_9 => ?_)
        obtain ⟨rfl, ev_33_11⟩ := h_33_9
        refine k_if_eq (tgt := 48) X dX2_areOfficesSound_36 (by decide) (fun c_36 => ?_) (fun c_36 => ?_)
        · skip
          rw [ev_33_11] at c_36
          refine k_iconst X (v := 0) dX2_areOfficesSound_48 (by decide) ?_
          exact k_zret X E (Or.inl rfl) dX2_areOfficesSound_49 (Nat.le_of_ble_eq_true rfl) (Nat.le_of_ble_eq_true rfl) (⟨rfl, by exfalso; first | (rcases hst9 with g | g <;> simp [kb, g] at c_36; done) | exact c_45 (by rw [ex]; exact hix9)⟩)
        · skip
          rw [ev_33_11] at c_36
          refine k_aload_n X (q := 2) dX2_areOfficesSound_39 rfl rfl ?_
          refine k_aload_n X (q := 0) dX2_areOfficesSound_40 rfl rfl ?_
          refine k_gotI X (vX2_213 X (S := S) ⟨(st_1 hst).1, (st_1 hst).2⟩ (c_X2_officeOf C.l C.e0 S a_29_8 A hst hO) (As := [.ref a_29_8]) (rest := []) rfl rfl rfl rfl ⟨Nat.le_of_ble_eq_true rfl, Nat.le_of_ble_eq_true rfl⟩ (Nat.le_of_ble_eq_true rfl) ⟨Nat.le_of_ble_eq_true rfl, Nat.le_of_ble_eq_true rfl⟩ dX2_areOfficesSound_41) (fun v_41_14 S_41_15 h_41_12 => ?_)
          obtain ⟨rfl, ev_41_14⟩ := h_41_12
          refine k_iload_n X (q := 1) dX2_areOfficesSound_44 rfl rfl ?_
          refine k_icmp_eq (tgt := 50) X dX2_areOfficesSound_45 (by decide) (fun c_45 => ?_) (fun c_45 => ?_)
          · skip
            obtain ⟨v_50_16, ev_50_16⟩ : ∃ z : Int32, z = (nI i) + 1 := ⟨_, rfl⟩
            refine k_iinc X (q := 1) (v := v_50_16) [(1, .int v_50_16), (2, .ref a_29_8), (0, .ref (A 1))] dX2_areOfficesSound_50 rfl (by rw [ev_50_16]; rfl) (by decide) rfl ?_
            refine k_goto (tgt := 2) X dX2_areOfficesSound_53 (by decide) ?_
            refine k_lv [0, 2] _ rfl ?_
            exact ih (7 - (i + 1)) (by omega) (i + 1) _ rfl (by rw [ev_50_16, nI_1]) (by omega)
          · skip
            refine k_iconst X (v := 0) dX2_areOfficesSound_48 (by decide) ?_
            exact k_zret X E (Or.inl rfl) dX2_areOfficesSound_49 (Nat.le_of_ble_eq_true rfl) (Nat.le_of_ble_eq_true rfl) (⟨rfl, by exfalso; first | (rcases hst9 with g | g <;> simp [kb, g] at c_36; done) | exact c_45 (by rw [ev_41_14]; exact hix9)⟩)
  refine k_lv [0, 1] _ rfl ?_
  exact L_2 _ 0 0 rfl nI_0.symm (Nat.zero_le _)
theorem kb_n (b : Bool) : (if kb b = 0 then (0 : Int32) else 1) = kb b := by cases b <;> rfl
set_option maxHeartbeats 1000000 in
set_option maxRecDepth 20000 in
theorem c_X3_prytanes (l : Launch) (e0 : Nat × Nat) (S : kS)  (A : Nat → Nat) (n : Nat) (cz : Nat → Nat) (hst : kSt A S) (hC : kLs e0 S (A 10) 1 n cz) (hn : n ≤ 40)  : kM l e0 yX3_prytanes cX3_prytanes 3 (Option.some Jvm.ClassFile.FieldType.int) ({ frames := 3, cells := 0, slots := 0, locals := 64 } : Room) 0 0 [.ref (A 2)] S (kQi (fun v S9 => S = S9 ∧ v = ksum (fun i => kb (!decide (S.I (cz i) 9 = 0) && decide (S.I (cz i) 1 - S.I (cz i) 1 / 4 * 4 = kvat S (A 41) (krem (S.I (A 1) 0) 40 / 10)))) n)) := by
  refine kMetE (by decide +kernel) (Nat.le_of_ble_eq_true rfl) (fun C he hl X E hm => ?_)
  have X : kX C RX3 cX3_prytanes 3 ({ frames := 3, cells := 0, slots := 0, locals := 64 } : Room) := X
  subst he hl
  show kG C 3 S 0 0 0 [(0, .ref (A 2))] []
  obtain ⟨F, hF⟩ : ∃ F : Nat → Int32, F = fun i => kb (!decide (S.I (cz i) 9 = 0) && decide (S.I (cz i) 1 - S.I (cz i) 1 / 4 * 4 = kvat S (A 41) (krem (S.I (A 1) 0) 40 / 10))) := ⟨_, rfl⟩
  refine k_iconst X (v := 0) dX3_prytanes_0 (by decide) ?_
  refine k_istore_n X [(1, .int 0), (0, .ref (A 2))] dX3_prytanes_1 rfl (by decide) rfl ?_
  refine k_iconst X (v := 0) dX3_prytanes_2 (by decide) ?_
  refine k_istore_n X [(2, .int 0), (1, .int 0), (0, .ref (A 2))] dX3_prytanes_3 rfl (by decide) rfl ?_
  have L_4 : ∀ (N : Nat) (i : Nat) (x y : Int32), n - i = N → x = nI i → y = ksum F i → i ≤ n → kG C 3 S 0 0 4 [(2, .int x), (1, .int y), (0, .ref (A 2))] [] := by
    intro N
    induction N using Nat.strongRecOn with
    | _ N ih =>
    intro i x y hMs h4_0 h4_1 h4_2
    subst h4_0 h4_1
    refine k_iload_n X (q := 0) dX3_prytanes_4 rfl rfl ?_
    refine k_aload_n X (q := 2) dX3_prytanes_5 rfl rfl ?_
    refine gX3_28s X (S := S) (st_2 hst).1 (st_2 hst).2 (sr_2_0 hst) dX3_prytanes_6 ?_
    refine gX3_84s X (S := S) (st_1 hst).1 (st_1 hst).2 (sr_1_12 hst) dX3_prytanes_9 ?_
    refine k_gotI X (vX3_64 X (S := S) ⟨(st_10 hst).1, (st_10 hst).2⟩ (c_Jx4a65c_size_8abf5 C.l C.e0 S (A 10) (st_10 hst)) (As := []) (rest := [.int (nI i)]) rfl rfl rfl rfl ⟨Nat.le_of_ble_eq_true rfl, Nat.le_of_ble_eq_true rfl⟩ (Nat.le_of_ble_eq_true rfl) ⟨Nat.le_of_ble_eq_true rfl, Nat.le_of_ble_eq_true rfl⟩ dX3_prytanes_12) (fun v_12_2 S_12_3 h_12_0 => ?_)
    obtain ⟨rfl, ev_12_2⟩ := h_12_0
    have hz_v_12_2 : nI n = v_12_2 := by rw [ev_12_2]; exact (hC).2.1.symm
    subst hz_v_12_2
    refine k_icmp_ge (tgt := 48) X dX3_prytanes_15 (by decide) (fun c_15 => ?_) (fun c_15 => ?_)
    · skip
      have hin : n = i := by have := ge_of_le c_15 (by omega); omega
      subst hin
      refine k_iload_n X (q := 1) dX3_prytanes_48 rfl rfl ?_
      exact k_iret X E dX3_prytanes_49 (Nat.le_of_ble_eq_true rfl) (Nat.le_of_ble_eq_true rfl) (⟨rfl, by rw [hF]⟩)
    · skip
      have hlt : i < n := lt_of_nle c_15 (by omega)
      refine k_iload_n X (q := 1) dX3_prytanes_18 rfl rfl ?_
      refine k_aload_n X (q := 2) dX3_prytanes_19 rfl rfl ?_
      refine k_aload_n X (q := 2) dX3_prytanes_20 rfl rfl ?_
      refine gX3_28s X (S := S) (st_2 hst).1 (st_2 hst).2 (sr_2_0 hst) dX3_prytanes_21 ?_
      refine gX3_84s X (S := S) (st_1 hst).1 (st_1 hst).2 (sr_1_12 hst) dX3_prytanes_24 ?_
      refine k_iload_n X (q := 0) dX3_prytanes_27 rfl rfl ?_
      refine k_gotQ X (vX3_67 X (S := S) ⟨(st_10 hst).1, (st_10 hst).2⟩ (c_Jx4a65c_get_915e3 C.l C.e0 S (A 10) 1 n i cz (hC) hlt) (As := [.int (nI i)]) (rest := [.ref (A 2), .int (ksum F i)]) rfl rfl rfl rfl ⟨Nat.le_of_ble_eq_true rfl, Nat.le_of_ble_eq_true rfl⟩ (Nat.le_of_ble_eq_true rfl) ⟨Nat.le_of_ble_eq_true rfl, Nat.le_of_ble_eq_true rfl⟩ dX3_prytanes_28) (fun r_28_5 S_28_6 h_28_3 => ?_)
      obtain ⟨rfl, er_28_5⟩ := h_28_3
      subst er_28_5
      refine tX3_71 X (S := S) ⟨(kLs.el (hC) hlt).1, (kLs.el (hC) hlt).2⟩ dX3_prytanes_31 ?_
      refine k_gotI X (vX3_134 X (S := S) ⟨(st_2 hst).1, (st_2 hst).2⟩ (c_X3_isPrytanis C.l C.e0 S (cz i) A hst ⟨(kLs.el (hC) hlt).1, (kLs.el (hC) hlt).2⟩) (As := [.ref (cz i)]) (rest := [.int (ksum F i)]) rfl rfl rfl rfl ⟨Nat.le_of_ble_eq_true rfl, Nat.le_of_ble_eq_true rfl⟩ (Nat.le_of_ble_eq_true rfl) ⟨Nat.le_of_ble_eq_true rfl, Nat.le_of_ble_eq_true rfl⟩ dX3_prytanes_34) (fun v_34_8 S_34_9 h_34_6 => ?_)
      obtain ⟨rfl, ev_34_8⟩ := h_34_6
      refine k_gotI X (vX3_137 X (S := S) (c_X11_asNumber C.l C.e0 S v_34_8 ) (As := [.int v_34_8]) (rest := [.int (ksum F i)]) rfl rfl rfl rfl ⟨Nat.le_of_ble_eq_true rfl, Nat.le_of_ble_eq_true rfl⟩ (Nat.le_of_ble_eq_true rfl) ⟨Nat.le_of_ble_eq_true rfl, Nat.le_of_ble_eq_true rfl⟩ dX3_prytanes_37) (fun v_37_11 S_37_12 h_37_9 => ?_)
      obtain ⟨rfl, ev_37_11⟩ := h_37_9
      refine k_iadd X dX3_prytanes_40 (fun v_40_13 ev_40_13 => ?_)
      refine k_istore_n X [(1, .int v_40_13), (2, .int (nI i)), (0, .ref (A 2))] dX3_prytanes_41 rfl (by decide) rfl ?_
      obtain ⟨v_42_14, ev_42_14⟩ : ∃ z : Int32, z = (nI i) + 1 := ⟨_, rfl⟩
      refine k_iinc X (q := 1) (v := v_42_14) [(2, .int v_42_14), (1, .int v_40_13), (0, .ref (A 2))] dX3_prytanes_42 rfl (by rw [ev_42_14]; rfl) (by decide) rfl ?_
      refine k_goto (tgt := 4) X dX3_prytanes_45 (by decide) ?_
      refine k_lv [0, 1, 2] _ rfl ?_
      exact ih (n - (i + 1)) (by omega) (i + 1) _ _ rfl (by rw [ev_42_14, nI_1]) (by rw [ev_40_13]; show _ = ksum F i + F i; refine congrArg (fun z => ksum F i + z) ?_; exact Eq.symm (by rw [hF]; (try subst_vars); first | exact (kb_n _).symm | exact kb_n _ | (simp_all [kb]; done))) (by omega)
  refine k_lv [0, 1, 2] _ rfl ?_
  exact L_4 _ 0 0 0 rfl nI_0.symm rfl (Nat.zero_le _)
theorem kor_s {f : Nat → Int32} {i : Nat} (h : f i = 0) : kor f (i + 1) = kor f i := by
  show kor f i ||| f i = kor f i
  rw [h]
  exact Int32.or_zero
set_option maxHeartbeats 1000000 in
set_option maxRecDepth 20000 in
theorem c_X3_tribes (l : Launch) (e0 : Nat × Nat) (S : kS)  (A : Nat → Nat) (n : Nat) (cz : Nat → Nat) (hst : kSt A S) (hC : kLs e0 S (A 10) 1 n cz) (hn : n ≤ 40)  : kM l e0 yX3_tribes cX3_tribes 4 (Option.some Jvm.ClassFile.FieldType.int) ({ frames := 3, cells := 0, slots := 0, locals := 64 } : Room) 0 0 [.ref (A 2)] S (kQi (fun v S9 => S = S9 ∧ v = kor (fun i => (if S.I (cz i) 9 = 0 then 0 else (1 : Int32) <<< ((S.I (cz i) 1 - S.I (cz i) 1 / 4 * 4) &&& 31))) n)) := by
  refine kMetE (by decide +kernel) (Nat.le_of_ble_eq_true rfl) (fun C he hl X E hm => ?_)
  have X : kX C RX3 cX3_tribes 4 ({ frames := 3, cells := 0, slots := 0, locals := 64 } : Room) := X
  subst he hl
  show kG C 4 S 0 0 0 [(0, .ref (A 2))] []
  obtain ⟨F, hF⟩ : ∃ F : Nat → Int32, F = fun i => (if S.I (cz i) 9 = 0 then 0 else (1 : Int32) <<< ((S.I (cz i) 1 - S.I (cz i) 1 / 4 * 4) &&& 31)) := ⟨_, rfl⟩
  refine k_iconst X (v := 0) dX3_tribes_0 (by decide) ?_
  refine k_istore_n X [(1, .int 0), (0, .ref (A 2))] dX3_tribes_1 rfl (by decide) rfl ?_
  refine k_iconst X (v := 0) dX3_tribes_2 (by decide) ?_
  refine k_istore_n X [(2, .int 0), (1, .int 0), (0, .ref (A 2))] dX3_tribes_3 rfl (by decide) rfl ?_
  have L_4 : ∀ (N : Nat) (i : Nat) (x y : Int32), n - i = N → x = nI i → y = kor F i → i ≤ n → kG C 4 S 0 0 4 [(2, .int x), (1, .int y), (0, .ref (A 2))] [] := by
    intro N
    induction N using Nat.strongRecOn with
    | _ N ih =>
    intro i x y hMs h4_0 h4_1 h4_2
    subst h4_0 h4_1
    refine k_iload_n X (q := 0) dX3_tribes_4 rfl rfl ?_
    refine k_aload_n X (q := 2) dX3_tribes_5 rfl rfl ?_
    refine gX3_28s X (S := S) (st_2 hst).1 (st_2 hst).2 (sr_2_0 hst) dX3_tribes_6 ?_
    refine gX3_84s X (S := S) (st_1 hst).1 (st_1 hst).2 (sr_1_12 hst) dX3_tribes_9 ?_
    refine k_gotI X (vX3_64 X (S := S) ⟨(st_10 hst).1, (st_10 hst).2⟩ (c_Jx4a65c_size_8abf5 C.l C.e0 S (A 10) (st_10 hst)) (As := []) (rest := [.int (nI i)]) rfl rfl rfl rfl ⟨Nat.le_of_ble_eq_true rfl, Nat.le_of_ble_eq_true rfl⟩ (Nat.le_of_ble_eq_true rfl) ⟨Nat.le_of_ble_eq_true rfl, Nat.le_of_ble_eq_true rfl⟩ dX3_tribes_12) (fun v_12_2 S_12_3 h_12_0 => ?_)
    obtain ⟨rfl, ev_12_2⟩ := h_12_0
    have hz_v_12_2 : nI n = v_12_2 := by rw [ev_12_2]; exact (hC).2.1.symm
    subst hz_v_12_2
    refine k_icmp_ge (tgt := 55) X dX3_tribes_15 (by decide) (fun c_15 => ?_) (fun c_15 => ?_)
    · skip
      have hin : n = i := by have := ge_of_le c_15 (by omega); omega
      subst hin
      refine k_iload_n X (q := 1) dX3_tribes_55 rfl rfl ?_
      exact k_iret X E dX3_tribes_56 (Nat.le_of_ble_eq_true rfl) (Nat.le_of_ble_eq_true rfl) (⟨rfl, by rw [hF]⟩)
    · skip
      have hlt : i < n := lt_of_nle c_15 (by omega)
      refine k_aload_n X (q := 2) dX3_tribes_18 rfl rfl ?_
      refine gX3_28s X (S := S) (st_2 hst).1 (st_2 hst).2 (sr_2_0 hst) dX3_tribes_19 ?_
      refine gX3_84s X (S := S) (st_1 hst).1 (st_1 hst).2 (sr_1_12 hst) dX3_tribes_22 ?_
      refine k_iload_n X (q := 0) dX3_tribes_25 rfl rfl ?_
      refine k_gotQ X (vX3_67 X (S := S) ⟨(st_10 hst).1, (st_10 hst).2⟩ (c_Jx4a65c_get_915e3 C.l C.e0 S (A 10) 1 n i cz (hC) hlt) (As := [.int (nI i)]) (rest := []) rfl rfl rfl rfl ⟨Nat.le_of_ble_eq_true rfl, Nat.le_of_ble_eq_true rfl⟩ (Nat.le_of_ble_eq_true rfl) ⟨Nat.le_of_ble_eq_true rfl, Nat.le_of_ble_eq_true rfl⟩ dX3_tribes_26) (fun r_26_5 S_26_6 h_26_3 => ?_)
      obtain ⟨rfl, er_26_5⟩ := h_26_3
      subst er_26_5
      refine tX3_71 X (S := S) ⟨(kLs.el (hC) hlt).1, (kLs.el (hC) hlt).2⟩ dX3_tribes_29 ?_
      refine k_astore_n X [(3, .ref (cz i)), (2, .int (nI i)), (1, .int (kor F i)), (0, .ref (A 2))] dX3_tribes_32 rfl (by decide) rfl ?_
      refine k_aload_n X (q := 0) dX3_tribes_33 rfl rfl ?_
      refine gX3_73 X (S := S) (kLs.el (hC) hlt).1 (kLs.el (hC) hlt).2 dX3_tribes_34 (fun v_34_7 ev_34_7 => ?_)
      refine k_if_eq (tgt := 49) X dX3_tribes_37 (by decide) (fun c_37 => ?_) (fun c_37 => ?_)
      · skip
        obtain ⟨v_49_8, ev_49_8⟩ : ∃ z : Int32, z = (nI i) + 1 := ⟨_, rfl⟩
        refine k_iinc X (q := 1) (v := v_49_8) [(2, .int v_49_8), (3, .ref (cz i)), (1, .int (kor F i)), (0, .ref (A 2))] dX3_tribes_49 rfl (by rw [ev_49_8]; rfl) (by decide) rfl ?_
        refine k_goto (tgt := 4) X dX3_tribes_52 (by decide) ?_
        refine k_lv [0, 2, 3] _ rfl ?_
        exact ih (n - (i + 1)) (by omega) (i + 1) _ _ rfl (by rw [ev_49_8, nI_1]) (by rw [kor_s (by rw [hF]; simp_all)]) (by omega)
      · skip
        refine k_iload_n X (q := 2) dX3_tribes_40 rfl rfl ?_
        refine k_iconst X (v := 1) dX3_tribes_41 (by decide) ?_
        refine k_aload_n X (q := 0) dX3_tribes_42 rfl rfl ?_
        refine k_gotI X (vX3_87 X (S := S) ⟨(kLs.el (hC) hlt).1, (kLs.el (hC) hlt).2⟩ (c_X1_tribe C.l C.e0 S (cz i) (kLs.el (hC) hlt)) (As := []) (rest := [.int 1, .int (kor F i)]) rfl rfl rfl rfl ⟨Nat.le_of_ble_eq_true rfl, Nat.le_of_ble_eq_true rfl⟩ (Nat.le_of_ble_eq_true rfl) ⟨Nat.le_of_ble_eq_true rfl, Nat.le_of_ble_eq_true rfl⟩ dX3_tribes_43) (fun v_43_10 S_43_11 h_43_8 => ?_)
        obtain ⟨rfl, ev_43_10⟩ := h_43_8
        refine k_ishl X dX3_tribes_46 (fun v_46_12 ev_46_12 => ?_)
        refine k_ior X dX3_tribes_47 (fun v_47_13 ev_47_13 => ?_)
        refine k_istore_n X [(1, .int v_47_13), (3, .ref (cz i)), (2, .int (nI i)), (0, .ref (A 2))] dX3_tribes_48 rfl (by decide) rfl ?_
        obtain ⟨v_49_14, ev_49_14⟩ : ∃ z : Int32, z = (nI i) + 1 := ⟨_, rfl⟩
        refine k_iinc X (q := 2) (v := v_49_14) [(2, .int v_49_14), (1, .int v_47_13), (3, .ref (cz i)), (0, .ref (A 2))] dX3_tribes_49 rfl (by rw [ev_49_14]; rfl) (by decide) rfl ?_
        refine k_goto (tgt := 4) X dX3_tribes_52 (by decide) ?_
        refine k_lv [0, 1, 3] _ rfl ?_
        exact ih (n - (i + 1)) (by omega) (i + 1) _ _ rfl (by rw [ev_49_14, nI_1]) (by rw [ev_47_13]; show _ = kor F i ||| F i; rw [hF]; simp_all) (by omega)
  refine k_lv [0, 1, 2] _ rfl ?_
  exact L_4 _ 0 0 0 rfl nI_0.symm rfl (Nat.zero_le _)
set_option maxHeartbeats 1000000 in
set_option maxRecDepth 20000 in
theorem c_X3_isChairSound (l : Launch) (e0 : Nat × Nat) (S : kS)  (A : Nat → Nat) (hst : kSt A S) (hch : ∀ c, S.R (A 1) 10 = some c → S.at c 1 ∧ S.I c 9 = 1 ∧ S.I c 1 - S.I c 1 / 4 * 4 = kvat S (A 41) (krem (S.I (A 1) 0) 40 / 10)) : kM l e0 yX3_isChairSound cX3_isChairSound 1 (Option.some Jvm.ClassFile.FieldType.boolean) ({ frames := 3, cells := 0, slots := 0, locals := 62 } : Room) 0 0 [.ref (A 2)] S (kQi (fun v S9 => S = S9 ∧ v = 1)) := by
  refine kMetE (by decide +kernel) (Nat.le_of_ble_eq_true rfl) (fun C he hl X E hm => ?_)
  have X : kX C RX3 cX3_isChairSound 1 ({ frames := 3, cells := 0, slots := 0, locals := 62 } : Room) := X
  subst he hl
  show kG C 1 S 0 0 0 [(0, .ref (A 2))] []
  refine k_aload_n X (q := 0) dX3_isChairSound_0 rfl rfl ?_
  refine gX3_28s X (S := S) (st_2 hst).1 (st_2 hst).2 (sr_2_0 hst) dX3_isChairSound_1 ?_
  refine gX3_141 X (S := S) (st_1 hst).1 (st_1 hst).2 dX3_isChairSound_4 (fun r_4_1 er_4_1 => ?_)
  refine k_ifnull (tgt := 24) X dX3_isChairSound_7 (by decide) (fun c_7 => ?_) (fun a_7_2 c_7 => ?_)
  · skip
    subst c_7
    refine k_iconst X (v := 1) dX3_isChairSound_24 (by decide) ?_
    refine k_goto (tgt := 29) X dX3_isChairSound_25 (by decide) ?_
    exact k_zret X E (Or.inr rfl) dX3_isChairSound_29 (Nat.le_of_ble_eq_true rfl) (Nat.le_of_ble_eq_true rfl) (⟨rfl, rfl⟩)
  · skip
    subst c_7
    obtain ⟨hat9, h9c, hpr9⟩ := hch a_7_2 er_4_1.symm
    refine k_aload_n X (q := 0) dX3_isChairSound_10 rfl rfl ?_
    refine k_aload_n X (q := 0) dX3_isChairSound_11 rfl rfl ?_
    refine gX3_28s X (S := S) (st_2 hst).1 (st_2 hst).2 (sr_2_0 hst) dX3_isChairSound_12 ?_
    refine gX3_141s X (S := S) (st_1 hst).1 (st_1 hst).2 er_4_1.symm dX3_isChairSound_15 ?_
    refine k_gotI X (vX3_134 X (S := S) ⟨(st_2 hst).1, (st_2 hst).2⟩ (c_X3_isPrytanis C.l C.e0 S a_7_2 A hst ⟨hat9.1, hat9.2⟩) (As := [.ref a_7_2]) (rest := []) rfl rfl rfl rfl ⟨Nat.le_of_ble_eq_true rfl, Nat.le_of_ble_eq_true rfl⟩ (Nat.le_of_ble_eq_true rfl) ⟨Nat.le_of_ble_eq_true rfl, Nat.le_of_ble_eq_true rfl⟩ dX3_isChairSound_18) (fun v_18_4 S_18_5 h_18_2 => ?_)
    obtain ⟨rfl, ev_18_4⟩ := h_18_2
    refine k_if_eq (tgt := 28) X dX3_isChairSound_21 (by decide) (fun c_21 => ?_) (fun c_21 => ?_)
    · skip
      rw [ev_18_4] at c_21
      refine k_iconst X (v := 0) dX3_isChairSound_28 (by decide) ?_
      exact k_zret X E (Or.inl rfl) dX3_isChairSound_29 (Nat.le_of_ble_eq_true rfl) (Nat.le_of_ble_eq_true rfl) (⟨rfl, by exfalso; simp [kb, h9c, hpr9] at c_21⟩)
    · skip
      rw [ev_18_4] at c_21
      refine k_iconst X (v := 1) dX3_isChairSound_24 (by decide) ?_
      refine k_goto (tgt := 29) X dX3_isChairSound_25 (by decide) ?_
      exact k_zret X E (Or.inr rfl) dX3_isChairSound_29 (Nat.le_of_ble_eq_true rfl) (Nat.le_of_ble_eq_true rfl) (⟨rfl, rfl⟩)
