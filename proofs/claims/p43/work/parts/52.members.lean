theorem kfill_0 : True := trivial
set_option maxHeartbeats 1000000 in
set_option maxRecDepth 20000 in
theorem c_X3_drawOrder (l : Launch) (e0 : Nat × Nat) (S : kS)  (A : Nat → Nat) (n : Nat) (cz : Nat → Nat) (T G Z : Nat) (h : kI e0 A n cz T G Z S)  (hb : T + 4 ≤ 900000 ∧ G + 0 ≤ 60000 ∧ Z + 0 ≤ 150000) : kM l e0 yX3_drawOrder cX3_drawOrder 5 none ({ frames := 1, cells := 0, slots := 0, locals := 22 } : Room) 0 0 [.ref (A 2)] S (kQv (fun S9 => kI e0 A n cz (T + 4) (G + 0) (Z + 0) S9 ∧ kKd A S S9 ∧ S9.R (A 1) 10 = S.R (A 1) 10)) := by
  refine kMetE (by decide +kernel) (Nat.le_of_ble_eq_true rfl) (fun C he hl X E hm => ?_)
  have X : kX C RX3 cX3_drawOrder 5 ({ frames := 1, cells := 0, slots := 0, locals := 22 } : Room) := X
  subst he hl
  show kG C 5 S 0 0 0 [(0, .ref (A 2))] []
  have hn := h.n40
  refine k_iconst X (v := 0) dX3_drawOrder_0 (by decide) ?_
  refine k_istore_n X [(1, .int 0), (0, .ref (A 2))] dX3_drawOrder_1 rfl (by decide) rfl ?_
  have L_2 : ∀ (N : Nat) (i : Nat) (x : Int32) (Si : kS), 4 - i = N → x = nI i → (i ≤ 4 ∧ kI C.e0 A n cz T G Z Si ∧ kKd A S Si ∧ Si.R (A 1) 10 = S.R (A 1) 10) → kG C 5 Si 0 0 2 [(1, .int x), (0, .ref (A 2))] [] := by
    intro N
    induction N using Nat.strongRecOn with
    | _ N ih =>
    intro i x Si hMs h2_0 h2_1
    subst h2_0
    obtain ⟨hBi, hIi, hKi, hci⟩ := h2_1
    refine k_iload_n X (q := 0) dX3_drawOrder_2 rfl rfl ?_
    refine k_iconst X (v := 4) dX3_drawOrder_3 (by decide) ?_
    refine k_icmp_ge (tgt := 20) X dX3_drawOrder_4 (by decide) (fun c_4 => ?_) (fun c_4 => ?_)
    · skip
      have hin : 4 = i := by have := ge_of_le (m := 4) c_4 (by omega); omega
      subst hin
      refine k_iconst X (v := 0) dX3_drawOrder_20 (by decide) ?_
      refine k_istore_n X [(1, .int 0), (0, .ref (A 2))] dX3_drawOrder_21 rfl (by decide) rfl ?_
      have L_22 : ∀ (N : Nat) (j : Nat) (x2 : Int32) (Sj : kS), 4 - j = N → x2 = nI j → (j ≤ 4 ∧ kI C.e0 A n cz (T + 1 * j) G Z Sj ∧ kKd A S Sj ∧ Sj.R (A 1) 10 = S.R (A 1) 10) → kG C 5 Sj 0 0 22 [(1, .int x2), (0, .ref (A 2))] [] := by
        intro N
        induction N using Nat.strongRecOn with
        | _ N ih22 =>
        intro j x2 Sj hMs h22_0 h22_1
        subst h22_0
        obtain ⟨hBj, hIj, hKj, hcj⟩ := h22_1
        refine k_iload_n X (q := 0) dX3_drawOrder_22 rfl rfl ?_
        refine k_iconst X (v := 4) dX3_drawOrder_23 (by decide) ?_
        refine k_icmp_ge (tgt := 111) X dX3_drawOrder_24 (by decide) (fun c_24 => ?_) (fun c_24 => ?_)
        · skip
          have hin : 4 = j := by have := ge_of_le (m := 4) c_24 (by omega); omega
          subst hin
          exact k_vret X E dX3_drawOrder_111 (Nat.le_of_ble_eq_true rfl) (Nat.le_of_ble_eq_true rfl) (⟨hIj.mono (by omega) (by omega) (by omega), hKj, hcj⟩)
        · skip
          have hltj : j < 4 := lt_of_nle (m := 4) c_24 (by omega)
          refine k_iconst X (v := 4) dX3_drawOrder_27 (by decide) ?_
          refine k_iload_n X (q := 0) dX3_drawOrder_28 rfl rfl ?_
          refine k_isub X dX3_drawOrder_29 (fun v_29_1 ev_29_1 => ?_)
          refine k_istore_n X [(2, .int v_29_1), (1, .int (nI j)), (0, .ref (A 2))] dX3_drawOrder_30 rfl (by decide) rfl ?_
          have hm9 : nI (4 - j) = v_29_1 := by rw [ev_29_1, show (4 : Int32) = nI 4 from rfl, pk_sub (by omega)]
          subst hm9
          refine k_iload_n X (q := 0) dX3_drawOrder_31 rfl rfl ?_
          refine k_iconst X (v := 1) dX3_drawOrder_32 (by decide) ?_
          refine k_icmp_le (tgt := 50) X dX3_drawOrder_33 (by decide) (fun c_33 => ?_) (fun c_33 => ?_)
          · skip
            refine k_iconst X (v := 0) dX3_drawOrder_50 (by decide) ?_
            show kG C 5 Sj 0 0 51 [(2, .int (nI (4 - j))), (1, .int (nI j)), (0, .ref (A 2))] [.int (nI 0)]
            obtain ⟨q, hq, hq0⟩ : ∃ q, q < 4 - j ∧ nI q = nI 0 := ⟨0, by omega, rfl⟩
            rw [← hq0]
            refine k_istore_n X [(3, .int (nI q)), (2, .int (nI (4 - j))), (1, .int (nI j)), (0, .ref (A 2))] dX3_drawOrder_51 rfl (by decide) rfl ?_
            refine k_aload_n X (q := 3) dX3_drawOrder_52 rfl rfl ?_
            refine gX3_9s X (S := Sj) (st_2 hIj.st).1 (st_2 hIj.st).2 (sr_2_1 hIj.st) dX3_drawOrder_53 ?_
            refine k_iload_n X (q := 2) dX3_drawOrder_56 rfl rfl ?_
            refine k_aload_n X (q := 3) dX3_drawOrder_57 rfl rfl ?_
            refine gX3_15s X (S := Sj) (st_2 hIj.st).1 (st_2 hIj.st).2 (sr_2_2 hIj.st) dX3_drawOrder_58 ?_
            refine k_iload_n X (q := 0) dX3_drawOrder_61 rfl rfl ?_
            refine k_gotI X (vX3_120 X (S := Sj) (c_X11_valueAt C.l C.e0 Sj (A 42) (nI q) (st_42 hIj.st) (sm_42 hIj.st)) (As := [.ref (A 42), .int (nI q)]) (rest := [.int (nI j), .ref (A 41)]) rfl rfl rfl rfl ⟨Nat.le_of_ble_eq_true rfl, Nat.le_of_ble_eq_true rfl⟩ (Nat.le_of_ble_eq_true rfl) ⟨Nat.le_of_ble_eq_true rfl, Nat.le_of_ble_eq_true rfl⟩ dX3_drawOrder_62) (fun v_62_3 S_62_4 h_62_1 => ?_)
            obtain ⟨rfl, ev_62_3⟩ := h_62_1
            refine k_gotV X (vX3_124 X (S := Sj) (c_X11_putAt C.l C.e0 Sj (A 41) (nI j) v_62_3 ⟨(st_41 hIj.st).1, (st_41 hIj.st).2⟩ (sm_41 hIj.st)) (As := [.ref (A 41), .int (nI j), .int v_62_3]) (rest := []) rfl rfl rfl rfl ⟨Nat.le_of_ble_eq_true rfl, Nat.le_of_ble_eq_true rfl⟩ (Nat.le_of_ble_eq_true rfl) ⟨Nat.le_of_ble_eq_true rfl, Nat.le_of_ble_eq_true rfl⟩ dX3_drawOrder_65) (fun S_65_6 h_65_4 => ?_)
            subst h_65_4
            obtain ⟨hI_7, hx_7⟩ := hIj.patd (x := (nI j)) (v := v_62_3) (so_41 hIj.st) (by omega)
            have hK_7 := (hKj).tr hx_7
            refine k_iload_n X (q := 0) dX3_drawOrder_68 rfl rfl ?_
            refine k_istore X [(4, .int (nI q)), (3, .int (nI q)), (2, .int (nI (4 - j))), (1, .int (nI j)), (0, .ref (A 2))] dX3_drawOrder_69 (by decide) rfl ?_
            have L_71 : ∀ (N : Nat) (p : Nat) (x3 : Int32) (Sp : kS), (4 - j) - p = N → x3 = nI p → (p ≤ (4 - j) ∧ kI C.e0 A n cz (T + 1 * j) G Z Sp ∧ kKd A S Sp ∧ Sp.R (A 1) 10 = S.R (A 1) 10) → kG C 5 Sp 0 0 71 [(4, .int x3), (3, .int (nI q)), (2, .int (nI (4 - j))), (1, .int (nI j)), (0, .ref (A 2))] [] := by
              intro N
              induction N using Nat.strongRecOn with
              | _ N ih71 =>
              intro p x3 Sp hMs h71_0 h71_1
              subst h71_0
              obtain ⟨hBp, hIp, hKp, hcp⟩ := h71_1
              refine k_iload X (q := 0) dX3_drawOrder_71 rfl ?_
              refine k_iconst X (v := 1) dX3_drawOrder_73 (by decide) ?_
              refine k_iadd X dX3_drawOrder_74 (fun v_74_8 ev_74_8 => ?_)
              refine k_iload_n X (q := 2) dX3_drawOrder_75 rfl rfl ?_
              have hv9 : nI (p + 1) = v_74_8 := by rw [ev_74_8, nI_1]
              subst hv9
              refine k_icmp_ge (tgt := 105) X dX3_drawOrder_76 (by decide) (fun c_76 => ?_) (fun c_76 => ?_)
              · skip
                have hgep : 4 - j ≤ p + 1 := ge_of_le c_76 (by omega)
                obtain ⟨v_105_9, ev_105_9⟩ : ∃ z : Int32, z = (nI j) + 1 := ⟨_, rfl⟩
                refine k_iinc X (q := 3) (v := v_105_9) [(1, .int v_105_9), (4, .int (nI p)), (3, .int (nI q)), (2, .int (nI (4 - j))), (0, .ref (A 2))] dX3_drawOrder_105 rfl (by rw [ev_105_9]; rfl) (by decide) rfl ?_
                refine k_goto (tgt := 22) X dX3_drawOrder_108 (by decide) ?_
                refine k_lv [0, 4] _ rfl ?_
                exact ih22 (4 - (j + 1)) (by omega) (j + 1) _ _ rfl (by rw [ev_105_9, nI_1]) ⟨by omega, hIp.mono (by omega) (by omega) (by omega), hKp, hcp⟩
              · skip
                have hltp : p + 1 < 4 - j := lt_of_nle c_76 (by omega)
                refine k_aload_n X (q := 4) dX3_drawOrder_79 rfl rfl ?_
                refine gX3_15s X (S := Sp) (st_2 hIp.st).1 (st_2 hIp.st).2 (sr_2_2 hIp.st) dX3_drawOrder_80 ?_
                refine k_iload X (q := 0) dX3_drawOrder_83 rfl ?_
                refine k_aload_n X (q := 4) dX3_drawOrder_85 rfl rfl ?_
                refine gX3_15s X (S := Sp) (st_2 hIp.st).1 (st_2 hIp.st).2 (sr_2_2 hIp.st) dX3_drawOrder_86 ?_
                refine k_iload X (q := 0) dX3_drawOrder_89 rfl ?_
                refine k_iconst X (v := 1) dX3_drawOrder_91 (by decide) ?_
                refine k_iadd X dX3_drawOrder_92 (fun v_92_10 ev_92_10 => ?_)
                refine k_gotI X (vX3_120 X (S := Sp) (c_X11_valueAt C.l C.e0 Sp (A 42) v_92_10 (st_42 hIp.st) (sm_42 hIp.st)) (As := [.ref (A 42), .int v_92_10]) (rest := [.int (nI p), .ref (A 42)]) rfl rfl rfl rfl ⟨Nat.le_of_ble_eq_true rfl, Nat.le_of_ble_eq_true rfl⟩ (Nat.le_of_ble_eq_true rfl) ⟨Nat.le_of_ble_eq_true rfl, Nat.le_of_ble_eq_true rfl⟩ dX3_drawOrder_93) (fun v_93_12 S_93_13 h_93_10 => ?_)
                obtain ⟨rfl, ev_93_12⟩ := h_93_10
                refine k_gotV X (vX3_124 X (S := Sp) (c_X11_putAt C.l C.e0 Sp (A 42) (nI p) v_93_12 ⟨(st_42 hIp.st).1, (st_42 hIp.st).2⟩ (sm_42 hIp.st)) (As := [.ref (A 42), .int (nI p), .int v_93_12]) (rest := []) rfl rfl rfl rfl ⟨Nat.le_of_ble_eq_true rfl, Nat.le_of_ble_eq_true rfl⟩ (Nat.le_of_ble_eq_true rfl) ⟨Nat.le_of_ble_eq_true rfl, Nat.le_of_ble_eq_true rfl⟩ dX3_drawOrder_96) (fun S_96_15 h_96_13 => ?_)
                subst h_96_13
                obtain ⟨hI_16, hx_16⟩ := hIp.patd (x := (nI p)) (v := v_93_12) (so_42 hIp.st) (by omega)
                have hK_16 := (hKp).tr hx_16
                obtain ⟨v_99_17, ev_99_17⟩ : ∃ z : Int32, z = (nI p) + 1 := ⟨_, rfl⟩
                refine k_iinc X (q := 0) (v := v_99_17) [(4, .int v_99_17), (3, .int (nI q)), (2, .int (nI (4 - j))), (1, .int (nI j)), (0, .ref (A 2))] dX3_drawOrder_99 rfl (by rw [ev_99_17]; rfl) (by decide) rfl ?_
                refine k_goto (tgt := 71) X dX3_drawOrder_102 (by decide) ?_
                refine k_lv [0, 1, 2, 3, 4] _ rfl ?_
                exact ih71 ((4 - j) - (p + 1)) (by omega) (p + 1) _ _ rfl (by rw [ev_99_17, nI_1]) ⟨by omega, hI_16.mono (by omega) (by omega) (by omega), hK_16, (by rw [kpat_R]; exact hcp)⟩
            refine k_lv [0, 1, 2, 3, 4] _ rfl ?_
            exact L_71 _ q _ _ rfl rfl ⟨by omega, hI_7.mono (by omega) (by omega) (by omega), hK_7, (by rw [kpat_R]; (first | exact hcj | (unfold kdraw; simp only [uI_R]; exact hcj)))⟩
          · skip
            refine k_aload_n X (q := 2) dX3_drawOrder_36 rfl rfl ?_
            refine gX3_28s X (S := Sj) (st_2 hIj.st).1 (st_2 hIj.st).2 (sr_2_0 hIj.st) dX3_drawOrder_37 ?_
            refine gX3_54s X (S := Sj) (st_1 hIj.st).1 (st_1 hIj.st).2 (sr_1_11 hIj.st) dX3_drawOrder_40 ?_
            refine k_iload_n X (q := 0) dX3_drawOrder_43 rfl rfl ?_
            refine k_gotI X (vX3_116 X (S := Sj) ⟨(st_7 hIj.st).1, (st_7 hIj.st).2⟩ (c_X6_drawOneOf C.l C.e0 Sj (nI (4 - j)) A hIj.st ) (As := [.int (nI (4 - j))]) (rest := []) rfl rfl rfl rfl ⟨Nat.le_of_ble_eq_true rfl, Nat.le_of_ble_eq_true rfl⟩ (Nat.le_of_ble_eq_true rfl) ⟨Nat.le_of_ble_eq_true rfl, Nat.le_of_ble_eq_true rfl⟩ dX3_drawOrder_44) (fun v_44_19 S_44_20 h_44_17 => ?_)
            obtain ⟨rfl, ev_44_19⟩ := h_44_17
            obtain ⟨hI_21, hx_21⟩ := hIj.draw (by omega)
            have hK_21 := (hKj).tr hx_21.d
            refine k_goto (tgt := 51) X dX3_drawOrder_47 (by decide) ?_
            obtain ⟨q, -, hq, hqv⟩ := kplace hIj.lu.1 (m := 4 - j) (by omega)
            replace hq := hq (by omega)
            rw [hqv] at ev_44_19
            subst ev_44_19
            refine k_istore_n X [(3, .int (nI q)), (2, .int (nI (4 - j))), (1, .int (nI j)), (0, .ref (A 2))] dX3_drawOrder_51 rfl (by decide) rfl ?_
            refine k_aload_n X (q := 3) dX3_drawOrder_52 rfl rfl ?_
            refine gX3_9s X (S := (kdraw Sj A)) (st_2 hI_21.st).1 (st_2 hI_21.st).2 (sr_2_1 hI_21.st) dX3_drawOrder_53 ?_
            refine k_iload_n X (q := 2) dX3_drawOrder_56 rfl rfl ?_
            refine k_aload_n X (q := 3) dX3_drawOrder_57 rfl rfl ?_
            refine gX3_15s X (S := (kdraw Sj A)) (st_2 hI_21.st).1 (st_2 hI_21.st).2 (sr_2_2 hI_21.st) dX3_drawOrder_58 ?_
            refine k_iload_n X (q := 0) dX3_drawOrder_61 rfl rfl ?_
            refine k_gotI X (vX3_120 X (S := (kdraw Sj A)) (c_X11_valueAt C.l C.e0 (kdraw Sj A) (A 42) (nI q) (st_42 hI_21.st) (sm_42 hI_21.st)) (As := [.ref (A 42), .int (nI q)]) (rest := [.int (nI j), .ref (A 41)]) rfl rfl rfl rfl ⟨Nat.le_of_ble_eq_true rfl, Nat.le_of_ble_eq_true rfl⟩ (Nat.le_of_ble_eq_true rfl) ⟨Nat.le_of_ble_eq_true rfl, Nat.le_of_ble_eq_true rfl⟩ dX3_drawOrder_62) (fun v_62_23 S_62_24 h_62_21 => ?_)
            obtain ⟨rfl, ev_62_23⟩ := h_62_21
            refine k_gotV X (vX3_124 X (S := (kdraw Sj A)) (c_X11_putAt C.l C.e0 (kdraw Sj A) (A 41) (nI j) v_62_23 ⟨(st_41 hI_21.st).1, (st_41 hI_21.st).2⟩ (sm_41 hI_21.st)) (As := [.ref (A 41), .int (nI j), .int v_62_23]) (rest := []) rfl rfl rfl rfl ⟨Nat.le_of_ble_eq_true rfl, Nat.le_of_ble_eq_true rfl⟩ (Nat.le_of_ble_eq_true rfl) ⟨Nat.le_of_ble_eq_true rfl, Nat.le_of_ble_eq_true rfl⟩ dX3_drawOrder_65) (fun S_65_26 h_65_24 => ?_)
            subst h_65_24
            obtain ⟨hI_27, hx_27⟩ := hI_21.patd (x := (nI j)) (v := v_62_23) (so_41 hI_21.st) (by omega)
            have hK_27 := (hK_21).tr hx_27
            refine k_iload_n X (q := 0) dX3_drawOrder_68 rfl rfl ?_
            refine k_istore X [(4, .int (nI q)), (3, .int (nI q)), (2, .int (nI (4 - j))), (1, .int (nI j)), (0, .ref (A 2))] dX3_drawOrder_69 (by decide) rfl ?_
            have L_71 : ∀ (N : Nat) (p : Nat) (x3 : Int32) (Sp : kS), (4 - j) - p = N → x3 = nI p → (p ≤ (4 - j) ∧ kI C.e0 A n cz ((T + 1 * j) + 1) G Z Sp ∧ kKd A S Sp ∧ Sp.R (A 1) 10 = S.R (A 1) 10) → kG C 5 Sp 0 0 71 [(4, .int x3), (3, .int (nI q)), (2, .int (nI (4 - j))), (1, .int (nI j)), (0, .ref (A 2))] [] := by
              intro N
              induction N using Nat.strongRecOn with
              | _ N ih71 =>
              intro p x3 Sp hMs h71_0 h71_1
              subst h71_0
              obtain ⟨hBp, hIp, hKp, hcp⟩ := h71_1
              refine k_iload X (q := 0) dX3_drawOrder_71 rfl ?_
              refine k_iconst X (v := 1) dX3_drawOrder_73 (by decide) ?_
              refine k_iadd X dX3_drawOrder_74 (fun v_74_28 ev_74_28 => ?_)
              refine k_iload_n X (q := 2) dX3_drawOrder_75 rfl rfl ?_
              have hv9 : nI (p + 1) = v_74_28 := by rw [ev_74_28, nI_1]
              subst hv9
              refine k_icmp_ge (tgt := 105) X dX3_drawOrder_76 (by decide) (fun c_76 => ?_) (fun c_76 => ?_)
              · skip
                have hgep : 4 - j ≤ p + 1 := ge_of_le c_76 (by omega)
                obtain ⟨v_105_29, ev_105_29⟩ : ∃ z : Int32, z = (nI j) + 1 := ⟨_, rfl⟩
                refine k_iinc X (q := 3) (v := v_105_29) [(1, .int v_105_29), (4, .int (nI p)), (3, .int (nI q)), (2, .int (nI (4 - j))), (0, .ref (A 2))] dX3_drawOrder_105 rfl (by rw [ev_105_29]; rfl) (by decide) rfl ?_
                refine k_goto (tgt := 22) X dX3_drawOrder_108 (by decide) ?_
                refine k_lv [0, 4] _ rfl ?_
                exact ih22 (4 - (j + 1)) (by omega) (j + 1) _ _ rfl (by rw [ev_105_29, nI_1]) ⟨by omega, hIp.mono (by omega) (by omega) (by omega), hKp, hcp⟩
              · skip
                have hltp : p + 1 < 4 - j := lt_of_nle c_76 (by omega)
                refine k_aload_n X (q := 4) dX3_drawOrder_79 rfl rfl ?_
                refine gX3_15s X (S := Sp) (st_2 hIp.st).1 (st_2 hIp.st).2 (sr_2_2 hIp.st) dX3_drawOrder_80 ?_
                refine k_iload X (q := 0) dX3_drawOrder_83 rfl ?_
                refine k_aload_n X (q := 4) dX3_drawOrder_85 rfl rfl ?_
                refine gX3_15s X (S := Sp) (st_2 hIp.st).1 (st_2 hIp.st).2 (sr_2_2 hIp.st) dX3_drawOrder_86 ?_
                refine k_iload X (q := 0) dX3_drawOrder_89 rfl ?_
                refine k_iconst X (v := 1) dX3_drawOrder_91 (by decide) ?_
                refine k_iadd X dX3_drawOrder_92 (fun v_92_30 ev_92_30 => ?_)
                refine k_gotI X (vX3_120 X (S := Sp) (c_X11_valueAt C.l C.e0 Sp (A 42) v_92_30 (st_42 hIp.st) (sm_42 hIp.st)) (As := [.ref (A 42), .int v_92_30]) (rest := [.int (nI p), .ref (A 42)]) rfl rfl rfl rfl ⟨Nat.le_of_ble_eq_true rfl, Nat.le_of_ble_eq_true rfl⟩ (Nat.le_of_ble_eq_true rfl) ⟨Nat.le_of_ble_eq_true rfl, Nat.le_of_ble_eq_true rfl⟩ dX3_drawOrder_93) (fun v_93_32 S_93_33 h_93_30 => ?_)
                obtain ⟨rfl, ev_93_32⟩ := h_93_30
                refine k_gotV X (vX3_124 X (S := Sp) (c_X11_putAt C.l C.e0 Sp (A 42) (nI p) v_93_32 ⟨(st_42 hIp.st).1, (st_42 hIp.st).2⟩ (sm_42 hIp.st)) (As := [.ref (A 42), .int (nI p), .int v_93_32]) (rest := []) rfl rfl rfl rfl ⟨Nat.le_of_ble_eq_true rfl, Nat.le_of_ble_eq_true rfl⟩ (Nat.le_of_ble_eq_true rfl) ⟨Nat.le_of_ble_eq_true rfl, Nat.le_of_ble_eq_true rfl⟩ dX3_drawOrder_96) (fun S_96_35 h_96_33 => ?_)
                subst h_96_33
                obtain ⟨hI_36, hx_36⟩ := hIp.patd (x := (nI p)) (v := v_93_32) (so_42 hIp.st) (by omega)
                have hK_36 := (hKp).tr hx_36
                obtain ⟨v_99_37, ev_99_37⟩ : ∃ z : Int32, z = (nI p) + 1 := ⟨_, rfl⟩
                refine k_iinc X (q := 0) (v := v_99_37) [(4, .int v_99_37), (3, .int (nI q)), (2, .int (nI (4 - j))), (1, .int (nI j)), (0, .ref (A 2))] dX3_drawOrder_99 rfl (by rw [ev_99_37]; rfl) (by decide) rfl ?_
                refine k_goto (tgt := 71) X dX3_drawOrder_102 (by decide) ?_
                refine k_lv [0, 1, 2, 3, 4] _ rfl ?_
                exact ih71 ((4 - j) - (p + 1)) (by omega) (p + 1) _ _ rfl (by rw [ev_99_37, nI_1]) ⟨by omega, hI_36.mono (by omega) (by omega) (by omega), hK_36, (by rw [kpat_R]; exact hcp)⟩
            refine k_lv [0, 1, 2, 3, 4] _ rfl ?_
            exact L_71 _ q _ _ rfl rfl ⟨by omega, hI_27.mono (by omega) (by omega) (by omega), hK_27, (by rw [kpat_R]; (first | exact hcj | (unfold kdraw; simp only [uI_R]; exact hcj)))⟩
      refine k_lv [0, 1] _ rfl ?_
      exact L_22 _ 0 0 _ rfl nI_0.symm ⟨by omega, hIi.mono (by omega) (by omega) (by omega), hKi, hci⟩
    · skip
      have hlti : i < 4 := lt_of_nle (m := 4) c_4 (by omega)
      refine k_aload_n X (q := 1) dX3_drawOrder_7 rfl rfl ?_
      refine gX3_15s X (S := Si) (st_2 hIi.st).1 (st_2 hIi.st).2 (sr_2_2 hIi.st) dX3_drawOrder_8 ?_
      refine k_iload_n X (q := 0) dX3_drawOrder_11 rfl rfl ?_
      refine k_iload_n X (q := 0) dX3_drawOrder_12 rfl rfl ?_
      refine k_iast X (S := Si) (st_42 hIi.st).1 (st_42 hIi.st).2 (show vp_in (nI i) (Si.N (A 42)) from by rw [sn_42 hIi.st]; exact vp_in_nI (by omega) (by omega)) dX3_drawOrder_13 ?_
      obtain ⟨hI_38, hx_38⟩ := (⟨hIi.fI (so_42 hIi.st) (by unfold pSM; omega) (by unfold pVM pCi pHo pCh pLe pMy pMs pOf; omega) (by unfold pLu; omega), (hIi.fIk (so_42 hIi.st) (by unfold pKe; omega)).d⟩ : _ ∧ kKd A Si (Si.uI (A 42) (nI i).toNatClampNeg (nI i)))
      have hK_38 := (hKi).tr hx_38
      obtain ⟨v_14_39, ev_14_39⟩ : ∃ z : Int32, z = (nI i) + 1 := ⟨_, rfl⟩
      refine k_iinc X (q := 0) (v := v_14_39) [(1, .int v_14_39), (0, .ref (A 2))] dX3_drawOrder_14 rfl (by rw [ev_14_39]; rfl) (by decide) rfl ?_
      refine k_goto (tgt := 2) X dX3_drawOrder_17 (by decide) ?_
      refine k_lv [0, 1] _ rfl ?_
      exact ih (4 - (i + 1)) (by omega) (i + 1) _ _ rfl (by rw [ev_14_39, nI_1]) ⟨by omega, hI_38.mono (by omega) (by omega) (by omega), hK_38, (by rw [uI_R]; exact hci)⟩
  refine k_lv [0, 1] _ rfl ?_
  exact L_2 _ 0 0 _ rfl nI_0.symm ⟨by omega, h.mono (by omega) (by omega) (by omega), kKe.rf.d, rfl⟩
