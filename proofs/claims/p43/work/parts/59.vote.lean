set_option maxHeartbeats 1000000 in
set_option maxRecDepth 20000 in
theorem c_X0_vote (l : Launch) (e0 : Nat × Nat) (S : kS)  (A : Nat → Nat) (n : Nat) (cz : Nat → Nat) (T G Z : Nat) (h : kI e0 A n cz T G Z S)  (hb : T + 1932 ≤ 900000 ∧ G + 0 ≤ 60000 ∧ Z + 0 ≤ 150000) : kM l e0 yX0_vote cX0_vote 6 (Option.some Jvm.ClassFile.FieldType.int) ({ frames := 11, cells := 594, slots := 31798, locals := 286 } : Room) 594 31798 [.ref (A 4)] S (kQi (fun v S9 => kI e0 A n cz (T + 1932) (G + 0) (Z + 0) S9 ∧ kKe A S S9)) := by
  refine kMetE (by decide +kernel) (Nat.le_of_ble_eq_true rfl) (fun C he hl X E hm => ?_)
  have X : kX C RX0 cX0_vote 6 ({ frames := 11, cells := 594, slots := 31798, locals := 286 } : Room) := X
  subst he hl
  show kG C 6 S 0 0 0 [(0, .ref (A 4))] []
  have hn := h.n40
  refine k_aload_n X (q := 0) dX0_vote_0 rfl rfl ?_
  refine k_aload_n X (q := 0) dX0_vote_1 rfl rfl ?_
  refine gX0_38s X (S := S) (st_4 h.st).1 (st_4 h.st).2 (sr_4_0 h.st) dX0_vote_2 ?_
  refine gX0_101 X (S := S) (st_1 h.st).1 (st_1 h.st).2 dX0_vote_5 (fun v_5_1 ev_5_1 => ?_)
  refine pX0_31 X (S := S) (st_4 h.st).1 (st_4 h.st).2 dX0_vote_8 ?_
  obtain ⟨hI_2, hx_2⟩ := (⟨h.fI (i := 7) (v := v_5_1) (so_4 h.st) (by unfold pSM; omega) (by unfold pVM pCi pHo pCh pLe pMy pMs pOf; omega) (by unfold pLu; omega), h.fIk (i := 7) (v := v_5_1) (so_4 h.st) (by unfold pKe; omega)⟩ : _ ∧ _)
  have hK_2 := (kKe.rf).tr hx_2
  refine k_aload_n X (q := 0) dX0_vote_11 rfl rfl ?_
  obtain ⟨mg0, xg0, hLg0, -, -⟩ := hI_2.cl (r := 20) (by unfold clR; omega)
  refine k_gotV X (vX0_108 X (S := (S.uI (A 4) 7 v_5_1)) ⟨(st_4 hI_2.st).1, (st_4 hI_2.st).2⟩ (c_X0_gatherPresent C.l C.e0 (S.uI (A 4) 7 v_5_1) A n cz hI_2.st hI_2.hC hn hI_2.oc mg0 xg0 hLg0) (As := []) (rest := []) rfl rfl rfl rfl ⟨Nat.le_of_ble_eq_true rfl, Nat.le_of_ble_eq_true rfl⟩ (Nat.le_of_ble_eq_true rfl) ⟨(by show _ ≤ 594; omega), (by show _ ≤ 31798; omega)⟩ dX0_vote_12) (fun S_12_4 h_12_2 => ?_)
  obtain ⟨hfg, xg, cg, hlg, heg⟩ := h_12_2
  have hmg := kcnt_le (kpre (S.uI (A 4) 7 v_5_1) A cz) n
  obtain ⟨hI_5, hx_5⟩ := hI_2.gath hfg hlg heg (by omega)
  have hK_5 := (hK_2).tr hx_5
  refine k_aload_n X (q := 0) dX0_vote_15 rfl rfl ?_
  refine gX0_38s X (S := S_12_4) (st_4 hI_5.st).1 (st_4 hI_5.st).2 (sr_4_0 hI_5.st) dX0_vote_16 ?_
  refine k_gotI X (vX0_115 X (S := S_12_4) ⟨(st_1 hI_5.st).1, (st_1 hI_5.st).2⟩ (c_X2_full C.l C.e0 S_12_4  A n cz hI_5.st hI_5.hC hn ) (As := []) (rest := []) rfl rfl rfl rfl ⟨Nat.le_of_ble_eq_true rfl, Nat.le_of_ble_eq_true rfl⟩ (Nat.le_of_ble_eq_true rfl) ⟨(by show _ ≤ 594; omega), (by show _ ≤ 31798; omega)⟩ dX0_vote_19) (fun v_19_7 S_19_8 h_19_5 => ?_)
  obtain ⟨rfl, ev_19_7⟩ := h_19_5
  refine k_istore_n X [(1, .int v_19_7), (0, .ref (A 4))] dX0_vote_22 rfl (by decide) rfl ?_
  refine k_aload_n X (q := 1) dX0_vote_23 rfl rfl ?_
  refine gX0_38s X (S := S_12_4) (st_4 hI_5.st).1 (st_4 hI_5.st).2 (sr_4_0 hI_5.st) dX0_vote_24 ?_
  refine k_aload_n X (q := 1) dX0_vote_27 rfl rfl ?_
  refine gX0_25s X (S := S_12_4) (st_4 hI_5.st).1 (st_4 hI_5.st).2 (sr_4_5 hI_5.st) dX0_vote_28 ?_
  refine k_gotI X (vX0_84 X (S := S_12_4) ⟨(st_20 hI_5.st).1, (st_20 hI_5.st).2⟩ (c_Jx4a65c_size_8abf5 C.l C.e0 S_12_4 (A 20) (st_20 hI_5.st)) (As := []) (rest := [.ref (A 1)]) rfl rfl rfl rfl ⟨Nat.le_of_ble_eq_true rfl, Nat.le_of_ble_eq_true rfl⟩ (Nat.le_of_ble_eq_true rfl) ⟨(by show _ ≤ 594; omega), (by show _ ≤ 31798; omega)⟩ dX0_vote_31) (fun v_31_10 S_31_11 h_31_8 => ?_)
  obtain ⟨rfl, ev_31_10⟩ := h_31_8
  have hz_v_31_10 : nI (kcnt (kpre (S.uI (A 4) 7 v_5_1) A cz) n) = v_31_10 := by rw [ev_31_10]; exact (hlg.s).2.1.symm
  subst hz_v_31_10
  refine k_iconst X (v := 4) dX0_vote_34 (by decide) ?_
  refine k_idiv X dX0_vote_35 (by decide) (fun v_35_12 ev_35_12 => ?_)
  have hv9 : nI (kcnt (kpre (S.uI (A 4) 7 v_5_1) A cz) n / 4) = v_35_12 := by rw [ev_35_12, show (4 : Int32) = nI 4 from rfl, pk_div (by omega) (by omega) (by omega)]
  subst hv9
  refine k_gotI X (vX0_122 X (S := S_12_4) ⟨(st_1 hI_5.st).1, (st_1 hI_5.st).2⟩ (c_X2_payOut C.l C.e0 S_12_4 (nI (kcnt (kpre (S.uI (A 4) 7 v_5_1) A cz) n / 4)) A hI_5.st ) (As := [.int (nI (kcnt (kpre (S.uI (A 4) 7 v_5_1) A cz) n / 4))]) (rest := []) rfl rfl rfl rfl ⟨Nat.le_of_ble_eq_true rfl, Nat.le_of_ble_eq_true rfl⟩ (Nat.le_of_ble_eq_true rfl) ⟨(by show _ ≤ 594; omega), (by show _ ≤ 31798; omega)⟩ dX0_vote_36) (fun v_36_14 S_36_15 h_36_12 => ?_)
  obtain ⟨rfl, ev_36_14⟩ := h_36_12
  obtain ⟨hI_16, hx_16⟩ := hI_5.pay (x := (nI (kcnt (kpre (S.uI (A 4) 7 v_5_1) A cz) n / 4))) (by rw [nI_toInt (by omega)]; omega) (by omega)
  have hK_16 := (hK_5).tr hx_16
  refine k_pop X dX0_vote_39 rfl ?_
  refine k_iconst X (v := 0) dX0_vote_40 (by decide) ?_
  refine k_istore_n X [(2, .int 0), (1, .int v_19_7), (0, .ref (A 4))] dX0_vote_41 rfl (by decide) rfl ?_
  refine k_iconst X (v := 0) dX0_vote_42 (by decide) ?_
  refine k_istore_n X [(3, .int 0), (2, .int 0), (1, .int v_19_7), (0, .ref (A 4))] dX0_vote_43 rfl (by decide) rfl ?_
  refine k_room (k' := 0 + 6 + 0 + 0 + 0 + 49 * 0) (n' := 0 + 202 + 0 + 0 + 0 + 2633 * 0) (by omega) (by omega) ?_
  have L_44 : ∀ (N : Nat) (i : Nat) (x : Int32) (Si : kS) (w9 y9 : Int32), 12 - i = N → x = nI i → (i ≤ 12 ∧ kI C.e0 A n cz (T + 161 * i) G Z Si ∧ kKe A S Si) → kG C 6 Si (0 + 6 + 0 + 0 + 0 + 49 * i) (0 + 202 + 0 + 0 + 0 + 2633 * i) 44 [(3, .int x), (2, .int w9), (1, .int y9), (0, .ref (A 4))] [] := by
    intro N
    induction N using Nat.strongRecOn with
    | _ N ih =>
    intro i x Si w9 y9 hMs h44_0 h44_1
    subst h44_0
    obtain ⟨hBi, hIi, hKi⟩ := h44_1
    obtain ⟨ma, xa, hLa, hma, hxa⟩ := hIi.ml.1
    obtain ⟨mp, xp, hLp, hmp, hxp⟩ := hIi.cl (r := 20) (by unfold clR; omega)
    refine k_iload_n X (q := 0) dX0_vote_44 rfl rfl ?_
    refine k_aload_n X (q := 3) dX0_vote_45 rfl rfl ?_
    refine gX0_12s X (S := Si) (st_4 hIi.st).1 (st_4 hIi.st).2 (sr_4_2 hIi.st) dX0_vote_46 ?_
    refine k_gotI X (vX0_84 X (S := Si) ⟨(st_18 hIi.st).1, (st_18 hIi.st).2⟩ (c_Jx4a65c_size_8abf5 C.l C.e0 Si (A 18) (st_18 hIi.st)) (As := []) (rest := [.int (nI i)]) rfl rfl rfl rfl ⟨Nat.le_of_ble_eq_true rfl, Nat.le_of_ble_eq_true rfl⟩ (Nat.le_of_ble_eq_true rfl) ⟨(by show _ ≤ 594; omega), (by show _ ≤ 31798; omega)⟩ dX0_vote_49) (fun v_49_18 S_49_19 h_49_16 => ?_)
    obtain ⟨rfl, ev_49_18⟩ := h_49_16
    have hz_v_49_18 : nI ma = v_49_18 := by rw [ev_49_18]; exact (hLa).2.1.symm
    subst hz_v_49_18
    refine k_icmp_ge (tgt := 118) X dX0_vote_52 (by decide) (fun c_52 => ?_) (fun c_52 => ?_)
    · skip
      refine k_aload_n X (q := 3) dX0_vote_118 rfl rfl ?_
      refine gX0_12s X (S := Si) (st_4 hIi.st).1 (st_4 hIi.st).2 (sr_4_2 hIi.st) dX0_vote_119 ?_
      obtain ⟨m18, xs18, hL18, -, -⟩ := hIi.ml.1
      refine k_gotV X (vX0_76 X (S := Si) ⟨(st_18 hIi.st).1, (st_18 hIi.st).2⟩ (c_Jx4a65c_clear_da8c8 C.l C.e0 Si (A 18) 7 m18 xs18 hL18) (As := []) (rest := []) rfl rfl rfl rfl ⟨Nat.le_of_ble_eq_true rfl, Nat.le_of_ble_eq_true rfl⟩ (Nat.le_of_ble_eq_true rfl) ⟨(by show _ ≤ 594; omega), (by show _ ≤ 31798; omega)⟩ dX0_vote_122) (fun S_122_21 h_122_19 => ?_)
      obtain ⟨hf18, hl18, -⟩ := h_122_19
      rw [so_18 hIi.st] at hf18
      obtain ⟨hI_22, hx_22⟩ := hIi.frM (r := 18) (by omega) (hf18.go (fun b hb z j => by unfold kRo at z; omega)) ⟨0, _, hl18, by omega, fun t ht => absurd ht (by omega)⟩
      have hK_22 := (hKi).tr hx_22
      refine k_iload_n X (q := 1) dX0_vote_125 rfl rfl ?_
      exact k_iret X E dX0_vote_126 (by show _ ≤ 594; omega) (by show _ ≤ 31798; omega) (⟨hI_22.mono (by omega) (by omega) (by omega), hK_22⟩)
    · skip
      have hlti2 : i < ma := lt_of_nle c_52 (by omega)
      have hlti : i < 12 := by omega
      refine k_aload_n X (q := 3) dX0_vote_55 rfl rfl ?_
      refine gX0_12s X (S := Si) (st_4 hIi.st).1 (st_4 hIi.st).2 (sr_4_2 hIi.st) dX0_vote_56 ?_
      refine k_iload_n X (q := 0) dX0_vote_59 rfl rfl ?_
      refine k_gotQ X (vX0_88 X (S := Si) ⟨(st_18 hIi.st).1, (st_18 hIi.st).2⟩ (c_Jx4a65c_get_915e3 C.l C.e0 Si (A 18) 7 ma i xa (hLa) hlti2) (As := [.int (nI i)]) (rest := []) rfl rfl rfl rfl ⟨Nat.le_of_ble_eq_true rfl, Nat.le_of_ble_eq_true rfl⟩ (Nat.le_of_ble_eq_true rfl) ⟨(by show _ ≤ 594; omega), (by show _ ≤ 31798; omega)⟩ dX0_vote_60) (fun r_60_24 S_60_25 h_60_22 => ?_)
      obtain ⟨rfl, er_60_24⟩ := h_60_22
      subst er_60_24
      refine tX0_65 X (S := Si) ⟨(kLs.el (hLa) hlti2).1, (kLs.el (hLa) hlti2).2⟩ dX0_vote_63 ?_
      refine k_astore X [(4, .ref (xa i)), (3, .int (nI i)), (2, .int w9), (1, .int y9), (0, .ref (A 4))] dX0_vote_66 (by decide) rfl ?_
      have hmo := hxa i hlti2
      refine k_aload_n X (q := 4) dX0_vote_68 rfl rfl ?_
      refine gX0_25s X (S := Si) (st_4 hIi.st).1 (st_4 hIi.st).2 (sr_4_5 hIi.st) dX0_vote_69 ?_
      refine k_aload X (q := 0) dX0_vote_72 rfl ?_
      refine gX0_73 X (S := Si) hmo.1.1 hmo.1.2 dX0_vote_74 (fun v_74_26 ev_74_26 => ?_)
      refine k_gotI X (vX0_111 X (S := Si) (c_X11_agreeing C.l C.e0 Si (A 20) v_74_26  mp xp (hLp) (by omega)) (As := [.ref (A 20), .int v_74_26]) (rest := []) rfl rfl rfl rfl ⟨Nat.le_of_ble_eq_true rfl, Nat.le_of_ble_eq_true rfl⟩ (Nat.le_of_ble_eq_true rfl) ⟨(by show _ ≤ 594; omega), (by show _ ≤ 31798; omega)⟩ dX0_vote_77) (fun v_77_28 S_77_29 h_77_26 => ?_)
      obtain ⟨rfl, ev_77_28⟩ := h_77_26
      refine k_istore X [(5, .int v_77_28), (4, .ref (xa i)), (3, .int (nI i)), (2, .int w9), (1, .int y9), (0, .ref (A 4))] dX0_vote_80 (by decide) rfl ?_
      refine k_aload X (q := 1) dX0_vote_82 rfl ?_
      refine k_iload X (q := 0) dX0_vote_84 rfl ?_
      refine k_aload_n X (q := 5) dX0_vote_86 rfl rfl ?_
      refine gX0_25s X (S := Si) (st_4 hIi.st).1 (st_4 hIi.st).2 (sr_4_5 hIi.st) dX0_vote_87 ?_
      refine k_gotI X (vX0_84 X (S := Si) ⟨(st_20 hIi.st).1, (st_20 hIi.st).2⟩ (c_Jx4a65c_size_8abf5 C.l C.e0 Si (A 20) (st_20 hIi.st)) (As := []) (rest := [.int v_77_28, .ref (xa i)]) rfl rfl rfl rfl ⟨Nat.le_of_ble_eq_true rfl, Nat.le_of_ble_eq_true rfl⟩ (Nat.le_of_ble_eq_true rfl) ⟨(by show _ ≤ 594; omega), (by show _ ≤ 31798; omega)⟩ dX0_vote_90) (fun v_90_31 S_90_32 h_90_29 => ?_)
      obtain ⟨rfl, ev_90_31⟩ := h_90_29
      have hz_v_90_31 : nI mp = v_90_31 := by rw [ev_90_31]; exact (hLp).2.1.symm
      subst hz_v_90_31
      refine k_iload_n X (q := 4) dX0_vote_93 rfl rfl ?_
      refine k_gotI X (vX0_118 X (S := Si) ⟨hmo.1.1, hmo.1.2⟩ (c_X7_isPassing C.l C.e0 Si (xa i) v_77_28 (nI mp) y9  ⟨hmo.1.1, hmo.1.2⟩) (As := [.int v_77_28, .int (nI mp), .int y9]) (rest := []) rfl rfl rfl rfl ⟨Nat.le_of_ble_eq_true rfl, Nat.le_of_ble_eq_true rfl⟩ (Nat.le_of_ble_eq_true rfl) ⟨(by show _ ≤ 594; omega), (by show _ ≤ 31798; omega)⟩ dX0_vote_94) (fun v_94_34 S_94_35 h_94_32 => ?_)
      obtain ⟨rfl, ev_94_34⟩ := h_94_32
      refine k_if_eq (tgt := 112) X dX0_vote_97 (by decide) (fun c_97 => ?_) (fun c_97 => ?_)
      · skip
        rw [ev_94_34] at c_97
        obtain ⟨v_112_36, ev_112_36⟩ : ∃ z : Int32, z = (nI i) + 1 := ⟨_, rfl⟩
        refine k_iinc X (q := 2) (v := v_112_36) [(3, .int v_112_36), (5, .int v_77_28), (4, .ref (xa i)), (2, .int w9), (1, .int y9), (0, .ref (A 4))] dX0_vote_112 rfl (by rw [ev_112_36]; rfl) (by decide) rfl ?_
        refine k_goto (tgt := 44) X dX0_vote_115 (by decide) ?_
        refine k_lv [0, 3, 4, 5] _ rfl ?_
        refine k_room (k' := 0 + 6 + 0 + 0 + 0 + 49 * (i + 1)) (n' := 0 + 202 + 0 + 0 + 0 + 2633 * (i + 1)) (by omega) (by omega) ?_
        exact ih (12 - (i + 1)) (by omega) (i + 1) _ _ _ _ rfl (by rw [ev_112_36, nI_1]) ⟨by omega, hIi.mono (by omega) (by omega) (by omega), hKi⟩
      · skip
        rw [ev_94_34] at c_97
        refine k_iload_n X (q := 3) dX0_vote_100 rfl rfl ?_
        refine k_iconst X (v := 1) dX0_vote_101 (by decide) ?_
        refine k_iload_n X (q := 2) dX0_vote_102 rfl rfl ?_
        refine k_ishl X dX0_vote_103 (fun v_103_37 ev_103_37 => ?_)
        refine k_ior X dX0_vote_104 (fun v_104_38 ev_104_38 => ?_)
        refine k_istore_n X [(2, .int v_104_38), (5, .int v_77_28), (4, .ref (xa i)), (3, .int (nI i)), (1, .int y9), (0, .ref (A 4))] dX0_vote_105 rfl (by decide) rfl ?_
        refine k_aload_n X (q := 5) dX0_vote_106 rfl rfl ?_
        refine k_aload X (q := 2) dX0_vote_107 rfl ?_
        refine k_gotV X (vX0_126 X (S := Si) ⟨(st_4 hIi.st).1, (st_4 hIi.st).2⟩ (c_X0_carryOut C.l C.e0 Si (xa i) A n cz _ _ _ hIi hmo (by omega)) (As := [.ref (xa i)]) (rest := []) rfl rfl rfl rfl ⟨Nat.le_of_ble_eq_true rfl, Nat.le_of_ble_eq_true rfl⟩ (Nat.le_of_ble_eq_true rfl) ⟨(by show _ ≤ 594; omega), (by show _ ≤ 31798; omega)⟩ dX0_vote_109) (fun S_109_40 h_109_38 => ?_)
        obtain ⟨hI_41, hx_41⟩ := h_109_38
        have hK_41 := (hKi).tr hx_41
        obtain ⟨v_112_42, ev_112_42⟩ : ∃ z : Int32, z = (nI i) + 1 := ⟨_, rfl⟩
        refine k_iinc X (q := 3) (v := v_112_42) [(3, .int v_112_42), (2, .int v_104_38), (5, .int v_77_28), (4, .ref (xa i)), (1, .int y9), (0, .ref (A 4))] dX0_vote_112 rfl (by rw [ev_112_42]; rfl) (by decide) rfl ?_
        refine k_goto (tgt := 44) X dX0_vote_115 (by decide) ?_
        refine k_lv [0, 1, 4, 5] _ rfl ?_
        refine k_room (k' := 0 + 6 + 0 + 0 + 0 + 49 * (i + 1)) (n' := 0 + 202 + 0 + 0 + 0 + 2633 * (i + 1)) (by omega) (by omega) ?_
        exact ih (12 - (i + 1)) (by omega) (i + 1) _ _ _ _ rfl (by rw [ev_112_42, nI_1]) ⟨by omega, hI_41.mono (by omega) (by omega) (by omega), hK_41⟩
  refine k_lv [0, 1, 2, 3] _ rfl ?_
  exact L_44 _ 0 0 _ _ _ rfl nI_0.symm ⟨by omega, hI_16.mono (by omega) (by omega) (by omega), hK_16⟩
set_option maxHeartbeats 1000000 in
set_option maxRecDepth 20000 in
theorem c_X0_dropLawsFarFrom (l : Launch) (e0 : Nat × Nat) (S : kS) (x1 : Int32) (A : Nat → Nat) (n : Nat) (cz : Nat → Nat) (T G Z : Nat) (h : kI e0 A n cz T G Z S)  (hb : T + 0 ≤ 900000 ∧ G + 0 ≤ 60000 ∧ Z + 0 ≤ 150000) : kM l e0 yX0_dropLawsFarFrom cX0_dropLawsFarFrom 3 none ({ frames := 3, cells := 0, slots := 0, locals := 66 } : Room) 0 0 [.ref (A 4), .int x1] S (kQv (fun S9 => kI e0 A n cz (T + 0) (G + 0) (Z + 0) S9 ∧ kKe A S S9)) := by
  refine kMetE (by decide +kernel) (Nat.le_of_ble_eq_true rfl) (fun C he hl X E hm => ?_)
  have X : kX C RX0 cX0_dropLawsFarFrom 3 ({ frames := 3, cells := 0, slots := 0, locals := 66 } : Room) := X
  subst he hl
  show kG C 3 S 0 0 0 [(0, .ref (A 4)), (1, .int x1)] []
  have hn := h.n40
  refine k_iconst X (v := 0) dX0_dropLawsFarFrom_0 (by decide) ?_
  refine k_istore_n X [(2, .int 0), (0, .ref (A 4)), (1, .int x1)] dX0_dropLawsFarFrom_1 rfl (by decide) rfl ?_
  have L_2 : ∀ (N : Nat) (i : Nat) (x : Int32) (Si : kS), 8 - i = N → x = nI i → (i ≤ 8 ∧ kI C.e0 A n cz T G Z Si ∧ kKe A S Si) → kG C 3 Si 0 0 2 [(2, .int x), (0, .ref (A 4)), (1, .int x1)] [] := by
    intro N
    induction N using Nat.strongRecOn with
    | _ N ih =>
    intro i x Si hMs h2_0 h2_1
    subst h2_0
    obtain ⟨hBi, hIi, hKi⟩ := h2_1
    refine k_iload_n X (q := 0) dX0_dropLawsFarFrom_2 rfl rfl ?_
    refine k_bipush X (v := 8) dX0_dropLawsFarFrom_3 (by decide) ?_
    refine k_icmp_ge (tgt := 34) X dX0_dropLawsFarFrom_5 (by decide) (fun c_5 => ?_) (fun c_5 => ?_)
    · skip
      have hin : 8 = i := by have := ge_of_le (m := 8) c_5 (by omega); omega
      subst hin
      exact k_vret X E dX0_dropLawsFarFrom_34 (Nat.le_of_ble_eq_true rfl) (Nat.le_of_ble_eq_true rfl) (⟨hIi.mono (by omega) (by omega) (by omega), hKi⟩)
    · skip
      have hlti : i < 8 := lt_of_nle (m := 8) c_5 (by omega)
      refine k_aload_n X (q := 1) dX0_dropLawsFarFrom_8 rfl rfl ?_
      refine gX0_21s X (S := Si) (st_4 hIi.st).1 (st_4 hIi.st).2 (sr_4_4 hIi.st) dX0_dropLawsFarFrom_9 ?_
      refine k_iload_n X (q := 0) dX0_dropLawsFarFrom_12 rfl rfl ?_
      refine k_iald X (S := Si) (st_43 hIi.st).1 (st_43 hIi.st).2 (show vp_in (nI i) (Si.N (A 43)) from by rw [sn_43 hIi.st]; exact vp_in_nI (by omega) (by omega)) dX0_dropLawsFarFrom_13 (fun v_13_1 ev_13_1 => ?_)
      refine k_iload_n X (q := 2) dX0_dropLawsFarFrom_14 rfl rfl ?_
      refine k_gotI X (vX0_56 X (S := Si) (c_X0_isTooFar C.l C.e0 Si v_13_1 x1  ) (As := [.int v_13_1, .int x1]) (rest := []) rfl rfl rfl rfl ⟨Nat.le_of_ble_eq_true rfl, Nat.le_of_ble_eq_true rfl⟩ (Nat.le_of_ble_eq_true rfl) ⟨Nat.le_of_ble_eq_true rfl, Nat.le_of_ble_eq_true rfl⟩ dX0_dropLawsFarFrom_15) (fun v_15_3 S_15_4 h_15_1 => ?_)
      obtain ⟨rfl, ev_15_3⟩ := h_15_1
      refine k_if_eq (tgt := 28) X dX0_dropLawsFarFrom_18 (by decide) (fun c_18 => ?_) (fun c_18 => ?_)
      · skip
        rw [ev_15_3] at c_18
        obtain ⟨v_28_5, ev_28_5⟩ : ∃ z : Int32, z = (nI i) + 1 := ⟨_, rfl⟩
        refine k_iinc X (q := 0) (v := v_28_5) [(2, .int v_28_5), (0, .ref (A 4)), (1, .int x1)] dX0_dropLawsFarFrom_28 rfl (by rw [ev_28_5]; rfl) (by decide) rfl ?_
        refine k_goto (tgt := 2) X dX0_dropLawsFarFrom_31 (by decide) ?_
        refine k_lv [0, 1, 2] _ rfl ?_
        exact ih (8 - (i + 1)) (by omega) (i + 1) _ _ rfl (by rw [ev_28_5, nI_1]) ⟨by omega, hIi.mono (by omega) (by omega) (by omega), hKi⟩
      · skip
        rw [ev_15_3] at c_18
        refine k_aload_n X (q := 1) dX0_dropLawsFarFrom_21 rfl rfl ?_
        refine gX0_21s X (S := Si) (st_4 hIi.st).1 (st_4 hIi.st).2 (sr_4_4 hIi.st) dX0_dropLawsFarFrom_22 ?_
        refine k_iload_n X (q := 0) dX0_dropLawsFarFrom_25 rfl rfl ?_
        refine k_iconst X (v := (-1)) dX0_dropLawsFarFrom_26 (by decide) ?_
        refine k_iast X (S := Si) (st_43 hIi.st).1 (st_43 hIi.st).2 (show vp_in (nI i) (Si.N (A 43)) from by rw [sn_43 hIi.st]; exact vp_in_nI (by omega) (by omega)) dX0_dropLawsFarFrom_27 ?_
        obtain ⟨hI_6, hx_6⟩ := (⟨hIi.fI (so_43 hIi.st) (by unfold pSM; omega) (by unfold pVM pCi pHo pCh pLe pMy pMs pOf; omega) (by unfold pLu; omega), (hIi.fIk (so_43 hIi.st) (by unfold pKe; omega))⟩ : _ ∧ kKe A Si (Si.uI (A 43) (nI i).toNatClampNeg (-1 : Int32)))
        have hK_6 := (hKi).tr hx_6
        obtain ⟨v_28_7, ev_28_7⟩ : ∃ z : Int32, z = (nI i) + 1 := ⟨_, rfl⟩
        refine k_iinc X (q := 0) (v := v_28_7) [(2, .int v_28_7), (0, .ref (A 4)), (1, .int x1)] dX0_dropLawsFarFrom_28 rfl (by rw [ev_28_7]; rfl) (by decide) rfl ?_
        refine k_goto (tgt := 2) X dX0_dropLawsFarFrom_31 (by decide) ?_
        refine k_lv [0, 1, 2] _ rfl ?_
        exact ih (8 - (i + 1)) (by omega) (i + 1) _ _ rfl (by rw [ev_28_7, nI_1]) ⟨by omega, hI_6.mono (by omega) (by omega) (by omega), hK_6⟩
  refine k_lv [0, 1, 2] _ rfl ?_
  exact L_2 _ 0 0 _ rfl nI_0.symm ⟨by omega, h.mono (by omega) (by omega) (by omega), kKe.rf⟩
set_option maxHeartbeats 1000000 in
set_option maxRecDepth 20000 in
theorem c_X0_proofAgainst (l : Launch) (e0 : Nat × Nat) (S : kS) (d : Nat) (A : Nat → Nat) (hst : kSt A S) (hd : S.at d 7) : kM l e0 yX0_proofAgainst cX0_proofAgainst 3 (Option.some Jvm.ClassFile.FieldType.int) ({ frames := 2, cells := 0, slots := 0, locals := 42 } : Room) 0 0 [.ref (A 4), .ref d] S (kQi (fun v S9 => S = S9)) := by
  refine kMetE (by decide +kernel) (Nat.le_of_ble_eq_true rfl) (fun C he hl X E hm => ?_)
  have X : kX C RX0 cX0_proofAgainst 3 ({ frames := 2, cells := 0, slots := 0, locals := 42 } : Room) := X
  subst he hl
  show kG C 3 S 0 0 0 [(0, .ref (A 4)), (1, .ref d)] []
  refine k_aload_n X (q := 0) dX0_proofAgainst_0 rfl rfl ?_
  refine k_aload_n X (q := 1) dX0_proofAgainst_1 rfl rfl ?_
  refine gX0_64 X (S := S) hd.1 hd.2 dX0_proofAgainst_2 (fun v_2_1 ev_2_1 => ?_)
  refine k_gotI X (vX0_69 X (S := S) ⟨(st_4 hst).1, (st_4 hst).2⟩ (c_X0_lawOn C.l C.e0 S v_2_1 A hst ) (As := [.int v_2_1]) (rest := []) rfl rfl rfl rfl ⟨Nat.le_of_ble_eq_true rfl, Nat.le_of_ble_eq_true rfl⟩ (Nat.le_of_ble_eq_true rfl) ⟨Nat.le_of_ble_eq_true rfl, Nat.le_of_ble_eq_true rfl⟩ dX0_proofAgainst_5) (fun v_5_3 S_5_4 h_5_1 => ?_)
  obtain ⟨rfl, ev_5_3⟩ := h_5_1
  refine k_istore_n X [(2, .int v_5_3), (0, .ref (A 4)), (1, .ref d)] dX0_proofAgainst_8 rfl (by decide) rfl ?_
  refine k_iload_n X (q := 0) dX0_proofAgainst_9 rfl rfl ?_
  refine k_iconst X (v := (-1)) dX0_proofAgainst_10 (by decide) ?_
  refine k_icmp_eq (tgt := 18) X dX0_proofAgainst_11 (by decide) (fun c_11 => ?_) (fun c_11 => ?_)
  · skip
    refine k_aload_n X (q := 2) dX0_proofAgainst_18 rfl rfl ?_
    refine gX0_73 X (S := S) hd.1 hd.2 dX0_proofAgainst_19 (fun v_19_5 ev_19_5 => ?_)
    refine k_bipush X (v := 8) dX0_proofAgainst_22 (by decide) ?_
    refine k_iadd X dX0_proofAgainst_24 (fun v_24_6 ev_24_6 => ?_)
    refine k_bipush X (v := 16) dX0_proofAgainst_25 (by decide) ?_
    refine k_irem X dX0_proofAgainst_27 (by decide) (fun v_27_7 ev_27_7 => ?_)
    exact k_iret X E dX0_proofAgainst_28 (Nat.le_of_ble_eq_true rfl) (Nat.le_of_ble_eq_true rfl) rfl
  · skip
    refine k_iload_n X (q := 0) dX0_proofAgainst_14 rfl rfl ?_
    refine k_goto (tgt := 28) X dX0_proofAgainst_15 (by decide) ?_
    exact k_iret X E dX0_proofAgainst_28 (Nat.le_of_ble_eq_true rfl) (Nat.le_of_ble_eq_true rfl) rfl
/-- a decree would hold by itself -/
def kval (S : kS) (A : Nat → Nat) (m : Nat) (xs : Nat → Nat) (d : Nat) : Bool := decide (S.I d 7 = 0) && !(kff (fun i => decide (S.R (xs i) 5 = some d)) m).isSome && !(!decide (kvat S (A 43) (S.I d 2) = -1) && decide (6 < kabs (kvat S (A 43) (S.I d 2) - S.I d 3)))
/-- it holds -/
def khol (S : kS) (A : Nat → Nat) (m : Nat) (xs : Nat → Nat) (md : Nat) (xd : Nat → Nat) (j : Nat) : Bool := kval S A m xs (xd j) && (kff (fun i => decide (j < i) && decide (S.I (xd i) 2 = S.I (xd j) 2) && kval S A m xs (xd i)) md).isNone
theorem kff_low {p : Nat → Bool} : ∀ i, (∀ t, t < i → p t = false) → kff p i = none
  | 0, _ => rfl
  | i + 1, h => by
    have h1 := kff_low i (fun t ht => h t (by omega))
    exact kff_s h1 (by rw [h i (by omega)]; decide)
set_option maxHeartbeats 1000000 in
set_option maxRecDepth 20000 in
theorem c_X0_isValid (l : Launch) (e0 : Nat × Nat) (S : kS) (d : Nat) (A : Nat → Nat) (hst : kSt A S) (m : Nat) (xs : Nat → Nat) (hL : kLs e0 S (A 15) 10 m xs) (hm9 : m ≤ 100) (hd : S.at d 7) : kM l e0 yX0_isValid cX0_isValid 2 (Option.some Jvm.ClassFile.FieldType.boolean) ({ frames := 4, cells := 0, slots := 0, locals := 86 } : Room) 0 0 [.ref (A 4), .ref d] S (kQi (fun v S9 => S = S9 ∧ v = kb (kval S A m xs d))) := by
  refine kMetE (by decide +kernel) (Nat.le_of_ble_eq_true rfl) (fun C he hl X E hm => ?_)
  have X : kX C RX0 cX0_isValid 2 ({ frames := 4, cells := 0, slots := 0, locals := 86 } : Room) := X
  subst he hl
  show kG C 2 S 0 0 0 [(0, .ref (A 4)), (1, .ref d)] []
  refine k_aload_n X (q := 1) dX0_isValid_0 rfl rfl ?_
  refine gX0_193 X (S := S) hd.1 hd.2 dX0_isValid_1 (fun v_1_1 ev_1_1 => ?_)
  refine k_if_ne (tgt := 40) X dX0_isValid_4 (by decide) (fun c_4 => ?_) (fun c_4 => ?_)
  · skip
    refine k_iconst X (v := 0) dX0_isValid_40 (by decide) ?_
    exact k_zret X E (Or.inl rfl) dX0_isValid_41 (Nat.le_of_ble_eq_true rfl) (Nat.le_of_ble_eq_true rfl) (⟨rfl, by (try subst_vars); unfold kval; by_cases g1 : S.I d 7 = 0 <;> cases g2 : (kff (fun i => decide (S.R (xs i) 5 = some d)) m).isSome <;> simp_all [kb, ← Int32.not_le]⟩)
  · skip
    refine k_aload_n X (q := 0) dX0_isValid_7 rfl rfl ?_
    refine gX0_42s X (S := S) (st_4 hst).1 (st_4 hst).2 (sr_4_1 hst) dX0_isValid_8 ?_
    refine k_aload_n X (q := 1) dX0_isValid_11 rfl rfl ?_
    refine k_gotI X (vX0_196 X (S := S) ⟨(st_3 hst).1, (st_3 hst).2⟩ (c_X4_isContested C.l C.e0 S d A hst m xs (hL) (by omega)) (As := [.ref d]) (rest := []) rfl rfl rfl rfl ⟨Nat.le_of_ble_eq_true rfl, Nat.le_of_ble_eq_true rfl⟩ (Nat.le_of_ble_eq_true rfl) ⟨Nat.le_of_ble_eq_true rfl, Nat.le_of_ble_eq_true rfl⟩ dX0_isValid_12) (fun v_12_3 S_12_4 h_12_1 => ?_)
    obtain ⟨rfl, ev_12_3⟩ := h_12_1
    refine k_if_ne (tgt := 40) X dX0_isValid_15 (by decide) (fun c_15 => ?_) (fun c_15 => ?_)
    · skip
      rw [ev_12_3] at c_15
      refine k_iconst X (v := 0) dX0_isValid_40 (by decide) ?_
      exact k_zret X E (Or.inl rfl) dX0_isValid_41 (Nat.le_of_ble_eq_true rfl) (Nat.le_of_ble_eq_true rfl) (⟨rfl, by (try subst_vars); unfold kval; by_cases g1 : S.I d 7 = 0 <;> cases g2 : (kff (fun i => decide (S.R (xs i) 5 = some d)) m).isSome <;> simp_all [kb, ← Int32.not_le]⟩)
    · skip
      rw [ev_12_3] at c_15
      refine k_aload_n X (q := 0) dX0_isValid_18 rfl rfl ?_
      refine k_aload_n X (q := 1) dX0_isValid_19 rfl rfl ?_
      refine gX0_64 X (S := S) hd.1 hd.2 dX0_isValid_20 (fun v_20_5 ev_20_5 => ?_)
      refine k_gotI X (vX0_69 X (S := S) ⟨(st_4 hst).1, (st_4 hst).2⟩ (c_X0_lawOn C.l C.e0 S v_20_5 A hst ) (As := [.int v_20_5]) (rest := []) rfl rfl rfl rfl ⟨Nat.le_of_ble_eq_true rfl, Nat.le_of_ble_eq_true rfl⟩ (Nat.le_of_ble_eq_true rfl) ⟨Nat.le_of_ble_eq_true rfl, Nat.le_of_ble_eq_true rfl⟩ dX0_isValid_23) (fun v_23_7 S_23_8 h_23_5 => ?_)
      obtain ⟨rfl, ev_23_7⟩ := h_23_5
      refine k_aload_n X (q := 1) dX0_isValid_26 rfl rfl ?_
      refine gX0_73 X (S := S) hd.1 hd.2 dX0_isValid_27 (fun v_27_9 ev_27_9 => ?_)
      refine k_gotI X (vX0_56 X (S := S) (c_X0_isTooFar C.l C.e0 S v_23_7 v_27_9  ) (As := [.int v_23_7, .int v_27_9]) (rest := []) rfl rfl rfl rfl ⟨Nat.le_of_ble_eq_true rfl, Nat.le_of_ble_eq_true rfl⟩ (Nat.le_of_ble_eq_true rfl) ⟨Nat.le_of_ble_eq_true rfl, Nat.le_of_ble_eq_true rfl⟩ dX0_isValid_30) (fun v_30_11 S_30_12 h_30_9 => ?_)
      obtain ⟨rfl, ev_30_11⟩ := h_30_9
      refine k_if_ne (tgt := 40) X dX0_isValid_33 (by decide) (fun c_33 => ?_) (fun c_33 => ?_)
      · skip
        rw [ev_30_11] at c_33
        refine k_iconst X (v := 0) dX0_isValid_40 (by decide) ?_
        exact k_zret X E (Or.inl rfl) dX0_isValid_41 (Nat.le_of_ble_eq_true rfl) (Nat.le_of_ble_eq_true rfl) (⟨rfl, by (try subst_vars); unfold kval; by_cases g1 : S.I d 7 = 0 <;> cases g2 : (kff (fun i => decide (S.R (xs i) 5 = some d)) m).isSome <;> simp_all [kb, ← Int32.not_le]⟩)
      · skip
        rw [ev_30_11] at c_33
        refine k_iconst X (v := 1) dX0_isValid_36 (by decide) ?_
        refine k_goto (tgt := 41) X dX0_isValid_37 (by decide) ?_
        exact k_zret X E (Or.inr rfl) dX0_isValid_41 (Nat.le_of_ble_eq_true rfl) (Nat.le_of_ble_eq_true rfl) (⟨rfl, by (try subst_vars); unfold kval; by_cases g1 : S.I d 7 = 0 <;> cases g2 : (kff (fun i => decide (S.R (xs i) 5 = some d)) m).isSome <;> simp_all [kb, ← Int32.not_le]⟩)
set_option maxHeartbeats 1000000 in
set_option maxRecDepth 20000 in
theorem c_X0_isHolding (l : Launch) (e0 : Nat × Nat) (S : kS)  (A : Nat → Nat) (hst : kSt A S) (m : Nat) (xs : Nat → Nat) (hL : kLs e0 S (A 15) 10 m xs) (hm9 : m ≤ 100) (md : Nat) (xd : Nat → Nat) (hLd : kLs e0 S (A 19) 7 md xd) (hmd : md ≤ 100) (j : Nat) (hj : j < md) : kM l e0 yX0_isHolding cX0_isHolding 5 (Option.some Jvm.ClassFile.FieldType.boolean) ({ frames := 5, cells := 0, slots := 0, locals := 107 } : Room) 0 0 [.ref (A 4), .int (nI j)] S (kQi (fun v S9 => S = S9 ∧ v = kb (khol S A m xs md xd j))) := by
  refine kMetE (by decide +kernel) (Nat.le_of_ble_eq_true rfl) (fun C he hl X E hm => ?_)
  have X : kX C RX0 cX0_isHolding 5 ({ frames := 5, cells := 0, slots := 0, locals := 107 } : Room) := X
  subst he hl
  show kG C 5 S 0 0 0 [(0, .ref (A 4)), (1, .int (nI j))] []
  obtain ⟨P, hP⟩ : ∃ P : Nat → Bool, P = fun i => decide (j < i) && decide (S.I (xd i) 2 = S.I (xd j) 2) && kval S A m xs (xd i) := ⟨_, rfl⟩
  have hin9 : kb (decide (0 ≤ nI j) && decide (nI j ≤ nI md - 1)) = 1 := by
    rw [show (1 : Int32) = nI 1 from rfl, pk_sub (by omega)]
    have g1 : (0 : Int32) ≤ nI j := nI_le (a := 0) (by omega) (by omega)
    have g2 : nI j ≤ nI (md - 1) := nI_le (by omega) (by omega)
    simp [kb, g1, g2]
    rfl
  refine k_iload_n X (q := 1) dX0_isHolding_0 rfl rfl ?_
  refine k_iconst X (v := 0) dX0_isHolding_1 (by decide) ?_
  refine k_aload_n X (q := 0) dX0_isHolding_2 rfl rfl ?_
  refine gX0_18s X (S := S) (st_4 hst).1 (st_4 hst).2 (sr_4_3 hst) dX0_isHolding_3 ?_
  refine k_gotI X (vX0_84 X (S := S) ⟨(st_19 hst).1, (st_19 hst).2⟩ (c_Jx4a65c_size_8abf5 C.l C.e0 S (A 19) (st_19 hst)) (As := []) (rest := [.int 0, .int (nI j)]) rfl rfl rfl rfl ⟨Nat.le_of_ble_eq_true rfl, Nat.le_of_ble_eq_true rfl⟩ (Nat.le_of_ble_eq_true rfl) ⟨Nat.le_of_ble_eq_true rfl, Nat.le_of_ble_eq_true rfl⟩ dX0_isHolding_6) (fun v_6_2 S_6_3 h_6_0 => ?_)
  obtain ⟨rfl, ev_6_2⟩ := h_6_0
  have hz_v_6_2 : nI md = v_6_2 := by rw [ev_6_2]; exact (hLd).2.1.symm
  subst hz_v_6_2
  refine k_iconst X (v := 1) dX0_isHolding_9 (by decide) ?_
  refine k_isub X dX0_isHolding_10 (fun v_10_4 ev_10_4 => ?_)
  refine k_gotI X (vX0_186 X (S := S) (c_X11_isFrom C.l C.e0 S (nI j) 0 v_10_4 ) (As := [.int (nI j), .int 0, .int v_10_4]) (rest := []) rfl rfl rfl rfl ⟨Nat.le_of_ble_eq_true rfl, Nat.le_of_ble_eq_true rfl⟩ (Nat.le_of_ble_eq_true rfl) ⟨Nat.le_of_ble_eq_true rfl, Nat.le_of_ble_eq_true rfl⟩ dX0_isHolding_11) (fun v_11_6 S_11_7 h_11_4 => ?_)
  obtain ⟨rfl, ev_11_6⟩ := h_11_4
  refine k_if_eq (tgt := 35) X dX0_isHolding_14 (by decide) (fun c_14 => ?_) (fun c_14 => ?_)
  · skip
    rw [ev_11_6] at c_14
    rw [ev_10_4, hin9] at c_14
    exact absurd c_14 (by decide)
  · skip
    rw [ev_11_6] at c_14
    refine k_aload_n X (q := 0) dX0_isHolding_17 rfl rfl ?_
    refine k_aload_n X (q := 0) dX0_isHolding_18 rfl rfl ?_
    refine gX0_18s X (S := S) (st_4 hst).1 (st_4 hst).2 (sr_4_3 hst) dX0_isHolding_19 ?_
    refine k_iload_n X (q := 1) dX0_isHolding_22 rfl rfl ?_
    refine k_gotQ X (vX0_88 X (S := S) ⟨(st_19 hst).1, (st_19 hst).2⟩ (c_Jx4a65c_get_915e3 C.l C.e0 S (A 19) 7 md j xd (hLd) hj) (As := [.int (nI j)]) (rest := [.ref (A 4)]) rfl rfl rfl rfl ⟨Nat.le_of_ble_eq_true rfl, Nat.le_of_ble_eq_true rfl⟩ (Nat.le_of_ble_eq_true rfl) ⟨Nat.le_of_ble_eq_true rfl, Nat.le_of_ble_eq_true rfl⟩ dX0_isHolding_23) (fun r_23_9 S_23_10 h_23_7 => ?_)
    obtain ⟨rfl, er_23_9⟩ := h_23_7
    subst er_23_9
    refine tX0_65 X (S := S) ⟨(kLs.el (hLd) hj).1, (kLs.el (hLd) hj).2⟩ dX0_isHolding_26 ?_
    refine k_gotI X (vX0_189 X (S := S) ⟨(st_4 hst).1, (st_4 hst).2⟩ (c_X0_isValid C.l C.e0 S (xd j) A hst m xs (hL) (by omega) ⟨(kLs.el (hLd) hj).1, (kLs.el (hLd) hj).2⟩) (As := [.ref (xd j)]) (rest := []) rfl rfl rfl rfl ⟨Nat.le_of_ble_eq_true rfl, Nat.le_of_ble_eq_true rfl⟩ (Nat.le_of_ble_eq_true rfl) ⟨Nat.le_of_ble_eq_true rfl, Nat.le_of_ble_eq_true rfl⟩ dX0_isHolding_29) (fun v_29_12 S_29_13 h_29_10 => ?_)
    obtain ⟨rfl, ev_29_12⟩ := h_29_10
    refine k_if_ne (tgt := 37) X dX0_isHolding_32 (by decide) (fun c_32 => ?_) (fun c_32 => ?_)
    · skip
      rw [ev_29_12] at c_32
      have hval : kval S A m xs (xd j) = true := by
        cases g : kval S A m xs (xd j)
        · simp [kb, g] at c_32
        · rfl
      refine k_aload_n X (q := 0) dX0_isHolding_37 rfl rfl ?_
      refine gX0_18s X (S := S) (st_4 hst).1 (st_4 hst).2 (sr_4_3 hst) dX0_isHolding_38 ?_
      refine k_iload_n X (q := 1) dX0_isHolding_41 rfl rfl ?_
      refine k_gotQ X (vX0_88 X (S := S) ⟨(st_19 hst).1, (st_19 hst).2⟩ (c_Jx4a65c_get_915e3 C.l C.e0 S (A 19) 7 md j xd (hLd) hj) (As := [.int (nI j)]) (rest := []) rfl rfl rfl rfl ⟨Nat.le_of_ble_eq_true rfl, Nat.le_of_ble_eq_true rfl⟩ (Nat.le_of_ble_eq_true rfl) ⟨Nat.le_of_ble_eq_true rfl, Nat.le_of_ble_eq_true rfl⟩ dX0_isHolding_42) (fun r_42_15 S_42_16 h_42_13 => ?_)
      obtain ⟨rfl, er_42_15⟩ := h_42_13
      subst er_42_15
      refine tX0_65 X (S := S) ⟨(kLs.el (hLd) hj).1, (kLs.el (hLd) hj).2⟩ dX0_isHolding_45 ?_
      refine gX0_64 X (S := S) (kLs.el (hLd) hj).1 (kLs.el (hLd) hj).2 dX0_isHolding_48 (fun v_48_17 ev_48_17 => ?_)
      refine k_istore_n X [(2, .int v_48_17), (0, .ref (A 4)), (1, .int (nI j))] dX0_isHolding_51 rfl (by decide) rfl ?_
      refine k_iload_n X (q := 2) dX0_isHolding_52 rfl rfl ?_
      refine k_iconst X (v := 1) dX0_isHolding_53 (by decide) ?_
      refine k_iadd X dX0_isHolding_54 (fun v_54_18 ev_54_18 => ?_)
      have hv9 : nI (j + 1) = v_54_18 := by rw [ev_54_18, nI_1]
      subst hv9
      refine k_istore_n X [(3, .int (nI (j + 1))), (2, .int v_48_17), (0, .ref (A 4)), (1, .int (nI j))] dX0_isHolding_55 rfl (by decide) rfl ?_
      have L_56 : ∀ (N : Nat) (i : Nat) (x : Int32), md - i = N → x = nI i → (j + 1 ≤ i ∧ i ≤ md ∧ kff P i = none) → kG C 5 S 0 0 56 [(3, .int x), (2, .int v_48_17), (0, .ref (A 4)), (1, .int (nI j))] [] := by
        intro N
        induction N using Nat.strongRecOn with
        | _ N ih =>
        intro i x hMs h56_0 h56_1
        subst h56_0
        obtain ⟨hk1, hk2, hk3⟩ := h56_1
        refine k_iload_n X (q := 0) dX0_isHolding_56 rfl rfl ?_
        refine k_aload_n X (q := 2) dX0_isHolding_57 rfl rfl ?_
        refine gX0_18s X (S := S) (st_4 hst).1 (st_4 hst).2 (sr_4_3 hst) dX0_isHolding_58 ?_
        refine k_gotI X (vX0_84 X (S := S) ⟨(st_19 hst).1, (st_19 hst).2⟩ (c_Jx4a65c_size_8abf5 C.l C.e0 S (A 19) (st_19 hst)) (As := []) (rest := [.int (nI i)]) rfl rfl rfl rfl ⟨Nat.le_of_ble_eq_true rfl, Nat.le_of_ble_eq_true rfl⟩ (Nat.le_of_ble_eq_true rfl) ⟨Nat.le_of_ble_eq_true rfl, Nat.le_of_ble_eq_true rfl⟩ dX0_isHolding_61) (fun v_61_20 S_61_21 h_61_18 => ?_)
        obtain ⟨rfl, ev_61_20⟩ := h_61_18
        have hz_v_61_20 : nI md = v_61_20 := by rw [ev_61_20]; exact (hLd).2.1.symm
        subst hz_v_61_20
        refine k_icmp_ge (tgt := 106) X dX0_isHolding_64 (by decide) (fun c_64 => ?_) (fun c_64 => ?_)
        · skip
          refine k_iconst X (v := 1) dX0_isHolding_106 (by decide) ?_
          exact k_zret X E (Or.inr rfl) dX0_isHolding_107 (Nat.le_of_ble_eq_true rfl) (Nat.le_of_ble_eq_true rfl) (⟨rfl, by unfold khol; rw [hval, show md = i from by have := ge_of_le c_64 (by omega); omega, ← hP, hk3]; rfl⟩)
        · skip
          have hlt : i < md := lt_of_nle c_64 (by omega)
          refine k_aload_n X (q := 2) dX0_isHolding_67 rfl rfl ?_
          refine gX0_18s X (S := S) (st_4 hst).1 (st_4 hst).2 (sr_4_3 hst) dX0_isHolding_68 ?_
          refine k_iload_n X (q := 0) dX0_isHolding_71 rfl rfl ?_
          refine k_gotQ X (vX0_88 X (S := S) ⟨(st_19 hst).1, (st_19 hst).2⟩ (c_Jx4a65c_get_915e3 C.l C.e0 S (A 19) 7 md i xd (hLd) hlt) (As := [.int (nI i)]) (rest := []) rfl rfl rfl rfl ⟨Nat.le_of_ble_eq_true rfl, Nat.le_of_ble_eq_true rfl⟩ (Nat.le_of_ble_eq_true rfl) ⟨Nat.le_of_ble_eq_true rfl, Nat.le_of_ble_eq_true rfl⟩ dX0_isHolding_72) (fun r_72_23 S_72_24 h_72_21 => ?_)
          obtain ⟨rfl, er_72_23⟩ := h_72_21
          subst er_72_23
          refine tX0_65 X (S := S) ⟨(kLs.el (hLd) hlt).1, (kLs.el (hLd) hlt).2⟩ dX0_isHolding_75 ?_
          refine k_astore X [(4, .ref (xd i)), (3, .int (nI i)), (2, .int v_48_17), (0, .ref (A 4)), (1, .int (nI j))] dX0_isHolding_78 (by decide) rfl ?_
          refine k_aload X (q := 0) dX0_isHolding_80 rfl ?_
          refine gX0_64 X (S := S) (kLs.el (hLd) hlt).1 (kLs.el (hLd) hlt).2 dX0_isHolding_82 (fun v_82_25 ev_82_25 => ?_)
          refine k_iload_n X (q := 2) dX0_isHolding_85 rfl rfl ?_
          refine k_icmp_ne (tgt := 100) X dX0_isHolding_86 (by decide) (fun c_86 => ?_) (fun c_86 => ?_)
          · skip
            have hmiss : ¬ P i = true := by rw [hP]; simp_all
            obtain ⟨v_100_26, ev_100_26⟩ : ∃ z : Int32, z = (nI i) + 1 := ⟨_, rfl⟩
            refine k_iinc X (q := 1) (v := v_100_26) [(3, .int v_100_26), (4, .ref (xd i)), (2, .int v_48_17), (0, .ref (A 4)), (1, .int (nI j))] dX0_isHolding_100 rfl (by rw [ev_100_26]; rfl) (by decide) rfl ?_
            refine k_goto (tgt := 56) X dX0_isHolding_103 (by decide) ?_
            refine k_lv [0, 2, 3, 4] _ rfl ?_
            exact ih (md - (i + 1)) (by omega) (i + 1) _ rfl (by rw [ev_100_26, nI_1]) ⟨by omega, by omega, kff_s hk3 hmiss⟩
          · skip
            refine k_aload_n X (q := 3) dX0_isHolding_89 rfl rfl ?_
            refine k_aload X (q := 0) dX0_isHolding_90 rfl ?_
            refine k_gotI X (vX0_189 X (S := S) ⟨(st_4 hst).1, (st_4 hst).2⟩ (c_X0_isValid C.l C.e0 S (xd i) A hst m xs (hL) (by omega) ⟨(kLs.el (hLd) hlt).1, (kLs.el (hLd) hlt).2⟩) (As := [.ref (xd i)]) (rest := []) rfl rfl rfl rfl ⟨Nat.le_of_ble_eq_true rfl, Nat.le_of_ble_eq_true rfl⟩ (Nat.le_of_ble_eq_true rfl) ⟨Nat.le_of_ble_eq_true rfl, Nat.le_of_ble_eq_true rfl⟩ dX0_isHolding_92) (fun v_92_28 S_92_29 h_92_26 => ?_)
            obtain ⟨rfl, ev_92_28⟩ := h_92_26
            refine k_if_eq (tgt := 100) X dX0_isHolding_95 (by decide) (fun c_95 => ?_) (fun c_95 => ?_)
            · skip
              rw [ev_92_28] at c_95
              have hmiss : ¬ P i = true := by rw [hP]; cases g : kval S A m xs (xd i) <;> simp_all [kb]
              obtain ⟨v_100_30, ev_100_30⟩ : ∃ z : Int32, z = (nI i) + 1 := ⟨_, rfl⟩
              refine k_iinc X (q := 1) (v := v_100_30) [(3, .int v_100_30), (4, .ref (xd i)), (2, .int v_48_17), (0, .ref (A 4)), (1, .int (nI j))] dX0_isHolding_100 rfl (by rw [ev_100_30]; rfl) (by decide) rfl ?_
              refine k_goto (tgt := 56) X dX0_isHolding_103 (by decide) ?_
              refine k_lv [0, 2, 3, 4] _ rfl ?_
              exact ih (md - (i + 1)) (by omega) (i + 1) _ rfl (by rw [ev_100_30, nI_1]) ⟨by omega, by omega, kff_s hk3 hmiss⟩
            · skip
              rw [ev_92_28] at c_95
              have hhit : P i = true := by
                have gj : j < i := by omega
                rw [hP]; cases g : kval S A m xs (xd i) <;> simp_all [kb]
              refine k_iconst X (v := 0) dX0_isHolding_98 (by decide) ?_
              exact k_zret X E (Or.inl rfl) dX0_isHolding_99 (Nat.le_of_ble_eq_true rfl) (Nat.le_of_ble_eq_true rfl) (⟨rfl, by unfold khol; rw [← hP, kff_hit hk3 hhit hlt]; simp [kb]⟩)
      refine k_lv [0, 1, 2, 3] _ rfl ?_
      exact L_56 _ (j + 1) _ rfl rfl ⟨by omega, by omega, kff_low _ (fun t ht => by rw [hP]; simp; intro h1; omega)⟩
    · skip
      rw [ev_29_12] at c_32
      refine k_iconst X (v := 0) dX0_isHolding_35 (by decide) ?_
      exact k_zret X E (Or.inl rfl) dX0_isHolding_36 (Nat.le_of_ble_eq_true rfl) (Nat.le_of_ble_eq_true rfl) (⟨rfl, by unfold khol; rw [show kval S A m xs (xd j) = false from by cases g : kval S A m xs (xd j); rfl; (simp [kb, g] at c_32)]; rfl⟩)
