set_option maxHeartbeats 1000000 in
set_option maxRecDepth 20000 in
theorem c_X3_drawMembers (l : Launch) (e0 : Nat × Nat) (S : kS)  (A : Nat → Nat) (n : Nat) (cz : Nat → Nat) (T G Z : Nat) (h : kI e0 A n cz T G Z S)  (hb : T + 164 ≤ 900000 ∧ G + 0 ≤ 60000 ∧ Z + 0 ≤ 150000) : kM l e0 yX3_drawMembers cX3_drawMembers 2 none ({ frames := 9, cells := 48, slots := 2560, locals := 241 } : Room) 48 2560 [.ref (A 2)] S (kQv (fun S9 => kI e0 A n cz (T + 164) (G + 0) (Z + 0) S9 ∧ kKd A S S9 ∧ S9.R (A 1) 10 = none)) := by
  refine kMetE (by decide +kernel) (Nat.le_of_ble_eq_true rfl) (fun C he hl X E hm => ?_)
  have X : kX C RX3 cX3_drawMembers 2 ({ frames := 9, cells := 48, slots := 2560, locals := 241 } : Room) := X
  subst he hl
  show kG C 2 S 0 0 0 [(0, .ref (A 2))] []
  have hn := h.n40
  refine k_aload_n X (q := 0) dX3_drawMembers_0 rfl rfl ?_
  refine gX3_28s X (S := S) (st_2 h.st).1 (st_2 h.st).2 (sr_2_0 h.st) dX3_drawMembers_1 ?_
  refine k_gotV X (vX3_44 X (S := S) ⟨(st_1 h.st).1, (st_1 h.st).2⟩ (c_X2_dissolveCouncil C.l C.e0 S  A n cz _ _ _ h  (by omega)) (As := []) (rest := []) rfl rfl rfl rfl ⟨Nat.le_of_ble_eq_true rfl, Nat.le_of_ble_eq_true rfl⟩ (Nat.le_of_ble_eq_true rfl) ⟨(by show _ ≤ 48; omega), (by show _ ≤ 2560; omega)⟩ dX3_drawMembers_4) (fun S_4_2 h_4_0 => ?_)
  obtain ⟨hI_3, hx_3, hm_3⟩ := h_4_0
  have hK_3 := (kKe.rf).tr hx_3
  refine k_aload_n X (q := 0) dX3_drawMembers_7 rfl rfl ?_
  refine gX3_25s X (S := S_4_2) (st_2 hI_3.st).1 (st_2 hI_3.st).2 (sr_2_4 hI_3.st) dX3_drawMembers_8 ?_
  obtain ⟨m_4, xs_4, hL_4, -, -⟩ := hI_3.cl (r := 14) (by unfold clR; omega)
  refine k_gotV X (vX3_47 X (S := S_4_2) ⟨(st_14 hI_3.st).1, (st_14 hI_3.st).2⟩ (c_Jx4a65c_clear_da8c8 C.l C.e0 S_4_2 (A 14) 1 m_4 xs_4 hL_4) (As := []) (rest := []) rfl rfl rfl rfl ⟨Nat.le_of_ble_eq_true rfl, Nat.le_of_ble_eq_true rfl⟩ (Nat.le_of_ble_eq_true rfl) ⟨(by show _ ≤ 48; omega), (by show _ ≤ 2560; omega)⟩ dX3_drawMembers_11) (fun S_11_6 h_11_4 => ?_)
  obtain ⟨hfc_4, hls_4, -⟩ := h_11_4
  rw [so_14 hI_3.st] at hfc_4
  obtain ⟨cc_4, hlc_4⟩ := hls_4.c
  obtain ⟨hI_7, hx_7⟩ := hI_3.frC (r := 14) (by unfold clR; omega) hfc_4 ⟨0, _, hls_4, by omega, fun t ht => absurd ht (by omega)⟩ (by omega)
  have hK_7 := (hK_3).tr hx_7
  refine k_iconst X (v := 0) dX3_drawMembers_14 (by decide) ?_
  refine k_istore_n X [(1, .int 0), (0, .ref (A 2))] dX3_drawMembers_15 rfl (by decide) rfl ?_
  obtain ⟨Q, hQ⟩ : ∃ Q : Nat → Prop, Q = fun j => S_11_6.I (cz j) 6 = 1 ∧ ∀ k, k < 7 → ¬ S_11_6.R (kof A k) 1 = some (cz j) := ⟨_, rfl⟩
  have hgc : kGo S_4_2 S_11_6 (fun ρ _ => ρ = 14 ∨ ρ = 114) := hfc_4.go (fun b hb z j => z)
  have hc10 : S_11_6.R (A 1) 10 = none := by rw [(hI_3.a1 hgc 10 (by omega)).2]; exact hm_3.2
  refine k_room (k' := 0 + 12 * 0) (n' := 0 + 640 * 0) (by omega) (by omega) ?_
  have L_16 : ∀ (N : Nat) (i : Nat) (x : Int32) (Si : kS), 4 - i = N → x = nI i → (i ≤ 4 ∧ kI C.e0 A n cz (T + 40 * i) G Z Si ∧ kKe A S Si ∧ (∀ j, j < n → Si.I (cz j) 6 = S_11_6.I (cz j) 6) ∧ (∀ k, k < 7 → Si.R (kof A k) 1 = S_11_6.R (kof A k) 1) ∧ Si.R (A 1) 10 = none ∧ ∃ mb ys cb, kLc C.e0 Si (A 14) 1 mb ys cb ∧ mb ≤ 6 * i ∧ kall n cz Q mb ys) → kG C 2 Si (0 + 12 * i) (0 + 640 * i) 16 [(1, .int x), (0, .ref (A 2))] [] := by
    intro N
    induction N using Nat.strongRecOn with
    | _ N ih =>
    intro i x Si hMs h16_0 h16_1
    subst h16_0
    obtain ⟨hBi, hIi, hKi, hf6, hfo, hc0, mb, ys, cb, hlb, hmb, hab⟩ := h16_1
    obtain ⟨mt0, xt0, hLt0, -, -⟩ := hIi.cl (r := 13) (by unfold clR; omega)
    refine k_iload_n X (q := 0) dX3_drawMembers_16 rfl rfl ?_
    refine k_iconst X (v := 4) dX3_drawMembers_17 (by decide) ?_
    refine k_icmp_ge (tgt := 51) X dX3_drawMembers_18 (by decide) (fun c_18 => ?_) (fun c_18 => ?_)
    · skip
      have hin : 4 = i := by have := ge_of_le (m := 4) c_18 (by omega); omega
      subst hin
      refine k_iconst X (v := 0) dX3_drawMembers_51 (by decide) ?_
      refine k_istore_n X [(1, .int 0), (0, .ref (A 2))] dX3_drawMembers_52 rfl (by decide) rfl ?_
      have L_53 : ∀ (N : Nat) (k : Nat) (x2 : Int32) (Sk : kS), mb - k = N → x2 = nI k → (k ≤ mb ∧ kI C.e0 A n cz (T + 40 * 4) G Z Sk ∧ kKe A S Sk ∧ (∀ j, j < n → Sk.I (cz j) 6 = S_11_6.I (cz j) 6) ∧ (∀ k, k < 7 → Sk.R (kof A k) 1 = S_11_6.R (kof A k) 1) ∧ Sk.R (A 1) 10 = none ∧ kLs C.e0 Sk (A 14) 1 mb ys) → kG C 2 Sk (0 + 12 * 4) (0 + 640 * 4) 53 [(1, .int x2), (0, .ref (A 2))] [] := by
        intro N
        induction N using Nat.strongRecOn with
        | _ N ih53 =>
        intro k x2 Sk hMs h53_0 h53_1
        subst h53_0
        obtain ⟨hBk, hIk, hKk, hk6, hko, hk0, hLk⟩ := h53_1
        refine k_iload_n X (q := 0) dX3_drawMembers_53 rfl rfl ?_
        refine k_aload_n X (q := 1) dX3_drawMembers_54 rfl rfl ?_
        refine gX3_25s X (S := Sk) (st_2 hIk.st).1 (st_2 hIk.st).2 (sr_2_4 hIk.st) dX3_drawMembers_55 ?_
        refine k_gotI X (vX3_64 X (S := Sk) ⟨(st_14 hIk.st).1, (st_14 hIk.st).2⟩ (c_Jx4a65c_size_8abf5 C.l C.e0 Sk (A 14) (st_14 hIk.st)) (As := []) (rest := [.int (nI k)]) rfl rfl rfl rfl ⟨Nat.le_of_ble_eq_true rfl, Nat.le_of_ble_eq_true rfl⟩ (Nat.le_of_ble_eq_true rfl) ⟨(by show _ ≤ 48; omega), (by show _ ≤ 2560; omega)⟩ dX3_drawMembers_58) (fun v_58_9 S_58_10 h_58_7 => ?_)
        obtain ⟨rfl, ev_58_9⟩ := h_58_7
        have hz_v_58_9 : nI mb = v_58_9 := by rw [ev_58_9]; exact (hLk).2.1.symm
        subst hz_v_58_9
        refine k_icmp_ge (tgt := 105) X dX3_drawMembers_61 (by decide) (fun c_61 => ?_) (fun c_61 => ?_)
        · skip
          refine k_aload_n X (q := 1) dX3_drawMembers_105 rfl rfl ?_
          refine k_gotV X (vX3_81 X (S := Sk) ⟨(st_2 hIk.st).1, (st_2 hIk.st).2⟩ (c_X3_drawOrder C.l C.e0 Sk  A n cz _ _ _ hIk  (by omega)) (As := []) (rest := []) rfl rfl rfl rfl ⟨Nat.le_of_ble_eq_true rfl, Nat.le_of_ble_eq_true rfl⟩ (Nat.le_of_ble_eq_true rfl) ⟨(by show _ ≤ 48; omega), (by show _ ≤ 2560; omega)⟩ dX3_drawMembers_106) (fun S_106_12 h_106_10 => ?_)
          obtain ⟨hI_13, hx_13, hm_13⟩ := h_106_10
          have hK_13 := (hKk).d.tr hx_13
          exact k_vret X E dX3_drawMembers_109 (by show _ ≤ 48; omega) (by show _ ≤ 2560; omega) (⟨hI_13.mono (by omega) (by omega) (by omega), hK_13, hm_13.trans hk0⟩)
        · skip
          have hltk : k < mb := lt_of_nle c_61 (by omega)
          refine k_aload_n X (q := 1) dX3_drawMembers_64 rfl rfl ?_
          refine gX3_25s X (S := Sk) (st_2 hIk.st).1 (st_2 hIk.st).2 (sr_2_4 hIk.st) dX3_drawMembers_65 ?_
          refine k_iload_n X (q := 0) dX3_drawMembers_68 rfl rfl ?_
          refine k_gotQ X (vX3_67 X (S := Sk) ⟨(st_14 hIk.st).1, (st_14 hIk.st).2⟩ (c_Jx4a65c_get_915e3 C.l C.e0 Sk (A 14) 1 mb k ys (hLk) hltk) (As := [.int (nI k)]) (rest := []) rfl rfl rfl rfl ⟨Nat.le_of_ble_eq_true rfl, Nat.le_of_ble_eq_true rfl⟩ (Nat.le_of_ble_eq_true rfl) ⟨(by show _ ≤ 48; omega), (by show _ ≤ 2560; omega)⟩ dX3_drawMembers_69) (fun r_69_15 S_69_16 h_69_13 => ?_)
          obtain ⟨rfl, er_69_15⟩ := h_69_13
          subst er_69_15
          refine tX3_71 X (S := Sk) ⟨(kLs.el (hLk) hltk).1, (kLs.el (hLk) hltk).2⟩ dX3_drawMembers_72 ?_
          obtain ⟨j9, hj9, hy9, hq9⟩ := hab k hltk
          rw [hQ] at hq9
          rw [hy9]
          refine k_iconst X (v := 1) dX3_drawMembers_75 (by decide) ?_
          refine pX3_73 X (S := Sk) (hIk.at hj9).1 (hIk.at hj9).2 (Or.inr rfl) dX3_drawMembers_76 ?_
          obtain ⟨hI_17, hx_17⟩ := hIk.seatC hj9 (by rw [hk6 j9 hj9]; exact hq9.1) (fun k hk => by rw [hko k hk]; exact hq9.2 k hk)
          have hK_17 := (hKk).tr hx_17
          refine k_aload_n X (q := 1) dX3_drawMembers_79 rfl rfl ?_
          refine gX3_25s X (S := (Sk.uI (cz j9) 9 1)) (st_2 hI_17.st).1 (st_2 hI_17.st).2 (sr_2_4 hI_17.st) dX3_drawMembers_80 ?_
          refine k_iload_n X (q := 0) dX3_drawMembers_83 rfl rfl ?_
          refine k_gotQ X (vX3_67 X (S := (Sk.uI (cz j9) 9 1)) ⟨(st_14 hI_17.st).1, (st_14 hI_17.st).2⟩ (c_Jx4a65c_get_915e3 C.l C.e0 (Sk.uI (cz j9) 9 1) (A 14) 1 mb k ys ((hLk.uI (b := cz j9) (κb := 1) (hIk.at hj9) (by decide))) hltk) (As := [.int (nI k)]) (rest := []) rfl rfl rfl rfl ⟨Nat.le_of_ble_eq_true rfl, Nat.le_of_ble_eq_true rfl⟩ (Nat.le_of_ble_eq_true rfl) ⟨(by show _ ≤ 48; omega), (by show _ ≤ 2560; omega)⟩ dX3_drawMembers_84) (fun r_84_19 S_84_20 h_84_17 => ?_)
          obtain ⟨rfl, er_84_19⟩ := h_84_17
          subst er_84_19
          refine tX3_71 X (S := (Sk.uI (cz j9) 9 1)) ⟨(kLs.el ((hLk.uI (b := cz j9) (κb := 1) (hIk.at hj9) (by decide))) hltk).1, (kLs.el ((hLk.uI (b := cz j9) (κb := 1) (hIk.at hj9) (by decide))) hltk).2⟩ dX3_drawMembers_87 ?_
          rw [hy9]
          refine k_dup X dX3_drawMembers_90 rfl ?_
          refine gX3_77 X (S := (Sk.uI (cz j9) 9 1)) (hI_17.at hj9).1 (hI_17.at hj9).2 dX3_drawMembers_91 (fun v_91_21 ev_91_21 => ?_)
          refine k_iconst X (v := 1) dX3_drawMembers_94 (by decide) ?_
          refine k_iadd X dX3_drawMembers_95 (fun v_95_22 ev_95_22 => ?_)
          refine pX3_77 X (S := (Sk.uI (cz j9) 9 1)) (hI_17.at hj9).1 (hI_17.at hj9).2 dX3_drawMembers_96 ?_
          obtain ⟨hI_23, hx_23⟩ := (⟨hI_17.fI (i := 8) (v := v_95_22) (hI_17.oc _ hj9) (by unfold pSM; omega) (by unfold pVM pCi pHo pCh pLe pMy pMs pOf; omega) (by unfold pLu; omega), hI_17.fIk (i := 8) (v := v_95_22) (hI_17.oc _ hj9) (by unfold pKe; omega)⟩ : _ ∧ _)
          have hK_23 := (hK_17).tr hx_23
          obtain ⟨v_99_24, ev_99_24⟩ : ∃ z : Int32, z = (nI k) + 1 := ⟨_, rfl⟩
          refine k_iinc X (q := 0) (v := v_99_24) [(1, .int v_99_24), (0, .ref (A 2))] dX3_drawMembers_99 rfl (by rw [ev_99_24]; rfl) (by decide) rfl ?_
          refine k_goto (tgt := 53) X dX3_drawMembers_102 (by decide) ?_
          refine k_lv [0, 1] _ rfl ?_
          exact ih53 (mb - (k + 1)) (by omega) (k + 1) _ _ rfl (by rw [ev_99_24, nI_1]) ⟨by omega, hI_23.mono (by omega) (by omega) (by omega), hK_23, fun j hj => by rw [uI_I, if_neg (by omega), uI_I, if_neg (by omega)]; exact hk6 j hj, fun k hk => hko k hk, hk0, ((hLk.uI (b := cz j9) (κb := 1) (hIk.at hj9) (by decide)).uI (b := cz j9) (κb := 1) (hIk.at hj9) (by decide))⟩
      refine k_lv [0, 1] _ rfl ?_
      exact L_53 _ 0 0 _ rfl nI_0.symm ⟨by omega, hIi.mono (by omega) (by omega) (by omega), hKi, hf6, hfo, hc0, hlb.s⟩
    · skip
      have hlti : i < 4 := lt_of_nle (m := 4) c_18 (by omega)
      refine k_aload_n X (q := 1) dX3_drawMembers_21 rfl rfl ?_
      refine k_iload_n X (q := 0) dX3_drawMembers_22 rfl rfl ?_
      refine k_gotV X (vX3_50 X (S := Si) ⟨(st_2 hIi.st).1, (st_2 hIi.st).2⟩ (c_X3_gatherTickets C.l C.e0 Si (nI i) A n cz hIi.st hIi.hC hn hIi.oc mt0 xt0 hLt0 hIi.hO hIi.oo) (As := [.int (nI i)]) (rest := []) rfl rfl rfl rfl ⟨Nat.le_of_ble_eq_true rfl, Nat.le_of_ble_eq_true rfl⟩ (Nat.le_of_ble_eq_true rfl) ⟨(by show _ ≤ 48; omega), (by show _ ≤ 2560; omega)⟩ dX3_drawMembers_23) (fun S_23_26 h_23_24 => ?_)
      obtain ⟨hfg, mt, xt, ct, hlt9, hmt, hat⟩ := h_23_24
      have hlb1 := hlb.frR (so_14 hIi.st) hfg (by decide) (by decide) (by decide)
      obtain ⟨hI_27, hx_27⟩ := hIi.frC (r := 13) (by unfold clR; omega) hfg (kall.cl hlt9 (by omega) hat) (by omega)
      have hK_27 := (hKi).tr hx_27
      refine k_aload_n X (q := 1) dX3_drawMembers_26 rfl rfl ?_
      refine gX3_28s X (S := S_23_26) (st_2 hI_27.st).1 (st_2 hI_27.st).2 (sr_2_0 hI_27.st) dX3_drawMembers_27 ?_
      refine gX3_54s X (S := S_23_26) (st_1 hI_27.st).1 (st_1 hI_27.st).2 (sr_1_11 hI_27.st) dX3_drawMembers_30 ?_
      refine k_aload_n X (q := 1) dX3_drawMembers_33 rfl rfl ?_
      refine gX3_21s X (S := S_23_26) (st_2 hI_27.st).1 (st_2 hI_27.st).2 (sr_2_3 hI_27.st) dX3_drawMembers_34 ?_
      refine k_iconst X (v := 1) dX3_drawMembers_37 (by decide) ?_
      refine k_aload_n X (q := 1) dX3_drawMembers_38 rfl rfl ?_
      refine gX3_25s X (S := S_23_26) (st_2 hI_27.st).1 (st_2 hI_27.st).2 (sr_2_4 hI_27.st) dX3_drawMembers_39 ?_
      refine k_gotV X (vX3_58 X (S := S_23_26) ⟨(st_7 hI_27.st).1, (st_7 hI_27.st).2⟩ (c_X6_takeRows C.l C.e0 S_23_26 (A 13) (A 14) A hI_27.st 1 mt mb cb 13 14 xt ys hlt9.s (by omega) hlb1 (so_13 hI_27.st) (so_14 hI_27.st) (by omega) (by omega) (by omega) (by omega) hI_27.lu.1 (by omega)) (As := [.ref (A 13), .int 1, .ref (A 14)]) (rest := []) rfl rfl rfl rfl ⟨Nat.le_of_ble_eq_true rfl, Nat.le_of_ble_eq_true rfl⟩ (Nat.le_of_ble_eq_true rfl) ⟨(by show _ ≤ 48; omega), (by show _ ≤ 2560; omega)⟩ dX3_drawMembers_42) (fun S_42_29 h_42_27 => ?_)
      obtain ⟨hfq, mq, yq, cq, rq, hlq, hap, hmq, hrq, hluq, hdrq⟩ := h_42_27
      have haq : kall n cz Q mq yq := fun t ht => by
        rcases hap.2 t ht with ⟨g1, g2⟩ | ⟨g1, g2, g3⟩
        · rw [g2]; exact hab t g1
        · obtain ⟨j, q1, q2, q3, q4⟩ := hat g1 g2
          refine ⟨j, q1, g3.trans q2, ?_⟩
          rw [hQ]
          exact ⟨by rw [← hf6 j q1]; exact q3, fun k hk => by rw [← hfo k hk]; exact q4 k hk⟩
      have hgq : kGo Si S_42_29 (fun ρ _ => ρ = 13 ∨ ρ = 113 ∨ ρ = 14 ∨ ρ = 114 ∨ ρ = 7) := (hfg.go (fun b hb z j => by unfold kRo at z; omega)).tr (hfq.go (fun b hb z j => by unfold kRo at z; omega))
      have hf6n : ∀ j, j < n → S_42_29.I (cz j) 6 = S_11_6.I (cz j) 6 := fun j hj => by rw [hIi.cF hgq hj 6 (by omega)]; exact hf6 j hj
      have hfon : ∀ k, k < 7 → S_42_29.R (kof A k) 1 = S_11_6.R (kof A k) 1 := fun k hk => by rw [(hIi.oF hgq hk 1 (by omega)).2]; exact hfo k hk
      have hc0n : S_42_29.R (A 1) 10 = none := by rw [(hIi.a1 hgq 10 (by omega)).2]; exact hc0
      obtain ⟨hI_30, hx_30⟩ := hI_27.frD (r := 14) (t := rq) (by unfold clR; omega) hfq (kall.cl hlq (by omega) haq) hluq hdrq (by omega)
      have hK_30 := (hK_27).tr hx_30
      obtain ⟨v_45_31, ev_45_31⟩ : ∃ z : Int32, z = (nI i) + 1 := ⟨_, rfl⟩
      refine k_iinc X (q := 0) (v := v_45_31) [(1, .int v_45_31), (0, .ref (A 2))] dX3_drawMembers_45 rfl (by rw [ev_45_31]; rfl) (by decide) rfl ?_
      refine k_goto (tgt := 16) X dX3_drawMembers_48 (by decide) ?_
      refine k_lv [0, 1] _ rfl ?_
      refine k_room (k' := 0 + 12 * (i + 1)) (n' := 0 + 640 * (i + 1)) (by omega) (by omega) ?_
      exact ih (4 - (i + 1)) (by omega) (i + 1) _ _ rfl (by rw [ev_45_31, nI_1]) ⟨by omega, hI_30.mono (by omega) (by omega) (by omega), hK_30, hf6n, hfon, hc0n, mq, yq, cq, hlq, by omega, haq⟩
  refine k_lv [0, 1] _ rfl ?_
  exact L_16 _ 0 0 _ rfl nI_0.symm ⟨by omega, hI_7.mono (by omega) (by omega) (by omega), hK_7, fun j hj => rfl, fun k hk => rfl, hc10, 0, _, _, hlc_4, by omega, kall_0⟩
