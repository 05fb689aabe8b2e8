section KNM
variable {e0 : Nat × Nat} {S : kS}
theorem kLs.aat {a b ρ κ m : Nat} {xs : Nat → Nat} {x v : Int32} (h : kLs e0 S b κ m xs) (ha : S.O a = ρ) (ho : ¬ S.O b = ρ ∧ ¬ 100 + S.O b = ρ) : kLs e0 (kaat S a x v) b κ m xs := by
  unfold kaat
  by_cases h1 : x < 0
  · rw [if_pos h1]; exact h
  · rw [if_neg h1]
    by_cases h2 : Int32.ofNat (S.N a) ≤ x
    · rw [if_pos h2]; exact h
    · rw [if_neg h2]
      exact h.go (W := fun z _ => z = ρ) (kGo.rf.uI (fun _ => ha)) (fun j => ho)
theorem kLs.filk {a b ρ κ m N : Nat} {xs : Nat → Nat} {v : Int32} (h : kLs e0 S b κ m xs) (ha : S.O a = ρ) (ho : ¬ S.O b = ρ ∧ ¬ 100 + S.O b = ρ) : kLs e0 (S.fil a N v) b κ m xs :=
  h.go (W := fun z _ => z = ρ) ⟨fun b hb => ⟨hb, rfl, rfl, rfl⟩, fun b hb j hn => ⟨if_neg (fun z => hn (by rw [z.1]; exact ha)), rfl⟩⟩ (fun j => ho)
end KNM
set_option maxHeartbeats 1000000 in
set_option maxRecDepth 20000 in
theorem c_X11_placeOfMost (l : Launch) (e0 : Nat × Nat) (S : kS) (a : Nat)  (ha : S.at a 13) (hN : S.N a < 2 ^ 31) (h19 : 1 ≤ S.N a) : kM l e0 yX11_placeOfMost cX11_placeOfMost 3 (Option.some Jvm.ClassFile.FieldType.int) ({ frames := 0, cells := 0, slots := 0, locals := 0 } : Room) 0 0 [.ref a] S (kQi (fun v S9 => S = S9)) := by
  refine kMetE (by decide +kernel) (Nat.le_of_ble_eq_true rfl) (fun C he hl X E hm => ?_)
  have X : kX C RX11 cX11_placeOfMost 3 ({ frames := 0, cells := 0, slots := 0, locals := 0 } : Room) := X
  subst he hl
  show kG C 3 S 0 0 0 [(0, .ref a)] []
  refine k_iconst X (v := 0) dX11_placeOfMost_0 (by decide) ?_
  refine k_istore_n X [(1, .int 0), (0, .ref a)] dX11_placeOfMost_1 rfl (by decide) rfl ?_
  refine k_iconst X (v := 1) dX11_placeOfMost_2 (by decide) ?_
  refine k_istore_n X [(2, .int 1), (1, .int 0), (0, .ref a)] dX11_placeOfMost_3 rfl (by decide) rfl ?_
  have L_4 : ∀ (N : Nat) (i b : Nat) (x y : Int32), S.N a - i = N → x = nI i → y = nI b → (1 ≤ i ∧ i ≤ S.N a ∧ b < S.N a) → kG C 3 S 0 0 4 [(2, .int x), (1, .int y), (0, .ref a)] [] := by
    intro N
    induction N using Nat.strongRecOn with
    | _ N ih =>
    intro i b x y hMs h4_0 h4_1 h4_2
    subst h4_0 h4_1
    obtain ⟨hi1, hi2, hb1⟩ := h4_2
    refine k_iload_n X (q := 0) dX11_placeOfMost_4 rfl rfl ?_
    refine k_aload_n X (q := 2) dX11_placeOfMost_5 rfl rfl ?_
    refine k_alen X (S := S) ha.1 (by simp [ha.2]) dX11_placeOfMost_6 ?_
    refine k_icmp_ge (tgt := 27) X dX11_placeOfMost_7 (by decide) (fun c_7 => ?_) (fun c_7 => ?_)
    · skip
      refine k_iload_n X (q := 1) dX11_placeOfMost_27 rfl rfl ?_
      exact k_iret X E dX11_placeOfMost_28 (Nat.le_of_ble_eq_true rfl) (Nat.le_of_ble_eq_true rfl) rfl
    · skip
      have hlt : i < S.N a := lt_of_nle c_7 (by omega)
      refine k_aload_n X (q := 2) dX11_placeOfMost_10 rfl rfl ?_
      refine k_iload_n X (q := 0) dX11_placeOfMost_11 rfl rfl ?_
      refine k_iald X (S := S) ha.1 ha.2 (show vp_in (nI i) (S.N a) from vp_in_nI hlt (by omega)) dX11_placeOfMost_12 (fun v_12_1 ev_12_1 => ?_)
      refine k_aload_n X (q := 2) dX11_placeOfMost_13 rfl rfl ?_
      refine k_iload_n X (q := 1) dX11_placeOfMost_14 rfl rfl ?_
      refine k_iald X (S := S) ha.1 ha.2 (show vp_in (nI b) (S.N a) from vp_in_nI hb1 (by omega)) dX11_placeOfMost_15 (fun v_15_2 ev_15_2 => ?_)
      refine k_icmp_le (tgt := 21) X dX11_placeOfMost_16 (by decide) (fun c_16 => ?_) (fun c_16 => ?_)
      · skip
        obtain ⟨v_21_3, ev_21_3⟩ : ∃ z : Int32, z = (nI i) + 1 := ⟨_, rfl⟩
        refine k_iinc X (q := 0) (v := v_21_3) [(2, .int v_21_3), (1, .int (nI b)), (0, .ref a)] dX11_placeOfMost_21 rfl (by rw [ev_21_3]; rfl) (by decide) rfl ?_
        refine k_goto (tgt := 4) X dX11_placeOfMost_24 (by decide) ?_
        refine k_lv [0, 1, 2] _ rfl ?_
        exact ih (S.N a - (i + 1)) (by omega) (i + 1) b _ _ rfl (by rw [ev_21_3, nI_1]) rfl ⟨by omega, by omega, by omega⟩
      · skip
        refine k_iload_n X (q := 0) dX11_placeOfMost_19 rfl rfl ?_
        refine k_istore_n X [(1, .int (nI i)), (2, .int (nI i)), (0, .ref a)] dX11_placeOfMost_20 rfl (by decide) rfl ?_
        obtain ⟨v_21_4, ev_21_4⟩ : ∃ z : Int32, z = (nI i) + 1 := ⟨_, rfl⟩
        refine k_iinc X (q := 1) (v := v_21_4) [(2, .int v_21_4), (1, .int (nI i)), (0, .ref a)] dX11_placeOfMost_21 rfl (by rw [ev_21_4]; rfl) (by decide) rfl ?_
        refine k_goto (tgt := 4) X dX11_placeOfMost_24 (by decide) ?_
        refine k_lv [0, 1, 2] _ rfl ?_
        exact ih (S.N a - (i + 1)) (by omega) (i + 1) i _ _ rfl (by rw [ev_21_4, nI_1]) rfl ⟨by omega, by omega, by omega⟩
  refine k_lv [0, 1, 2] _ rfl ?_
  exact L_4 _ 1 0 1 0 rfl rfl nI_0.symm ⟨by omega, by omega, by omega⟩
set_option maxHeartbeats 1000000 in
set_option maxRecDepth 20000 in
theorem c_X0_writeSherds (l : Launch) (e0 : Nat × Nat) (S : kS)  (A : Nat → Nat) (n : Nat) (cz : Nat → Nat) (T G Z : Nat) (h : kI e0 A n cz T G Z S)  (hb : T + 1 ≤ 900000 ∧ G + 0 ≤ 60000 ∧ Z + 0 ≤ 150000) : kM l e0 yX0_writeSherds cX0_writeSherds 4 (Option.some (Jvm.ClassFile.FieldType.object "Kleroterion$Citizen")) ({ frames := 8, cells := 6, slots := 202, locals := 213 } : Room) 6 202 [.ref (A 4)] S (kQq (fun v S9 => kI e0 A n cz (T + 1) (G + 0) (Z + 0) S9 ∧ kKe A S S9 ∧ (v = none ∨ ∃ j, j < n ∧ v = some (cz j)))) := by
  refine kMetE (by decide +kernel) (Nat.le_of_ble_eq_true rfl) (fun C he hl X E hm => ?_)
  have X : kX C RX0 cX0_writeSherds 4 ({ frames := 8, cells := 6, slots := 202, locals := 213 } : Room) := X
  subst he hl
  show kG C 4 S 0 0 0 [(0, .ref (A 4))] []
  have hn := h.n40
  refine k_aload_n X (q := 0) dX0_writeSherds_0 rfl rfl ?_
  refine k_aload_n X (q := 0) dX0_writeSherds_1 rfl rfl ?_
  refine gX0_38s X (S := S) (st_4 h.st).1 (st_4 h.st).2 (sr_4_0 h.st) dX0_writeSherds_2 ?_
  refine k_gotI X (vX0_202 X (S := S) ⟨(st_1 h.st).1, (st_1 h.st).2⟩ (c_X2_year C.l C.e0 S  A h.st ) (As := []) (rest := [.ref (A 4)]) rfl rfl rfl rfl ⟨Nat.le_of_ble_eq_true rfl, Nat.le_of_ble_eq_true rfl⟩ (Nat.le_of_ble_eq_true rfl) ⟨(by show _ ≤ 6; omega), (by show _ ≤ 202; omega)⟩ dX0_writeSherds_5) (fun v_5_2 S_5_3 h_5_0 => ?_)
  obtain ⟨rfl, ev_5_2⟩ := h_5_0
  refine pX0_35 X (S := S) (st_4 h.st).1 (st_4 h.st).2 dX0_writeSherds_8 ?_
  obtain ⟨hI_4, hx_4⟩ := (⟨h.fI (i := 8) (v := v_5_2) (so_4 h.st) (by unfold pSM; omega) (by unfold pVM pCi pHo pCh pLe pMy pMs pOf; omega) (by unfold pLu; omega), h.fIk (i := 8) (v := v_5_2) (so_4 h.st) (by unfold pKe; omega)⟩ : _ ∧ _)
  have hK_4 := (kKe.rf).tr hx_4
  refine k_aload_n X (q := 0) dX0_writeSherds_11 rfl rfl ?_
  obtain ⟨mg0, xg0, hLg0, -, -⟩ := hI_4.cl (r := 20) (by unfold clR; omega)
  refine k_gotV X (vX0_108 X (S := (S.uI (A 4) 8 v_5_2)) ⟨(st_4 hI_4.st).1, (st_4 hI_4.st).2⟩ (c_X0_gatherPresent C.l C.e0 (S.uI (A 4) 8 v_5_2) A n cz hI_4.st hI_4.hC hn hI_4.oc mg0 xg0 hLg0) (As := []) (rest := []) rfl rfl rfl rfl ⟨Nat.le_of_ble_eq_true rfl, Nat.le_of_ble_eq_true rfl⟩ (Nat.le_of_ble_eq_true rfl) ⟨(by show _ ≤ 6; omega), (by show _ ≤ 202; omega)⟩ dX0_writeSherds_12) (fun S_12_6 h_12_4 => ?_)
  obtain ⟨hfg, xg, cg, hlg, heg⟩ := h_12_4
  have hmg := kcnt_le (kpre (S.uI (A 4) 8 v_5_2) A cz) n
  obtain ⟨hI_7, hx_7⟩ := hI_4.gath hfg hlg heg (by omega)
  have hK_7 := (hK_4).tr hx_7
  refine k_aload_n X (q := 0) dX0_writeSherds_15 rfl rfl ?_
  refine gX0_25s X (S := S_12_6) (st_4 hI_7.st).1 (st_4 hI_7.st).2 (sr_4_5 hI_7.st) dX0_writeSherds_16 ?_
  refine k_gotI X (vX0_84 X (S := S_12_6) ⟨(st_20 hI_7.st).1, (st_20 hI_7.st).2⟩ (c_Jx4a65c_size_8abf5 C.l C.e0 S_12_6 (A 20) (st_20 hI_7.st)) (As := []) (rest := []) rfl rfl rfl rfl ⟨Nat.le_of_ble_eq_true rfl, Nat.le_of_ble_eq_true rfl⟩ (Nat.le_of_ble_eq_true rfl) ⟨(by show _ ≤ 6; omega), (by show _ ≤ 202; omega)⟩ dX0_writeSherds_19) (fun v_19_9 S_19_10 h_19_7 => ?_)
  obtain ⟨rfl, ev_19_9⟩ := h_19_7
  have hz_v_19_9 : nI (kcnt (kpre (S.uI (A 4) 8 v_5_2) A cz) n) = v_19_9 := by rw [ev_19_9]; exact (hlg.s).2.1.symm
  subst hz_v_19_9
  obtain ⟨mp, hmp9⟩ : ∃ z, z = kcnt (kpre (S.uI (A 4) 8 v_5_2) A cz) n := ⟨_, rfl⟩
  have hxg : ∀ t, t < mp → ∃ j, j < n ∧ xg t = cz j := by rw [hmp9]; exact kenu_all heg
  have hmp40 : mp ≤ 40 := by rw [hmp9]; omega
  have hlg9 : kLs C.e0 S_12_6 (A 20) 1 mp xg := by rw [hmp9]; exact hlg.s
  rw [← hmp9]
  refine k_istore_n X [(1, .int (nI mp)), (0, .ref (A 4))] dX0_writeSherds_22 rfl (by decide) rfl ?_
  refine k_iload_n X (q := 0) dX0_writeSherds_23 rfl rfl ?_
  refine k_bipush X (v := 6) dX0_writeSherds_24 (by decide) ?_
  refine k_icmp_lt (tgt := 42) X dX0_writeSherds_26 (by decide) (fun c_26 => ?_) (fun c_26 => ?_)
  · skip
    refine k_null X dX0_writeSherds_42 ?_
    exact k_aret X E (r := none) (Or.inl ⟨_, rfl⟩) dX0_writeSherds_43 (by show _ ≤ 6; omega) (by show _ ≤ 202; omega) (⟨hI_7.mono (by omega) (by omega) (by omega), hK_7, Or.inl rfl⟩)
  · skip
    refine k_iconst X (v := 3) dX0_writeSherds_29 (by decide) ?_
    refine k_iload_n X (q := 0) dX0_writeSherds_30 rfl rfl ?_
    refine k_imul X dX0_writeSherds_31 (fun v_31_11 ev_31_11 => ?_)
    refine k_aload_n X (q := 1) dX0_writeSherds_32 rfl rfl ?_
    refine gX0_38s X (S := S_12_6) (st_4 hI_7.st).1 (st_4 hI_7.st).2 (sr_4_0 hI_7.st) dX0_writeSherds_33 ?_
    refine k_gotI X (vX0_115 X (S := S_12_6) ⟨(st_1 hI_7.st).1, (st_1 hI_7.st).2⟩ (c_X2_full C.l C.e0 S_12_6  A n cz hI_7.st hI_7.hC hn ) (As := []) (rest := [.int v_31_11]) rfl rfl rfl rfl ⟨Nat.le_of_ble_eq_true rfl, Nat.le_of_ble_eq_true rfl⟩ (Nat.le_of_ble_eq_true rfl) ⟨(by show _ ≤ 6; omega), (by show _ ≤ 202; omega)⟩ dX0_writeSherds_36) (fun v_36_13 S_36_14 h_36_11 => ?_)
    obtain ⟨rfl, ev_36_13⟩ := h_36_11
    refine k_icmp_gt (tgt := 44) X dX0_writeSherds_39 (by decide) (fun c_39 => ?_) (fun c_39 => ?_)
    · skip
      refine k_aload_n X (q := 1) dX0_writeSherds_44 rfl rfl ?_
      refine gX0_28s X (S := S_12_6) (st_4 hI_7.st).1 (st_4 hI_7.st).2 (sr_4_6 hI_7.st) dX0_writeSherds_45 ?_
      refine k_iconst X (v := 0) dX0_writeSherds_48 (by decide) ?_
      refine k_gotV X (vX0_46 X (S := S_12_6) (c_J7_fill_53178 C.l C.e0 S_12_6 (A 44) 0 ⟨(st_44 hI_7.st).1, (st_44 hI_7.st).2⟩ (sm_44 hI_7.st)) (As := [.ref (A 44), .int 0]) (rest := []) rfl rfl rfl rfl ⟨Nat.le_of_ble_eq_true rfl, Nat.le_of_ble_eq_true rfl⟩ (Nat.le_of_ble_eq_true rfl) ⟨(by show _ ≤ 6; omega), (by show _ ≤ 202; omega)⟩ dX0_writeSherds_49) (fun S_49_16 h_49_14 => ?_)
      subst h_49_14
      obtain ⟨hI_17, hx_17⟩ := hI_7.fil (so_44 hI_7.st) (by omega)
      have hK_17 := (hK_7).tr hx_17
      have hlk_49 : kLs C.e0 (S_12_6.fil (A 44) (S_12_6.N (A 44)) 0) (A 20) 1 mp xg := hlg9.filk (so_44 hI_7.st) (by rw [so_20 hI_7.st]; omega)
      refine k_iconst X (v := 0) dX0_writeSherds_52 (by decide) ?_
      refine k_istore_n X [(2, .int 0), (1, .int (nI mp)), (0, .ref (A 4))] dX0_writeSherds_53 rfl (by decide) rfl ?_
      have L_54 : ∀ (N : Nat) (i : Nat) (x : Int32) (Si : kS), mp - i = N → x = nI i → (i ≤ mp ∧ kI C.e0 A n cz T G Z Si ∧ kKe A S Si ∧ kLs C.e0 Si (A 20) 1 mp xg) → kG C 4 Si (0 + 6 + 0 + 0 + 0) (0 + 202 + 0 + 0 + 0) 54 [(2, .int x), (1, .int (nI mp)), (0, .ref (A 4))] [] := by
        intro N
        induction N using Nat.strongRecOn with
        | _ N ih =>
        intro i x Si hMs h54_0 h54_1
        subst h54_0
        obtain ⟨hBi, hIi, hKi, hlki⟩ := h54_1
        refine k_iload_n X (q := 0) dX0_writeSherds_54 rfl rfl ?_
        refine k_iload_n X (q := 1) dX0_writeSherds_55 rfl rfl ?_
        refine k_icmp_ge (tgt := 97) X dX0_writeSherds_56 (by decide) (fun c_56 => ?_) (fun c_56 => ?_)
        · skip
          have hin : mp = i := by have := ge_of_le c_56 (by omega); omega
          subst hin
          refine k_aload_n X (q := 2) dX0_writeSherds_97 rfl rfl ?_
          refine gX0_28s X (S := Si) (st_4 hIi.st).1 (st_4 hIi.st).2 (sr_4_6 hIi.st) dX0_writeSherds_98 ?_
          refine k_gotI X (vX0_212 X (S := Si) (c_X11_placeOfMost C.l C.e0 Si (A 44)  ⟨(st_44 hIi.st).1, (st_44 hIi.st).2⟩ (sm_44 hIi.st) (by rw [sn_44 hIi.st]; decide)) (As := [.ref (A 44)]) (rest := []) rfl rfl rfl rfl ⟨Nat.le_of_ble_eq_true rfl, Nat.le_of_ble_eq_true rfl⟩ (Nat.le_of_ble_eq_true rfl) ⟨(by show _ ≤ 6; omega), (by show _ ≤ 202; omega)⟩ dX0_writeSherds_101) (fun v_101_19 S_101_20 h_101_17 => ?_)
          subst h_101_17
          refine k_istore_n X [(2, .int v_101_19), (1, .int (nI mp)), (0, .ref (A 4))] dX0_writeSherds_104 rfl (by decide) rfl ?_
          refine k_aload_n X (q := 2) dX0_writeSherds_105 rfl rfl ?_
          refine gX0_38s X (S := Si) (st_4 hIi.st).1 (st_4 hIi.st).2 (sr_4_0 hIi.st) dX0_writeSherds_106 ?_
          refine k_iload_n X (q := 0) dX0_writeSherds_109 rfl rfl ?_
          refine k_gotQ X (vX0_161 X (S := Si) ⟨(st_1 hIi.st).1, (st_1 hIi.st).2⟩ (c_X2_numbered C.l C.e0 Si v_101_19 A n cz hIi.st hIi.hC hn (by have := hIi.who.1; omega)) (As := [.int v_101_19]) (rest := []) rfl rfl rfl rfl ⟨Nat.le_of_ble_eq_true rfl, Nat.le_of_ble_eq_true rfl⟩ (Nat.le_of_ble_eq_true rfl) ⟨(by show _ ≤ 6; omega), (by show _ ≤ 202; omega)⟩ dX0_writeSherds_110) (fun r_110_22 S_110_23 h_110_20 => ?_)
          obtain ⟨rfl, hnj_110, hnq_110⟩ := h_110_20
          refine k_astore_nQ X [(3, va_rf r_110_22), (2, .int v_101_19), (1, .int (nI mp)), (0, .ref (A 4))] dX0_writeSherds_113 rfl (by decide) rfl ?_
          refine k_aload_nQ X (q := 0) dX0_writeSherds_114 rfl rfl ?_
          refine k_ifnull (tgt := 132) X dX0_writeSherds_115 (by decide) (fun c_115 => ?_) (fun a_115_24 c_115 => ?_)
          · skip
            subst c_115
            refine k_null X dX0_writeSherds_132 ?_
            exact k_aret X E (r := none) (Or.inl ⟨_, rfl⟩) dX0_writeSherds_133 (by show _ ≤ 6; omega) (by show _ ≤ 202; omega) (⟨hIi.mono (by omega) (by omega) (by omega), hKi, Or.inl rfl⟩)
          · skip
            subst c_115
            obtain ⟨j, hj, hja⟩ : ∃ j, j < n ∧ a_115_24 = cz j := by
              rcases hnq_110 with z | ⟨j, z1, z2, z3⟩
              · cases z
              · exact ⟨j, z1, Option.some.inj z3⟩
            subst hja
            refine k_iconst X (v := 3) dX0_writeSherds_118 (by decide) ?_
            refine k_aload_n X (q := 3) dX0_writeSherds_119 rfl rfl ?_
            refine gX0_28s X (S := Si) (st_4 hIi.st).1 (st_4 hIi.st).2 (sr_4_6 hIi.st) dX0_writeSherds_120 ?_
            refine k_iload_n X (q := 1) dX0_writeSherds_123 rfl rfl ?_
            refine k_gotI X (vX0_52 X (S := Si) (c_X11_valueAt C.l C.e0 Si (A 44) v_101_19 (st_44 hIi.st) (sm_44 hIi.st)) (As := [.ref (A 44), .int v_101_19]) (rest := [.int 3]) rfl rfl rfl rfl ⟨Nat.le_of_ble_eq_true rfl, Nat.le_of_ble_eq_true rfl⟩ (Nat.le_of_ble_eq_true rfl) ⟨(by show _ ≤ 6; omega), (by show _ ≤ 202; omega)⟩ dX0_writeSherds_124) (fun v_124_26 S_124_27 h_124_24 => ?_)
            obtain ⟨rfl, ev_124_26⟩ := h_124_24
            refine k_imul X dX0_writeSherds_127 (fun v_127_28 ev_127_28 => ?_)
            refine k_iload_n X (q := 2) dX0_writeSherds_128 rfl rfl ?_
            refine k_icmp_ge (tgt := 134) X dX0_writeSherds_129 (by decide) (fun c_129 => ?_) (fun c_129 => ?_)
            · skip
              refine k_aload_n X (q := 3) dX0_writeSherds_134 rfl rfl ?_
              refine gX0_38s X (S := Si) (st_4 hIi.st).1 (st_4 hIi.st).2 (sr_4_0 hIi.st) dX0_writeSherds_135 ?_
              refine k_aload_n X (q := 0) dX0_writeSherds_138 rfl rfl ?_
              refine k_iconst X (v := 3) dX0_writeSherds_139 (by decide) ?_
              refine k_gotV X (vX0_216 X (S := Si) ⟨(st_1 hIi.st).1, (st_1 hIi.st).2⟩ (c_X2_sendAway C.l C.e0 Si 3 A n cz j _ _ _ hIi hj) (As := [.ref (cz j), .int 3]) (rest := []) rfl rfl rfl rfl ⟨Nat.le_of_ble_eq_true rfl, Nat.le_of_ble_eq_true rfl⟩ (Nat.le_of_ble_eq_true rfl) ⟨(by show _ ≤ 6; omega), (by show _ ≤ 202; omega)⟩ dX0_writeSherds_140) (fun S_140_30 h_140_28 => ?_)
              have hsd_140 := h_140_28
              obtain ⟨hI_31, hx_31⟩ := hIi.send hj (s := 3) (by omega) hsd_140
              have hK_31 := (hKi).tr hx_31
              refine k_aload_n X (q := 3) dX0_writeSherds_143 rfl rfl ?_
              refine gX0_38s X (S := S_140_30) (st_4 hI_31.st).1 (st_4 hI_31.st).2 (sr_4_0 hI_31.st) dX0_writeSherds_144 ?_
              refine k_dup X dX0_writeSherds_147 rfl ?_
              refine gX0_220 X (S := S_140_30) (st_1 hI_31.st).1 (st_1 hI_31.st).2 dX0_writeSherds_148 (fun v_148_32 ev_148_32 => ?_)
              refine k_iconst X (v := 1) dX0_writeSherds_151 (by decide) ?_
              refine k_iadd X dX0_writeSherds_152 (fun v_152_33 ev_152_33 => ?_)
              refine pX0_220 X (S := S_140_30) (st_1 hI_31.st).1 (st_1 hI_31.st).2 dX0_writeSherds_153 ?_
              have hun_34 : 0 ≤ (v_152_33).toInt ∧ (v_152_33).toInt ≤ 3 * ((T + 1 : Nat) : Int) := by
                obtain ⟨-, ⟨u1, u2⟩, -⟩ := hI_31.ms
                have q9 : (1 : Int32).toInt = 1 := rfl
                rw [ev_152_33, i_add (by rw [ev_148_32, q9]; omega) (by rw [ev_148_32, q9]; omega), ev_148_32, q9]
                omega
              obtain ⟨hI_35, hx_35⟩ := (hI_31.mono (T' := T + 1) (by omega) (Nat.le_refl _) (Nat.le_refl _)).un hun_34
              have hK_35 := (hK_31).tr hx_35
              refine k_aload_n X (q := 0) dX0_writeSherds_156 rfl rfl ?_
              exact k_aret X E (r := (some (cz j))) (Or.inl ⟨_, rfl⟩) dX0_writeSherds_157 (by show _ ≤ 6; omega) (by show _ ≤ 202; omega) (⟨hI_35.mono (by omega) (by omega) (by omega), hK_35, Or.inr ⟨j, hj, rfl⟩⟩)
            · skip
              refine k_null X dX0_writeSherds_132 ?_
              exact k_aret X E (r := none) (Or.inl ⟨_, rfl⟩) dX0_writeSherds_133 (by show _ ≤ 6; omega) (by show _ ≤ 202; omega) (⟨hIi.mono (by omega) (by omega) (by omega), hKi, Or.inl rfl⟩)
        · skip
          have hlti : i < mp := lt_of_nle c_56 (by omega)
          refine k_aload_n X (q := 2) dX0_writeSherds_59 rfl rfl ?_
          refine k_aload_n X (q := 2) dX0_writeSherds_60 rfl rfl ?_
          refine gX0_25s X (S := Si) (st_4 hIi.st).1 (st_4 hIi.st).2 (sr_4_5 hIi.st) dX0_writeSherds_61 ?_
          refine k_iload_n X (q := 0) dX0_writeSherds_64 rfl rfl ?_
          refine k_gotQ X (vX0_88 X (S := Si) ⟨(st_20 hIi.st).1, (st_20 hIi.st).2⟩ (c_Jx4a65c_get_915e3 C.l C.e0 Si (A 20) 1 mp i xg (hlki) hlti) (As := [.int (nI i)]) (rest := [.ref (A 4)]) rfl rfl rfl rfl ⟨Nat.le_of_ble_eq_true rfl, Nat.le_of_ble_eq_true rfl⟩ (Nat.le_of_ble_eq_true rfl) ⟨(by show _ ≤ 6; omega), (by show _ ≤ 202; omega)⟩ dX0_writeSherds_65) (fun r_65_37 S_65_38 h_65_35 => ?_)
          obtain ⟨rfl, er_65_37⟩ := h_65_35
          subst er_65_37
          refine tX0_92 X (S := Si) ⟨(kLs.el (hlki) hlti).1, (kLs.el (hlki) hlti).2⟩ dX0_writeSherds_68 ?_
          refine k_gotQ X (vX0_205 X (S := Si) ⟨(st_4 hIi.st).1, (st_4 hIi.st).2⟩ (c_X0_mostForeignTo C.l C.e0 Si (xg i) A n cz hIi.st hIi.hC hn ⟨(kLs.el (hlki) hlti).1, (kLs.el (hlki) hlti).2⟩) (As := [.ref (xg i)]) (rest := []) rfl rfl rfl rfl ⟨Nat.le_of_ble_eq_true rfl, Nat.le_of_ble_eq_true rfl⟩ (Nat.le_of_ble_eq_true rfl) ⟨(by show _ ≤ 6; omega), (by show _ ≤ 202; omega)⟩ dX0_writeSherds_71) (fun r_71_40 S_71_41 h_71_38 => ?_)
          obtain ⟨rfl, hmf71⟩ := h_71_38
          refine k_astore_nQ X [(3, va_rf r_71_40), (2, .int (nI i)), (1, .int (nI mp)), (0, .ref (A 4))] dX0_writeSherds_74 rfl (by decide) rfl ?_
          refine k_aload_nQ X (q := 0) dX0_writeSherds_75 rfl rfl ?_
          refine k_ifnull (tgt := 91) X dX0_writeSherds_76 (by decide) (fun c_76 => ?_) (fun a_76_42 c_76 => ?_)
          · skip
            subst c_76
            obtain ⟨v_91_43, ev_91_43⟩ : ∃ z : Int32, z = (nI i) + 1 := ⟨_, rfl⟩
            refine k_iinc X (q := 1) (v := v_91_43) [(2, .int v_91_43), (3, .null), (1, .int (nI mp)), (0, .ref (A 4))] dX0_writeSherds_91 rfl (by rw [ev_91_43]; rfl) (by decide) rfl ?_
            refine k_goto (tgt := 54) X dX0_writeSherds_94 (by decide) ?_
            refine k_lv [0, 2, 3] _ rfl ?_
            exact ih (mp - (i + 1)) (by omega) (i + 1) _ _ rfl (by rw [ev_91_43, nI_1]) ⟨by omega, hIi.mono (by omega) (by omega) (by omega), hKi, hlki⟩
          · skip
            subst c_76
            obtain ⟨b, hb, hzb⟩ : ∃ z, z < n ∧ a_76_42 = cz z := by
              rcases hmf71 with z | ⟨z, z1, z2⟩
              · cases z
              · exact ⟨z, z1, Option.some.inj z2⟩
            subst hzb
            refine k_aload_n X (q := 3) dX0_writeSherds_79 rfl rfl ?_
            refine gX0_28s X (S := Si) (st_4 hIi.st).1 (st_4 hIi.st).2 (sr_4_6 hIi.st) dX0_writeSherds_80 ?_
            refine k_aload_n X (q := 0) dX0_writeSherds_83 rfl rfl ?_
            refine gX0_98 X (S := Si) (hIi.at hb).1 (hIi.at hb).2 dX0_writeSherds_84 (fun v_84_44 ev_84_44 => ?_)
            refine k_iconst X (v := 1) dX0_writeSherds_87 (by decide) ?_
            refine k_gotV X (vX0_209 X (S := Si) (c_X11_addAt C.l C.e0 Si (A 44) v_84_44 1 ⟨(st_44 hIi.st).1, (st_44 hIi.st).2⟩ (sm_44 hIi.st)) (As := [.ref (A 44), .int v_84_44, .int 1]) (rest := []) rfl rfl rfl rfl ⟨Nat.le_of_ble_eq_true rfl, Nat.le_of_ble_eq_true rfl⟩ (Nat.le_of_ble_eq_true rfl) ⟨(by show _ ≤ 6; omega), (by show _ ≤ 202; omega)⟩ dX0_writeSherds_88) (fun S_88_46 h_88_44 => ?_)
            subst h_88_44
            obtain ⟨hI_47, hx_47⟩ := (⟨(hIi.aat (x := v_84_44) (v := 1) (so_44 hIi.st) (by omega)).1, (hIi.aat (x := v_84_44) (v := 1) (so_44 hIi.st) (by omega)).2 (by omega)⟩ : _ ∧ _)
            have hK_47 := (hKi).tr hx_47
            have hlk_88 : kLs C.e0 (kaat Si (A 44) v_84_44 1) (A 20) 1 mp xg := hlki.aat (so_44 hIi.st) (by rw [so_20 hIi.st]; omega)
            obtain ⟨v_91_48, ev_91_48⟩ : ∃ z : Int32, z = (nI i) + 1 := ⟨_, rfl⟩
            refine k_iinc X (q := 1) (v := v_91_48) [(2, .int v_91_48), (3, .ref (cz b)), (1, .int (nI mp)), (0, .ref (A 4))] dX0_writeSherds_91 rfl (by rw [ev_91_48]; rfl) (by decide) rfl ?_
            refine k_goto (tgt := 54) X dX0_writeSherds_94 (by decide) ?_
            refine k_lv [0, 2, 3] _ rfl ?_
            exact ih (mp - (i + 1)) (by omega) (i + 1) _ _ rfl (by rw [ev_91_48, nI_1]) ⟨by omega, hI_47.mono (by omega) (by omega) (by omega), hK_47, hlk_88⟩
      refine k_lv [0, 1, 2] _ rfl ?_
      exact L_54 _ 0 0 _ rfl nI_0.symm ⟨by omega, hI_17.mono (by omega) (by omega) (by omega), hK_17, hlk_49⟩
    · skip
      refine k_null X dX0_writeSherds_42 ?_
      exact k_aret X E (r := none) (Or.inl ⟨_, rfl⟩) dX0_writeSherds_43 (by show _ ≤ 6; omega) (by show _ ≤ 202; omega) (⟨hI_7.mono (by omega) (by omega) (by omega), hK_7, Or.inl rfl⟩)
