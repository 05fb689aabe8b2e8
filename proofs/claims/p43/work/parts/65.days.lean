theorem kfrom {x u v : Int32} {a b : Nat} (ha : u = nI a) (hb : v = nI b) (hab : a ≤ 1000 ∧ b ≤ 1000) (h : ¬ kb (decide (u ≤ x) && decide (x ≤ v)) = 0) : ∃ k, a ≤ k ∧ k ≤ b ∧ x = nI k := by
  simp only [kb] at h
  by_cases g1 : u ≤ x
  · by_cases g2 : x ≤ v
    · rw [ha] at g1
      rw [hb] at g2
      have g3 := Int32.le_iff_toInt_le.mp g1
      have g4 := Int32.le_iff_toInt_le.mp g2
      rw [nI_toInt (by omega)] at g3 g4
      exact ⟨x.toInt.toNat, by omega, by omega, Int32.toInt_inj.mp (by rw [nI_toInt (by omega)]; omega)⟩
    · simp [g1, g2] at h
  · simp [g1] at h
theorem kidx1 {m : Nat} {v w : Int32} (hm : 1 ≤ m ∧ m ≤ 1000) (hv : v = nI m - w) (hw : w = 1) : v = nI (m - 1) := by
  rw [hv, hw, show (1 : Int32) = nI 1 from rfl, pk_sub (by omega)]
theorem kfrom0 {x v : Int32} (hv : v = nI 0 - 1) (h : ¬ kb (decide ((0 : Int32) ≤ x) && decide (x ≤ v)) = 0) : False := by
  simp only [kb] at h
  by_cases g1 : (0 : Int32) ≤ x
  · by_cases g2 : x ≤ v
    · have g3 := Int32.le_iff_toInt_le.mp g1
      have g4 := Int32.le_iff_toInt_le.mp g2
      rw [hv] at g4
      rw [show (nI 0 - 1).toInt = -1 from rfl] at g4
      rw [t_0] at g3
      omega
    · simp [g1, g2] at h
  · simp [g1] at h
set_option maxHeartbeats 1000000 in
set_option maxRecDepth 20000 in
theorem c_X11_endYear (l : Launch) (e0 : Nat × Nat) (S : kS)  (A : Nat → Nat) (n : Nat) (cz : Nat → Nat) (T G Z : Nat) (h : kI e0 A n cz T G Z S)  (hb : T + 11 ≤ 900000 ∧ G + 50 ≤ 60000 ∧ Z + 240 ≤ 150000) : kM l e0 yX11_endYear cX11_endYear 1 none ({ frames := 5, cells := 0, slots := 0, locals := 113 } : Room) 0 0 [.ref (A 0)] S (kQv (fun S9 => kI e0 A n cz (T + 11) (G + 50) (Z + 240) S9 ∧ kKe A S S9)) := by
  refine kMetE (by decide +kernel) (Nat.le_of_ble_eq_true rfl) (fun C he hl X E hm => ?_)
  have X : kX C RX11 cX11_endYear 1 ({ frames := 5, cells := 0, slots := 0, locals := 113 } : Room) := X
  subst he hl
  show kG C 1 S 0 0 0 [(0, .ref (A 0))] []
  have hn := h.n40
  refine k_aload_n X (q := 0) dX11_endYear_0 rfl rfl ?_
  refine gX11_44s X (S := S) (st_0 h.st).1 (st_0 h.st).2 (sr_0_4 h.st) dX11_endYear_1 ?_
  refine k_gotV X (vX11_598 X (S := S) ⟨(st_5 h.st).1, (st_5 h.st).2⟩ (c_X5_fineIdle C.l C.e0 S  A n cz _ _ _ h  (by omega)) (As := []) (rest := []) rfl rfl rfl rfl ⟨Nat.le_of_ble_eq_true rfl, Nat.le_of_ble_eq_true rfl⟩ (Nat.le_of_ble_eq_true rfl) ⟨Nat.le_of_ble_eq_true rfl, Nat.le_of_ble_eq_true rfl⟩ dX11_endYear_4) (fun S_4_2 h_4_0 => ?_)
  obtain ⟨hI_3, hx_3⟩ := h_4_0
  have hK_3 := (kKe.rf).tr hx_3
  refine k_aload_n X (q := 0) dX11_endYear_7 rfl rfl ?_
  refine gX11_10s X (S := S_4_2) (st_0 hI_3.st).1 (st_0 hI_3.st).2 (sr_0_0 hI_3.st) dX11_endYear_8 ?_
  refine k_gotV X (vX11_601 X (S := S_4_2) ⟨(st_1 hI_3.st).1, (st_1 hI_3.st).2⟩ (c_X2_collectRents C.l C.e0 S_4_2  A n cz _ _ _ hI_3  (by omega)) (As := []) (rest := []) rfl rfl rfl rfl ⟨Nat.le_of_ble_eq_true rfl, Nat.le_of_ble_eq_true rfl⟩ (Nat.le_of_ble_eq_true rfl) ⟨Nat.le_of_ble_eq_true rfl, Nat.le_of_ble_eq_true rfl⟩ dX11_endYear_11) (fun S_11_5 h_11_3 => ?_)
  obtain ⟨hI_6, hx_6⟩ := h_11_3
  have hK_6 := (hK_3).tr hx_6
  refine k_aload_n X (q := 0) dX11_endYear_14 rfl rfl ?_
  refine gX11_10s X (S := S_11_5) (st_0 hI_6.st).1 (st_0 hI_6.st).2 (sr_0_0 hI_6.st) dX11_endYear_15 ?_
  refine k_gotV X (vX11_604 X (S := S_11_5) ⟨(st_1 hI_6.st).1, (st_1 hI_6.st).2⟩ (c_X2_dismissAll C.l C.e0 S_11_5  A n cz _ _ _ hI_6  (by omega)) (As := []) (rest := []) rfl rfl rfl rfl ⟨Nat.le_of_ble_eq_true rfl, Nat.le_of_ble_eq_true rfl⟩ (Nat.le_of_ble_eq_true rfl) ⟨Nat.le_of_ble_eq_true rfl, Nat.le_of_ble_eq_true rfl⟩ dX11_endYear_18) (fun S_18_8 h_18_6 => ?_)
  obtain ⟨hI_9, hx_9⟩ := h_18_6
  have hK_9 := (hK_6).tr hx_9
  refine k_aload_n X (q := 0) dX11_endYear_21 rfl rfl ?_
  refine gX11_44s X (S := S_18_8) (st_0 hI_9.st).1 (st_0 hI_9.st).2 (sr_0_4 hI_9.st) dX11_endYear_22 ?_
  refine k_gotV X (vX11_607 X (S := S_18_8) ⟨(st_5 hI_9.st).1, (st_5 hI_9.st).2⟩ (c_X5_settleAllies C.l C.e0 S_18_8  A n cz _ _ _ hI_9  (by omega)) (As := []) (rest := []) rfl rfl rfl rfl ⟨Nat.le_of_ble_eq_true rfl, Nat.le_of_ble_eq_true rfl⟩ (Nat.le_of_ble_eq_true rfl) ⟨Nat.le_of_ble_eq_true rfl, Nat.le_of_ble_eq_true rfl⟩ dX11_endYear_25) (fun S_25_11 h_25_9 => ?_)
  obtain ⟨hI_12, hx_12⟩ := h_25_9
  have hK_12 := (hK_9).tr hx_12
  exact k_vret X E dX11_endYear_28 (Nat.le_of_ble_eq_true rfl) (Nat.le_of_ble_eq_true rfl) (⟨hI_12.mono (by omega) (by omega) (by omega), hK_12⟩)
set_option maxHeartbeats 1000000 in
set_option maxRecDepth 20000 in
theorem c_X11_beginYear (l : Launch) (e0 : Nat × Nat) (S : kS)  (A : Nat → Nat) (n : Nat) (cz : Nat → Nat) (T G Z : Nat) (h : kI e0 A n cz T G Z S)  (hb : T + 204 ≤ 900000 ∧ G + 0 ≤ 60000 ∧ Z + 0 ≤ 150000) : kM l e0 yX11_beginYear cX11_beginYear 1 none ({ frames := 10, cells := 48, slots := 2560, locals := 262 } : Room) 48 2560 [.ref (A 0)] S (kQv (fun S9 => kI e0 A n cz (T + 204) (G + 0) (Z + 0) S9 ∧ kKd A S S9)) := by
  refine kMetE (by decide +kernel) (Nat.le_of_ble_eq_true rfl) (fun C he hl X E hm => ?_)
  have X : kX C RX11 cX11_beginYear 1 ({ frames := 10, cells := 48, slots := 2560, locals := 262 } : Room) := X
  subst he hl
  show kG C 1 S 0 0 0 [(0, .ref (A 0))] []
  have hn := h.n40
  refine k_aload_n X (q := 0) dX11_beginYear_0 rfl rfl ?_
  refine gX11_10s X (S := S) (st_0 h.st).1 (st_0 h.st).2 (sr_0_0 h.st) dX11_beginYear_1 ?_
  refine k_gotV X (vX11_610 X (S := S) ⟨(st_1 h.st).1, (st_1 h.st).2⟩ (c_X2_growOlder C.l C.e0 S  A n cz _ _ _ h  (by omega)) (As := []) (rest := []) rfl rfl rfl rfl ⟨Nat.le_of_ble_eq_true rfl, Nat.le_of_ble_eq_true rfl⟩ (Nat.le_of_ble_eq_true rfl) ⟨(by show _ ≤ 48; omega), (by show _ ≤ 2560; omega)⟩ dX11_beginYear_4) (fun S_4_2 h_4_0 => ?_)
  obtain ⟨hI_3, hx_3⟩ := h_4_0
  have hK_3 := (kKe.rf).tr hx_3
  refine k_aload_n X (q := 0) dX11_beginYear_7 rfl rfl ?_
  refine gX11_44s X (S := S_4_2) (st_0 hI_3.st).1 (st_0 hI_3.st).2 (sr_0_4 hI_3.st) dX11_beginYear_8 ?_
  refine k_gotV X (vX11_613 X (S := S_4_2) ⟨(st_5 hI_3.st).1, (st_5 hI_3.st).2⟩ (c_X5_tellBurdens C.l C.e0 S_4_2  A n cz _ _ _ hI_3  (by omega)) (As := []) (rest := []) rfl rfl rfl rfl ⟨Nat.le_of_ble_eq_true rfl, Nat.le_of_ble_eq_true rfl⟩ (Nat.le_of_ble_eq_true rfl) ⟨(by show _ ≤ 48; omega), (by show _ ≤ 2560; omega)⟩ dX11_beginYear_11) (fun S_11_5 h_11_3 => ?_)
  obtain ⟨hI_6, hx_6⟩ := h_11_3
  have hK_6 := (hK_3).tr hx_6
  refine k_aload_n X (q := 0) dX11_beginYear_14 rfl rfl ?_
  refine gX11_10s X (S := S_11_5) (st_0 hI_6.st).1 (st_0 hI_6.st).2 (sr_0_0 hI_6.st) dX11_beginYear_15 ?_
  refine gX11_109 X (S := S_11_5) (st_1 hI_6.st).1 (st_1 hI_6.st).2 dX11_beginYear_18 (fun v_18_7 ev_18_7 => ?_)
  refine k_if_eq (tgt := 31) X dX11_beginYear_21 (by decide) (fun c_21 => ?_) (fun c_21 => ?_)
  · skip
    exact k_vret X E dX11_beginYear_31 (by show _ ≤ 48; omega) (by show _ ≤ 2560; omega) (⟨hI_6.mono (by omega) (by omega) (by omega), hK_6.d⟩)
  · skip
    refine k_aload_n X (q := 0) dX11_beginYear_24 rfl rfl ?_
    refine gX11_21s X (S := S_11_5) (st_0 hI_6.st).1 (st_0 hI_6.st).2 (sr_0_1 hI_6.st) dX11_beginYear_25 ?_
    refine k_gotV X (vX11_162 X (S := S_11_5) ⟨(st_2 hI_6.st).1, (st_2 hI_6.st).2⟩ (c_X3_drawMembers C.l C.e0 S_11_5  A n cz _ _ _ hI_6  (by omega)) (As := []) (rest := []) rfl rfl rfl rfl ⟨Nat.le_of_ble_eq_true rfl, Nat.le_of_ble_eq_true rfl⟩ (Nat.le_of_ble_eq_true rfl) ⟨(by show _ ≤ 48; omega), (by show _ ≤ 2560; omega)⟩ dX11_beginYear_28) (fun S_28_9 h_28_7 => ?_)
    obtain ⟨hI_10, hx_10, hm_10⟩ := h_28_7
    have hK_10 := (hK_6).d.tr hx_10
    exact k_vret X E dX11_beginYear_31 (by show _ ≤ 48; omega) (by show _ ≤ 2560; omega) (⟨hI_10.mono (by omega) (by omega) (by omega), hK_10⟩)
set_option maxHeartbeats 1000000 in
set_option maxRecDepth 20000 in
theorem c_X11_beginDay (l : Launch) (e0 : Nat × Nat) (S : kS)  (A : Nat → Nat) (n : Nat) (cz : Nat → Nat) (T G Z : Nat) (h : kI e0 A n cz T G Z S)  (hb : T + 230 ≤ 900000 ∧ G + 64 ≤ 60000 ∧ Z + 240 ≤ 150000) : kM l e0 yX11_beginDay cX11_beginDay 3 none ({ frames := 11, cells := 57, slots := 2981, locals := 282 } : Room) 57 2981 [.ref (A 0)] S (kQv (fun S9 => kI e0 A n cz (T + 230) (G + 64) (Z + 240) S9 ∧ kKd A S S9 ∧ kPr A S9)) := by
  refine kMetE (by decide +kernel) (Nat.le_of_ble_eq_true rfl) (fun C he hl X E hm => ?_)
  have X : kX C RX11 cX11_beginDay 3 ({ frames := 11, cells := 57, slots := 2981, locals := 282 } : Room) := X
  subst he hl
  show kG C 3 S 0 0 0 [(0, .ref (A 0))] []
  have hn := h.n40
  refine k_aload_n X (q := 0) dX11_beginDay_0 rfl rfl ?_
  refine gX11_10s X (S := S) (st_0 h.st).1 (st_0 h.st).2 (sr_0_0 h.st) dX11_beginDay_1 ?_
  refine gX11_216 X (S := S) (st_1 h.st).1 (st_1 h.st).2 dX11_beginDay_4 (fun v_4_1 ev_4_1 => ?_)
  refine k_bipush X (v := 10) dX11_beginDay_7 (by decide) ?_
  refine k_irem X dX11_beginDay_9 (by decide) (fun v_9_2 ev_9_2 => ?_)
  refine k_if_ne (tgt := 17) X dX11_beginDay_10 (by decide) (fun c_10 => ?_) (fun c_10 => ?_)
  · skip
    refine k_iconst X (v := 0) dX11_beginDay_17 (by decide) ?_
    refine k_istore_n X [(1, .int 0), (0, .ref (A 0))] dX11_beginDay_18 rfl (by decide) rfl ?_
    refine k_aload_n X (q := 1) dX11_beginDay_19 rfl rfl ?_
    refine gX11_10s X (S := S) (st_0 h.st).1 (st_0 h.st).2 (sr_0_0 h.st) dX11_beginDay_20 ?_
    refine gX11_216 X (S := S) (st_1 h.st).1 (st_1 h.st).2 dX11_beginDay_23 (fun v_23_3 ev_23_3 => ?_)
    refine k_bipush X (v := 40) dX11_beginDay_26 (by decide) ?_
    refine k_irem X dX11_beginDay_28 (by decide) (fun v_28_4 ev_28_4 => ?_)
    refine k_if_ne (tgt := 36) X dX11_beginDay_29 (by decide) (fun c_29 => ?_) (fun c_29 => ?_)
    · skip
      refine k_iconst X (v := 0) dX11_beginDay_36 (by decide) ?_
      refine k_istore_n X [(2, .int 0), (1, .int 0), (0, .ref (A 0))] dX11_beginDay_37 rfl (by decide) rfl ?_
      refine k_iload_n X (q := 1) dX11_beginDay_38 rfl rfl ?_
      refine k_if_eq (tgt := 49) X dX11_beginDay_39 (by decide) (fun c_39 => ?_) (fun c_39 => ?_)
      · skip
        refine k_iload_n X (q := 0) dX11_beginDay_49 rfl rfl ?_
        refine k_if_eq (tgt := 61) X dX11_beginDay_50 (by decide) (fun c_50 => ?_) (fun c_50 => ?_)
        · skip
          refine k_iload_n X (q := 1) dX11_beginDay_61 rfl rfl ?_
          refine k_if_eq (tgt := 86) X dX11_beginDay_62 (by decide) (fun c_62 => ?_) (fun c_62 => ?_)
          · skip
            refine k_iload_n X (q := 1) dX11_beginDay_86 rfl rfl ?_
            refine k_if_eq (tgt := 97) X dX11_beginDay_87 (by decide) (fun c_87 => ?_) (fun c_87 => ?_)
            · skip
              refine k_aload_n X (q := 2) dX11_beginDay_97 rfl rfl ?_
              refine gX11_21s X (S := S) (st_0 h.st).1 (st_0 h.st).2 (sr_0_1 h.st) dX11_beginDay_98 ?_
              refine k_gotV X (vX11_165 X (S := S) ⟨(st_2 h.st).1, (st_2 h.st).2⟩ (c_X3_drawChair C.l C.e0 S  A n cz _ _ _ h  (by omega)) (As := []) (rest := []) rfl rfl rfl rfl ⟨Nat.le_of_ble_eq_true rfl, Nat.le_of_ble_eq_true rfl⟩ (Nat.le_of_ble_eq_true rfl) ⟨(by show _ ≤ 57; omega), (by show _ ≤ 2981; omega)⟩ dX11_beginDay_101) (fun S_101_6 h_101_4 => ?_)
              obtain ⟨hI_7, hx_7, hm_7⟩ := h_101_4
              have hK_7 := (kKe.rf).d.tr hx_7
              exact k_vret X E dX11_beginDay_104 (by show _ ≤ 57; omega) (by show _ ≤ 2981; omega) (⟨hI_7.mono (by omega) (by omega) (by omega), hK_7, hm_7.2⟩)
            · skip
              exact absurd rfl c_87
          · skip
            exact absurd rfl c_62
        · skip
          exact absurd rfl c_50
      · skip
        exact absurd rfl c_39
    · skip
      refine k_iconst X (v := 1) dX11_beginDay_32 (by decide) ?_
      refine k_goto (tgt := 37) X dX11_beginDay_33 (by decide) ?_
      refine k_istore_n X [(2, .int 1), (1, .int 0), (0, .ref (A 0))] dX11_beginDay_37 rfl (by decide) rfl ?_
      refine k_iload_n X (q := 1) dX11_beginDay_38 rfl rfl ?_
      refine k_if_eq (tgt := 49) X dX11_beginDay_39 (by decide) (fun c_39 => ?_) (fun c_39 => ?_)
      · skip
        refine k_iload_n X (q := 0) dX11_beginDay_49 rfl rfl ?_
        refine k_if_eq (tgt := 61) X dX11_beginDay_50 (by decide) (fun c_50 => ?_) (fun c_50 => ?_)
        · skip
          exact absurd c_50 (by decide)
        · skip
          refine k_aload_n X (q := 2) dX11_beginDay_53 rfl rfl ?_
          refine k_gotV X (vX11_586 X (S := S) ⟨(st_0 h.st).1, (st_0 h.st).2⟩ (c_X11_endYear C.l C.e0 S  A n cz _ _ _ h  (by omega)) (As := []) (rest := []) rfl rfl rfl rfl ⟨Nat.le_of_ble_eq_true rfl, Nat.le_of_ble_eq_true rfl⟩ (Nat.le_of_ble_eq_true rfl) ⟨(by show _ ≤ 57; omega), (by show _ ≤ 2981; omega)⟩ dX11_beginDay_54) (fun S_54_9 h_54_7 => ?_)
          obtain ⟨hI_10, hx_10⟩ := h_54_7
          have hK_10 := (kKe.rf).tr hx_10
          refine k_aload_n X (q := 2) dX11_beginDay_57 rfl rfl ?_
          refine k_gotV X (vX11_589 X (S := S_54_9) ⟨(st_0 hI_10.st).1, (st_0 hI_10.st).2⟩ (c_X11_beginYear C.l C.e0 S_54_9  A n cz _ _ _ hI_10  (by omega)) (As := []) (rest := []) rfl rfl rfl rfl ⟨Nat.le_of_ble_eq_true rfl, Nat.le_of_ble_eq_true rfl⟩ (Nat.le_of_ble_eq_true rfl) ⟨(by show _ ≤ 57; omega), (by show _ ≤ 2981; omega)⟩ dX11_beginDay_58) (fun S_58_12 h_58_10 => ?_)
          obtain ⟨hI_13, hx_13⟩ := h_58_10
          have hK_13 := (hK_10).d.tr hx_13
          refine k_iload_n X (q := 1) dX11_beginDay_61 rfl rfl ?_
          refine k_if_eq (tgt := 86) X dX11_beginDay_62 (by decide) (fun c_62 => ?_) (fun c_62 => ?_)
          · skip
            refine k_iload_n X (q := 1) dX11_beginDay_86 rfl rfl ?_
            refine k_if_eq (tgt := 97) X dX11_beginDay_87 (by decide) (fun c_87 => ?_) (fun c_87 => ?_)
            · skip
              refine k_aload_n X (q := 2) dX11_beginDay_97 rfl rfl ?_
              refine gX11_21s X (S := S_58_12) (st_0 hI_13.st).1 (st_0 hI_13.st).2 (sr_0_1 hI_13.st) dX11_beginDay_98 ?_
              refine k_gotV X (vX11_165 X (S := S_58_12) ⟨(st_2 hI_13.st).1, (st_2 hI_13.st).2⟩ (c_X3_drawChair C.l C.e0 S_58_12  A n cz _ _ _ hI_13  (by omega)) (As := []) (rest := []) rfl rfl rfl rfl ⟨Nat.le_of_ble_eq_true rfl, Nat.le_of_ble_eq_true rfl⟩ (Nat.le_of_ble_eq_true rfl) ⟨(by show _ ≤ 57; omega), (by show _ ≤ 2981; omega)⟩ dX11_beginDay_101) (fun S_101_15 h_101_13 => ?_)
              obtain ⟨hI_16, hx_16, hm_16⟩ := h_101_13
              have hK_16 := (hK_13).tr hx_16
              exact k_vret X E dX11_beginDay_104 (by show _ ≤ 57; omega) (by show _ ≤ 2981; omega) (⟨hI_16.mono (by omega) (by omega) (by omega), hK_16, hm_16.2⟩)
            · skip
              exact absurd rfl c_87
          · skip
            exact absurd rfl c_62
      · skip
        exact absurd rfl c_39
  · skip
    refine k_iconst X (v := 1) dX11_beginDay_13 (by decide) ?_
    refine k_goto (tgt := 18) X dX11_beginDay_14 (by decide) ?_
    refine k_istore_n X [(1, .int 1), (0, .ref (A 0))] dX11_beginDay_18 rfl (by decide) rfl ?_
    refine k_aload_n X (q := 1) dX11_beginDay_19 rfl rfl ?_
    refine gX11_10s X (S := S) (st_0 h.st).1 (st_0 h.st).2 (sr_0_0 h.st) dX11_beginDay_20 ?_
    refine gX11_216 X (S := S) (st_1 h.st).1 (st_1 h.st).2 dX11_beginDay_23 (fun v_23_17 ev_23_17 => ?_)
    refine k_bipush X (v := 40) dX11_beginDay_26 (by decide) ?_
    refine k_irem X dX11_beginDay_28 (by decide) (fun v_28_18 ev_28_18 => ?_)
    refine k_if_ne (tgt := 36) X dX11_beginDay_29 (by decide) (fun c_29 => ?_) (fun c_29 => ?_)
    · skip
      refine k_iconst X (v := 0) dX11_beginDay_36 (by decide) ?_
      refine k_istore_n X [(2, .int 0), (1, .int 1), (0, .ref (A 0))] dX11_beginDay_37 rfl (by decide) rfl ?_
      refine k_iload_n X (q := 1) dX11_beginDay_38 rfl rfl ?_
      refine k_if_eq (tgt := 49) X dX11_beginDay_39 (by decide) (fun c_39 => ?_) (fun c_39 => ?_)
      · skip
        exact absurd c_39 (by decide)
      · skip
        refine k_aload_n X (q := 2) dX11_beginDay_42 rfl rfl ?_
        refine gX11_53s X (S := S) (st_0 h.st).1 (st_0 h.st).2 (sr_0_5 h.st) dX11_beginDay_43 ?_
        refine k_gotV X (vX11_583 X (S := S) ⟨(st_6 h.st).1, (st_6 h.st).2⟩ (c_X9_beginPrytany C.l C.e0 S  A n cz _ _ _ h  (by omega)) (As := []) (rest := []) rfl rfl rfl rfl ⟨Nat.le_of_ble_eq_true rfl, Nat.le_of_ble_eq_true rfl⟩ (Nat.le_of_ble_eq_true rfl) ⟨(by show _ ≤ 57; omega), (by show _ ≤ 2981; omega)⟩ dX11_beginDay_46) (fun S_46_20 h_46_18 => ?_)
        obtain ⟨hI_21, hx_21⟩ := h_46_18
        have hK_21 := (kKe.rf).tr hx_21
        refine k_iload_n X (q := 0) dX11_beginDay_49 rfl rfl ?_
        refine k_if_eq (tgt := 61) X dX11_beginDay_50 (by decide) (fun c_50 => ?_) (fun c_50 => ?_)
        · skip
          refine k_iload_n X (q := 1) dX11_beginDay_61 rfl rfl ?_
          refine k_if_eq (tgt := 86) X dX11_beginDay_62 (by decide) (fun c_62 => ?_) (fun c_62 => ?_)
          · skip
            exact absurd c_62 (by decide)
          · skip
            refine k_iload_n X (q := 0) dX11_beginDay_65 rfl rfl ?_
            refine k_if_ne (tgt := 86) X dX11_beginDay_66 (by decide) (fun c_66 => ?_) (fun c_66 => ?_)
            · skip
              exact absurd rfl c_66
            · skip
              refine k_aload_n X (q := 2) dX11_beginDay_69 rfl rfl ?_
              refine gX11_10s X (S := S_46_20) (st_0 hI_21.st).1 (st_0 hI_21.st).2 (sr_0_0 hI_21.st) dX11_beginDay_70 ?_
              refine gX11_109 X (S := S_46_20) (st_1 hI_21.st).1 (st_1 hI_21.st).2 dX11_beginDay_73 (fun v_73_22 ev_73_22 => ?_)
              refine k_if_eq (tgt := 86) X dX11_beginDay_76 (by decide) (fun c_76 => ?_) (fun c_76 => ?_)
              · skip
                refine k_iload_n X (q := 1) dX11_beginDay_86 rfl rfl ?_
                refine k_if_eq (tgt := 97) X dX11_beginDay_87 (by decide) (fun c_87 => ?_) (fun c_87 => ?_)
                · skip
                  exact absurd c_87 (by decide)
                · skip
                  refine k_aload_n X (q := 2) dX11_beginDay_90 rfl rfl ?_
                  refine gX11_10s X (S := S_46_20) (st_0 hI_21.st).1 (st_0 hI_21.st).2 (sr_0_0 hI_21.st) dX11_beginDay_91 ?_
                  refine k_gotV X (vX11_595 X (S := S_46_20) ⟨(st_1 hI_21.st).1, (st_1 hI_21.st).2⟩ (c_X2_payOffices C.l C.e0 S_46_20  A n cz _ _ _ hI_21  (by omega)) (As := []) (rest := []) rfl rfl rfl rfl ⟨Nat.le_of_ble_eq_true rfl, Nat.le_of_ble_eq_true rfl⟩ (Nat.le_of_ble_eq_true rfl) ⟨(by show _ ≤ 57; omega), (by show _ ≤ 2981; omega)⟩ dX11_beginDay_94) (fun S_94_24 h_94_22 => ?_)
                  obtain ⟨hI_25, hx_25⟩ := h_94_22
                  have hK_25 := (hK_21).tr hx_25
                  refine k_aload_n X (q := 2) dX11_beginDay_97 rfl rfl ?_
                  refine gX11_21s X (S := S_94_24) (st_0 hI_25.st).1 (st_0 hI_25.st).2 (sr_0_1 hI_25.st) dX11_beginDay_98 ?_
                  refine k_gotV X (vX11_165 X (S := S_94_24) ⟨(st_2 hI_25.st).1, (st_2 hI_25.st).2⟩ (c_X3_drawChair C.l C.e0 S_94_24  A n cz _ _ _ hI_25  (by omega)) (As := []) (rest := []) rfl rfl rfl rfl ⟨Nat.le_of_ble_eq_true rfl, Nat.le_of_ble_eq_true rfl⟩ (Nat.le_of_ble_eq_true rfl) ⟨(by show _ ≤ 57; omega), (by show _ ≤ 2981; omega)⟩ dX11_beginDay_101) (fun S_101_27 h_101_25 => ?_)
                  obtain ⟨hI_28, hx_28, hm_28⟩ := h_101_25
                  have hK_28 := (hK_25).d.tr hx_28
                  exact k_vret X E dX11_beginDay_104 (by show _ ≤ 57; omega) (by show _ ≤ 2981; omega) (⟨hI_28.mono (by omega) (by omega) (by omega), hK_28, hm_28.2⟩)
              · skip
                refine k_aload_n X (q := 2) dX11_beginDay_79 rfl rfl ?_
                refine gX11_10s X (S := S_46_20) (st_0 hI_21.st).1 (st_0 hI_21.st).2 (sr_0_0 hI_21.st) dX11_beginDay_80 ?_
                refine k_gotV X (vX11_592 X (S := S_46_20) ⟨(st_1 hI_21.st).1, (st_1 hI_21.st).2⟩ (c_X2_askConfidence C.l C.e0 S_46_20  A n cz _ _ _ hI_21  (by omega)) (As := []) (rest := []) rfl rfl rfl rfl ⟨Nat.le_of_ble_eq_true rfl, Nat.le_of_ble_eq_true rfl⟩ (Nat.le_of_ble_eq_true rfl) ⟨(by show _ ≤ 57; omega), (by show _ ≤ 2981; omega)⟩ dX11_beginDay_83) (fun S_83_30 h_83_28 => ?_)
                obtain ⟨hI_31, hx_31⟩ := h_83_28
                have hK_31 := (hK_21).tr hx_31
                refine k_iload_n X (q := 1) dX11_beginDay_86 rfl rfl ?_
                refine k_if_eq (tgt := 97) X dX11_beginDay_87 (by decide) (fun c_87 => ?_) (fun c_87 => ?_)
                · skip
                  exact absurd c_87 (by decide)
                · skip
                  refine k_aload_n X (q := 2) dX11_beginDay_90 rfl rfl ?_
                  refine gX11_10s X (S := S_83_30) (st_0 hI_31.st).1 (st_0 hI_31.st).2 (sr_0_0 hI_31.st) dX11_beginDay_91 ?_
                  refine k_gotV X (vX11_595 X (S := S_83_30) ⟨(st_1 hI_31.st).1, (st_1 hI_31.st).2⟩ (c_X2_payOffices C.l C.e0 S_83_30  A n cz _ _ _ hI_31  (by omega)) (As := []) (rest := []) rfl rfl rfl rfl ⟨Nat.le_of_ble_eq_true rfl, Nat.le_of_ble_eq_true rfl⟩ (Nat.le_of_ble_eq_true rfl) ⟨(by show _ ≤ 57; omega), (by show _ ≤ 2981; omega)⟩ dX11_beginDay_94) (fun S_94_33 h_94_31 => ?_)
                  obtain ⟨hI_34, hx_34⟩ := h_94_31
                  have hK_34 := (hK_31).tr hx_34
                  refine k_aload_n X (q := 2) dX11_beginDay_97 rfl rfl ?_
                  refine gX11_21s X (S := S_94_33) (st_0 hI_34.st).1 (st_0 hI_34.st).2 (sr_0_1 hI_34.st) dX11_beginDay_98 ?_
                  refine k_gotV X (vX11_165 X (S := S_94_33) ⟨(st_2 hI_34.st).1, (st_2 hI_34.st).2⟩ (c_X3_drawChair C.l C.e0 S_94_33  A n cz _ _ _ hI_34  (by omega)) (As := []) (rest := []) rfl rfl rfl rfl ⟨Nat.le_of_ble_eq_true rfl, Nat.le_of_ble_eq_true rfl⟩ (Nat.le_of_ble_eq_true rfl) ⟨(by show _ ≤ 57; omega), (by show _ ≤ 2981; omega)⟩ dX11_beginDay_101) (fun S_101_36 h_101_34 => ?_)
                  obtain ⟨hI_37, hx_37, hm_37⟩ := h_101_34
                  have hK_37 := (hK_34).d.tr hx_37
                  exact k_vret X E dX11_beginDay_104 (by show _ ≤ 57; omega) (by show _ ≤ 2981; omega) (⟨hI_37.mono (by omega) (by omega) (by omega), hK_37, hm_37.2⟩)
        · skip
          exact absurd rfl c_50
    · skip
      refine k_iconst X (v := 1) dX11_beginDay_32 (by decide) ?_
      refine k_goto (tgt := 37) X dX11_beginDay_33 (by decide) ?_
      refine k_istore_n X [(2, .int 1), (1, .int 1), (0, .ref (A 0))] dX11_beginDay_37 rfl (by decide) rfl ?_
      refine k_iload_n X (q := 1) dX11_beginDay_38 rfl rfl ?_
      refine k_if_eq (tgt := 49) X dX11_beginDay_39 (by decide) (fun c_39 => ?_) (fun c_39 => ?_)
      · skip
        exact absurd c_39 (by decide)
      · skip
        refine k_aload_n X (q := 2) dX11_beginDay_42 rfl rfl ?_
        refine gX11_53s X (S := S) (st_0 h.st).1 (st_0 h.st).2 (sr_0_5 h.st) dX11_beginDay_43 ?_
        refine k_gotV X (vX11_583 X (S := S) ⟨(st_6 h.st).1, (st_6 h.st).2⟩ (c_X9_beginPrytany C.l C.e0 S  A n cz _ _ _ h  (by omega)) (As := []) (rest := []) rfl rfl rfl rfl ⟨Nat.le_of_ble_eq_true rfl, Nat.le_of_ble_eq_true rfl⟩ (Nat.le_of_ble_eq_true rfl) ⟨(by show _ ≤ 57; omega), (by show _ ≤ 2981; omega)⟩ dX11_beginDay_46) (fun S_46_39 h_46_37 => ?_)
        obtain ⟨hI_40, hx_40⟩ := h_46_37
        have hK_40 := (kKe.rf).tr hx_40
        refine k_iload_n X (q := 0) dX11_beginDay_49 rfl rfl ?_
        refine k_if_eq (tgt := 61) X dX11_beginDay_50 (by decide) (fun c_50 => ?_) (fun c_50 => ?_)
        · skip
          exact absurd c_50 (by decide)
        · skip
          refine k_aload_n X (q := 2) dX11_beginDay_53 rfl rfl ?_
          refine k_gotV X (vX11_586 X (S := S_46_39) ⟨(st_0 hI_40.st).1, (st_0 hI_40.st).2⟩ (c_X11_endYear C.l C.e0 S_46_39  A n cz _ _ _ hI_40  (by omega)) (As := []) (rest := []) rfl rfl rfl rfl ⟨Nat.le_of_ble_eq_true rfl, Nat.le_of_ble_eq_true rfl⟩ (Nat.le_of_ble_eq_true rfl) ⟨(by show _ ≤ 57; omega), (by show _ ≤ 2981; omega)⟩ dX11_beginDay_54) (fun S_54_42 h_54_40 => ?_)
          obtain ⟨hI_43, hx_43⟩ := h_54_40
          have hK_43 := (hK_40).tr hx_43
          refine k_aload_n X (q := 2) dX11_beginDay_57 rfl rfl ?_
          refine k_gotV X (vX11_589 X (S := S_54_42) ⟨(st_0 hI_43.st).1, (st_0 hI_43.st).2⟩ (c_X11_beginYear C.l C.e0 S_54_42  A n cz _ _ _ hI_43  (by omega)) (As := []) (rest := []) rfl rfl rfl rfl ⟨Nat.le_of_ble_eq_true rfl, Nat.le_of_ble_eq_true rfl⟩ (Nat.le_of_ble_eq_true rfl) ⟨(by show _ ≤ 57; omega), (by show _ ≤ 2981; omega)⟩ dX11_beginDay_58) (fun S_58_45 h_58_43 => ?_)
          obtain ⟨hI_46, hx_46⟩ := h_58_43
          have hK_46 := (hK_43).d.tr hx_46
          refine k_iload_n X (q := 1) dX11_beginDay_61 rfl rfl ?_
          refine k_if_eq (tgt := 86) X dX11_beginDay_62 (by decide) (fun c_62 => ?_) (fun c_62 => ?_)
          · skip
            exact absurd c_62 (by decide)
          · skip
            refine k_iload_n X (q := 0) dX11_beginDay_65 rfl rfl ?_
            refine k_if_ne (tgt := 86) X dX11_beginDay_66 (by decide) (fun c_66 => ?_) (fun c_66 => ?_)
            · skip
              refine k_iload_n X (q := 1) dX11_beginDay_86 rfl rfl ?_
              refine k_if_eq (tgt := 97) X dX11_beginDay_87 (by decide) (fun c_87 => ?_) (fun c_87 => ?_)
              · skip
                exact absurd c_87 (by decide)
              · skip
                refine k_aload_n X (q := 2) dX11_beginDay_90 rfl rfl ?_
                refine gX11_10s X (S := S_58_45) (st_0 hI_46.st).1 (st_0 hI_46.st).2 (sr_0_0 hI_46.st) dX11_beginDay_91 ?_
                refine k_gotV X (vX11_595 X (S := S_58_45) ⟨(st_1 hI_46.st).1, (st_1 hI_46.st).2⟩ (c_X2_payOffices C.l C.e0 S_58_45  A n cz _ _ _ hI_46  (by omega)) (As := []) (rest := []) rfl rfl rfl rfl ⟨Nat.le_of_ble_eq_true rfl, Nat.le_of_ble_eq_true rfl⟩ (Nat.le_of_ble_eq_true rfl) ⟨(by show _ ≤ 57; omega), (by show _ ≤ 2981; omega)⟩ dX11_beginDay_94) (fun S_94_48 h_94_46 => ?_)
                obtain ⟨hI_49, hx_49⟩ := h_94_46
                have hK_49 := (hK_46).tr hx_49.d
                refine k_aload_n X (q := 2) dX11_beginDay_97 rfl rfl ?_
                refine gX11_21s X (S := S_94_48) (st_0 hI_49.st).1 (st_0 hI_49.st).2 (sr_0_1 hI_49.st) dX11_beginDay_98 ?_
                refine k_gotV X (vX11_165 X (S := S_94_48) ⟨(st_2 hI_49.st).1, (st_2 hI_49.st).2⟩ (c_X3_drawChair C.l C.e0 S_94_48  A n cz _ _ _ hI_49  (by omega)) (As := []) (rest := []) rfl rfl rfl rfl ⟨Nat.le_of_ble_eq_true rfl, Nat.le_of_ble_eq_true rfl⟩ (Nat.le_of_ble_eq_true rfl) ⟨(by show _ ≤ 57; omega), (by show _ ≤ 2981; omega)⟩ dX11_beginDay_101) (fun S_101_51 h_101_49 => ?_)
                obtain ⟨hI_52, hx_52, hm_52⟩ := h_101_49
                have hK_52 := (hK_49).tr hx_52
                exact k_vret X E dX11_beginDay_104 (by show _ ≤ 57; omega) (by show _ ≤ 2981; omega) (⟨hI_52.mono (by omega) (by omega) (by omega), hK_52, hm_52.2⟩)
            · skip
              exact absurd c_66 (by decide)
set_option maxHeartbeats 1000000 in
set_option maxRecDepth 20000 in
theorem c_X11_pass (l : Launch) (e0 : Nat × Nat) (S : kS)  (A : Nat → Nat) (n : Nat) (cz : Nat → Nat) (T G Z : Nat) (h : kI e0 A n cz T G Z S) (d dd : Nat) (hd : 1 ≤ d ∧ d ≤ 9) (hdd : dd ≤ 400) (hday : S.I (A 1) 0 = nI dd) (hb : T + 230 * d ≤ 900000 ∧ G + 64 * d ≤ 60000 ∧ Z + 240 * d ≤ 150000) (hfl : l.stackTraces = false) : kMX l e0 yX11_pass cX11_pass 3 (Option.some Jvm.ClassFile.FieldType.int) ({ frames := 12, cells := 513, slots := 26829, locals := 304 } : Room) 513 26829 [.ref (A 0), .int (nI d)] S (kQi (fun v S9 => kI e0 A n cz (T + 230 * d) (G + 64 * d) (Z + 240 * d) S9 ∧ S9.I (A 1) 0 = nI (dd + d) ∧ kPr A S9 ∧ (S.I (A 7) 1).toInt ≤ (S9.I (A 7) 1).toInt)) (fun S9 => S9 = S) := by
  refine kMetX (by decide +kernel) (Nat.le_of_ble_eq_true rfl) hfl (fun C he hl X E Y hm => ?_)
  have X : kX C RX11 cX11_pass 3 ({ frames := 12, cells := 513, slots := 26829, locals := 304 } : Room) := X
  subst he hl
  show kG C 3 S 0 0 0 [(0, .ref (A 0)), (1, .int (nI d))] []
  have hn := h.n40
  have n17 : ¬ A 7 = A 1 := h.st.ne (r := 7) (r' := 1) (κ := 6) (κ' := 2) (by decide) (by decide) (by decide)
  refine k_iload_n X (q := 1) dX11_pass_0 rfl rfl ?_
  refine k_iconst X (v := 1) dX11_pass_1 (by decide) ?_
  refine k_bipush X (v := 40) dX11_pass_2 (by decide) ?_
  refine k_gotI X (vX11_61 X (S := S) (c_X11_isFrom C.l C.e0 S (nI d) 1 40 ) (As := [.int (nI d), .int 1, .int 40]) (rest := []) rfl rfl rfl rfl ⟨Nat.le_of_ble_eq_true rfl, Nat.le_of_ble_eq_true rfl⟩ (Nat.le_of_ble_eq_true rfl) ⟨(by show _ ≤ 513; omega), (by show _ ≤ 26829; omega)⟩ dX11_pass_4) (fun v_4_2 S_4_3 h_4_0 => ?_)
  obtain ⟨rfl, ev_4_2⟩ := h_4_0
  refine k_if_ne (tgt := 18) X dX11_pass_7 (by decide) (fun c_7 => ?_) (fun c_7 => ?_)
  · skip
    rw [ev_4_2] at c_7
    refine k_aload_n X (q := 0) dX11_pass_18 rfl rfl ?_
    refine gX11_10s X (S := S) (st_0 h.st).1 (st_0 h.st).2 (sr_0_0 h.st) dX11_pass_19 ?_
    refine gX11_216 X (S := S) (st_1 h.st).1 (st_1 h.st).2 dX11_pass_22 (fun v_22_4 ev_22_4 => ?_)
    refine k_iload_n X (q := 1) dX11_pass_25 rfl rfl ?_
    refine k_iadd X dX11_pass_26 (fun v_26_5 ev_26_5 => ?_)
    refine k_sipush X (v := 400) dX11_pass_27 (by decide) ?_
    refine k_icmp_le (tgt := 41) X dX11_pass_30 (by decide) (fun c_30 => ?_) (fun c_30 => ?_)
    · skip
      have hle9 : dd + d ≤ 400 := by
        have h5 := Int32.le_iff_toInt_le.mp c_30
        rw [ev_26_5, ev_22_4, hday, nI_add, nI_toInt (by omega)] at h5
        have h6 : (400 : Int32).toInt = 400 := rfl
        omega
      refine k_iconst X (v := 0) dX11_pass_41 (by decide) ?_
      refine k_istore_n X [(2, .int 0), (0, .ref (A 0)), (1, .int (nI d))] dX11_pass_42 rfl (by decide) rfl ?_
      refine k_room (k' := 0 + 57 * 0) (n' := 0 + 2981 * 0) (by omega) (by omega) ?_
      have L_43 : ∀ (N : Nat) (i : Nat) (x : Int32) (Si : kS), d - i = N → x = nI i → (i ≤ d ∧ kI C.e0 A n cz (T + 230 * i) (G + 64 * i) (Z + 240 * i) Si ∧ Si.I (A 1) 0 = nI (dd + i) ∧ (1 ≤ i → kPr A Si) ∧ (S.I (A 7) 1).toInt ≤ (Si.I (A 7) 1).toInt) → kG C 3 Si (0 + 57 * i) (0 + 2981 * i) 43 [(2, .int x), (1, .int (nI d)), (0, .ref (A 0))] [] := by
        intro N
        induction N using Nat.strongRecOn with
        | _ N ih =>
        intro i x Si hMs h43_0 h43_1
        subst h43_0
        obtain ⟨hBi, hIi, hdi, hpi, hri⟩ := h43_1
        have hKi : kKe A Si Si := kKe.rf
        refine k_iload_n X (q := 0) dX11_pass_43 rfl rfl ?_
        refine k_iload_n X (q := 1) dX11_pass_44 rfl rfl ?_
        refine k_icmp_ge (tgt := 71) X dX11_pass_45 (by decide) (fun c_45 => ?_) (fun c_45 => ?_)
        · skip
          have hin : d = i := by have := ge_of_le c_45 (by omega); omega
          subst hin
          refine k_aload_n X (q := 2) dX11_pass_71 rfl rfl ?_
          refine gX11_10s X (S := Si) (st_0 hIi.st).1 (st_0 hIi.st).2 (sr_0_0 hIi.st) dX11_pass_72 ?_
          refine gX11_216 X (S := Si) (st_1 hIi.st).1 (st_1 hIi.st).2 dX11_pass_75 (fun v_75_6 ev_75_6 => ?_)
          exact kx_iret X E dX11_pass_78 (by show _ ≤ 513; omega) (by show _ ≤ 26829; omega) (⟨hIi.mono (by omega) (by omega) (by omega), hdi, hpi (by omega), hri⟩)
        · skip
          have hlti : i < d := lt_of_nle c_45 (by omega)
          refine k_aload_n X (q := 2) dX11_pass_48 rfl rfl ?_
          refine gX11_10s X (S := Si) (st_0 hIi.st).1 (st_0 hIi.st).2 (sr_0_0 hIi.st) dX11_pass_49 ?_
          refine k_dup X dX11_pass_52 rfl ?_
          refine gX11_216 X (S := Si) (st_1 hIi.st).1 (st_1 hIi.st).2 dX11_pass_53 (fun v_53_7 ev_53_7 => ?_)
          refine k_iconst X (v := 1) dX11_pass_56 (by decide) ?_
          refine k_iadd X dX11_pass_57 (fun v_57_8 ev_57_8 => ?_)
          refine pX11_216 X (S := Si) (st_1 hIi.st).1 (st_1 hIi.st).2 dX11_pass_58 ?_
          have hv9 : v_57_8 = nI (dd + i + 1) := by rw [ev_57_8, ev_53_7, hdi, nI_1]
          have hI_9 := hIi.day (v := v_57_8) ⟨dd + i + 1, by omega, hv9⟩ (by rw [hdi, hv9, nI_toInt (by omega), nI_toInt (by omega)]; omega)
          have hKj : kKe A (Si.uI (A 1) 0 v_57_8) (Si.uI (A 1) 0 v_57_8) := kKe.rf
          have hdj : ((Si.uI (A 1) 0 v_57_8)).I (A 1) 0 = nI (dd + i + 1) := by rw [uI_I, if_pos ⟨rfl, rfl⟩]; exact hv9
          have hrj : (((Si.uI (A 1) 0 v_57_8)).I (A 7) 1) = Si.I (A 7) 1 := by rw [uI_I, if_neg (by omega)]
          refine k_aload_n X (q := 2) dX11_pass_61 rfl rfl ?_
          refine k_gotV X (vX11_470 X (S := (Si.uI (A 1) 0 v_57_8)) ⟨(st_0 hI_9.st).1, (st_0 hI_9.st).2⟩ (c_X11_beginDay C.l C.e0 (Si.uI (A 1) 0 v_57_8)  A n cz _ _ _ hI_9  (by omega)) (As := []) (rest := []) rfl rfl rfl rfl ⟨Nat.le_of_ble_eq_true rfl, Nat.le_of_ble_eq_true rfl⟩ (Nat.le_of_ble_eq_true rfl) ⟨(by show _ ≤ 513; omega), (by show _ ≤ 26829; omega)⟩ dX11_pass_62) (fun S_62_11 h_62_9 => ?_)
          obtain ⟨hI_12, hx_12, hm_12⟩ := h_62_9
          have hK_12 := (hKj).d.tr hx_12
          obtain ⟨v_65_13, ev_65_13⟩ : ∃ z : Int32, z = (nI i) + 1 := ⟨_, rfl⟩
          refine k_iinc X (q := 0) (v := v_65_13) [(2, .int v_65_13), (1, .int (nI d)), (0, .ref (A 0))] dX11_pass_65 rfl (by rw [ev_65_13]; rfl) (by decide) rfl ?_
          refine k_goto (tgt := 43) X dX11_pass_68 (by decide) ?_
          refine k_lv [0, 1, 2] _ rfl ?_
          refine k_room (k' := 0 + 57 * (i + 1)) (n' := 0 + 2981 * (i + 1)) (by omega) (by omega) ?_
          exact ih (d - (i + 1)) (by omega) (i + 1) _ _ rfl (by rw [ev_65_13, nI_1]) ⟨by omega, hI_12.mono (by omega) (by omega) (by omega), by rw [hK_12.2.1, hdj]; rfl, fun _ => hm_12, by have := hK_12.2.2; rw [hrj] at this; omega⟩
      refine k_lv [0, 2, 1] _ rfl ?_
      exact L_43 _ 0 0 _ rfl nI_0.symm ⟨by omega, h.mono (by omega) (by omega) (by omega), hday, fun z => absurd z (by omega), Int.le_refl _⟩
    · skip
      exact kthrw_82 X E Y dX11_pass_33 dX11_pass_36 dX11_pass_37 dX11_pass_40 (Nat.le_of_ble_eq_true rfl) (Nat.le_of_ble_eq_true rfl) (by show _ ≤ 513; omega) (by show _ ≤ 26829; omega) (Nat.le_refl _) (Nat.le_refl _) rfl
  · skip
    rw [ev_4_2] at c_7
    exact kthrw_65 X E Y dX11_pass_10 dX11_pass_13 dX11_pass_14 dX11_pass_17 (Nat.le_of_ble_eq_true rfl) (Nat.le_of_ble_eq_true rfl) (by show _ ≤ 513; omega) (by show _ ≤ 26829; omega) (Nat.le_refl _) (Nat.le_refl _) rfl
set_option maxHeartbeats 1000000 in
set_option maxRecDepth 20000 in
theorem c_X11_seat (l : Launch) (e0 : Nat × Nat) (S : kS)  (A : Nat → Nat) (n : Nat) (cz : Nat → Nat) (T G Z : Nat) (h : kI e0 A n cz T G Z S)  (hb : T + 165 ≤ 900000 ∧ G + 0 ≤ 60000 ∧ Z + 0 ≤ 150000) (hfl : l.stackTraces = false) : kMX l e0 yX11_seat cX11_seat 1 (Option.some Jvm.ClassFile.FieldType.int) ({ frames := 10, cells := 54, slots := 2762, locals := 262 } : Room) 54 2762 [.ref (A 0)] S (kQi (fun v S9 => kI e0 A n cz (T + 165) (G + 0) (Z + 0) S9 ∧ kKd A S S9 ∧ kPr A S9)) (fun S9 => S9 = S) := by
  refine kMetX (by decide +kernel) (Nat.le_of_ble_eq_true rfl) hfl (fun C he hl X E Y hm => ?_)
  have X : kX C RX11 cX11_seat 1 ({ frames := 10, cells := 54, slots := 2762, locals := 262 } : Room) := X
  subst he hl
  show kG C 1 S 0 0 0 [(0, .ref (A 0))] []
  have hn := h.n40
  refine k_aload_n X (q := 0) dX11_seat_0 rfl rfl ?_
  refine gX11_21s X (S := S) (st_0 h.st).1 (st_0 h.st).2 (sr_0_1 h.st) dX11_seat_1 ?_
  refine k_gotI X (vX11_161 X (S := S) ⟨(st_2 h.st).1, (st_2 h.st).2⟩ (c_X3_size C.l C.e0 S  A n cz h.st h.hC hn ) (As := []) (rest := []) rfl rfl rfl rfl ⟨Nat.le_of_ble_eq_true rfl, Nat.le_of_ble_eq_true rfl⟩ (Nat.le_of_ble_eq_true rfl) ⟨(by show _ ≤ 54; omega), (by show _ ≤ 2762; omega)⟩ dX11_seat_4) (fun v_4_2 S_4_3 h_4_0 => ?_)
  obtain ⟨rfl, ev_4_2⟩ := h_4_0
  refine k_if_gt (tgt := 20) X dX11_seat_7 (by decide) (fun c_7 => ?_) (fun c_7 => ?_)
  · skip
    exact kthrw_82 X E Y dX11_seat_20 dX11_seat_23 dX11_seat_24 dX11_seat_27 (Nat.le_of_ble_eq_true rfl) (Nat.le_of_ble_eq_true rfl) (by show _ ≤ 54; omega) (by show _ ≤ 2762; omega) (Nat.le_refl _) (Nat.le_refl _) rfl
  · skip
    refine k_aload_n X (q := 0) dX11_seat_10 rfl rfl ?_
    refine gX11_10s X (S := S) (st_0 h.st).1 (st_0 h.st).2 (sr_0_0 h.st) dX11_seat_11 ?_
    refine gX11_109 X (S := S) (st_1 h.st).1 (st_1 h.st).2 dX11_seat_14 (fun v_14_4 ev_14_4 => ?_)
    refine k_if_ne (tgt := 28) X dX11_seat_17 (by decide) (fun c_17 => ?_) (fun c_17 => ?_)
    · skip
      refine k_aload_n X (q := 0) dX11_seat_28 rfl rfl ?_
      refine gX11_21s X (S := S) (st_0 h.st).1 (st_0 h.st).2 (sr_0_1 h.st) dX11_seat_29 ?_
      refine k_gotV X (vX11_162 X (S := S) ⟨(st_2 h.st).1, (st_2 h.st).2⟩ (c_X3_drawMembers C.l C.e0 S  A n cz _ _ _ h  (by omega)) (As := []) (rest := []) rfl rfl rfl rfl ⟨Nat.le_of_ble_eq_true rfl, Nat.le_of_ble_eq_true rfl⟩ (Nat.le_of_ble_eq_true rfl) ⟨(by show _ ≤ 54; omega), (by show _ ≤ 2762; omega)⟩ dX11_seat_32) (fun S_32_6 h_32_4 => ?_)
      obtain ⟨hI_7, hx_7, hm_7⟩ := h_32_4
      have hK_7 := (kKe.rf).d.tr hx_7
      refine k_aload_n X (q := 0) dX11_seat_35 rfl rfl ?_
      refine gX11_21s X (S := S_32_6) (st_0 hI_7.st).1 (st_0 hI_7.st).2 (sr_0_1 hI_7.st) dX11_seat_36 ?_
      refine k_gotV X (vX11_165 X (S := S_32_6) ⟨(st_2 hI_7.st).1, (st_2 hI_7.st).2⟩ (c_X3_drawChair C.l C.e0 S_32_6  A n cz _ _ _ hI_7  (by omega)) (As := []) (rest := []) rfl rfl rfl rfl ⟨Nat.le_of_ble_eq_true rfl, Nat.le_of_ble_eq_true rfl⟩ (Nat.le_of_ble_eq_true rfl) ⟨(by show _ ≤ 54; omega), (by show _ ≤ 2762; omega)⟩ dX11_seat_39) (fun S_39_9 h_39_7 => ?_)
      obtain ⟨hI_10, hx_10, hm_10⟩ := h_39_7
      have hK_10 := (hK_7).tr hx_10
      refine k_aload_n X (q := 0) dX11_seat_42 rfl rfl ?_
      refine gX11_21s X (S := S_39_9) (st_0 hI_10.st).1 (st_0 hI_10.st).2 (sr_0_1 hI_10.st) dX11_seat_43 ?_
      refine k_gotI X (vX11_161 X (S := S_39_9) ⟨(st_2 hI_10.st).1, (st_2 hI_10.st).2⟩ (c_X3_size C.l C.e0 S_39_9  A n cz hI_10.st hI_10.hC hn ) (As := []) (rest := []) rfl rfl rfl rfl ⟨Nat.le_of_ble_eq_true rfl, Nat.le_of_ble_eq_true rfl⟩ (Nat.le_of_ble_eq_true rfl) ⟨(by show _ ≤ 54; omega), (by show _ ≤ 2762; omega)⟩ dX11_seat_46) (fun v_46_12 S_46_13 h_46_10 => ?_)
      obtain ⟨rfl, ev_46_12⟩ := h_46_10
      exact kx_iret X E dX11_seat_49 (by show _ ≤ 54; omega) (by show _ ≤ 2762; omega) (⟨hI_10.mono (by omega) (by omega) (by omega), hK_10, hm_10.2⟩)
    · skip
      exact kthrw_82 X E Y dX11_seat_20 dX11_seat_23 dX11_seat_24 dX11_seat_27 (Nat.le_of_ble_eq_true rfl) (Nat.le_of_ble_eq_true rfl) (by show _ ≤ 54; omega) (by show _ ≤ 2762; omega) (Nat.le_refl _) (Nat.le_refl _) rfl
set_option maxHeartbeats 1000000 in
set_option maxRecDepth 20000 in
theorem c_X11_assembly (l : Launch) (e0 : Nat × Nat) (S : kS)  (A : Nat → Nat) (n : Nat) (cz : Nat → Nat) (T G Z : Nat) (h : kI e0 A n cz T G Z S)  (hb : T + 1932 ≤ 900000 ∧ G + 0 ≤ 60000 ∧ Z + 0 ≤ 150000) (hfl : l.stackTraces = false) : kMX l e0 yX11_assembly cX11_assembly 1 (Option.some Jvm.ClassFile.FieldType.int) ({ frames := 12, cells := 594, slots := 31798, locals := 311 } : Room) 594 31798 [.ref (A 0)] S (kQi (fun v S9 => kI e0 A n cz (T + 1932) (G + 0) (Z + 0) S9 ∧ kKe A S S9)) (fun S9 => S9 = S) := by
  refine kMetX (by decide +kernel) (Nat.le_of_ble_eq_true rfl) hfl (fun C he hl X E Y hm => ?_)
  have X : kX C RX11 cX11_assembly 1 ({ frames := 12, cells := 594, slots := 31798, locals := 311 } : Room) := X
  subst he hl
  show kG C 1 S 0 0 0 [(0, .ref (A 0))] []
  have hn := h.n40
  refine k_aload_n X (q := 0) dX11_assembly_0 rfl rfl ?_
  refine gX11_10s X (S := S) (st_0 h.st).1 (st_0 h.st).2 (sr_0_0 h.st) dX11_assembly_1 ?_
  refine gX11_171 X (S := S) (st_1 h.st).1 (st_1 h.st).2 dX11_assembly_4 (fun r_4_1 er_4_1 => ?_)
  refine k_ifnull (tgt := 37) X dX11_assembly_7 (by decide) (fun c_7 => ?_) (fun a_7_2 c_7 => ?_)
  · skip
    subst c_7
    exact kthrw_82 X E Y dX11_assembly_37 dX11_assembly_40 dX11_assembly_41 dX11_assembly_44 (Nat.le_of_ble_eq_true rfl) (Nat.le_of_ble_eq_true rfl) (by show _ ≤ 594; omega) (by show _ ≤ 31798; omega) (Nat.le_refl _) (Nat.le_refl _) rfl
  · skip
    subst c_7
    refine k_aload_n X (q := 0) dX11_assembly_10 rfl rfl ?_
    refine gX11_37s X (S := S) (st_0 h.st).1 (st_0 h.st).2 (sr_0_3 h.st) dX11_assembly_11 ?_
    refine gX11_213 X (S := S) (st_4 h.st).1 (st_4 h.st).2 dX11_assembly_14 (fun v_14_3 ev_14_3 => ?_)
    refine k_aload_n X (q := 0) dX11_assembly_17 rfl rfl ?_
    refine gX11_10s X (S := S) (st_0 h.st).1 (st_0 h.st).2 (sr_0_0 h.st) dX11_assembly_18 ?_
    refine gX11_216 X (S := S) (st_1 h.st).1 (st_1 h.st).2 dX11_assembly_21 (fun v_21_4 ev_21_4 => ?_)
    refine k_icmp_eq (tgt := 37) X dX11_assembly_24 (by decide) (fun c_24 => ?_) (fun c_24 => ?_)
    · skip
      exact kthrw_82 X E Y dX11_assembly_37 dX11_assembly_40 dX11_assembly_41 dX11_assembly_44 (Nat.le_of_ble_eq_true rfl) (Nat.le_of_ble_eq_true rfl) (by show _ ≤ 594; omega) (by show _ ≤ 31798; omega) (Nat.le_refl _) (Nat.le_refl _) rfl
    · skip
      refine k_aload_n X (q := 0) dX11_assembly_27 rfl rfl ?_
      refine gX11_10s X (S := S) (st_0 h.st).1 (st_0 h.st).2 (sr_0_0 h.st) dX11_assembly_28 ?_
      refine gX11_109 X (S := S) (st_1 h.st).1 (st_1 h.st).2 dX11_assembly_31 (fun v_31_5 ev_31_5 => ?_)
      refine k_if_ne (tgt := 45) X dX11_assembly_34 (by decide) (fun c_34 => ?_) (fun c_34 => ?_)
      · skip
        refine k_aload_n X (q := 0) dX11_assembly_45 rfl rfl ?_
        refine gX11_37s X (S := S) (st_0 h.st).1 (st_0 h.st).2 (sr_0_3 h.st) dX11_assembly_46 ?_
        refine k_gotI X (vX11_219 X (S := S) ⟨(st_4 h.st).1, (st_4 h.st).2⟩ (c_X0_vote C.l C.e0 S  A n cz _ _ _ h  (by omega)) (As := []) (rest := []) rfl rfl rfl rfl ⟨Nat.le_of_ble_eq_true rfl, Nat.le_of_ble_eq_true rfl⟩ (Nat.le_of_ble_eq_true rfl) ⟨(by show _ ≤ 594; omega), (by show _ ≤ 31798; omega)⟩ dX11_assembly_49) (fun v_49_7 S_49_8 h_49_5 => ?_)
        obtain ⟨hI_9, hx_9⟩ := h_49_5
        have hK_9 := (kKe.rf).tr hx_9
        exact kx_iret X E dX11_assembly_52 (by show _ ≤ 594; omega) (by show _ ≤ 31798; omega) (⟨hI_9.mono (by omega) (by omega) (by omega), hK_9⟩)
      · skip
        exact kthrw_82 X E Y dX11_assembly_37 dX11_assembly_40 dX11_assembly_41 dX11_assembly_44 (Nat.le_of_ble_eq_true rfl) (Nat.le_of_ble_eq_true rfl) (by show _ ≤ 594; omega) (by show _ ≤ 31798; omega) (Nat.le_refl _) (Nat.le_refl _) rfl
set_option maxHeartbeats 1000000 in
set_option maxRecDepth 20000 in
theorem c_X11_court (l : Launch) (e0 : Nat × Nat) (S : kS)  (A : Nat → Nat) (n : Nat) (cz : Nat → Nat) (T G Z : Nat) (h : kI e0 A n cz T G Z S)  (hb : T + 1288 ≤ 900000 ∧ G + 8 ≤ 60000 ∧ Z + 0 ≤ 150000) (hfl : l.stackTraces = false) : kMX l e0 yX11_court cX11_court 1 (Option.some Jvm.ClassFile.FieldType.int) ({ frames := 12, cells := 384, slots := 20480, locals := 311 } : Room) 384 20480 [.ref (A 0)] S (kQi (fun v S9 => kI e0 A n cz (T + 1288) (G + 8) (Z + 0) S9 ∧ kKe A S S9)) (fun S9 => S9 = S) := by
  refine kMetX (by decide +kernel) (Nat.le_of_ble_eq_true rfl) hfl (fun C he hl X E Y hm => ?_)
  have X : kX C RX11 cX11_court 1 ({ frames := 12, cells := 384, slots := 20480, locals := 311 } : Room) := X
  subst he hl
  show kG C 1 S 0 0 0 [(0, .ref (A 0))] []
  have hn := h.n40
  refine k_aload_n X (q := 0) dX11_court_0 rfl rfl ?_
  refine gX11_28s X (S := S) (st_0 h.st).1 (st_0 h.st).2 (sr_0_2 h.st) dX11_court_1 ?_
  refine gX11_310 X (S := S) (st_3 h.st).1 (st_3 h.st).2 dX11_court_4 (fun v_4_1 ev_4_1 => ?_)
  refine k_aload_n X (q := 0) dX11_court_7 rfl rfl ?_
  refine gX11_10s X (S := S) (st_0 h.st).1 (st_0 h.st).2 (sr_0_0 h.st) dX11_court_8 ?_
  refine gX11_216 X (S := S) (st_1 h.st).1 (st_1 h.st).2 dX11_court_11 (fun v_11_2 ev_11_2 => ?_)
  refine k_icmp_eq (tgt := 27) X dX11_court_14 (by decide) (fun c_14 => ?_) (fun c_14 => ?_)
  · skip
    exact kthrw_82 X E Y dX11_court_27 dX11_court_30 dX11_court_31 dX11_court_34 (Nat.le_of_ble_eq_true rfl) (Nat.le_of_ble_eq_true rfl) (by show _ ≤ 384; omega) (by show _ ≤ 20480; omega) (Nat.le_refl _) (Nat.le_refl _) rfl
  · skip
    refine k_aload_n X (q := 0) dX11_court_17 rfl rfl ?_
    refine gX11_10s X (S := S) (st_0 h.st).1 (st_0 h.st).2 (sr_0_0 h.st) dX11_court_18 ?_
    refine gX11_109 X (S := S) (st_1 h.st).1 (st_1 h.st).2 dX11_court_21 (fun v_21_3 ev_21_3 => ?_)
    refine k_if_ne (tgt := 35) X dX11_court_24 (by decide) (fun c_24 => ?_) (fun c_24 => ?_)
    · skip
      refine k_aload_n X (q := 0) dX11_court_35 rfl rfl ?_
      refine gX11_28s X (S := S) (st_0 h.st).1 (st_0 h.st).2 (sr_0_2 h.st) dX11_court_36 ?_
      refine k_gotI X (vX11_311 X (S := S) ⟨(st_3 h.st).1, (st_3 h.st).2⟩ (c_X4_sit C.l C.e0 S  A n cz _ _ _ h  (by omega)) (As := []) (rest := []) rfl rfl rfl rfl ⟨Nat.le_of_ble_eq_true rfl, Nat.le_of_ble_eq_true rfl⟩ (Nat.le_of_ble_eq_true rfl) ⟨(by show _ ≤ 384; omega), (by show _ ≤ 20480; omega)⟩ dX11_court_39) (fun v_39_5 S_39_6 h_39_3 => ?_)
      obtain ⟨hI_7, hx_7⟩ := h_39_3
      have hK_7 := (kKe.rf).tr hx_7
      exact kx_iret X E dX11_court_42 (by show _ ≤ 384; omega) (by show _ ≤ 20480; omega) (⟨hI_7.mono (by omega) (by omega) (by omega), hK_7⟩)
    · skip
      exact kthrw_82 X E Y dX11_court_27 dX11_court_30 dX11_court_31 dX11_court_34 (Nat.le_of_ble_eq_true rfl) (Nat.le_of_ble_eq_true rfl) (by show _ ≤ 384; omega) (by show _ ≤ 20480; omega) (Nat.le_refl _) (Nat.le_refl _) rfl
set_option maxHeartbeats 1000000 in
set_option maxRecDepth 20000 in
theorem c_X11_fill (l : Launch) (e0 : Nat × Nat) (S : kS) (x1 : Int32) (A : Nat → Nat) (n : Nat) (cz : Nat → Nat) (T G Z : Nat) (h : kI e0 A n cz T G Z S)  (hb : T + 40 ≤ 900000 ∧ G + 0 ≤ 60000 ∧ Z + 0 ≤ 150000) (hfl : l.stackTraces = false) : kMX l e0 yX11_fill cX11_fill 3 (Option.some Jvm.ClassFile.FieldType.int) ({ frames := 6, cells := 1, slots := 6, locals := 155 } : Room) 1 6 [.ref (A 0), .int x1] S (kQi (fun v S9 => kI e0 A n cz (T + 40) (G + 0) (Z + 0) S9 ∧ kKe A S S9)) (fun S9 => S9 = S) := by
  refine kMetX (by decide +kernel) (Nat.le_of_ble_eq_true rfl) hfl (fun C he hl X E Y hm => ?_)
  have X : kX C RX11 cX11_fill 3 ({ frames := 6, cells := 1, slots := 6, locals := 155 } : Room) := X
  subst he hl
  show kG C 3 S 0 0 0 [(0, .ref (A 0)), (1, .int x1)] []
  have hn := h.n40
  refine k_iload_n X (q := 1) dX11_fill_0 rfl rfl ?_
  refine k_iconst X (v := 0) dX11_fill_1 (by decide) ?_
  refine k_aload_n X (q := 0) dX11_fill_2 rfl rfl ?_
  refine gX11_10s X (S := S) (st_0 h.st).1 (st_0 h.st).2 (sr_0_0 h.st) dX11_fill_3 ?_
  refine gX11_245s X (S := S) (st_1 h.st).1 (st_1 h.st).2 (sr_1_13 h.st) dX11_fill_6 ?_
  refine k_gotI X (vX11_76 X (S := S) ⟨(st_11 h.st).1, (st_11 h.st).2⟩ (c_Jx4a65c_size_8abf5 C.l C.e0 S (A 11) (st_11 h.st)) (As := []) (rest := [.int 0, .int x1]) rfl rfl rfl rfl ⟨Nat.le_of_ble_eq_true rfl, Nat.le_of_ble_eq_true rfl⟩ (Nat.le_of_ble_eq_true rfl) ⟨(by show _ ≤ 1; omega), (by show _ ≤ 6; omega)⟩ dX11_fill_9) (fun v_9_2 S_9_3 h_9_0 => ?_)
  obtain ⟨rfl, ev_9_2⟩ := h_9_0
  have hz_v_9_2 : nI 7 = v_9_2 := by rw [ev_9_2]; exact (h.hO).2.1.symm
  subst hz_v_9_2
  refine k_iconst X (v := 1) dX11_fill_12 (by decide) ?_
  refine k_isub X dX11_fill_13 (fun v_13_4 ev_13_4 => ?_)
  refine k_gotI X (vX11_61 X (S := S) (c_X11_isFrom C.l C.e0 S x1 0 v_13_4 ) (As := [.int x1, .int 0, .int v_13_4]) (rest := []) rfl rfl rfl rfl ⟨Nat.le_of_ble_eq_true rfl, Nat.le_of_ble_eq_true rfl⟩ (Nat.le_of_ble_eq_true rfl) ⟨(by show _ ≤ 1; omega), (by show _ ≤ 6; omega)⟩ dX11_fill_14) (fun v_14_6 S_14_7 h_14_4 => ?_)
  obtain ⟨rfl, ev_14_6⟩ := h_14_4
  refine k_if_ne (tgt := 28) X dX11_fill_17 (by decide) (fun c_17 => ?_) (fun c_17 => ?_)
  · skip
    rw [ev_14_6] at c_17
    obtain ⟨k, hk1, hk2, hxk⟩ := kfrom (a := 0) (b := 6) rfl (kidx1 (by omega) ev_13_4 rfl) (by omega) c_17
    have hk : k < 7 := by omega
    subst hxk
    refine k_aload_n X (q := 0) dX11_fill_28 rfl rfl ?_
    refine gX11_10s X (S := S) (st_0 h.st).1 (st_0 h.st).2 (sr_0_0 h.st) dX11_fill_29 ?_
    refine gX11_245s X (S := S) (st_1 h.st).1 (st_1 h.st).2 (sr_1_13 h.st) dX11_fill_32 ?_
    refine k_iload_n X (q := 1) dX11_fill_35 rfl rfl ?_
    refine k_gotQ X (vX11_202 X (S := S) ⟨(st_11 h.st).1, (st_11 h.st).2⟩ (c_Jx4a65c_get_915e3 C.l C.e0 S (A 11) 8 7 k (kof A) (h.hO) hk) (As := [.int (nI k)]) (rest := []) rfl rfl rfl rfl ⟨Nat.le_of_ble_eq_true rfl, Nat.le_of_ble_eq_true rfl⟩ (Nat.le_of_ble_eq_true rfl) ⟨(by show _ ≤ 1; omega), (by show _ ≤ 6; omega)⟩ dX11_fill_36) (fun r_36_9 S_36_10 h_36_7 => ?_)
    obtain ⟨rfl, er_36_9⟩ := h_36_7
    subst er_36_9
    refine tX11_248 X (S := S) ⟨(kLs.el (h.hO) hk).1, (kLs.el (h.hO) hk).2⟩ dX11_fill_39 ?_
    refine k_astore_n X [(2, .ref (kof A k)), (0, .ref (A 0)), (1, .int (nI k))] dX11_fill_42 rfl (by decide) rfl ?_
    refine k_aload_n X (q := 0) dX11_fill_43 rfl rfl ?_
    refine gX11_260 X (S := S) (kLs.el (h.hO) hk).1 (kLs.el (h.hO) hk).2 dX11_fill_44 (fun r_44_11 er_44_11 => ?_)
    refine k_ifnonnull (tgt := 60) X dX11_fill_47 (by decide) (fun a_47_12 c_47 => ?_) (fun c_47 => ?_)
    · skip
      subst c_47
      exact kthrw_82 X E Y dX11_fill_60 dX11_fill_63 dX11_fill_64 dX11_fill_67 (Nat.le_of_ble_eq_true rfl) (Nat.le_of_ble_eq_true rfl) (by show _ ≤ 1; omega) (by show _ ≤ 6; omega) (Nat.le_refl _) (Nat.le_refl _) rfl
    · skip
      subst c_47
      refine k_aload_n X (q := 1) dX11_fill_50 rfl rfl ?_
      refine gX11_10s X (S := S) (st_0 h.st).1 (st_0 h.st).2 (sr_0_0 h.st) dX11_fill_51 ?_
      refine gX11_109 X (S := S) (st_1 h.st).1 (st_1 h.st).2 dX11_fill_54 (fun v_54_13 ev_54_13 => ?_)
      refine k_if_ne (tgt := 68) X dX11_fill_57 (by decide) (fun c_57 => ?_) (fun c_57 => ?_)
      · skip
        refine k_aload_n X (q := 0) dX11_fill_68 rfl rfl ?_
        refine k_aload_n X (q := 1) dX11_fill_69 rfl rfl ?_
        refine gX11_10s X (S := S) (st_0 h.st).1 (st_0 h.st).2 (sr_0_0 h.st) dX11_fill_70 ?_
        refine k_gotV X (vX11_263 X (S := S) ⟨(kLs.el (h.hO) hk).1, (kLs.el (h.hO) hk).2⟩ (c_X8_choose C.l C.e0 S  A n cz _ _ _ h k hk (by omega)) (As := [.ref (A 1)]) (rest := []) rfl rfl rfl rfl ⟨Nat.le_of_ble_eq_true rfl, Nat.le_of_ble_eq_true rfl⟩ (Nat.le_of_ble_eq_true rfl) ⟨(by show _ ≤ 1; omega), (by show _ ≤ 6; omega)⟩ dX11_fill_73) (fun S_73_15 h_73_13 => ?_)
        obtain ⟨hI_16, hx_16⟩ := h_73_13
        have hK_16 := (kKe.rf).tr hx_16
        refine k_aload_n X (q := 0) dX11_fill_76 rfl rfl ?_
        refine gX11_260 X (S := S_73_15) (kLs.el hI_16.hO hk).1 (kLs.el hI_16.hO hk).2 dX11_fill_77 (fun r_77_17 er_77_17 => ?_)
        refine k_gotI X (vX11_175 X (S := S_73_15) (c_X11_numberOf C.l C.e0 S_73_15 r_77_17 (fun x hx => by obtain ⟨i, h1, h2, -⟩ := hI_16.ho.1 k hk x (er_77_17.symm.trans hx); rw [h2]; exact hI_16.at h1)) (As := [va_rf r_77_17]) (rest := []) rfl rfl rfl rfl ⟨Nat.le_of_ble_eq_true rfl, Nat.le_of_ble_eq_true rfl⟩ (Nat.le_of_ble_eq_true rfl) ⟨(by show _ ≤ 1; omega), (by show _ ≤ 6; omega)⟩ dX11_fill_80) (fun v_80_19 S_80_20 h_80_17 => ?_)
        obtain ⟨rfl, ev_80_19⟩ := h_80_17
        exact kx_iret X E dX11_fill_83 (by show _ ≤ 1; omega) (by show _ ≤ 6; omega) (⟨hI_16.mono (by omega) (by omega) (by omega), hK_16⟩)
      · skip
        exact kthrw_82 X E Y dX11_fill_60 dX11_fill_63 dX11_fill_64 dX11_fill_67 (Nat.le_of_ble_eq_true rfl) (Nat.le_of_ble_eq_true rfl) (by show _ ≤ 1; omega) (by show _ ≤ 6; omega) (Nat.le_refl _) (Nat.le_refl _) rfl
  · skip
    rw [ev_14_6] at c_17
    exact kthrw_95 X E Y dX11_fill_20 dX11_fill_23 dX11_fill_24 dX11_fill_27 (Nat.le_of_ble_eq_true rfl) (Nat.le_of_ble_eq_true rfl) (by show _ ≤ 1; omega) (by show _ ≤ 6; omega) (Nat.le_refl _) (Nat.le_refl _) rfl
set_option maxHeartbeats 1000000 in
set_option maxRecDepth 20000 in
theorem c_X11_lease (l : Launch) (e0 : Nat × Nat) (S : kS) (x1 : Int32) (x2 : Int32) (x3 : Int32) (A : Nat → Nat) (n : Nat) (cz : Nat → Nat) (T G Z : Nat) (h : kI e0 A n cz T G Z S)  (hb : T + 0 ≤ 900000 ∧ G + 0 ≤ 60000 ∧ Z + 0 ≤ 150000) (hfl : l.stackTraces = false) : kMX l e0 yX11_lease cX11_lease 5 (Option.some Jvm.ClassFile.FieldType.int) ({ frames := 6, cells := 1, slots := 6, locals := 85 } : Room) 1 6 [.ref (A 0), .int x1, .int x2, .int x3] S (kQi (fun v S9 => kI e0 A n cz (T + 0) (G + 0) (Z + 0) S9 ∧ kKe A S S9)) (fun S9 => S9 = S) := by
  refine kMetX (by decide +kernel) (Nat.le_of_ble_eq_true rfl) hfl (fun C he hl X E Y hm => ?_)
  have X : kX C RX11 cX11_lease 5 ({ frames := 6, cells := 1, slots := 6, locals := 85 } : Room) := X
  subst he hl
  show kG C 5 S 0 0 0 [(0, .ref (A 0)), (1, .int x1), (2, .int x2), (3, .int x3)] []
  have hn := h.n40
  refine k_aload_n X (q := 0) dX11_lease_0 rfl rfl ?_
  refine gX11_10s X (S := S) (st_0 h.st).1 (st_0 h.st).2 (sr_0_0 h.st) dX11_lease_1 ?_
  refine k_iload_n X (q := 1) dX11_lease_4 rfl rfl ?_
  refine k_gotQ X (vX11_102 X (S := S) ⟨(st_1 h.st).1, (st_1 h.st).2⟩ (c_X2_numbered C.l C.e0 S x1 A n cz h.st h.hC hn (by have := h.who.1; omega)) (As := [.int x1]) (rest := []) rfl rfl rfl rfl ⟨Nat.le_of_ble_eq_true rfl, Nat.le_of_ble_eq_true rfl⟩ (Nat.le_of_ble_eq_true rfl) ⟨(by show _ ≤ 1; omega), (by show _ ≤ 6; omega)⟩ dX11_lease_5) (fun r_5_2 S_5_3 h_5_0 => ?_)
  obtain ⟨rfl, hnj_5, hnq_5⟩ := h_5_0
  refine k_astoreQ X [(4, va_rf r_5_2), (0, .ref (A 0)), (1, .int x1), (2, .int x2), (3, .int x3)] dX11_lease_8 (by decide) rfl ?_
  refine k_aloadQ X (q := 0) dX11_lease_10 rfl ?_
  refine k_ifnull (tgt := 24) X dX11_lease_12 (by decide) (fun c_12 => ?_) (fun a_12_4 c_12 => ?_)
  · skip
    subst c_12
    exact kthrw_95 X E Y dX11_lease_24 dX11_lease_27 dX11_lease_28 dX11_lease_31 (Nat.le_of_ble_eq_true rfl) (Nat.le_of_ble_eq_true rfl) (by show _ ≤ 1; omega) (by show _ ≤ 6; omega) (Nat.le_refl _) (Nat.le_refl _) rfl
  · skip
    subst c_12
    obtain ⟨j, hj, hxj⟩ : ∃ j, j < n ∧ a_12_4 = cz j := by
      rcases hnq_5 with z | ⟨j, z1, z2, z3⟩
      · cases z
      · exact ⟨j, z1, Option.some.inj z3⟩
    subst hxj
    refine k_iload_n X (q := 3) dX11_lease_15 rfl rfl ?_
    refine k_iconst X (v := 0) dX11_lease_16 (by decide) ?_
    refine k_iconst X (v := 2) dX11_lease_17 (by decide) ?_
    refine k_gotI X (vX11_61 X (S := S) (c_X11_isFrom C.l C.e0 S x2 0 2 ) (As := [.int x2, .int 0, .int 2]) (rest := []) rfl rfl rfl rfl ⟨Nat.le_of_ble_eq_true rfl, Nat.le_of_ble_eq_true rfl⟩ (Nat.le_of_ble_eq_true rfl) ⟨(by show _ ≤ 1; omega), (by show _ ≤ 6; omega)⟩ dX11_lease_18) (fun v_18_6 S_18_7 h_18_4 => ?_)
    obtain ⟨rfl, ev_18_6⟩ := h_18_4
    refine k_if_ne (tgt := 32) X dX11_lease_21 (by decide) (fun c_21 => ?_) (fun c_21 => ?_)
    · skip
      rw [ev_18_6] at c_21
      obtain ⟨k, hk1, hk2, hxk⟩ := kfrom (a := 0) (b := 2) rfl (rfl) (by omega) c_21
      have hk : k < 3 := by omega
      subst hxk
      refine k_iload_n X (q := 4) dX11_lease_32 rfl rfl ?_
      refine k_iconst X (v := 1) dX11_lease_33 (by decide) ?_
      refine k_bipush X (v := 100) dX11_lease_34 (by decide) ?_
      refine k_gotI X (vX11_61 X (S := S) (c_X11_isFrom C.l C.e0 S x3 1 100 ) (As := [.int x3, .int 1, .int 100]) (rest := []) rfl rfl rfl rfl ⟨Nat.le_of_ble_eq_true rfl, Nat.le_of_ble_eq_true rfl⟩ (Nat.le_of_ble_eq_true rfl) ⟨(by show _ ≤ 1; omega), (by show _ ≤ 6; omega)⟩ dX11_lease_36) (fun v_36_9 S_36_10 h_36_7 => ?_)
      obtain ⟨rfl, ev_36_9⟩ := h_36_7
      refine k_if_eq (tgt := 57) X dX11_lease_39 (by decide) (fun c_39 => ?_) (fun c_39 => ?_)
      · skip
        rw [ev_36_9] at c_39
        exact kthrw_65 X E Y dX11_lease_57 dX11_lease_60 dX11_lease_61 dX11_lease_64 (Nat.le_of_ble_eq_true rfl) (Nat.le_of_ble_eq_true rfl) (by show _ ≤ 1; omega) (by show _ ≤ 6; omega) (Nat.le_refl _) (Nat.le_refl _) rfl
      · skip
        rw [ev_36_9] at c_39
        obtain ⟨t, ht1, ht2, hxt⟩ := kfrom (a := 1) (b := 100) rfl (rfl) (by omega) c_39
        have ht : t < 101 := by omega
        subst hxt
        refine k_iload_n X (q := 4) dX11_lease_42 rfl rfl ?_
        refine k_aload_n X (q := 1) dX11_lease_43 rfl rfl ?_
        refine gX11_10s X (S := S) (st_0 h.st).1 (st_0 h.st).2 (sr_0_0 h.st) dX11_lease_44 ?_
        refine gX11_354s X (S := S) (st_1 h.st).1 (st_1 h.st).2 (sr_1_15 h.st) dX11_lease_47 ?_
        refine k_iload_n X (q := 3) dX11_lease_50 rfl rfl ?_
        refine k_gotI X (vX11_358 X (S := S) (c_X11_valueAt C.l C.e0 S (A 40) (nI k) (st_40 h.st) (sm_40 h.st)) (As := [.ref (A 40), .int (nI k)]) (rest := [.int (nI t)]) rfl rfl rfl rfl ⟨Nat.le_of_ble_eq_true rfl, Nat.le_of_ble_eq_true rfl⟩ (Nat.le_of_ble_eq_true rfl) ⟨(by show _ ≤ 1; omega), (by show _ ≤ 6; omega)⟩ dX11_lease_51) (fun v_51_12 S_51_13 h_51_10 => ?_)
        obtain ⟨rfl, ev_51_12⟩ := h_51_10
        refine k_icmp_gt (tgt := 65) X dX11_lease_54 (by decide) (fun c_54 => ?_) (fun c_54 => ?_)
        · skip
          refine k_aload X (q := 0) dX11_lease_65 rfl ?_
          refine k_gotI X (vX11_362 X (S := S) ⟨(h.at hj).1, (h.at hj).2⟩ (c_X1_isFull C.l C.e0 S (cz j) (h.at hj)) (As := []) (rest := []) rfl rfl rfl rfl ⟨Nat.le_of_ble_eq_true rfl, Nat.le_of_ble_eq_true rfl⟩ (Nat.le_of_ble_eq_true rfl) ⟨(by show _ ≤ 1; omega), (by show _ ≤ 6; omega)⟩ dX11_lease_67) (fun v_67_15 S_67_16 h_67_13 => ?_)
          obtain ⟨rfl, ev_67_15⟩ := h_67_13
          refine k_if_ne (tgt := 81) X dX11_lease_70 (by decide) (fun c_70 => ?_) (fun c_70 => ?_)
          · skip
            rw [ev_67_15] at c_70
            have hful : S.I (cz j) 6 = 1 := by by_cases g : S.I (cz j) 6 = 1; exact g; simp [kb, g] at c_70
            refine k_aload_n X (q := 1) dX11_lease_81 rfl rfl ?_
            refine gX11_10s X (S := S) (st_0 h.st).1 (st_0 h.st).2 (sr_0_0 h.st) dX11_lease_82 ?_
            refine k_iload_n X (q := 3) dX11_lease_85 rfl rfl ?_
            refine k_aload X (q := 0) dX11_lease_86 rfl ?_
            refine k_iload_n X (q := 4) dX11_lease_88 rfl rfl ?_
            refine k_gotQ X (vX11_365 X (S := S) ⟨(st_1 h.st).1, (st_1 h.st).2⟩ (c_X2_letLease C.l C.e0 S (some (cz j)) (nI t) A h.st k hk (Or.inr ⟨_, rfl, ⟨(h.at hj).1, (h.at hj).2⟩⟩)) (As := [.int (nI k), .ref (cz j), .int (nI t)]) (rest := []) rfl rfl rfl rfl ⟨Nat.le_of_ble_eq_true rfl, Nat.le_of_ble_eq_true rfl⟩ (Nat.le_of_ble_eq_true rfl) ⟨(by show _ ≤ 1; omega), (by show _ ≤ 6; omega)⟩ dX11_lease_89) (fun r_89_18 S_89_19 h_89_16 => ?_)
            obtain ⟨rfl, er_89_18⟩ := h_89_16
            obtain ⟨hI_20, hx_20⟩ := h.let (k := k) (t := t) (c := some (cz j)) hk (Or.inr ⟨j, hj, rfl, Or.inl hful⟩) (by omega)
            have hK_20 := (kKe.rf).tr hx_20
            refine k_gotI X (vX11_175 X (S := ((S.uR (A 52) k (some (cz j))).uI (A 40) k (nI t))) (c_X11_numberOf C.l C.e0 ((S.uR (A 52) k (some (cz j))).uI (A 40) k (nI t)) r_89_18 (fun x hx => by obtain ⟨i, h1, h2, -⟩ := h.le.1 k hk x (er_89_18.symm.trans hx); rw [h2]; exact hI_20.at h1)) (As := [va_rf r_89_18]) (rest := []) rfl rfl rfl rfl ⟨Nat.le_of_ble_eq_true rfl, Nat.le_of_ble_eq_true rfl⟩ (Nat.le_of_ble_eq_true rfl) ⟨(by show _ ≤ 1; omega), (by show _ ≤ 6; omega)⟩ dX11_lease_92) (fun v_92_22 S_92_23 h_92_20 => ?_)
            obtain ⟨rfl, ev_92_22⟩ := h_92_20
            exact kx_iret X E dX11_lease_95 (by show _ ≤ 1; omega) (by show _ ≤ 6; omega) (⟨hI_20.mono (by omega) (by omega) (by omega), hK_20⟩)
          · skip
            rw [ev_67_15] at c_70
            exact kthrw_82 X E Y dX11_lease_73 dX11_lease_76 dX11_lease_77 dX11_lease_80 (Nat.le_of_ble_eq_true rfl) (Nat.le_of_ble_eq_true rfl) (by show _ ≤ 1; omega) (by show _ ≤ 6; omega) (Nat.le_refl _) (Nat.le_refl _) rfl
        · skip
          exact kthrw_65 X E Y dX11_lease_57 dX11_lease_60 dX11_lease_61 dX11_lease_64 (Nat.le_of_ble_eq_true rfl) (Nat.le_of_ble_eq_true rfl) (by show _ ≤ 1; omega) (by show _ ≤ 6; omega) (Nat.le_refl _) (Nat.le_refl _) rfl
    · skip
      rw [ev_18_6] at c_21
      exact kthrw_95 X E Y dX11_lease_24 dX11_lease_27 dX11_lease_28 dX11_lease_31 (Nat.le_of_ble_eq_true rfl) (Nat.le_of_ble_eq_true rfl) (by show _ ≤ 1; omega) (by show _ ≤ 6; omega) (Nat.le_refl _) (Nat.le_refl _) rfl
set_option maxHeartbeats 1000000 in
set_option maxRecDepth 20000 in
theorem c_X11_bear (l : Launch) (e0 : Nat × Nat) (S : kS) (x1 : Int32) (A : Nat → Nat) (n : Nat) (cz : Nat → Nat) (T G Z : Nat) (h : kI e0 A n cz T G Z S)  (hb : T + 0 ≤ 900000 ∧ G + 1 ≤ 60000 ∧ Z + 0 ≤ 150000) (hfl : l.stackTraces = false) : kMX l e0 yX11_bear cX11_bear 3 (Option.some Jvm.ClassFile.FieldType.int) ({ frames := 6, cells := 1, slots := 6, locals := 91 } : Room) 1 6 [.ref (A 0), .int x1] S (kQi (fun v S9 => kI e0 A n cz (T + 0) (G + 1) (Z + 0) S9 ∧ kKe A S S9)) (fun S9 => S9 = S) := by
  refine kMetX (by decide +kernel) (Nat.le_of_ble_eq_true rfl) hfl (fun C he hl X E Y hm => ?_)
  have X : kX C RX11 cX11_bear 3 ({ frames := 6, cells := 1, slots := 6, locals := 91 } : Room) := X
  subst he hl
  show kG C 3 S 0 0 0 [(0, .ref (A 0)), (1, .int x1)] []
  have hn := h.n40
  refine k_aload_n X (q := 0) dX11_bear_0 rfl rfl ?_
  refine gX11_10s X (S := S) (st_0 h.st).1 (st_0 h.st).2 (sr_0_0 h.st) dX11_bear_1 ?_
  refine k_iload_n X (q := 1) dX11_bear_4 rfl rfl ?_
  refine k_gotQ X (vX11_102 X (S := S) ⟨(st_1 h.st).1, (st_1 h.st).2⟩ (c_X2_numbered C.l C.e0 S x1 A n cz h.st h.hC hn (by have := h.who.1; omega)) (As := [.int x1]) (rest := []) rfl rfl rfl rfl ⟨Nat.le_of_ble_eq_true rfl, Nat.le_of_ble_eq_true rfl⟩ (Nat.le_of_ble_eq_true rfl) ⟨(by show _ ≤ 1; omega), (by show _ ≤ 6; omega)⟩ dX11_bear_5) (fun r_5_2 S_5_3 h_5_0 => ?_)
  obtain ⟨rfl, hnj_5, hnq_5⟩ := h_5_0
  refine k_astore_nQ X [(2, va_rf r_5_2), (0, .ref (A 0)), (1, .int x1)] dX11_bear_8 rfl (by decide) rfl ?_
  refine k_aload_nQ X (q := 0) dX11_bear_9 rfl rfl ?_
  refine k_ifnonnull (tgt := 21) X dX11_bear_10 (by decide) (fun a_10_4 c_10 => ?_) (fun c_10 => ?_)
  · skip
    subst c_10
    obtain ⟨j, hj, hxj⟩ : ∃ j, j < n ∧ a_10_4 = cz j := by
      rcases hnq_5 with z | ⟨j, z1, z2, z3⟩
      · cases z
      · exact ⟨j, z1, Option.some.inj z3⟩
    subst hxj
    refine k_aload_n X (q := 0) dX11_bear_21 rfl rfl ?_
    refine k_gotI X (vX11_410 X (S := S) ⟨(h.at hj).1, (h.at hj).2⟩ (c_X1_hasToBear C.l C.e0 S (cz j) (h.at hj)) (As := []) (rest := []) rfl rfl rfl rfl ⟨Nat.le_of_ble_eq_true rfl, Nat.le_of_ble_eq_true rfl⟩ (Nat.le_of_ble_eq_true rfl) ⟨(by show _ ≤ 1; omega), (by show _ ≤ 6; omega)⟩ dX11_bear_22) (fun v_22_6 S_22_7 h_22_4 => ?_)
    obtain ⟨rfl, ev_22_6⟩ := h_22_4
    refine k_if_ne (tgt := 36) X dX11_bear_25 (by decide) (fun c_25 => ?_) (fun c_25 => ?_)
    · skip
      rw [ev_22_6] at c_25
      have hst9 : S.I (cz j) 6 = 1 ∨ S.I (cz j) 6 = 2 := by
        by_cases g1 : S.I (cz j) 6 = 1
        · exact Or.inl g1
        · by_cases g2 : S.I (cz j) 6 = 2
          · exact Or.inr g2
          · simp [kb, g1, g2] at c_25
      refine k_aload_n X (q := 1) dX11_bear_36 rfl rfl ?_
      refine gX11_44s X (S := S) (st_0 h.st).1 (st_0 h.st).2 (sr_0_4 h.st) dX11_bear_37 ?_
      refine k_aload_n X (q := 0) dX11_bear_40 rfl rfl ?_
      refine k_gotI X (vX11_413 X (S := S) ⟨(st_5 h.st).1, (st_5 h.st).2⟩ (c_X5_discharge C.l C.e0 S  A n cz _ _ _ h j hj hst9 (by omega)) (As := [.ref (cz j)]) (rest := []) rfl rfl rfl rfl ⟨Nat.le_of_ble_eq_true rfl, Nat.le_of_ble_eq_true rfl⟩ (Nat.le_of_ble_eq_true rfl) ⟨(by show _ ≤ 1; omega), (by show _ ≤ 6; omega)⟩ dX11_bear_41) (fun v_41_9 S_41_10 h_41_7 => ?_)
      obtain ⟨hI_11, hx_11⟩ := h_41_7
      have hK_11 := (kKe.rf).tr hx_11
      exact kx_iret X E dX11_bear_44 (by show _ ≤ 1; omega) (by show _ ≤ 6; omega) (⟨hI_11.mono (by omega) (by omega) (by omega), hK_11⟩)
    · skip
      rw [ev_22_6] at c_25
      exact kthrw_82 X E Y dX11_bear_28 dX11_bear_31 dX11_bear_32 dX11_bear_35 (Nat.le_of_ble_eq_true rfl) (Nat.le_of_ble_eq_true rfl) (by show _ ≤ 1; omega) (by show _ ≤ 6; omega) (Nat.le_refl _) (Nat.le_refl _) rfl
  · skip
    subst c_10
    exact kthrw_95 X E Y dX11_bear_13 dX11_bear_16 dX11_bear_17 dX11_bear_20 (Nat.le_of_ble_eq_true rfl) (Nat.le_of_ble_eq_true rfl) (by show _ ≤ 1; omega) (by show _ ≤ 6; omega) (Nat.le_refl _) (Nat.le_refl _) rfl
set_option maxHeartbeats 1000000 in
set_option maxRecDepth 20000 in
theorem c_X11_claim (l : Launch) (e0 : Nat × Nat) (S : kS) (x1 : Int32) (x2 : Int32) (A : Nat → Nat) (n : Nat) (cz : Nat → Nat) (T G Z : Nat) (h : kI e0 A n cz T G Z S)  (hb : T + 0 ≤ 900000 ∧ G + 0 ≤ 60000 ∧ Z + 0 ≤ 150000) (hfl : l.stackTraces = false) : kMX l e0 yX11_claim cX11_claim 5 (Option.some Jvm.ClassFile.FieldType.int) ({ frames := 6, cells := 1, slots := 6, locals := 85 } : Room) 1 6 [.ref (A 0), .int x1, .int x2] S (kQi (fun v S9 => kI e0 A n cz (T + 0) (G + 0) (Z + 0) S9 ∧ kKe A S S9)) (fun S9 => S9 = S) := by
  refine kMetX (by decide +kernel) (Nat.le_of_ble_eq_true rfl) hfl (fun C he hl X E Y hm => ?_)
  have X : kX C RX11 cX11_claim 5 ({ frames := 6, cells := 1, slots := 6, locals := 85 } : Room) := X
  subst he hl
  show kG C 5 S 0 0 0 [(0, .ref (A 0)), (1, .int x1), (2, .int x2)] []
  have hn := h.n40
  refine k_aload_n X (q := 0) dX11_claim_0 rfl rfl ?_
  refine gX11_10s X (S := S) (st_0 h.st).1 (st_0 h.st).2 (sr_0_0 h.st) dX11_claim_1 ?_
  refine k_iload_n X (q := 1) dX11_claim_4 rfl rfl ?_
  refine k_gotQ X (vX11_102 X (S := S) ⟨(st_1 h.st).1, (st_1 h.st).2⟩ (c_X2_numbered C.l C.e0 S x1 A n cz h.st h.hC hn (by have := h.who.1; omega)) (As := [.int x1]) (rest := []) rfl rfl rfl rfl ⟨Nat.le_of_ble_eq_true rfl, Nat.le_of_ble_eq_true rfl⟩ (Nat.le_of_ble_eq_true rfl) ⟨(by show _ ≤ 1; omega), (by show _ ≤ 6; omega)⟩ dX11_claim_5) (fun r_5_2 S_5_3 h_5_0 => ?_)
  obtain ⟨rfl, hnj_5, hnq_5⟩ := h_5_0
  refine k_astore_nQ X [(3, va_rf r_5_2), (0, .ref (A 0)), (1, .int x1), (2, .int x2)] dX11_claim_8 rfl (by decide) rfl ?_
  refine k_aload_n X (q := 1) dX11_claim_9 rfl rfl ?_
  refine gX11_10s X (S := S) (st_0 h.st).1 (st_0 h.st).2 (sr_0_0 h.st) dX11_claim_10 ?_
  refine k_iload_n X (q := 3) dX11_claim_13 rfl rfl ?_
  refine k_gotQ X (vX11_102 X (S := S) ⟨(st_1 h.st).1, (st_1 h.st).2⟩ (c_X2_numbered C.l C.e0 S x2 A n cz h.st h.hC hn (by have := h.who.1; omega)) (As := [.int x2]) (rest := []) rfl rfl rfl rfl ⟨Nat.le_of_ble_eq_true rfl, Nat.le_of_ble_eq_true rfl⟩ (Nat.le_of_ble_eq_true rfl) ⟨(by show _ ≤ 1; omega), (by show _ ≤ 6; omega)⟩ dX11_claim_14) (fun r_14_5 S_14_6 h_14_3 => ?_)
  obtain ⟨rfl, hnj_14, hnq_14⟩ := h_14_3
  refine k_astoreQ X [(4, va_rf r_14_5), (3, va_rf r_5_2), (0, .ref (A 0)), (1, .int x1), (2, .int x2)] dX11_claim_17 (by decide) (by simp [List.filter, va_cat]) ?_
  refine k_aload_nQ X (q := 1) dX11_claim_19 rfl rfl ?_
  refine k_ifnull (tgt := 28) X dX11_claim_20 (by decide) (fun c_20 => ?_) (fun a_20_7 c_20 => ?_)
  · skip
    subst c_20
    exact kthrw_95 X E Y dX11_claim_28 dX11_claim_31 dX11_claim_32 dX11_claim_35 (Nat.le_of_ble_eq_true rfl) (Nat.le_of_ble_eq_true rfl) (by show _ ≤ 1; omega) (by show _ ≤ 6; omega) (Nat.le_refl _) (Nat.le_refl _) rfl
  · skip
    subst c_20
    obtain ⟨i, hi, hxi⟩ : ∃ j, j < n ∧ a_20_7 = cz j := by
      rcases hnq_5 with z | ⟨j, z1, z2, z3⟩
      · cases z
      · exact ⟨j, z1, Option.some.inj z3⟩
    subst hxi
    refine k_aloadQ X (q := 0) dX11_claim_23 rfl ?_
    refine k_ifnonnull (tgt := 36) X dX11_claim_25 (by decide) (fun a_25_8 c_25 => ?_) (fun c_25 => ?_)
    · skip
      subst c_25
      obtain ⟨j, hj, hxj⟩ : ∃ j, j < n ∧ a_25_8 = cz j := by
        rcases hnq_14 with z | ⟨j, z1, z2, z3⟩
        · cases z
        · exact ⟨j, z1, Option.some.inj z3⟩
      subst hxj
      refine k_aload_n X (q := 1) dX11_claim_36 rfl rfl ?_
      refine k_aload X (q := 0) dX11_claim_37 rfl ?_
      refine k_acmp_ne (rx := some (cz i)) (ry := some (cz j)) (tgt := 50) X dX11_claim_39 (by decide) (fun c_39 => ?_) (fun c_39 => ?_)
      · skip
        have hij9 : ¬ i = j := fun e => c_39 (by rw [e])
        refine k_aload_n X (q := 1) dX11_claim_50 rfl rfl ?_
        refine k_gotI X (vX11_400 X (S := S) ⟨(h.at hi).1, (h.at hi).2⟩ (c_X1_mayClaim C.l C.e0 S (cz i) (h.at hi)) (As := []) (rest := []) rfl rfl rfl rfl ⟨Nat.le_of_ble_eq_true rfl, Nat.le_of_ble_eq_true rfl⟩ (Nat.le_of_ble_eq_true rfl) ⟨(by show _ ≤ 1; omega), (by show _ ≤ 6; omega)⟩ dX11_claim_51) (fun v_51_10 S_51_11 h_51_8 => ?_)
        obtain ⟨rfl, ev_51_10⟩ := h_51_8
        refine k_if_eq (tgt := 66) X dX11_claim_54 (by decide) (fun c_54 => ?_) (fun c_54 => ?_)
        · skip
          rw [ev_51_10] at c_54
          exact kthrw_82 X E Y dX11_claim_66 dX11_claim_69 dX11_claim_70 dX11_claim_73 (Nat.le_of_ble_eq_true rfl) (Nat.le_of_ble_eq_true rfl) (by show _ ≤ 1; omega) (by show _ ≤ 6; omega) (Nat.le_refl _) (Nat.le_refl _) rfl
        · skip
          rw [ev_51_10] at c_54
          refine k_aload X (q := 0) dX11_claim_57 rfl ?_
          refine k_aload_n X (q := 1) dX11_claim_59 rfl rfl ?_
          refine k_gotI X (vX11_403 X (S := S) ⟨(h.at hj).1, (h.at hj).2⟩ (c_X1_mayBeClaimed C.l C.e0 S (cz j) (cz i) (h.at hj) (h.at hi)) (As := [.ref (cz i)]) (rest := []) rfl rfl rfl rfl ⟨Nat.le_of_ble_eq_true rfl, Nat.le_of_ble_eq_true rfl⟩ (Nat.le_of_ble_eq_true rfl) ⟨(by show _ ≤ 1; omega), (by show _ ≤ 6; omega)⟩ dX11_claim_60) (fun v_60_13 S_60_14 h_60_11 => ?_)
          obtain ⟨rfl, ev_60_13⟩ := h_60_11
          refine k_if_ne (tgt := 74) X dX11_claim_63 (by decide) (fun c_63 => ?_) (fun c_63 => ?_)
          · skip
            rw [ev_60_13] at c_63
            refine k_aload_n X (q := 2) dX11_claim_74 rfl rfl ?_
            refine gX11_44s X (S := S) (st_0 h.st).1 (st_0 h.st).2 (sr_0_4 h.st) dX11_claim_75 ?_
            refine k_aload_n X (q := 1) dX11_claim_78 rfl rfl ?_
            refine k_aload X (q := 0) dX11_claim_79 rfl ?_
            refine k_gotI X (vX11_406 X (S := S) ⟨(st_5 h.st).1, (st_5 h.st).2⟩ (c_X5_compare C.l C.e0 S  A n cz _ _ _ h i j hi hj hij9 (by omega)) (As := [.ref (cz i), .ref (cz j)]) (rest := []) rfl rfl rfl rfl ⟨Nat.le_of_ble_eq_true rfl, Nat.le_of_ble_eq_true rfl⟩ (Nat.le_of_ble_eq_true rfl) ⟨(by show _ ≤ 1; omega), (by show _ ≤ 6; omega)⟩ dX11_claim_81) (fun v_81_16 S_81_17 h_81_14 => ?_)
            obtain ⟨hI_18, hx_18⟩ := h_81_14
            have hK_18 := (kKe.rf).tr hx_18
            exact kx_iret X E dX11_claim_84 (by show _ ≤ 1; omega) (by show _ ≤ 6; omega) (⟨hI_18.mono (by omega) (by omega) (by omega), hK_18⟩)
          · skip
            rw [ev_60_13] at c_63
            exact kthrw_82 X E Y dX11_claim_66 dX11_claim_69 dX11_claim_70 dX11_claim_73 (Nat.le_of_ble_eq_true rfl) (Nat.le_of_ble_eq_true rfl) (by show _ ≤ 1; omega) (by show _ ≤ 6; omega) (Nat.le_refl _) (Nat.le_refl _) rfl
      · skip
        exact kthrw_65 X E Y dX11_claim_42 dX11_claim_45 dX11_claim_46 dX11_claim_49 (Nat.le_of_ble_eq_true rfl) (Nat.le_of_ble_eq_true rfl) (by show _ ≤ 1; omega) (by show _ ≤ 6; omega) (Nat.le_refl _) (Nat.le_refl _) rfl
    · skip
      subst c_25
      exact kthrw_95 X E Y dX11_claim_28 dX11_claim_31 dX11_claim_32 dX11_claim_35 (Nat.le_of_ble_eq_true rfl) (Nat.le_of_ble_eq_true rfl) (by show _ ≤ 1; omega) (by show _ ≤ 6; omega) (Nat.le_refl _) (Nat.le_refl _) rfl
set_option maxHeartbeats 1000000 in
set_option maxRecDepth 20000 in
theorem c_X11_levy (l : Launch) (e0 : Nat × Nat) (S : kS) (x1 : Int32) (A : Nat → Nat) (n : Nat) (cz : Nat → Nat) (T G Z : Nat) (h : kI e0 A n cz T G Z S)  (hb : T + 42 ≤ 900000 ∧ G + 0 ≤ 60000 ∧ Z + 300 ≤ 150000) (hfl : l.stackTraces = false) : kMX l e0 yX11_levy cX11_levy 2 (Option.some Jvm.ClassFile.FieldType.int) ({ frames := 10, cells := 40, slots := 2920, locals := 263 } : Room) 40 2920 [.ref (A 0), .int x1] S (kQi (fun v S9 => kI e0 A n cz (T + 42) (G + 0) (Z + 300) S9 ∧ kKe A S S9)) (fun S9 => S9 = S) := by
  refine kMetX (by decide +kernel) (Nat.le_of_ble_eq_true rfl) hfl (fun C he hl X E Y hm => ?_)
  have X : kX C RX11 cX11_levy 2 ({ frames := 10, cells := 40, slots := 2920, locals := 263 } : Room) := X
  subst he hl
  show kG C 2 S 0 0 0 [(0, .ref (A 0)), (1, .int x1)] []
  have hn := h.n40
  refine k_iload_n X (q := 1) dX11_levy_0 rfl rfl ?_
  refine k_iconst X (v := 1) dX11_levy_1 (by decide) ?_
  refine k_bipush X (v := 15) dX11_levy_2 (by decide) ?_
  refine k_gotI X (vX11_61 X (S := S) (c_X11_isFrom C.l C.e0 S x1 1 15 ) (As := [.int x1, .int 1, .int 15]) (rest := []) rfl rfl rfl rfl ⟨Nat.le_of_ble_eq_true rfl, Nat.le_of_ble_eq_true rfl⟩ (Nat.le_of_ble_eq_true rfl) ⟨(by show _ ≤ 40; omega), (by show _ ≤ 2920; omega)⟩ dX11_levy_4) (fun v_4_2 S_4_3 h_4_0 => ?_)
  obtain ⟨rfl, ev_4_2⟩ := h_4_0
  refine k_if_ne (tgt := 18) X dX11_levy_7 (by decide) (fun c_7 => ?_) (fun c_7 => ?_)
  · skip
    rw [ev_4_2] at c_7
    refine k_aload_n X (q := 0) dX11_levy_18 rfl rfl ?_
    refine gX11_10s X (S := S) (st_0 h.st).1 (st_0 h.st).2 (sr_0_0 h.st) dX11_levy_19 ?_
    refine gX11_457 X (S := S) (st_1 h.st).1 (st_1 h.st).2 dX11_levy_22 (fun v_22_4 ev_22_4 => ?_)
    refine k_iconst X (v := (-1)) dX11_levy_25 (by decide) ?_
    refine k_icmp_eq (tgt := 46) X dX11_levy_26 (by decide) (fun c_26 => ?_) (fun c_26 => ?_)
    · skip
      exact kthrw_82 X E Y dX11_levy_46 dX11_levy_49 dX11_levy_50 dX11_levy_53 (Nat.le_of_ble_eq_true rfl) (Nat.le_of_ble_eq_true rfl) (by show _ ≤ 40; omega) (by show _ ≤ 2920; omega) (Nat.le_refl _) (Nat.le_refl _) rfl
    · skip
      obtain ⟨w0, hw0, hwar⟩ : ∃ t, t ≤ 300 ∧ S.I (A 1) 9 = nI t := by
        rcases h.ms.2.2.2.1 with z | z
        · exact absurd z (by rw [← ev_22_4]; exact c_26)
        · exact z
      refine k_aload_n X (q := 0) dX11_levy_29 rfl rfl ?_
      refine gX11_53s X (S := S) (st_0 h.st).1 (st_0 h.st).2 (sr_0_5 h.st) dX11_levy_30 ?_
      refine gX11_460 X (S := S) (st_6 h.st).1 (st_6 h.st).2 dX11_levy_33 (fun v_33_5 ev_33_5 => ?_)
      refine k_aload_n X (q := 0) dX11_levy_36 rfl rfl ?_
      refine gX11_10s X (S := S) (st_0 h.st).1 (st_0 h.st).2 (sr_0_0 h.st) dX11_levy_37 ?_
      refine gX11_216 X (S := S) (st_1 h.st).1 (st_1 h.st).2 dX11_levy_40 (fun v_40_6 ev_40_6 => ?_)
      refine k_icmp_ne (tgt := 54) X dX11_levy_43 (by decide) (fun c_43 => ?_) (fun c_43 => ?_)
      · skip
        refine k_aload_n X (q := 0) dX11_levy_54 rfl rfl ?_
        refine gX11_53s X (S := S) (st_0 h.st).1 (st_0 h.st).2 (sr_0_5 h.st) dX11_levy_55 ?_
        refine k_iload_n X (q := 1) dX11_levy_58 rfl rfl ?_
        refine k_gotI X (vX11_463 X (S := S) ⟨(st_6 h.st).1, (st_6 h.st).2⟩ (c_X9_fight C.l C.e0 S x1 A n cz _ _ _ h w0 hw0 hwar (by omega)) (As := [.int x1]) (rest := []) rfl rfl rfl rfl ⟨Nat.le_of_ble_eq_true rfl, Nat.le_of_ble_eq_true rfl⟩ (Nat.le_of_ble_eq_true rfl) ⟨(by show _ ≤ 40; omega), (by show _ ≤ 2920; omega)⟩ dX11_levy_59) (fun v_59_8 S_59_9 h_59_6 => ?_)
        obtain ⟨hI_10, hx_10⟩ := h_59_6
        have hK_10 := (kKe.rf).tr hx_10
        exact kx_iret X E dX11_levy_62 (by show _ ≤ 40; omega) (by show _ ≤ 2920; omega) (⟨hI_10.mono (by omega) (by omega) (by omega), hK_10⟩)
      · skip
        exact kthrw_82 X E Y dX11_levy_46 dX11_levy_49 dX11_levy_50 dX11_levy_53 (Nat.le_of_ble_eq_true rfl) (Nat.le_of_ble_eq_true rfl) (by show _ ≤ 40; omega) (by show _ ≤ 2920; omega) (Nat.le_refl _) (Nat.le_refl _) rfl
  · skip
    rw [ev_4_2] at c_7
    exact kthrw_65 X E Y dX11_levy_10 dX11_levy_13 dX11_levy_14 dX11_levy_17 (Nat.le_of_ble_eq_true rfl) (Nat.le_of_ble_eq_true rfl) (by show _ ≤ 40; omega) (by show _ ≤ 2920; omega) (Nat.le_refl _) (Nat.le_refl _) rfl
set_option maxHeartbeats 1000000 in
set_option maxRecDepth 20000 in
theorem c_X11_sherds (l : Launch) (e0 : Nat × Nat) (S : kS)  (A : Nat → Nat) (n : Nat) (cz : Nat → Nat) (T G Z : Nat) (h : kI e0 A n cz T G Z S)  (hb : T + 1 ≤ 900000 ∧ G + 0 ≤ 60000 ∧ Z + 0 ≤ 150000) (hfl : l.stackTraces = false) : kMX l e0 yX11_sherds cX11_sherds 1 (Option.some Jvm.ClassFile.FieldType.int) ({ frames := 9, cells := 6, slots := 202, locals := 236 } : Room) 6 202 [.ref (A 0)] S (kQi (fun v S9 => kI e0 A n cz (T + 1) (G + 0) (Z + 0) S9 ∧ kKe A S S9)) (fun S9 => S9 = S) := by
  refine kMetX (by decide +kernel) (Nat.le_of_ble_eq_true rfl) hfl (fun C he hl X E Y hm => ?_)
  have X : kX C RX11 cX11_sherds 1 ({ frames := 9, cells := 6, slots := 202, locals := 236 } : Room) := X
  subst he hl
  show kG C 1 S 0 0 0 [(0, .ref (A 0))] []
  have hn := h.n40
  refine k_aload_n X (q := 0) dX11_sherds_0 rfl rfl ?_
  refine gX11_37s X (S := S) (st_0 h.st).1 (st_0 h.st).2 (sr_0_3 h.st) dX11_sherds_1 ?_
  refine gX11_447 X (S := S) (st_4 h.st).1 (st_4 h.st).2 dX11_sherds_4 (fun v_4_1 ev_4_1 => ?_)
  refine k_aload_n X (q := 0) dX11_sherds_7 rfl rfl ?_
  refine gX11_10s X (S := S) (st_0 h.st).1 (st_0 h.st).2 (sr_0_0 h.st) dX11_sherds_8 ?_
  refine k_gotI X (vX11_419 X (S := S) ⟨(st_1 h.st).1, (st_1 h.st).2⟩ (c_X2_year C.l C.e0 S  A h.st ) (As := []) (rest := [.int v_4_1]) rfl rfl rfl rfl ⟨Nat.le_of_ble_eq_true rfl, Nat.le_of_ble_eq_true rfl⟩ (Nat.le_of_ble_eq_true rfl) ⟨(by show _ ≤ 6; omega), (by show _ ≤ 202; omega)⟩ dX11_sherds_11) (fun v_11_3 S_11_4 h_11_1 => ?_)
  obtain ⟨rfl, ev_11_3⟩ := h_11_1
  refine k_icmp_eq (tgt := 38) X dX11_sherds_14 (by decide) (fun c_14 => ?_) (fun c_14 => ?_)
  · skip
    exact kthrw_82 X E Y dX11_sherds_38 dX11_sherds_41 dX11_sherds_42 dX11_sherds_45 (Nat.le_of_ble_eq_true rfl) (Nat.le_of_ble_eq_true rfl) (by show _ ≤ 6; omega) (by show _ ≤ 202; omega) (Nat.le_refl _) (Nat.le_refl _) rfl
  · skip
    refine k_aload_n X (q := 0) dX11_sherds_17 rfl rfl ?_
    refine gX11_10s X (S := S) (st_0 h.st).1 (st_0 h.st).2 (sr_0_0 h.st) dX11_sherds_18 ?_
    refine k_gotI X (vX11_450 X (S := S) ⟨(st_1 h.st).1, (st_1 h.st).2⟩ (c_X2_prytany C.l C.e0 S  A h.st ) (As := []) (rest := []) rfl rfl rfl rfl ⟨Nat.le_of_ble_eq_true rfl, Nat.le_of_ble_eq_true rfl⟩ (Nat.le_of_ble_eq_true rfl) ⟨(by show _ ≤ 6; omega), (by show _ ≤ 202; omega)⟩ dX11_sherds_21) (fun v_21_6 S_21_7 h_21_4 => ?_)
    obtain ⟨rfl, ev_21_6⟩ := h_21_4
    refine k_iconst X (v := 2) dX11_sherds_24 (by decide) ?_
    refine k_icmp_lt (tgt := 38) X dX11_sherds_25 (by decide) (fun c_25 => ?_) (fun c_25 => ?_)
    · skip
      exact kthrw_82 X E Y dX11_sherds_38 dX11_sherds_41 dX11_sherds_42 dX11_sherds_45 (Nat.le_of_ble_eq_true rfl) (Nat.le_of_ble_eq_true rfl) (by show _ ≤ 6; omega) (by show _ ≤ 202; omega) (Nat.le_refl _) (Nat.le_refl _) rfl
    · skip
      refine k_aload_n X (q := 0) dX11_sherds_28 rfl rfl ?_
      refine gX11_10s X (S := S) (st_0 h.st).1 (st_0 h.st).2 (sr_0_0 h.st) dX11_sherds_29 ?_
      refine gX11_109 X (S := S) (st_1 h.st).1 (st_1 h.st).2 dX11_sherds_32 (fun v_32_8 ev_32_8 => ?_)
      refine k_if_ne (tgt := 46) X dX11_sherds_35 (by decide) (fun c_35 => ?_) (fun c_35 => ?_)
      · skip
        refine k_aload_n X (q := 0) dX11_sherds_46 rfl rfl ?_
        refine gX11_37s X (S := S) (st_0 h.st).1 (st_0 h.st).2 (sr_0_3 h.st) dX11_sherds_47 ?_
        refine k_gotQ X (vX11_453 X (S := S) ⟨(st_4 h.st).1, (st_4 h.st).2⟩ (c_X0_writeSherds C.l C.e0 S  A n cz _ _ _ h  (by omega)) (As := []) (rest := []) rfl rfl rfl rfl ⟨Nat.le_of_ble_eq_true rfl, Nat.le_of_ble_eq_true rfl⟩ (Nat.le_of_ble_eq_true rfl) ⟨(by show _ ≤ 6; omega), (by show _ ≤ 202; omega)⟩ dX11_sherds_50) (fun r_50_10 S_50_11 h_50_8 => ?_)
        obtain ⟨hI_12, hx_12, hm_12⟩ := h_50_8
        have hK_12 := (kKe.rf).tr hx_12
        refine k_gotI X (vX11_175 X (S := S_50_11) (c_X11_numberOf C.l C.e0 S_50_11 r_50_10 (fun x hx => by rcases hm_12 with z | ⟨j, z1, z2⟩; rw [z] at hx; cases hx; rw [z2] at hx; cases hx; exact hI_12.at z1)) (As := [va_rf r_50_10]) (rest := []) rfl rfl rfl rfl ⟨Nat.le_of_ble_eq_true rfl, Nat.le_of_ble_eq_true rfl⟩ (Nat.le_of_ble_eq_true rfl) ⟨(by show _ ≤ 6; omega), (by show _ ≤ 202; omega)⟩ dX11_sherds_53) (fun v_53_14 S_53_15 h_53_12 => ?_)
        obtain ⟨rfl, ev_53_14⟩ := h_53_12
        exact kx_iret X E dX11_sherds_56 (by show _ ≤ 6; omega) (by show _ ≤ 202; omega) (⟨hI_12.mono (by omega) (by omega) (by omega), hK_12⟩)
      · skip
        exact kthrw_82 X E Y dX11_sherds_38 dX11_sherds_41 dX11_sherds_42 dX11_sherds_45 (Nat.le_of_ble_eq_true rfl) (Nat.le_of_ble_eq_true rfl) (by show _ ≤ 6; omega) (by show _ ≤ 202; omega) (Nat.le_refl _) (Nat.le_refl _) rfl
set_option maxHeartbeats 1000000 in
set_option maxRecDepth 20000 in
theorem c_X11_rise (l : Launch) (e0 : Nat × Nat) (S : kS) (x1 : Int32) (x2 : Int32) (A : Nat → Nat) (n : Nat) (cz : Nat → Nat) (T G Z : Nat) (h : kI e0 A n cz T G Z S)  (hb : T + 1 ≤ 900000 ∧ G + 0 ≤ 60000 ∧ Z + 0 ≤ 150000) (hfl : l.stackTraces = false) : kMX l e0 yX11_rise cX11_rise 3 (Option.some Jvm.ClassFile.FieldType.boolean) ({ frames := 9, cells := 6, slots := 202, locals := 236 } : Room) 6 202 [.ref (A 0), .int x1, .int x2] S (kQi (fun v S9 => kI e0 A n cz (T + 1) (G + 0) (Z + 0) S9 ∧ kKe A S S9)) (fun S9 => S9 = S) := by
  refine kMetX (by decide +kernel) (Nat.le_of_ble_eq_true rfl) hfl (fun C he hl X E Y hm => ?_)
  have X : kX C RX11 cX11_rise 3 ({ frames := 9, cells := 6, slots := 202, locals := 236 } : Room) := X
  subst he hl
  show kG C 3 S 0 0 0 [(0, .ref (A 0)), (1, .int x1), (2, .int x2)] []
  have hn := h.n40
  refine k_iload_n X (q := 1) dX11_rise_0 rfl rfl ?_
  refine k_gotI X (vX11_68 X (S := S) (c_X11_isLean C.l C.e0 S x1 ) (As := [.int x1]) (rest := []) rfl rfl rfl rfl ⟨Nat.le_of_ble_eq_true rfl, Nat.le_of_ble_eq_true rfl⟩ (Nat.le_of_ble_eq_true rfl) ⟨(by show _ ≤ 6; omega), (by show _ ≤ 202; omega)⟩ dX11_rise_1) (fun v_1_2 S_1_3 h_1_0 => ?_)
  obtain ⟨rfl, ev_1_2⟩ := h_1_0
  refine k_if_ne (tgt := 15) X dX11_rise_4 (by decide) (fun c_4 => ?_) (fun c_4 => ?_)
  · skip
    rw [ev_1_2] at c_4
    refine k_aload_n X (q := 0) dX11_rise_15 rfl rfl ?_
    refine gX11_10s X (S := S) (st_0 h.st).1 (st_0 h.st).2 (sr_0_0 h.st) dX11_rise_16 ?_
    refine gX11_109 X (S := S) (st_1 h.st).1 (st_1 h.st).2 dX11_rise_19 (fun v_19_4 ev_19_4 => ?_)
    refine k_if_eq (tgt := 33) X dX11_rise_22 (by decide) (fun c_22 => ?_) (fun c_22 => ?_)
    · skip
      refine k_aload_n X (q := 0) dX11_rise_33 rfl rfl ?_
      refine gX11_53s X (S := S) (st_0 h.st).1 (st_0 h.st).2 (sr_0_5 h.st) dX11_rise_34 ?_
      refine k_iload_n X (q := 1) dX11_rise_37 rfl rfl ?_
      refine k_iload_n X (q := 2) dX11_rise_38 rfl rfl ?_
      refine k_gotI X (vX11_466 X (S := S) ⟨(st_6 h.st).1, (st_6 h.st).2⟩ (c_X9_revolt C.l C.e0 S x1 x2 A n cz _ _ _ h  (by omega)) (As := [.int x1, .int x2]) (rest := []) rfl rfl rfl rfl ⟨Nat.le_of_ble_eq_true rfl, Nat.le_of_ble_eq_true rfl⟩ (Nat.le_of_ble_eq_true rfl) ⟨(by show _ ≤ 6; omega), (by show _ ≤ 202; omega)⟩ dX11_rise_39) (fun v_39_6 S_39_7 h_39_4 => ?_)
      obtain ⟨hI_8, hx_8, hm_8⟩ := h_39_4
      have hK_8 := (kKe.rf).tr hx_8
      exact kx_zret X E hm_8 dX11_rise_42 (by show _ ≤ 6; omega) (by show _ ≤ 202; omega) (⟨hI_8.mono (by omega) (by omega) (by omega), hK_8⟩)
    · skip
      exact kthrw_82 X E Y dX11_rise_25 dX11_rise_28 dX11_rise_29 dX11_rise_32 (Nat.le_of_ble_eq_true rfl) (Nat.le_of_ble_eq_true rfl) (by show _ ≤ 6; omega) (by show _ ≤ 202; omega) (Nat.le_refl _) (Nat.le_refl _) rfl
  · skip
    rw [ev_1_2] at c_4
    exact kthrw_65 X E Y dX11_rise_7 dX11_rise_10 dX11_rise_11 dX11_rise_14 (Nat.le_of_ble_eq_true rfl) (Nat.le_of_ble_eq_true rfl) (by show _ ≤ 6; omega) (by show _ ≤ 202; omega) (Nat.le_refl _) (Nat.le_refl _) rfl
set_option maxHeartbeats 1000000 in
set_option maxRecDepth 20000 in
theorem c_X11_stand (l : Launch) (e0 : Nat × Nat) (S : kS) (x1 : Int32) (x2 : Int32) (A : Nat → Nat) (n : Nat) (cz : Nat → Nat) (T G Z : Nat) (h : kI e0 A n cz T G Z S)  (hb : T + 0 ≤ 900000 ∧ G + 0 ≤ 60000 ∧ Z + 0 ≤ 150000) (hfl : l.stackTraces = false) : kMX l e0 yX11_stand cX11_stand 5 (Option.some Jvm.ClassFile.FieldType.int) ({ frames := 7, cells := 1, slots := 73, locals := 191 } : Room) 1 73 [.ref (A 0), .int x1, .int x2] S (kQi (fun v S9 => kI e0 A n cz (T + 0) (G + 0) (Z + 0) S9 ∧ kKe A S S9)) (fun S9 => S9 = S) := by
  refine kMetX (by decide +kernel) (Nat.le_of_ble_eq_true rfl) hfl (fun C he hl X E Y hm => ?_)
  have X : kX C RX11 cX11_stand 5 ({ frames := 7, cells := 1, slots := 73, locals := 191 } : Room) := X
  subst he hl
  show kG C 5 S 0 0 0 [(0, .ref (A 0)), (1, .int x1), (2, .int x2)] []
  have hn := h.n40
  refine k_aload_n X (q := 0) dX11_stand_0 rfl rfl ?_
  refine gX11_10s X (S := S) (st_0 h.st).1 (st_0 h.st).2 (sr_0_0 h.st) dX11_stand_1 ?_
  refine k_iload_n X (q := 1) dX11_stand_4 rfl rfl ?_
  refine k_gotQ X (vX11_102 X (S := S) ⟨(st_1 h.st).1, (st_1 h.st).2⟩ (c_X2_numbered C.l C.e0 S x1 A n cz h.st h.hC hn (by have := h.who.1; omega)) (As := [.int x1]) (rest := []) rfl rfl rfl rfl ⟨Nat.le_of_ble_eq_true rfl, Nat.le_of_ble_eq_true rfl⟩ (Nat.le_of_ble_eq_true rfl) ⟨(by show _ ≤ 1; omega), (by show _ ≤ 73; omega)⟩ dX11_stand_5) (fun r_5_2 S_5_3 h_5_0 => ?_)
  obtain ⟨rfl, hnj_5, hnq_5⟩ := h_5_0
  refine k_astore_nQ X [(3, va_rf r_5_2), (0, .ref (A 0)), (1, .int x1), (2, .int x2)] dX11_stand_8 rfl (by decide) rfl ?_
  refine k_aload_nQ X (q := 0) dX11_stand_9 rfl rfl ?_
  refine k_ifnull (tgt := 33) X dX11_stand_10 (by decide) (fun c_10 => ?_) (fun a_10_4 c_10 => ?_)
  · skip
    subst c_10
    exact kthrw_95 X E Y dX11_stand_33 dX11_stand_36 dX11_stand_37 dX11_stand_40 (Nat.le_of_ble_eq_true rfl) (Nat.le_of_ble_eq_true rfl) (by show _ ≤ 1; omega) (by show _ ≤ 73; omega) (Nat.le_refl _) (Nat.le_refl _) rfl
  · skip
    subst c_10
    obtain ⟨j, hj, hxj⟩ : ∃ j, j < n ∧ a_10_4 = cz j := by
      rcases hnq_5 with z | ⟨j, z1, z2, z3⟩
      · cases z
      · exact ⟨j, z1, Option.some.inj z3⟩
    subst hxj
    refine k_iload_n X (q := 3) dX11_stand_13 rfl rfl ?_
    refine k_iconst X (v := 0) dX11_stand_14 (by decide) ?_
    refine k_aload_n X (q := 1) dX11_stand_15 rfl rfl ?_
    refine gX11_10s X (S := S) (st_0 h.st).1 (st_0 h.st).2 (sr_0_0 h.st) dX11_stand_16 ?_
    refine gX11_245s X (S := S) (st_1 h.st).1 (st_1 h.st).2 (sr_1_13 h.st) dX11_stand_19 ?_
    refine k_gotI X (vX11_76 X (S := S) ⟨(st_11 h.st).1, (st_11 h.st).2⟩ (c_Jx4a65c_size_8abf5 C.l C.e0 S (A 11) (st_11 h.st)) (As := []) (rest := [.int 0, .int x2]) rfl rfl rfl rfl ⟨Nat.le_of_ble_eq_true rfl, Nat.le_of_ble_eq_true rfl⟩ (Nat.le_of_ble_eq_true rfl) ⟨(by show _ ≤ 1; omega), (by show _ ≤ 73; omega)⟩ dX11_stand_22) (fun v_22_6 S_22_7 h_22_4 => ?_)
    obtain ⟨rfl, ev_22_6⟩ := h_22_4
    have hz_v_22_6 : nI 7 = v_22_6 := by rw [ev_22_6]; exact (h.hO).2.1.symm
    subst hz_v_22_6
    refine k_iconst X (v := 1) dX11_stand_25 (by decide) ?_
    refine k_isub X dX11_stand_26 (fun v_26_8 ev_26_8 => ?_)
    refine k_gotI X (vX11_61 X (S := S) (c_X11_isFrom C.l C.e0 S x2 0 v_26_8 ) (As := [.int x2, .int 0, .int v_26_8]) (rest := []) rfl rfl rfl rfl ⟨Nat.le_of_ble_eq_true rfl, Nat.le_of_ble_eq_true rfl⟩ (Nat.le_of_ble_eq_true rfl) ⟨(by show _ ≤ 1; omega), (by show _ ≤ 73; omega)⟩ dX11_stand_27) (fun v_27_10 S_27_11 h_27_8 => ?_)
    obtain ⟨rfl, ev_27_10⟩ := h_27_8
    refine k_if_ne (tgt := 41) X dX11_stand_30 (by decide) (fun c_30 => ?_) (fun c_30 => ?_)
    · skip
      rw [ev_27_10] at c_30
      obtain ⟨k, hk1, hk2, hxk⟩ := kfrom (a := 0) (b := 6) rfl (kidx1 (by omega) ev_26_8 rfl) (by omega) c_30
      have hk : k < 7 := by omega
      subst hxk
      obtain ⟨ms9, xs9, hL9, hm9, hx9⟩ := h.cl (r := 25 + k) (by unfold clR; omega)
      obtain ⟨c9, hlc9⟩ := hL9.c
      refine k_aload_n X (q := 1) dX11_stand_41 rfl rfl ?_
      refine gX11_10s X (S := S) (st_0 h.st).1 (st_0 h.st).2 (sr_0_0 h.st) dX11_stand_42 ?_
      refine gX11_245s X (S := S) (st_1 h.st).1 (st_1 h.st).2 (sr_1_13 h.st) dX11_stand_45 ?_
      refine k_iload_n X (q := 3) dX11_stand_48 rfl rfl ?_
      refine k_gotQ X (vX11_202 X (S := S) ⟨(st_11 h.st).1, (st_11 h.st).2⟩ (c_Jx4a65c_get_915e3 C.l C.e0 S (A 11) 8 7 k (kof A) (h.hO) hk) (As := [.int (nI k)]) (rest := []) rfl rfl rfl rfl ⟨Nat.le_of_ble_eq_true rfl, Nat.le_of_ble_eq_true rfl⟩ (Nat.le_of_ble_eq_true rfl) ⟨(by show _ ≤ 1; omega), (by show _ ≤ 73; omega)⟩ dX11_stand_49) (fun r_49_13 S_49_14 h_49_11 => ?_)
      obtain ⟨rfl, er_49_13⟩ := h_49_11
      subst er_49_13
      refine tX11_248 X (S := S) ⟨(kLs.el (h.hO) hk).1, (kLs.el (h.hO) hk).2⟩ dX11_stand_52 ?_
      refine k_astore X [(4, .ref (kof A k)), (3, .ref (cz j)), (0, .ref (A 0)), (1, .int x1), (2, .int (nI k))] dX11_stand_55 (by decide) rfl ?_
      refine k_aload X (q := 0) dX11_stand_57 rfl ?_
      refine k_aload_n X (q := 1) dX11_stand_59 rfl rfl ?_
      refine k_aload_n X (q := 2) dX11_stand_60 rfl rfl ?_
      refine gX11_10s X (S := S) (st_0 h.st).1 (st_0 h.st).2 (sr_0_0 h.st) dX11_stand_61 ?_
      refine k_gotI X (vX11_250 X (S := S) ⟨(kLs.el (h.hO) hk).1, (kLs.el (h.hO) hk).2⟩ (c_X8_isFit C.l C.e0 S (cz j) A h.st k hk ⟨(h.at hj).1, (h.at hj).2⟩ h.hO) (As := [.ref (cz j), .ref (A 1)]) (rest := []) rfl rfl rfl rfl ⟨Nat.le_of_ble_eq_true rfl, Nat.le_of_ble_eq_true rfl⟩ (Nat.le_of_ble_eq_true rfl) ⟨(by show _ ≤ 1; omega), (by show _ ≤ 73; omega)⟩ dX11_stand_64) (fun v_64_16 S_64_17 h_64_14 => ?_)
      obtain ⟨rfl, hfit64⟩ := h_64_14
      refine k_if_eq (tgt := 79) X dX11_stand_67 (by decide) (fun c_67 => ?_) (fun c_67 => ?_)
      · skip
        exact kthrw_82 X E Y dX11_stand_79 dX11_stand_82 dX11_stand_83 dX11_stand_86 (Nat.le_of_ble_eq_true rfl) (Nat.le_of_ble_eq_true rfl) (by show _ ≤ 1; omega) (by show _ ≤ 73; omega) (Nat.le_refl _) (Nat.le_refl _) rfl
      · skip
        refine k_aload X (q := 0) dX11_stand_70 rfl ?_
        refine k_aload_n X (q := 1) dX11_stand_72 rfl rfl ?_
        refine k_gotI X (vX11_254 X (S := S) ⟨(kLs.el (h.hO) hk).1, (kLs.el (h.hO) hk).2⟩ (c_X8_isStanding C.l C.e0 S (kof A k) (cz j) (A (25 + k)) ms9 xs9 (st_sta h.st hk).2.2.2 (st_sta h.st hk).2.2.1 hL9 (by omega)) (As := [.ref (cz j)]) (rest := []) rfl rfl rfl rfl ⟨Nat.le_of_ble_eq_true rfl, Nat.le_of_ble_eq_true rfl⟩ (Nat.le_of_ble_eq_true rfl) ⟨(by show _ ≤ 1; omega), (by show _ ≤ 73; omega)⟩ dX11_stand_73) (fun v_73_19 S_73_20 h_73_17 => ?_)
        obtain ⟨rfl, ev_73_19⟩ := h_73_17
        refine k_if_eq (tgt := 87) X dX11_stand_76 (by decide) (fun c_76 => ?_) (fun c_76 => ?_)
        · skip
          refine k_aload X (q := 0) dX11_stand_87 rfl ?_
          refine gX11_257s X (S := S) (kLs.el (h.hO) hk).1 (kLs.el (h.hO) hk).2 ((st_sta h.st hk).2.2.1) dX11_stand_89 ?_
          refine k_gotI X (vX11_76 X (S := S) ⟨(st_sta h.st hk).1.1, (st_sta h.st hk).1.2⟩ (c_Jx4a65c_size_8abf5 C.l C.e0 S (A (25 + k)) (st_sta h.st hk).1) (As := []) (rest := []) rfl rfl rfl rfl ⟨Nat.le_of_ble_eq_true rfl, Nat.le_of_ble_eq_true rfl⟩ (Nat.le_of_ble_eq_true rfl) ⟨(by show _ ≤ 1; omega), (by show _ ≤ 73; omega)⟩ dX11_stand_92) (fun v_92_22 S_92_23 h_92_20 => ?_)
          obtain ⟨rfl, ev_92_22⟩ := h_92_20
          have hz_v_92_22 : nI ms9 = v_92_22 := by rw [ev_92_22]; exact (hL9).2.1.symm
          subst hz_v_92_22
          refine k_bipush X (v := 6) dX11_stand_95 (by decide) ?_
          refine k_icmp_ge (tgt := 108) X dX11_stand_97 (by decide) (fun c_97 => ?_) (fun c_97 => ?_)
          · skip
            exact kthrw_82 X E Y dX11_stand_108 dX11_stand_111 dX11_stand_112 dX11_stand_115 (Nat.le_of_ble_eq_true rfl) (Nat.le_of_ble_eq_true rfl) (by show _ ≤ 1; omega) (by show _ ≤ 73; omega) (Nat.le_refl _) (Nat.le_refl _) rfl
          · skip
            have hm6 : ms9 < 6 := lt_of_nle (m := 6) c_97 (by omega)
            refine k_aload X (q := 0) dX11_stand_100 rfl ?_
            refine gX11_260 X (S := S) (kLs.el (h.hO) hk).1 (kLs.el (h.hO) hk).2 dX11_stand_102 (fun r_102_24 er_102_24 => ?_)
            refine k_ifnull (tgt := 116) X dX11_stand_105 (by decide) (fun c_105 => ?_) (fun a_105_25 c_105 => ?_)
            · skip
              subst c_105
              refine k_aload X (q := 0) dX11_stand_116 rfl ?_
              refine gX11_257s X (S := S) (kLs.el (h.hO) hk).1 (kLs.el (h.hO) hk).2 ((st_sta h.st hk).2.2.1) dX11_stand_118 ?_
              refine k_aload_n X (q := 1) dX11_stand_121 rfl rfl ?_
              have hkm9 := kmc_le c9 ms9
              have hks9 := kms_le hlc9.cap (by omega)
              refine k_gotI X (vX11_198 X (S := S) ⟨(st_sta h.st hk).1.1, (st_sta h.st hk).1.2⟩ (c_Jx4a65c_add_9ea2d C.l C.e0 S (A (25 + k)) 1 ms9 c9 (cz j) xs9 kEl_1 hlc9 (h.at hj) (by omega)) (As := [.ref (cz j)]) (rest := []) rfl rfl rfl rfl ⟨Nat.le_of_ble_eq_true rfl, Nat.le_of_ble_eq_true rfl⟩ (Nat.le_of_ble_eq_true rfl) ⟨(by show _ ≤ 1; omega), (by show _ ≤ 73; omega)⟩ dX11_stand_122) (fun v_122_27 S_122_28 h_122_25 => ?_)
              obtain ⟨-, hfa, hla⟩ := h_122_25
              rw [(st_sta h.st hk).2.1] at hfa
              obtain ⟨hI_29, hx_29⟩ := h.frC (r := 25 + k) (by unfold clR; omega) hfa ⟨ms9 + 1, _, hla.s, by omega, va_up_in (Q := fun x => ∃ j, j < n ∧ x = cz j) hx9 ⟨j, hj, rfl⟩⟩ (by omega)
              have hK_29 := (kKe.rf).tr hx_29
              refine k_pop X dX11_stand_125 rfl ?_
              refine k_aload X (q := 0) dX11_stand_126 rfl ?_
              refine gX11_257s X (S := S_122_28) (kLs.el hI_29.hO hk).1 (kLs.el hI_29.hO hk).2 ((st_sta hI_29.st hk).2.2.1) dX11_stand_128 ?_
              refine k_gotI X (vX11_76 X (S := S_122_28) ⟨(st_sta hI_29.st hk).1.1, (st_sta hI_29.st hk).1.2⟩ (c_Jx4a65c_size_8abf5 C.l C.e0 S_122_28 (A (25 + k)) (st_sta hI_29.st hk).1) (As := []) (rest := []) rfl rfl rfl rfl ⟨Nat.le_of_ble_eq_true rfl, Nat.le_of_ble_eq_true rfl⟩ (Nat.le_of_ble_eq_true rfl) ⟨(by show _ ≤ 1; omega), (by show _ ≤ 73; omega)⟩ dX11_stand_131) (fun v_131_31 S_131_32 h_131_29 => ?_)
              obtain ⟨rfl, ev_131_31⟩ := h_131_29
              exact kx_iret X E dX11_stand_134 (by show _ ≤ 1; omega) (by show _ ≤ 73; omega) (⟨hI_29.mono (by omega) (by omega) (by omega), hK_29⟩)
            · skip
              subst c_105
              exact kthrw_82 X E Y dX11_stand_108 dX11_stand_111 dX11_stand_112 dX11_stand_115 (Nat.le_of_ble_eq_true rfl) (Nat.le_of_ble_eq_true rfl) (by show _ ≤ 1; omega) (by show _ ≤ 73; omega) (Nat.le_refl _) (Nat.le_refl _) rfl
        · skip
          exact kthrw_82 X E Y dX11_stand_79 dX11_stand_82 dX11_stand_83 dX11_stand_86 (Nat.le_of_ble_eq_true rfl) (Nat.le_of_ble_eq_true rfl) (by show _ ≤ 1; omega) (by show _ ≤ 73; omega) (Nat.le_refl _) (Nat.le_refl _) rfl
    · skip
      rw [ev_27_10] at c_30
      exact kthrw_95 X E Y dX11_stand_33 dX11_stand_36 dX11_stand_37 dX11_stand_40 (Nat.le_of_ble_eq_true rfl) (Nat.le_of_ble_eq_true rfl) (by show _ ≤ 1; omega) (by show _ ≤ 73; omega) (Nat.le_refl _) (Nat.le_refl _) rfl
