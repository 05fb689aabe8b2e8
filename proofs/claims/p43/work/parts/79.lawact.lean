/-! WHAT IS DONE IN A TURN -/
section KT9
variable {e0 : Nat × Nat} {A : Nat → Nat} {n : Nat} {cz : Nat → Nat} {i dd T' G' Z' d9 : Nat} {S S9 : kS}
/-- the city before turn i, on day dd -/
def kT9 (e0 : Nat × Nat) (A : Nat → Nat) (n : Nat) (cz : Nat → Nat) (i dd : Nat) (S : kS) : Prop := kI e0 A n cz (1932 * i + 230 * dd) (8 * i + 64 * dd) (300 * i + 240 * dd) S ∧ S.I (A 1) 0 = nI dd ∧ dd ≤ 400 ∧ kPr A S
def kPo9 (e0 : Nat × Nat) (A : Nat → Nat) (n : Nat) (cz : Nat → Nat) (i dd : Nat) (S S9 : kS) : Prop := ∃ d2, dd ≤ d2 ∧ kT9 e0 A n cz (i + 1) d2 S9 ∧ (S.I (A 7) 1).toInt ≤ (S9.I (A 7) 1).toInt
theorem kT9.e (h : kT9 e0 A n cz i dd S) (hI : kI e0 A n cz T' G' Z' S9) (hK : kKe A S S9) (h1 : T' ≤ 1932 * (i + 1) + 230 * dd) (h2 : G' ≤ 8 * (i + 1) + 64 * dd) (h3 : Z' ≤ 300 * (i + 1) + 240 * dd) : kPo9 e0 A n cz i dd S S9 :=
  ⟨dd, Nat.le_refl _, ⟨hI.mono h1 h2 h3, hK.2.1.trans h.2.1, h.2.2.1, h.2.2.2.ke h.1 hI hK⟩, hK.2.2.2.2⟩
theorem kT9.d (h : kT9 e0 A n cz i dd S) (hI : kI e0 A n cz T' G' Z' S9) (hK : kKd A S S9) (hp : kPr A S9) (h1 : T' ≤ 1932 * (i + 1) + 230 * dd) (h2 : G' ≤ 8 * (i + 1) + 64 * dd) (h3 : Z' ≤ 300 * (i + 1) + 240 * dd) : kPo9 e0 A n cz i dd S S9 :=
  ⟨dd, Nat.le_refl _, ⟨hI.mono h1 h2 h3, hK.2.1.trans h.2.1, h.2.2.1, hp⟩, hK.2.2⟩
theorem kT9.p (h : kT9 e0 A n cz i dd S) (hd : d9 ≤ 9) (hI : kI e0 A n cz T' G' Z' S9) (hday : S9.I (A 1) 0 = nI (dd + d9)) (hp : kPr A S9) (hr : (S.I (A 7) 1).toInt ≤ (S9.I (A 7) 1).toInt) (h1 : T' ≤ 1932 * (i + 1) + 230 * (dd + d9)) (h2 : G' ≤ 8 * (i + 1) + 64 * (dd + d9)) (h3 : Z' ≤ 300 * (i + 1) + 240 * (dd + d9)) : kPo9 e0 A n cz i dd S S9 := by
  obtain ⟨d3, h4, h5⟩ := hI.ms.2.2.1
  have h6 := h.2.2.1
  have h7 : dd + d9 = d3 := nI_inj (by omega) (by omega) (hday.symm.trans h5)
  exact ⟨dd + d9, by omega, ⟨hI.mono h1 h2 h3, hday, by omega, hp⟩, hr⟩
end KT9
set_option maxHeartbeats 1000000 in
set_option maxRecDepth 20000 in
theorem c_L_act (l : Launch) (e0 : Nat × Nat) (Zs : kXs9) (S : kS) (x : Int32) (w : Nat) (A : Nat → Nat) (n : Nat) (cz : Nat → Nat) (i dd : Nat) (h9 : kT9 e0 A n cz i dd S) (hi : i ≤ 70) (hfl : l.stackTraces = false) : kML l e0 Zs (Cond.codeWith yL_act cL_act 6 none kHH) yL_act ({ frames := 13, cells := 606, slots := 32202, locals := 331 } : Room) 606 32202 [.ref (A 0), .int x, .int (nI w)] S (kQv (fun S9 => kPo9 e0 A n cz i dd S S9)) := by
  refine kMetLW (hh := kHH) (by decide +kernel) (Nat.le_of_ble_eq_true rfl) (fun C he hl X E Y hT => ?_)
  have X : kX C RL cL_act 6 ({ frames := 13, cells := 606, slots := 32202, locals := 331 } : Room) := X
  subst he hl
  show kG C 6 S 0 0 0 [(0, .ref (A 0)), (1, .int x), (2, .int (nI w))] []
  have h := h9.1
  have hday := h9.2.1
  have hdd := h9.2.2.1
  have hn := h.n40
  have hn20 := h.who.1.1
  obtain ⟨L, hQ⟩ := h.ql
  refine k_iload_n X (q := 1) dL_act_0 rfl rfl ?_
  refine k_aload_n X (q := 0) dL_act_1 rfl rfl ?_
  refine k_iconst X (v := 5) dL_act_2 (by decide) ?_
  refine k_gotI X (vL_9 X (S := S) ⟨(st_0 h.st).1, (st_0 h.st).2⟩ (c_X11_city C.l C.e0 S  A n cz _ _ _ h L hQ 5 (by omega) (by omega)) (As := [.int (nI 5)]) (rest := [.int x]) rfl rfl rfl rfl ⟨Nat.le_of_ble_eq_true rfl, Nat.le_of_ble_eq_true rfl⟩ (Nat.le_of_ble_eq_true rfl) ⟨(by show _ ≤ 606; omega), (by show _ ≤ 32202; omega)⟩ dL_act_3) (fun v_3_2 S_3_3 h_3_0 => ?_)
  obtain ⟨hI_4, hx_4, hm_4⟩ := h_3_0
  have hK_4 := (kKe.rf).tr hx_4
  obtain ⟨hf_4, ev_3_2⟩ := hm_4
  have hQ_4 := hQ.fr h.st hf_4
  have hv3 : v_3_2 = nI n := ev_3_2
  subst hv3
  refine k_gotI X (vL_48 X (S := S_3_3) (c_L_below C.l C.e0 S_3_3 x n (by omega)) (As := [.int x, .int (nI n)]) (rest := []) rfl rfl rfl rfl ⟨Nat.le_of_ble_eq_true rfl, Nat.le_of_ble_eq_true rfl⟩ (Nat.le_of_ble_eq_true rfl) ⟨(by show _ ≤ 606; omega), (by show _ ≤ 32202; omega)⟩ dL_act_6) (fun v_6_6 S_6_7 h_6_4 => ?_)
  obtain ⟨rfl, b6, hb6, ev_6_6⟩ := h_6_4
  subst ev_6_6
  refine k_istore_n X [(3, .int (nI b6)), (0, .ref (A 0)), (1, .int x), (2, .int (nI w))] dL_act_9 rfl (by decide) rfl ?_
  refine k_iload_n X (q := 2) dL_act_10 rfl rfl ?_
  refine k_iconst X (v := 3) dL_act_11 (by decide) ?_
  refine k_ishr X dL_act_12 (fun v_12_8 ev_12_8 => ?_)
  refine k_aload_n X (q := 1) dL_act_13 rfl rfl ?_
  refine k_iconst X (v := 5) dL_act_14 (by decide) ?_
  refine k_gotI X (vL_9 X (S := S_3_3) ⟨(st_0 hI_4.st).1, (st_0 hI_4.st).2⟩ (c_X11_city C.l C.e0 S_3_3  A n cz _ _ _ hI_4 L hQ_4 5 (by omega) (by omega)) (As := [.int (nI 5)]) (rest := [.int v_12_8]) rfl rfl rfl rfl ⟨Nat.le_of_ble_eq_true rfl, Nat.le_of_ble_eq_true rfl⟩ (Nat.le_of_ble_eq_true rfl) ⟨(by show _ ≤ 606; omega), (by show _ ≤ 32202; omega)⟩ dL_act_15) (fun v_15_10 S_15_11 h_15_8 => ?_)
  obtain ⟨hI_12, hx_12, hm_12⟩ := h_15_8
  have hK_12 := (hK_4).tr hx_12
  obtain ⟨hg_12, ev_15_10⟩ := hm_12
  have hf_12 := hf_4.trR hg_12
  replace ev_15_10 := ev_15_10.trans (kQcity_v h hQ hf_4 _)
  have hQ_12 := hQ.fr h.st hf_12
  have hv15 : v_15_10 = nI n := ev_15_10
  subst hv15
  refine k_gotI X (vL_48 X (S := S_15_11) (c_L_below C.l C.e0 S_15_11 v_12_8 n (by omega)) (As := [.int v_12_8, .int (nI n)]) (rest := []) rfl rfl rfl rfl ⟨Nat.le_of_ble_eq_true rfl, Nat.le_of_ble_eq_true rfl⟩ (Nat.le_of_ble_eq_true rfl) ⟨(by show _ ≤ 606; omega), (by show _ ≤ 32202; omega)⟩ dL_act_18) (fun v_18_14 S_18_15 h_18_12 => ?_)
  obtain ⟨rfl, b18, hb18, ev_18_14⟩ := h_18_12
  subst ev_18_14
  refine k_istore X [(4, .int (nI b18)), (3, .int (nI b6)), (0, .ref (A 0)), (1, .int x), (2, .int (nI w))] dL_act_21 (by decide) rfl ?_
  refine k_iload_n X (q := 4) dL_act_23 rfl rfl ?_
  by_cases q_24_0 : (nI w) = 0
  · skip
    rw [q_24_0]
    refine k_tableIn (x := 0) (off := 88) (tgt := 112) X dL_act_24 (by decide) (by decide) rfl (by decide) ?_
    refine k_aload_n X (q := 2) dL_act_112 rfl rfl ?_
    refine k_xgotI X (k_runVX X Y.1 (S := S_15_11) (κ := 11) (n0 := 0) rfl (fun _ _ _ _ => rfl) (kGV qmL_68 qiX11_seat qeX11_seat qIX11 qcX11_seat) (by decide +kernel) (st_0 hI_12.st).1 (st_0 hI_12.st).2 (c_X11_seat C.l C.e0 S_15_11  A n cz _ _ _ hI_12  (by omega) hfl) (As := []) (rest := []) rfl rfl rfl rfl ⟨Nat.le_of_ble_eq_true rfl, Nat.le_of_ble_eq_true rfl⟩ (Nat.le_of_ble_eq_true rfl) ⟨(by show _ ≤ 606; omega), (by show _ ≤ 32202; omega)⟩ dL_act_113) (fun E9 S9 hE9 hx9 => ?_) (fun v_113_17 S_113_18 h_113_15 => ?_)
    · subst hx9
      refine k_act X Y.1 hT hE9 ⟨by omega, by omega⟩ (fun a9 h9 hh9 => ?_)
      rcases hh9 with rfl | rfl | rfl
      · skip
        refine k_astore X [(5, .ref a9), (4, .int (nI b18)), (3, .int (nI b6)), (0, .ref (A 0)), (1, .int x), (2, .int 0)] dL_act_384 (by decide) rfl ?_
        exact k_vret X E dL_act_386 (by show _ ≤ 606; omega) (by show _ ≤ 32202; omega) (h9.e hI_12 hK_12 (by omega) (by omega) (by omega))
      · skip
        refine k_astore X [(5, .ref a9), (4, .int (nI b18)), (3, .int (nI b6)), (0, .ref (A 0)), (1, .int x), (2, .int 0)] dL_act_387 (by decide) rfl ?_
        exact k_vret X E dL_act_389 (by show _ ≤ 606; omega) (by show _ ≤ 32202; omega) (h9.e hI_12 hK_12 (by omega) (by omega) (by omega))
      · skip
        refine k_astore X [(5, .ref a9), (4, .int (nI b18)), (3, .int (nI b6)), (0, .ref (A 0)), (1, .int x), (2, .int 0)] dL_act_390 (by decide) rfl ?_
        exact k_vret X E dL_act_392 (by show _ ≤ 606; omega) (by show _ ≤ 32202; omega) (h9.e hI_12 hK_12 (by omega) (by omega) (by omega))
    · skip
      obtain ⟨hI_19, hx_19, hm_19⟩ := h_113_15
      have hK_19 := (hK_12).d.tr hx_19
      refine k_pop X dL_act_116 rfl ?_
      refine k_goto (tgt := 381) X dL_act_117 (by decide) ?_
      refine k_goto (tgt := 393) X dL_act_381 (by decide) ?_
      exact k_vret X E dL_act_393 (by show _ ≤ 606; omega) (by show _ ≤ 32202; omega) (h9.d hI_19 hK_19 hm_19 (by omega) (by omega) (by omega))
  · skip
    by_cases q_24_1 : (nI w) = 1
    · skip
      rw [q_24_1]
      refine k_tableIn (x := 1) (off := 96) (tgt := 120) X dL_act_24 (by decide) (by decide) rfl (by decide) ?_
      refine k_aload_n X (q := 2) dL_act_120 rfl rfl ?_
      refine k_iload_n X (q := 1) dL_act_121 rfl rfl ?_
      refine k_iload_n X (q := 3) dL_act_122 rfl rfl ?_
      refine k_iconst X (v := 2) dL_act_123 (by decide) ?_
      refine k_ishr X dL_act_124 (fun v_124_20 ev_124_20 => ?_)
      refine k_bipush X (v := 6) dL_act_125 (by decide) ?_
      refine k_gotI X (vL_48 X (S := S_15_11) (c_L_below C.l C.e0 S_15_11 v_124_20 6 (by omega)) (As := [.int v_124_20, .int 6]) (rest := [.int (nI b6), .ref (A 0)]) rfl rfl rfl rfl ⟨Nat.le_of_ble_eq_true rfl, Nat.le_of_ble_eq_true rfl⟩ (Nat.le_of_ble_eq_true rfl) ⟨(by show _ ≤ 606; omega), (by show _ ≤ 32202; omega)⟩ dL_act_127) (fun v_127_22 S_127_23 h_127_20 => ?_)
      obtain ⟨rfl, b127, hb127, ev_127_22⟩ := h_127_20
      subst ev_127_22
      refine k_iload_n X (q := 3) dL_act_130 rfl rfl ?_
      refine k_iconst X (v := 4) dL_act_131 (by decide) ?_
      refine k_ishr X dL_act_132 (fun v_132_24 ev_132_24 => ?_)
      refine k_bipush X (v := 8) dL_act_133 (by decide) ?_
      refine k_gotI X (vL_48 X (S := S_15_11) (c_L_below C.l C.e0 S_15_11 v_132_24 8 (by omega)) (As := [.int v_132_24, .int 8]) (rest := [.int (nI b127), .int (nI b6), .ref (A 0)]) rfl rfl rfl rfl ⟨Nat.le_of_ble_eq_true rfl, Nat.le_of_ble_eq_true rfl⟩ (Nat.le_of_ble_eq_true rfl) ⟨(by show _ ≤ 606; omega), (by show _ ≤ 32202; omega)⟩ dL_act_135) (fun v_135_26 S_135_27 h_135_24 => ?_)
      obtain ⟨rfl, b135, hb135, ev_135_26⟩ := h_135_24
      subst ev_135_26
      refine k_iload_n X (q := 3) dL_act_138 rfl rfl ?_
      refine k_iconst X (v := 5) dL_act_139 (by decide) ?_
      refine k_ishr X dL_act_140 (fun v_140_28 ev_140_28 => ?_)
      refine k_bipush X (v := 16) dL_act_141 (by decide) ?_
      refine k_gotI X (vL_48 X (S := S_15_11) (c_L_below C.l C.e0 S_15_11 v_140_28 16 (by omega)) (As := [.int v_140_28, .int 16]) (rest := [.int (nI b135), .int (nI b127), .int (nI b6), .ref (A 0)]) rfl rfl rfl rfl ⟨Nat.le_of_ble_eq_true rfl, Nat.le_of_ble_eq_true rfl⟩ (Nat.le_of_ble_eq_true rfl) ⟨(by show _ ≤ 606; omega), (by show _ ≤ 32202; omega)⟩ dL_act_143) (fun v_143_30 S_143_31 h_143_28 => ?_)
      obtain ⟨rfl, b143, hb143, ev_143_30⟩ := h_143_28
      subst ev_143_30
      refine k_iload_n X (q := 3) dL_act_146 rfl rfl ?_
      refine k_iconst X (v := 3) dL_act_147 (by decide) ?_
      refine k_ishr X dL_act_148 (fun v_148_32 ev_148_32 => ?_)
      refine k_bipush X (v := 60) dL_act_149 (by decide) ?_
      refine k_gotI X (vL_48 X (S := S_15_11) (c_L_below C.l C.e0 S_15_11 v_148_32 60 (by omega)) (As := [.int v_148_32, .int 60]) (rest := [.int (nI b143), .int (nI b135), .int (nI b127), .int (nI b6), .ref (A 0)]) rfl rfl rfl rfl ⟨Nat.le_of_ble_eq_true rfl, Nat.le_of_ble_eq_true rfl⟩ (Nat.le_of_ble_eq_true rfl) ⟨(by show _ ≤ 606; omega), (by show _ ≤ 32202; omega)⟩ dL_act_151) (fun v_151_34 S_151_35 h_151_32 => ?_)
      obtain ⟨rfl, b151, hb151, ev_151_34⟩ := h_151_32
      subst ev_151_34
      refine k_xgotI X (k_runVX X Y.1 (S := S_15_11) (κ := 11) (n0 := 5) rfl (fun _ _ _ _ => rfl) (kGV qmL_72 qiX11_move qeX11_move qIX11 qcX11_move) (by decide +kernel) (st_0 hI_12.st).1 (st_0 hI_12.st).2 (c_X11_move C.l C.e0 S_15_11 (nI b6) (nI b127) (nI b135) (nI b143) (nI b151) A n cz _ _ _ hI_12  (by omega) hfl) (As := [.int (nI b6), .int (nI b127), .int (nI b135), .int (nI b143), .int (nI b151)]) (rest := []) rfl rfl rfl rfl ⟨Nat.le_of_ble_eq_true rfl, Nat.le_of_ble_eq_true rfl⟩ (Nat.le_of_ble_eq_true rfl) ⟨(by show _ ≤ 606; omega), (by show _ ≤ 32202; omega)⟩ dL_act_154) (fun E9 S9 hE9 hx9 => ?_) (fun v_154_37 S_154_38 h_154_35 => ?_)
      · subst hx9
        refine k_act X Y.1 hT hE9 ⟨by omega, by omega⟩ (fun a9 h9 hh9 => ?_)
        rcases hh9 with rfl | rfl | rfl
        · skip
          refine k_astore X [(5, .ref a9), (4, .int (nI b18)), (3, .int (nI b6)), (0, .ref (A 0)), (1, .int x), (2, .int 1)] dL_act_384 (by decide) rfl ?_
          exact k_vret X E dL_act_386 (by show _ ≤ 606; omega) (by show _ ≤ 32202; omega) (h9.e hI_12 hK_12 (by omega) (by omega) (by omega))
        · skip
          refine k_astore X [(5, .ref a9), (4, .int (nI b18)), (3, .int (nI b6)), (0, .ref (A 0)), (1, .int x), (2, .int 1)] dL_act_387 (by decide) rfl ?_
          exact k_vret X E dL_act_389 (by show _ ≤ 606; omega) (by show _ ≤ 32202; omega) (h9.e hI_12 hK_12 (by omega) (by omega) (by omega))
        · skip
          refine k_astore X [(5, .ref a9), (4, .int (nI b18)), (3, .int (nI b6)), (0, .ref (A 0)), (1, .int x), (2, .int 1)] dL_act_390 (by decide) rfl ?_
          exact k_vret X E dL_act_392 (by show _ ≤ 606; omega) (by show _ ≤ 32202; omega) (h9.e hI_12 hK_12 (by omega) (by omega) (by omega))
      · skip
        obtain ⟨hI_39, hx_39⟩ := h_154_35
        have hK_39 := (hK_12).tr hx_39
        refine k_pop X dL_act_157 rfl ?_
        refine k_goto (tgt := 381) X dL_act_158 (by decide) ?_
        refine k_goto (tgt := 393) X dL_act_381 (by decide) ?_
        exact k_vret X E dL_act_393 (by show _ ≤ 606; omega) (by show _ ≤ 32202; omega) (h9.e hI_39 hK_39 (by omega) (by omega) (by omega))
    · skip
      by_cases q_24_2 : (nI w) = 2
      · skip
        rw [q_24_2]
        refine k_tableIn (x := 2) (off := 96) (tgt := 120) X dL_act_24 (by decide) (by decide) rfl (by decide) ?_
        refine k_aload_n X (q := 2) dL_act_120 rfl rfl ?_
        refine k_iload_n X (q := 1) dL_act_121 rfl rfl ?_
        refine k_iload_n X (q := 3) dL_act_122 rfl rfl ?_
        refine k_iconst X (v := 2) dL_act_123 (by decide) ?_
        refine k_ishr X dL_act_124 (fun v_124_40 ev_124_40 => ?_)
        refine k_bipush X (v := 6) dL_act_125 (by decide) ?_
        refine k_gotI X (vL_48 X (S := S_15_11) (c_L_below C.l C.e0 S_15_11 v_124_40 6 (by omega)) (As := [.int v_124_40, .int 6]) (rest := [.int (nI b6), .ref (A 0)]) rfl rfl rfl rfl ⟨Nat.le_of_ble_eq_true rfl, Nat.le_of_ble_eq_true rfl⟩ (Nat.le_of_ble_eq_true rfl) ⟨(by show _ ≤ 606; omega), (by show _ ≤ 32202; omega)⟩ dL_act_127) (fun v_127_42 S_127_43 h_127_40 => ?_)
        obtain ⟨rfl, b127, hb127, ev_127_42⟩ := h_127_40
        subst ev_127_42
        refine k_iload_n X (q := 3) dL_act_130 rfl rfl ?_
        refine k_iconst X (v := 4) dL_act_131 (by decide) ?_
        refine k_ishr X dL_act_132 (fun v_132_44 ev_132_44 => ?_)
        refine k_bipush X (v := 8) dL_act_133 (by decide) ?_
        refine k_gotI X (vL_48 X (S := S_15_11) (c_L_below C.l C.e0 S_15_11 v_132_44 8 (by omega)) (As := [.int v_132_44, .int 8]) (rest := [.int (nI b127), .int (nI b6), .ref (A 0)]) rfl rfl rfl rfl ⟨Nat.le_of_ble_eq_true rfl, Nat.le_of_ble_eq_true rfl⟩ (Nat.le_of_ble_eq_true rfl) ⟨(by show _ ≤ 606; omega), (by show _ ≤ 32202; omega)⟩ dL_act_135) (fun v_135_46 S_135_47 h_135_44 => ?_)
        obtain ⟨rfl, b135, hb135, ev_135_46⟩ := h_135_44
        subst ev_135_46
        refine k_iload_n X (q := 3) dL_act_138 rfl rfl ?_
        refine k_iconst X (v := 5) dL_act_139 (by decide) ?_
        refine k_ishr X dL_act_140 (fun v_140_48 ev_140_48 => ?_)
        refine k_bipush X (v := 16) dL_act_141 (by decide) ?_
        refine k_gotI X (vL_48 X (S := S_15_11) (c_L_below C.l C.e0 S_15_11 v_140_48 16 (by omega)) (As := [.int v_140_48, .int 16]) (rest := [.int (nI b135), .int (nI b127), .int (nI b6), .ref (A 0)]) rfl rfl rfl rfl ⟨Nat.le_of_ble_eq_true rfl, Nat.le_of_ble_eq_true rfl⟩ (Nat.le_of_ble_eq_true rfl) ⟨(by show _ ≤ 606; omega), (by show _ ≤ 32202; omega)⟩ dL_act_143) (fun v_143_50 S_143_51 h_143_48 => ?_)
        obtain ⟨rfl, b143, hb143, ev_143_50⟩ := h_143_48
        subst ev_143_50
        refine k_iload_n X (q := 3) dL_act_146 rfl rfl ?_
        refine k_iconst X (v := 3) dL_act_147 (by decide) ?_
        refine k_ishr X dL_act_148 (fun v_148_52 ev_148_52 => ?_)
        refine k_bipush X (v := 60) dL_act_149 (by decide) ?_
        refine k_gotI X (vL_48 X (S := S_15_11) (c_L_below C.l C.e0 S_15_11 v_148_52 60 (by omega)) (As := [.int v_148_52, .int 60]) (rest := [.int (nI b143), .int (nI b135), .int (nI b127), .int (nI b6), .ref (A 0)]) rfl rfl rfl rfl ⟨Nat.le_of_ble_eq_true rfl, Nat.le_of_ble_eq_true rfl⟩ (Nat.le_of_ble_eq_true rfl) ⟨(by show _ ≤ 606; omega), (by show _ ≤ 32202; omega)⟩ dL_act_151) (fun v_151_54 S_151_55 h_151_52 => ?_)
        obtain ⟨rfl, b151, hb151, ev_151_54⟩ := h_151_52
        subst ev_151_54
        refine k_xgotI X (k_runVX X Y.1 (S := S_15_11) (κ := 11) (n0 := 5) rfl (fun _ _ _ _ => rfl) (kGV qmL_72 qiX11_move qeX11_move qIX11 qcX11_move) (by decide +kernel) (st_0 hI_12.st).1 (st_0 hI_12.st).2 (c_X11_move C.l C.e0 S_15_11 (nI b6) (nI b127) (nI b135) (nI b143) (nI b151) A n cz _ _ _ hI_12  (by omega) hfl) (As := [.int (nI b6), .int (nI b127), .int (nI b135), .int (nI b143), .int (nI b151)]) (rest := []) rfl rfl rfl rfl ⟨Nat.le_of_ble_eq_true rfl, Nat.le_of_ble_eq_true rfl⟩ (Nat.le_of_ble_eq_true rfl) ⟨(by show _ ≤ 606; omega), (by show _ ≤ 32202; omega)⟩ dL_act_154) (fun E9 S9 hE9 hx9 => ?_) (fun v_154_57 S_154_58 h_154_55 => ?_)
        · subst hx9
          refine k_act X Y.1 hT hE9 ⟨by omega, by omega⟩ (fun a9 h9 hh9 => ?_)
          rcases hh9 with rfl | rfl | rfl
          · skip
            refine k_astore X [(5, .ref a9), (4, .int (nI b18)), (3, .int (nI b6)), (0, .ref (A 0)), (1, .int x), (2, .int 2)] dL_act_384 (by decide) rfl ?_
            exact k_vret X E dL_act_386 (by show _ ≤ 606; omega) (by show _ ≤ 32202; omega) (h9.e hI_12 hK_12 (by omega) (by omega) (by omega))
          · skip
            refine k_astore X [(5, .ref a9), (4, .int (nI b18)), (3, .int (nI b6)), (0, .ref (A 0)), (1, .int x), (2, .int 2)] dL_act_387 (by decide) rfl ?_
            exact k_vret X E dL_act_389 (by show _ ≤ 606; omega) (by show _ ≤ 32202; omega) (h9.e hI_12 hK_12 (by omega) (by omega) (by omega))
          · skip
            refine k_astore X [(5, .ref a9), (4, .int (nI b18)), (3, .int (nI b6)), (0, .ref (A 0)), (1, .int x), (2, .int 2)] dL_act_390 (by decide) rfl ?_
            exact k_vret X E dL_act_392 (by show _ ≤ 606; omega) (by show _ ≤ 32202; omega) (h9.e hI_12 hK_12 (by omega) (by omega) (by omega))
        · skip
          obtain ⟨hI_59, hx_59⟩ := h_154_55
          have hK_59 := (hK_12).tr hx_59
          refine k_pop X dL_act_157 rfl ?_
          refine k_goto (tgt := 381) X dL_act_158 (by decide) ?_
          refine k_goto (tgt := 393) X dL_act_381 (by decide) ?_
          exact k_vret X E dL_act_393 (by show _ ≤ 606; omega) (by show _ ≤ 32202; omega) (h9.e hI_59 hK_59 (by omega) (by omega) (by omega))
      · skip
        by_cases q_24_3 : (nI w) = 3
        · skip
          rw [q_24_3]
          refine k_tableIn (x := 3) (off := 96) (tgt := 120) X dL_act_24 (by decide) (by decide) rfl (by decide) ?_
          refine k_aload_n X (q := 2) dL_act_120 rfl rfl ?_
          refine k_iload_n X (q := 1) dL_act_121 rfl rfl ?_
          refine k_iload_n X (q := 3) dL_act_122 rfl rfl ?_
          refine k_iconst X (v := 2) dL_act_123 (by decide) ?_
          refine k_ishr X dL_act_124 (fun v_124_60 ev_124_60 => ?_)
          refine k_bipush X (v := 6) dL_act_125 (by decide) ?_
          refine k_gotI X (vL_48 X (S := S_15_11) (c_L_below C.l C.e0 S_15_11 v_124_60 6 (by omega)) (As := [.int v_124_60, .int 6]) (rest := [.int (nI b6), .ref (A 0)]) rfl rfl rfl rfl ⟨Nat.le_of_ble_eq_true rfl, Nat.le_of_ble_eq_true rfl⟩ (Nat.le_of_ble_eq_true rfl) ⟨(by show _ ≤ 606; omega), (by show _ ≤ 32202; omega)⟩ dL_act_127) (fun v_127_62 S_127_63 h_127_60 => ?_)
          obtain ⟨rfl, b127, hb127, ev_127_62⟩ := h_127_60
          subst ev_127_62
          refine k_iload_n X (q := 3) dL_act_130 rfl rfl ?_
          refine k_iconst X (v := 4) dL_act_131 (by decide) ?_
          refine k_ishr X dL_act_132 (fun v_132_64 ev_132_64 => ?_)
          refine k_bipush X (v := 8) dL_act_133 (by decide) ?_
          refine k_gotI X (vL_48 X (S := S_15_11) (c_L_below C.l C.e0 S_15_11 v_132_64 8 (by omega)) (As := [.int v_132_64, .int 8]) (rest := [.int (nI b127), .int (nI b6), .ref (A 0)]) rfl rfl rfl rfl ⟨Nat.le_of_ble_eq_true rfl, Nat.le_of_ble_eq_true rfl⟩ (Nat.le_of_ble_eq_true rfl) ⟨(by show _ ≤ 606; omega), (by show _ ≤ 32202; omega)⟩ dL_act_135) (fun v_135_66 S_135_67 h_135_64 => ?_)
          obtain ⟨rfl, b135, hb135, ev_135_66⟩ := h_135_64
          subst ev_135_66
          refine k_iload_n X (q := 3) dL_act_138 rfl rfl ?_
          refine k_iconst X (v := 5) dL_act_139 (by decide) ?_
          refine k_ishr X dL_act_140 (fun v_140_68 ev_140_68 => ?_)
          refine k_bipush X (v := 16) dL_act_141 (by decide) ?_
          refine k_gotI X (vL_48 X (S := S_15_11) (c_L_below C.l C.e0 S_15_11 v_140_68 16 (by omega)) (As := [.int v_140_68, .int 16]) (rest := [.int (nI b135), .int (nI b127), .int (nI b6), .ref (A 0)]) rfl rfl rfl rfl ⟨Nat.le_of_ble_eq_true rfl, Nat.le_of_ble_eq_true rfl⟩ (Nat.le_of_ble_eq_true rfl) ⟨(by show _ ≤ 606; omega), (by show _ ≤ 32202; omega)⟩ dL_act_143) (fun v_143_70 S_143_71 h_143_68 => ?_)
          obtain ⟨rfl, b143, hb143, ev_143_70⟩ := h_143_68
          subst ev_143_70
          refine k_iload_n X (q := 3) dL_act_146 rfl rfl ?_
          refine k_iconst X (v := 3) dL_act_147 (by decide) ?_
          refine k_ishr X dL_act_148 (fun v_148_72 ev_148_72 => ?_)
          refine k_bipush X (v := 60) dL_act_149 (by decide) ?_
          refine k_gotI X (vL_48 X (S := S_15_11) (c_L_below C.l C.e0 S_15_11 v_148_72 60 (by omega)) (As := [.int v_148_72, .int 60]) (rest := [.int (nI b143), .int (nI b135), .int (nI b127), .int (nI b6), .ref (A 0)]) rfl rfl rfl rfl ⟨Nat.le_of_ble_eq_true rfl, Nat.le_of_ble_eq_true rfl⟩ (Nat.le_of_ble_eq_true rfl) ⟨(by show _ ≤ 606; omega), (by show _ ≤ 32202; omega)⟩ dL_act_151) (fun v_151_74 S_151_75 h_151_72 => ?_)
          obtain ⟨rfl, b151, hb151, ev_151_74⟩ := h_151_72
          subst ev_151_74
          refine k_xgotI X (k_runVX X Y.1 (S := S_15_11) (κ := 11) (n0 := 5) rfl (fun _ _ _ _ => rfl) (kGV qmL_72 qiX11_move qeX11_move qIX11 qcX11_move) (by decide +kernel) (st_0 hI_12.st).1 (st_0 hI_12.st).2 (c_X11_move C.l C.e0 S_15_11 (nI b6) (nI b127) (nI b135) (nI b143) (nI b151) A n cz _ _ _ hI_12  (by omega) hfl) (As := [.int (nI b6), .int (nI b127), .int (nI b135), .int (nI b143), .int (nI b151)]) (rest := []) rfl rfl rfl rfl ⟨Nat.le_of_ble_eq_true rfl, Nat.le_of_ble_eq_true rfl⟩ (Nat.le_of_ble_eq_true rfl) ⟨(by show _ ≤ 606; omega), (by show _ ≤ 32202; omega)⟩ dL_act_154) (fun E9 S9 hE9 hx9 => ?_) (fun v_154_77 S_154_78 h_154_75 => ?_)
          · subst hx9
            refine k_act X Y.1 hT hE9 ⟨by omega, by omega⟩ (fun a9 h9 hh9 => ?_)
            rcases hh9 with rfl | rfl | rfl
            · skip
              refine k_astore X [(5, .ref a9), (4, .int (nI b18)), (3, .int (nI b6)), (0, .ref (A 0)), (1, .int x), (2, .int 3)] dL_act_384 (by decide) rfl ?_
              exact k_vret X E dL_act_386 (by show _ ≤ 606; omega) (by show _ ≤ 32202; omega) (h9.e hI_12 hK_12 (by omega) (by omega) (by omega))
            · skip
              refine k_astore X [(5, .ref a9), (4, .int (nI b18)), (3, .int (nI b6)), (0, .ref (A 0)), (1, .int x), (2, .int 3)] dL_act_387 (by decide) rfl ?_
              exact k_vret X E dL_act_389 (by show _ ≤ 606; omega) (by show _ ≤ 32202; omega) (h9.e hI_12 hK_12 (by omega) (by omega) (by omega))
            · skip
              refine k_astore X [(5, .ref a9), (4, .int (nI b18)), (3, .int (nI b6)), (0, .ref (A 0)), (1, .int x), (2, .int 3)] dL_act_390 (by decide) rfl ?_
              exact k_vret X E dL_act_392 (by show _ ≤ 606; omega) (by show _ ≤ 32202; omega) (h9.e hI_12 hK_12 (by omega) (by omega) (by omega))
          · skip
            obtain ⟨hI_79, hx_79⟩ := h_154_75
            have hK_79 := (hK_12).tr hx_79
            refine k_pop X dL_act_157 rfl ?_
            refine k_goto (tgt := 381) X dL_act_158 (by decide) ?_
            refine k_goto (tgt := 393) X dL_act_381 (by decide) ?_
            exact k_vret X E dL_act_393 (by show _ ≤ 606; omega) (by show _ ≤ 32202; omega) (h9.e hI_79 hK_79 (by omega) (by omega) (by omega))
        · skip
          by_cases q_24_4 : (nI w) = 4
          · skip
            rw [q_24_4]
            refine k_tableIn (x := 4) (off := 137) (tgt := 161) X dL_act_24 (by decide) (by decide) rfl (by decide) ?_
            refine k_aload_n X (q := 2) dL_act_161 rfl rfl ?_
            refine k_xgotI X (k_runVX X Y.1 (S := S_15_11) (κ := 11) (n0 := 0) rfl (fun _ _ _ _ => rfl) (kGV qmL_76 qiX11_assembly qeX11_assembly qIX11 qcX11_assembly) (by decide +kernel) (st_0 hI_12.st).1 (st_0 hI_12.st).2 (c_X11_assembly C.l C.e0 S_15_11  A n cz _ _ _ hI_12  (by omega) hfl) (As := []) (rest := []) rfl rfl rfl rfl ⟨Nat.le_of_ble_eq_true rfl, Nat.le_of_ble_eq_true rfl⟩ (Nat.le_of_ble_eq_true rfl) ⟨(by show _ ≤ 606; omega), (by show _ ≤ 32202; omega)⟩ dL_act_162) (fun E9 S9 hE9 hx9 => ?_) (fun v_162_81 S_162_82 h_162_79 => ?_)
            · subst hx9
              refine k_act X Y.1 hT hE9 ⟨by omega, by omega⟩ (fun a9 h9 hh9 => ?_)
              rcases hh9 with rfl | rfl | rfl
              · skip
                refine k_astore X [(5, .ref a9), (4, .int (nI b18)), (3, .int (nI b6)), (0, .ref (A 0)), (1, .int x), (2, .int 4)] dL_act_384 (by decide) rfl ?_
                exact k_vret X E dL_act_386 (by show _ ≤ 606; omega) (by show _ ≤ 32202; omega) (h9.e hI_12 hK_12 (by omega) (by omega) (by omega))
              · skip
                refine k_astore X [(5, .ref a9), (4, .int (nI b18)), (3, .int (nI b6)), (0, .ref (A 0)), (1, .int x), (2, .int 4)] dL_act_387 (by decide) rfl ?_
                exact k_vret X E dL_act_389 (by show _ ≤ 606; omega) (by show _ ≤ 32202; omega) (h9.e hI_12 hK_12 (by omega) (by omega) (by omega))
              · skip
                refine k_astore X [(5, .ref a9), (4, .int (nI b18)), (3, .int (nI b6)), (0, .ref (A 0)), (1, .int x), (2, .int 4)] dL_act_390 (by decide) rfl ?_
                exact k_vret X E dL_act_392 (by show _ ≤ 606; omega) (by show _ ≤ 32202; omega) (h9.e hI_12 hK_12 (by omega) (by omega) (by omega))
            · skip
              obtain ⟨hI_83, hx_83⟩ := h_162_79
              have hK_83 := (hK_12).tr hx_83
              refine k_pop X dL_act_165 rfl ?_
              refine k_goto (tgt := 381) X dL_act_166 (by decide) ?_
              refine k_goto (tgt := 393) X dL_act_381 (by decide) ?_
              exact k_vret X E dL_act_393 (by show _ ≤ 606; omega) (by show _ ≤ 32202; omega) (h9.e hI_83 hK_83 (by omega) (by omega) (by omega))
          · skip
            by_cases q_24_5 : (nI w) = 5
            · skip
              rw [q_24_5]
              refine k_tableIn (x := 5) (off := 137) (tgt := 161) X dL_act_24 (by decide) (by decide) rfl (by decide) ?_
              refine k_aload_n X (q := 2) dL_act_161 rfl rfl ?_
              refine k_xgotI X (k_runVX X Y.1 (S := S_15_11) (κ := 11) (n0 := 0) rfl (fun _ _ _ _ => rfl) (kGV qmL_76 qiX11_assembly qeX11_assembly qIX11 qcX11_assembly) (by decide +kernel) (st_0 hI_12.st).1 (st_0 hI_12.st).2 (c_X11_assembly C.l C.e0 S_15_11  A n cz _ _ _ hI_12  (by omega) hfl) (As := []) (rest := []) rfl rfl rfl rfl ⟨Nat.le_of_ble_eq_true rfl, Nat.le_of_ble_eq_true rfl⟩ (Nat.le_of_ble_eq_true rfl) ⟨(by show _ ≤ 606; omega), (by show _ ≤ 32202; omega)⟩ dL_act_162) (fun E9 S9 hE9 hx9 => ?_) (fun v_162_85 S_162_86 h_162_83 => ?_)
              · subst hx9
                refine k_act X Y.1 hT hE9 ⟨by omega, by omega⟩ (fun a9 h9 hh9 => ?_)
                rcases hh9 with rfl | rfl | rfl
                · skip
                  refine k_astore X [(5, .ref a9), (4, .int (nI b18)), (3, .int (nI b6)), (0, .ref (A 0)), (1, .int x), (2, .int 5)] dL_act_384 (by decide) rfl ?_
                  exact k_vret X E dL_act_386 (by show _ ≤ 606; omega) (by show _ ≤ 32202; omega) (h9.e hI_12 hK_12 (by omega) (by omega) (by omega))
                · skip
                  refine k_astore X [(5, .ref a9), (4, .int (nI b18)), (3, .int (nI b6)), (0, .ref (A 0)), (1, .int x), (2, .int 5)] dL_act_387 (by decide) rfl ?_
                  exact k_vret X E dL_act_389 (by show _ ≤ 606; omega) (by show _ ≤ 32202; omega) (h9.e hI_12 hK_12 (by omega) (by omega) (by omega))
                · skip
                  refine k_astore X [(5, .ref a9), (4, .int (nI b18)), (3, .int (nI b6)), (0, .ref (A 0)), (1, .int x), (2, .int 5)] dL_act_390 (by decide) rfl ?_
                  exact k_vret X E dL_act_392 (by show _ ≤ 606; omega) (by show _ ≤ 32202; omega) (h9.e hI_12 hK_12 (by omega) (by omega) (by omega))
              · skip
                obtain ⟨hI_87, hx_87⟩ := h_162_83
                have hK_87 := (hK_12).tr hx_87
                refine k_pop X dL_act_165 rfl ?_
                refine k_goto (tgt := 381) X dL_act_166 (by decide) ?_
                refine k_goto (tgt := 393) X dL_act_381 (by decide) ?_
                exact k_vret X E dL_act_393 (by show _ ≤ 606; omega) (by show _ ≤ 32202; omega) (h9.e hI_87 hK_87 (by omega) (by omega) (by omega))
            · skip
              by_cases q_24_6 : (nI w) = 6
              · skip
                rw [q_24_6]
                refine k_tableIn (x := 6) (off := 145) (tgt := 169) X dL_act_24 (by decide) (by decide) rfl (by decide) ?_
                refine k_aload_n X (q := 2) dL_act_169 rfl rfl ?_
                refine k_iload_n X (q := 1) dL_act_170 rfl rfl ?_
                refine k_iload_n X (q := 3) dL_act_171 rfl rfl ?_
                refine k_iconst X (v := 4) dL_act_172 (by decide) ?_
                refine k_ishr X dL_act_173 (fun v_173_88 ev_173_88 => ?_)
                refine k_bipush X (v := 7) dL_act_174 (by decide) ?_
                refine k_gotI X (vL_48 X (S := S_15_11) (c_L_below C.l C.e0 S_15_11 v_173_88 7 (by omega)) (As := [.int v_173_88, .int 7]) (rest := [.int (nI b6), .ref (A 0)]) rfl rfl rfl rfl ⟨Nat.le_of_ble_eq_true rfl, Nat.le_of_ble_eq_true rfl⟩ (Nat.le_of_ble_eq_true rfl) ⟨(by show _ ≤ 606; omega), (by show _ ≤ 32202; omega)⟩ dL_act_176) (fun v_176_90 S_176_91 h_176_88 => ?_)
                obtain ⟨rfl, b176, hb176, ev_176_90⟩ := h_176_88
                subst ev_176_90
                refine k_xgotI X (k_runVX X Y.1 (S := S_15_11) (κ := 11) (n0 := 2) rfl (fun _ _ _ _ => rfl) (kGV qmL_79 qiX11_stand qeX11_stand qIX11 qcX11_stand) (by decide +kernel) (st_0 hI_12.st).1 (st_0 hI_12.st).2 (c_X11_stand C.l C.e0 S_15_11 (nI b6) (nI b176) A n cz _ _ _ hI_12  (by omega) hfl) (As := [.int (nI b6), .int (nI b176)]) (rest := []) rfl rfl rfl rfl ⟨Nat.le_of_ble_eq_true rfl, Nat.le_of_ble_eq_true rfl⟩ (Nat.le_of_ble_eq_true rfl) ⟨(by show _ ≤ 606; omega), (by show _ ≤ 32202; omega)⟩ dL_act_179) (fun E9 S9 hE9 hx9 => ?_) (fun v_179_93 S_179_94 h_179_91 => ?_)
                · subst hx9
                  refine k_act X Y.1 hT hE9 ⟨by omega, by omega⟩ (fun a9 h9 hh9 => ?_)
                  rcases hh9 with rfl | rfl | rfl
                  · skip
                    refine k_astore X [(5, .ref a9), (4, .int (nI b18)), (3, .int (nI b6)), (0, .ref (A 0)), (1, .int x), (2, .int 6)] dL_act_384 (by decide) rfl ?_
                    exact k_vret X E dL_act_386 (by show _ ≤ 606; omega) (by show _ ≤ 32202; omega) (h9.e hI_12 hK_12 (by omega) (by omega) (by omega))
                  · skip
                    refine k_astore X [(5, .ref a9), (4, .int (nI b18)), (3, .int (nI b6)), (0, .ref (A 0)), (1, .int x), (2, .int 6)] dL_act_387 (by decide) rfl ?_
                    exact k_vret X E dL_act_389 (by show _ ≤ 606; omega) (by show _ ≤ 32202; omega) (h9.e hI_12 hK_12 (by omega) (by omega) (by omega))
                  · skip
                    refine k_astore X [(5, .ref a9), (4, .int (nI b18)), (3, .int (nI b6)), (0, .ref (A 0)), (1, .int x), (2, .int 6)] dL_act_390 (by decide) rfl ?_
                    exact k_vret X E dL_act_392 (by show _ ≤ 606; omega) (by show _ ≤ 32202; omega) (h9.e hI_12 hK_12 (by omega) (by omega) (by omega))
                · skip
                  obtain ⟨hI_95, hx_95⟩ := h_179_91
                  have hK_95 := (hK_12).tr hx_95
                  refine k_pop X dL_act_182 rfl ?_
                  refine k_goto (tgt := 381) X dL_act_183 (by decide) ?_
                  refine k_goto (tgt := 393) X dL_act_381 (by decide) ?_
                  exact k_vret X E dL_act_393 (by show _ ≤ 606; omega) (by show _ ≤ 32202; omega) (h9.e hI_95 hK_95 (by omega) (by omega) (by omega))
              · skip
                by_cases q_24_7 : (nI w) = 7
                · skip
                  rw [q_24_7]
                  refine k_tableIn (x := 7) (off := 162) (tgt := 186) X dL_act_24 (by decide) (by decide) rfl (by decide) ?_
                  refine k_aload_n X (q := 2) dL_act_186 rfl rfl ?_
                  refine k_iload_n X (q := 3) dL_act_187 rfl rfl ?_
                  refine k_iconst X (v := 2) dL_act_188 (by decide) ?_
                  refine k_ishr X dL_act_189 (fun v_189_96 ev_189_96 => ?_)
                  refine k_bipush X (v := 7) dL_act_190 (by decide) ?_
                  refine k_gotI X (vL_48 X (S := S_15_11) (c_L_below C.l C.e0 S_15_11 v_189_96 7 (by omega)) (As := [.int v_189_96, .int 7]) (rest := [.ref (A 0)]) rfl rfl rfl rfl ⟨Nat.le_of_ble_eq_true rfl, Nat.le_of_ble_eq_true rfl⟩ (Nat.le_of_ble_eq_true rfl) ⟨(by show _ ≤ 606; omega), (by show _ ≤ 32202; omega)⟩ dL_act_192) (fun v_192_98 S_192_99 h_192_96 => ?_)
                  obtain ⟨rfl, b192, hb192, ev_192_98⟩ := h_192_96
                  subst ev_192_98
                  refine k_xgotI X (k_runVX X Y.1 (S := S_15_11) (κ := 11) (n0 := 1) rfl (fun _ _ _ _ => rfl) (kGV qmL_82 qiX11_fill qeX11_fill qIX11 qcX11_fill) (by decide +kernel) (st_0 hI_12.st).1 (st_0 hI_12.st).2 (c_X11_fill C.l C.e0 S_15_11 (nI b192) A n cz _ _ _ hI_12  (by omega) hfl) (As := [.int (nI b192)]) (rest := []) rfl rfl rfl rfl ⟨Nat.le_of_ble_eq_true rfl, Nat.le_of_ble_eq_true rfl⟩ (Nat.le_of_ble_eq_true rfl) ⟨(by show _ ≤ 606; omega), (by show _ ≤ 32202; omega)⟩ dL_act_195) (fun E9 S9 hE9 hx9 => ?_) (fun v_195_101 S_195_102 h_195_99 => ?_)
                  · subst hx9
                    refine k_act X Y.1 hT hE9 ⟨by omega, by omega⟩ (fun a9 h9 hh9 => ?_)
                    rcases hh9 with rfl | rfl | rfl
                    · skip
                      refine k_astore X [(5, .ref a9), (4, .int (nI b18)), (3, .int (nI b6)), (0, .ref (A 0)), (1, .int x), (2, .int 7)] dL_act_384 (by decide) rfl ?_
                      exact k_vret X E dL_act_386 (by show _ ≤ 606; omega) (by show _ ≤ 32202; omega) (h9.e hI_12 hK_12 (by omega) (by omega) (by omega))
                    · skip
                      refine k_astore X [(5, .ref a9), (4, .int (nI b18)), (3, .int (nI b6)), (0, .ref (A 0)), (1, .int x), (2, .int 7)] dL_act_387 (by decide) rfl ?_
                      exact k_vret X E dL_act_389 (by show _ ≤ 606; omega) (by show _ ≤ 32202; omega) (h9.e hI_12 hK_12 (by omega) (by omega) (by omega))
                    · skip
                      refine k_astore X [(5, .ref a9), (4, .int (nI b18)), (3, .int (nI b6)), (0, .ref (A 0)), (1, .int x), (2, .int 7)] dL_act_390 (by decide) rfl ?_
                      exact k_vret X E dL_act_392 (by show _ ≤ 606; omega) (by show _ ≤ 32202; omega) (h9.e hI_12 hK_12 (by omega) (by omega) (by omega))
                  · skip
                    obtain ⟨hI_103, hx_103⟩ := h_195_99
                    have hK_103 := (hK_12).tr hx_103
                    refine k_pop X dL_act_198 rfl ?_
                    refine k_goto (tgt := 381) X dL_act_199 (by decide) ?_
                    refine k_goto (tgt := 393) X dL_act_381 (by decide) ?_
                    exact k_vret X E dL_act_393 (by show _ ≤ 606; omega) (by show _ ≤ 32202; omega) (h9.e hI_103 hK_103 (by omega) (by omega) (by omega))
                · skip
                  by_cases q_24_8 : (nI w) = 8
                  · skip
                    rw [q_24_8]
                    refine k_tableIn (x := 8) (off := 178) (tgt := 202) X dL_act_24 (by decide) (by decide) rfl (by decide) ?_
                    refine k_aload_n X (q := 2) dL_act_202 rfl rfl ?_
                    refine k_iload_n X (q := 1) dL_act_203 rfl rfl ?_
                    refine k_iload X (q := 0) dL_act_204 rfl ?_
                    refine k_iload_n X (q := 3) dL_act_206 rfl rfl ?_
                    refine k_iconst X (v := 5) dL_act_207 (by decide) ?_
                    refine k_ishr X dL_act_208 (fun v_208_104 ev_208_104 => ?_)
                    refine k_iconst X (v := 2) dL_act_209 (by decide) ?_
                    refine k_gotI X (vL_48 X (S := S_15_11) (c_L_below C.l C.e0 S_15_11 v_208_104 2 (by omega)) (As := [.int v_208_104, .int 2]) (rest := [.int (nI b18), .int (nI b6), .ref (A 0)]) rfl rfl rfl rfl ⟨Nat.le_of_ble_eq_true rfl, Nat.le_of_ble_eq_true rfl⟩ (Nat.le_of_ble_eq_true rfl) ⟨(by show _ ≤ 606; omega), (by show _ ≤ 32202; omega)⟩ dL_act_210) (fun v_210_106 S_210_107 h_210_104 => ?_)
                    obtain ⟨rfl, b210, hb210, ev_210_106⟩ := h_210_104
                    subst ev_210_106
                    refine k_iconst X (v := 1) dL_act_213 (by decide) ?_
                    refine k_iload_n X (q := 3) dL_act_214 rfl rfl ?_
                    refine k_iconst X (v := 4) dL_act_215 (by decide) ?_
                    refine k_ishr X dL_act_216 (fun v_216_108 ev_216_108 => ?_)
                    refine k_bipush X (v := 100) dL_act_217 (by decide) ?_
                    refine k_gotI X (vL_48 X (S := S_15_11) (c_L_below C.l C.e0 S_15_11 v_216_108 100 (by omega)) (As := [.int v_216_108, .int 100]) (rest := [.int 1, .int (nI b210), .int (nI b18), .int (nI b6), .ref (A 0)]) rfl rfl rfl rfl ⟨Nat.le_of_ble_eq_true rfl, Nat.le_of_ble_eq_true rfl⟩ (Nat.le_of_ble_eq_true rfl) ⟨(by show _ ≤ 606; omega), (by show _ ≤ 32202; omega)⟩ dL_act_219) (fun v_219_110 S_219_111 h_219_108 => ?_)
                    obtain ⟨rfl, b219, hb219, ev_219_110⟩ := h_219_108
                    subst ev_219_110
                    refine k_iadd X dL_act_222 (fun v_222_112 ev_222_112 => ?_)
                    have hv223 : v_222_112 = nI (1 + b219) := by rw [ev_222_112, show (1 : Int32) = nI 1 from rfl, nI_add]
                    subst hv223
                    refine k_iload_n X (q := 3) dL_act_223 rfl rfl ?_
                    refine k_bipush X (v := 6) dL_act_224 (by decide) ?_
                    refine k_ishr X dL_act_226 (fun v_226_113 ev_226_113 => ?_)
                    refine k_bipush X (v := 16) dL_act_227 (by decide) ?_
                    refine k_gotI X (vL_48 X (S := S_15_11) (c_L_below C.l C.e0 S_15_11 v_226_113 16 (by omega)) (As := [.int v_226_113, .int 16]) (rest := [.int (nI (1 + b219)), .int (nI b210), .int (nI b18), .int (nI b6), .ref (A 0)]) rfl rfl rfl rfl ⟨Nat.le_of_ble_eq_true rfl, Nat.le_of_ble_eq_true rfl⟩ (Nat.le_of_ble_eq_true rfl) ⟨(by show _ ≤ 606; omega), (by show _ ≤ 32202; omega)⟩ dL_act_229) (fun v_229_115 S_229_116 h_229_113 => ?_)
                    obtain ⟨rfl, b229, hb229, ev_229_115⟩ := h_229_113
                    subst ev_229_115
                    refine k_xgotI X (k_runVX X Y.1 (S := S_15_11) (κ := 11) (n0 := 5) rfl (fun _ _ _ _ => rfl) (kGV qmL_85 qiX11_sue qeX11_sue qIX11 qcX11_sue) (by decide +kernel) (st_0 hI_12.st).1 (st_0 hI_12.st).2 (c_X11_sue C.l C.e0 S_15_11 (nI b6) (nI b18) (nI b210) (nI (1 + b219)) (nI b229) A n cz _ _ _ hI_12  (by omega) hfl) (As := [.int (nI b6), .int (nI b18), .int (nI b210), .int (nI (1 + b219)), .int (nI b229)]) (rest := []) rfl rfl rfl rfl ⟨Nat.le_of_ble_eq_true rfl, Nat.le_of_ble_eq_true rfl⟩ (Nat.le_of_ble_eq_true rfl) ⟨(by show _ ≤ 606; omega), (by show _ ≤ 32202; omega)⟩ dL_act_232) (fun E9 S9 hE9 hx9 => ?_) (fun v_232_118 S_232_119 h_232_116 => ?_)
                    · subst hx9
                      refine k_act X Y.1 hT hE9 ⟨by omega, by omega⟩ (fun a9 h9 hh9 => ?_)
                      rcases hh9 with rfl | rfl | rfl
                      · skip
                        refine k_astore X [(5, .ref a9), (4, .int (nI b18)), (3, .int (nI b6)), (0, .ref (A 0)), (1, .int x), (2, .int 8)] dL_act_384 (by decide) rfl ?_
                        exact k_vret X E dL_act_386 (by show _ ≤ 606; omega) (by show _ ≤ 32202; omega) (h9.e hI_12 hK_12 (by omega) (by omega) (by omega))
                      · skip
                        refine k_astore X [(5, .ref a9), (4, .int (nI b18)), (3, .int (nI b6)), (0, .ref (A 0)), (1, .int x), (2, .int 8)] dL_act_387 (by decide) rfl ?_
                        exact k_vret X E dL_act_389 (by show _ ≤ 606; omega) (by show _ ≤ 32202; omega) (h9.e hI_12 hK_12 (by omega) (by omega) (by omega))
                      · skip
                        refine k_astore X [(5, .ref a9), (4, .int (nI b18)), (3, .int (nI b6)), (0, .ref (A 0)), (1, .int x), (2, .int 8)] dL_act_390 (by decide) rfl ?_
                        exact k_vret X E dL_act_392 (by show _ ≤ 606; omega) (by show _ ≤ 32202; omega) (h9.e hI_12 hK_12 (by omega) (by omega) (by omega))
                    · skip
                      obtain ⟨hI_120, hx_120⟩ := h_232_116
                      have hK_120 := (hK_12).tr hx_120
                      refine k_pop X dL_act_235 rfl ?_
                      refine k_goto (tgt := 381) X dL_act_236 (by decide) ?_
                      refine k_goto (tgt := 393) X dL_act_381 (by decide) ?_
                      exact k_vret X E dL_act_393 (by show _ ≤ 606; omega) (by show _ ≤ 32202; omega) (h9.e hI_120 hK_120 (by omega) (by omega) (by omega))
                  · skip
                    by_cases q_24_9 : (nI w) = 9
                    · skip
                      rw [q_24_9]
                      refine k_tableIn (x := 9) (off := 178) (tgt := 202) X dL_act_24 (by decide) (by decide) rfl (by decide) ?_
                      refine k_aload_n X (q := 2) dL_act_202 rfl rfl ?_
                      refine k_iload_n X (q := 1) dL_act_203 rfl rfl ?_
                      refine k_iload X (q := 0) dL_act_204 rfl ?_
                      refine k_iload_n X (q := 3) dL_act_206 rfl rfl ?_
                      refine k_iconst X (v := 5) dL_act_207 (by decide) ?_
                      refine k_ishr X dL_act_208 (fun v_208_121 ev_208_121 => ?_)
                      refine k_iconst X (v := 2) dL_act_209 (by decide) ?_
                      refine k_gotI X (vL_48 X (S := S_15_11) (c_L_below C.l C.e0 S_15_11 v_208_121 2 (by omega)) (As := [.int v_208_121, .int 2]) (rest := [.int (nI b18), .int (nI b6), .ref (A 0)]) rfl rfl rfl rfl ⟨Nat.le_of_ble_eq_true rfl, Nat.le_of_ble_eq_true rfl⟩ (Nat.le_of_ble_eq_true rfl) ⟨(by show _ ≤ 606; omega), (by show _ ≤ 32202; omega)⟩ dL_act_210) (fun v_210_123 S_210_124 h_210_121 => ?_)
                      obtain ⟨rfl, b210, hb210, ev_210_123⟩ := h_210_121
                      subst ev_210_123
                      refine k_iconst X (v := 1) dL_act_213 (by decide) ?_
                      refine k_iload_n X (q := 3) dL_act_214 rfl rfl ?_
                      refine k_iconst X (v := 4) dL_act_215 (by decide) ?_
                      refine k_ishr X dL_act_216 (fun v_216_125 ev_216_125 => ?_)
                      refine k_bipush X (v := 100) dL_act_217 (by decide) ?_
                      refine k_gotI X (vL_48 X (S := S_15_11) (c_L_below C.l C.e0 S_15_11 v_216_125 100 (by omega)) (As := [.int v_216_125, .int 100]) (rest := [.int 1, .int (nI b210), .int (nI b18), .int (nI b6), .ref (A 0)]) rfl rfl rfl rfl ⟨Nat.le_of_ble_eq_true rfl, Nat.le_of_ble_eq_true rfl⟩ (Nat.le_of_ble_eq_true rfl) ⟨(by show _ ≤ 606; omega), (by show _ ≤ 32202; omega)⟩ dL_act_219) (fun v_219_127 S_219_128 h_219_125 => ?_)
                      obtain ⟨rfl, b219, hb219, ev_219_127⟩ := h_219_125
                      subst ev_219_127
                      refine k_iadd X dL_act_222 (fun v_222_129 ev_222_129 => ?_)
                      have hv223 : v_222_129 = nI (1 + b219) := by rw [ev_222_129, show (1 : Int32) = nI 1 from rfl, nI_add]
                      subst hv223
                      refine k_iload_n X (q := 3) dL_act_223 rfl rfl ?_
                      refine k_bipush X (v := 6) dL_act_224 (by decide) ?_
                      refine k_ishr X dL_act_226 (fun v_226_130 ev_226_130 => ?_)
                      refine k_bipush X (v := 16) dL_act_227 (by decide) ?_
                      refine k_gotI X (vL_48 X (S := S_15_11) (c_L_below C.l C.e0 S_15_11 v_226_130 16 (by omega)) (As := [.int v_226_130, .int 16]) (rest := [.int (nI (1 + b219)), .int (nI b210), .int (nI b18), .int (nI b6), .ref (A 0)]) rfl rfl rfl rfl ⟨Nat.le_of_ble_eq_true rfl, Nat.le_of_ble_eq_true rfl⟩ (Nat.le_of_ble_eq_true rfl) ⟨(by show _ ≤ 606; omega), (by show _ ≤ 32202; omega)⟩ dL_act_229) (fun v_229_132 S_229_133 h_229_130 => ?_)
                      obtain ⟨rfl, b229, hb229, ev_229_132⟩ := h_229_130
                      subst ev_229_132
                      refine k_xgotI X (k_runVX X Y.1 (S := S_15_11) (κ := 11) (n0 := 5) rfl (fun _ _ _ _ => rfl) (kGV qmL_85 qiX11_sue qeX11_sue qIX11 qcX11_sue) (by decide +kernel) (st_0 hI_12.st).1 (st_0 hI_12.st).2 (c_X11_sue C.l C.e0 S_15_11 (nI b6) (nI b18) (nI b210) (nI (1 + b219)) (nI b229) A n cz _ _ _ hI_12  (by omega) hfl) (As := [.int (nI b6), .int (nI b18), .int (nI b210), .int (nI (1 + b219)), .int (nI b229)]) (rest := []) rfl rfl rfl rfl ⟨Nat.le_of_ble_eq_true rfl, Nat.le_of_ble_eq_true rfl⟩ (Nat.le_of_ble_eq_true rfl) ⟨(by show _ ≤ 606; omega), (by show _ ≤ 32202; omega)⟩ dL_act_232) (fun E9 S9 hE9 hx9 => ?_) (fun v_232_135 S_232_136 h_232_133 => ?_)
                      · subst hx9
                        refine k_act X Y.1 hT hE9 ⟨by omega, by omega⟩ (fun a9 h9 hh9 => ?_)
                        rcases hh9 with rfl | rfl | rfl
                        · skip
                          refine k_astore X [(5, .ref a9), (4, .int (nI b18)), (3, .int (nI b6)), (0, .ref (A 0)), (1, .int x), (2, .int 9)] dL_act_384 (by decide) rfl ?_
                          exact k_vret X E dL_act_386 (by show _ ≤ 606; omega) (by show _ ≤ 32202; omega) (h9.e hI_12 hK_12 (by omega) (by omega) (by omega))
                        · skip
                          refine k_astore X [(5, .ref a9), (4, .int (nI b18)), (3, .int (nI b6)), (0, .ref (A 0)), (1, .int x), (2, .int 9)] dL_act_387 (by decide) rfl ?_
                          exact k_vret X E dL_act_389 (by show _ ≤ 606; omega) (by show _ ≤ 32202; omega) (h9.e hI_12 hK_12 (by omega) (by omega) (by omega))
                        · skip
                          refine k_astore X [(5, .ref a9), (4, .int (nI b18)), (3, .int (nI b6)), (0, .ref (A 0)), (1, .int x), (2, .int 9)] dL_act_390 (by decide) rfl ?_
                          exact k_vret X E dL_act_392 (by show _ ≤ 606; omega) (by show _ ≤ 32202; omega) (h9.e hI_12 hK_12 (by omega) (by omega) (by omega))
                      · skip
                        obtain ⟨hI_137, hx_137⟩ := h_232_133
                        have hK_137 := (hK_12).tr hx_137
                        refine k_pop X dL_act_235 rfl ?_
                        refine k_goto (tgt := 381) X dL_act_236 (by decide) ?_
                        refine k_goto (tgt := 393) X dL_act_381 (by decide) ?_
                        exact k_vret X E dL_act_393 (by show _ ≤ 606; omega) (by show _ ≤ 32202; omega) (h9.e hI_137 hK_137 (by omega) (by omega) (by omega))
                    · skip
                      by_cases q_24_10 : (nI w) = 10
                      · skip
                        rw [q_24_10]
                        refine k_tableIn (x := 10) (off := 215) (tgt := 239) X dL_act_24 (by decide) (by decide) rfl (by decide) ?_
                        refine k_aload_n X (q := 2) dL_act_239 rfl rfl ?_
                        refine k_xgotI X (k_runVX X Y.1 (S := S_15_11) (κ := 11) (n0 := 0) rfl (fun _ _ _ _ => rfl) (kGV qmL_88 qiX11_court qeX11_court qIX11 qcX11_court) (by decide +kernel) (st_0 hI_12.st).1 (st_0 hI_12.st).2 (c_X11_court C.l C.e0 S_15_11  A n cz _ _ _ hI_12  (by omega) hfl) (As := []) (rest := []) rfl rfl rfl rfl ⟨Nat.le_of_ble_eq_true rfl, Nat.le_of_ble_eq_true rfl⟩ (Nat.le_of_ble_eq_true rfl) ⟨(by show _ ≤ 606; omega), (by show _ ≤ 32202; omega)⟩ dL_act_240) (fun E9 S9 hE9 hx9 => ?_) (fun v_240_139 S_240_140 h_240_137 => ?_)
                        · subst hx9
                          refine k_act X Y.1 hT hE9 ⟨by omega, by omega⟩ (fun a9 h9 hh9 => ?_)
                          rcases hh9 with rfl | rfl | rfl
                          · skip
                            refine k_astore X [(5, .ref a9), (4, .int (nI b18)), (3, .int (nI b6)), (0, .ref (A 0)), (1, .int x), (2, .int 10)] dL_act_384 (by decide) rfl ?_
                            exact k_vret X E dL_act_386 (by show _ ≤ 606; omega) (by show _ ≤ 32202; omega) (h9.e hI_12 hK_12 (by omega) (by omega) (by omega))
                          · skip
                            refine k_astore X [(5, .ref a9), (4, .int (nI b18)), (3, .int (nI b6)), (0, .ref (A 0)), (1, .int x), (2, .int 10)] dL_act_387 (by decide) rfl ?_
                            exact k_vret X E dL_act_389 (by show _ ≤ 606; omega) (by show _ ≤ 32202; omega) (h9.e hI_12 hK_12 (by omega) (by omega) (by omega))
                          · skip
                            refine k_astore X [(5, .ref a9), (4, .int (nI b18)), (3, .int (nI b6)), (0, .ref (A 0)), (1, .int x), (2, .int 10)] dL_act_390 (by decide) rfl ?_
                            exact k_vret X E dL_act_392 (by show _ ≤ 606; omega) (by show _ ≤ 32202; omega) (h9.e hI_12 hK_12 (by omega) (by omega) (by omega))
                        · skip
                          obtain ⟨hI_141, hx_141⟩ := h_240_137
                          have hK_141 := (hK_12).tr hx_141
                          refine k_pop X dL_act_243 rfl ?_
                          refine k_goto (tgt := 381) X dL_act_244 (by decide) ?_
                          refine k_goto (tgt := 393) X dL_act_381 (by decide) ?_
                          exact k_vret X E dL_act_393 (by show _ ≤ 606; omega) (by show _ ≤ 32202; omega) (h9.e hI_141 hK_141 (by omega) (by omega) (by omega))
                      · skip
                        by_cases q_24_11 : (nI w) = 11
                        · skip
                          rw [q_24_11]
                          refine k_tableIn (x := 11) (off := 223) (tgt := 247) X dL_act_24 (by decide) (by decide) rfl (by decide) ?_
                          refine k_aload_n X (q := 2) dL_act_247 rfl rfl ?_
                          refine k_iload_n X (q := 1) dL_act_248 rfl rfl ?_
                          refine k_iload_n X (q := 3) dL_act_249 rfl rfl ?_
                          refine k_iconst X (v := 5) dL_act_250 (by decide) ?_
                          refine k_ishr X dL_act_251 (fun v_251_142 ev_251_142 => ?_)
                          refine k_iconst X (v := 4) dL_act_252 (by decide) ?_
                          refine k_gotI X (vL_48 X (S := S_15_11) (c_L_below C.l C.e0 S_15_11 v_251_142 4 (by omega)) (As := [.int v_251_142, .int 4]) (rest := [.int (nI b6), .ref (A 0)]) rfl rfl rfl rfl ⟨Nat.le_of_ble_eq_true rfl, Nat.le_of_ble_eq_true rfl⟩ (Nat.le_of_ble_eq_true rfl) ⟨(by show _ ≤ 606; omega), (by show _ ≤ 32202; omega)⟩ dL_act_253) (fun v_253_144 S_253_145 h_253_142 => ?_)
                          obtain ⟨rfl, b253, hb253, ev_253_144⟩ := h_253_142
                          subst ev_253_144
                          refine k_bipush X (v := 30) dL_act_256 (by decide) ?_
                          refine k_xgotI X (k_runVX X Y.1 (S := S_15_11) (κ := 11) (n0 := 3) rfl (fun _ _ _ _ => rfl) (kGV qmL_91 qiX11_challenge qeX11_challenge qIX11 qcX11_challenge) (by decide +kernel) (st_0 hI_12.st).1 (st_0 hI_12.st).2 (c_X11_challenge C.l C.e0 S_15_11 (nI b6) (nI b253) 30 A n cz _ _ _ hI_12  (by omega) hfl) (As := [.int (nI b6), .int (nI b253), .int 30]) (rest := []) rfl rfl rfl rfl ⟨Nat.le_of_ble_eq_true rfl, Nat.le_of_ble_eq_true rfl⟩ (Nat.le_of_ble_eq_true rfl) ⟨(by show _ ≤ 606; omega), (by show _ ≤ 32202; omega)⟩ dL_act_258) (fun E9 S9 hE9 hx9 => ?_) (fun v_258_147 S_258_148 h_258_145 => ?_)
                          · subst hx9
                            refine k_act X Y.1 hT hE9 ⟨by omega, by omega⟩ (fun a9 h9 hh9 => ?_)
                            rcases hh9 with rfl | rfl | rfl
                            · skip
                              refine k_astore X [(5, .ref a9), (4, .int (nI b18)), (3, .int (nI b6)), (0, .ref (A 0)), (1, .int x), (2, .int 11)] dL_act_384 (by decide) rfl ?_
                              exact k_vret X E dL_act_386 (by show _ ≤ 606; omega) (by show _ ≤ 32202; omega) (h9.e hI_12 hK_12 (by omega) (by omega) (by omega))
                            · skip
                              refine k_astore X [(5, .ref a9), (4, .int (nI b18)), (3, .int (nI b6)), (0, .ref (A 0)), (1, .int x), (2, .int 11)] dL_act_387 (by decide) rfl ?_
                              exact k_vret X E dL_act_389 (by show _ ≤ 606; omega) (by show _ ≤ 32202; omega) (h9.e hI_12 hK_12 (by omega) (by omega) (by omega))
                            · skip
                              refine k_astore X [(5, .ref a9), (4, .int (nI b18)), (3, .int (nI b6)), (0, .ref (A 0)), (1, .int x), (2, .int 11)] dL_act_390 (by decide) rfl ?_
                              exact k_vret X E dL_act_392 (by show _ ≤ 606; omega) (by show _ ≤ 32202; omega) (h9.e hI_12 hK_12 (by omega) (by omega) (by omega))
                          · skip
                            obtain ⟨hI_149, hx_149⟩ := h_258_145
                            have hK_149 := (hK_12).tr hx_149
                            refine k_pop X dL_act_261 rfl ?_
                            refine k_goto (tgt := 381) X dL_act_262 (by decide) ?_
                            refine k_goto (tgt := 393) X dL_act_381 (by decide) ?_
                            exact k_vret X E dL_act_393 (by show _ ≤ 606; omega) (by show _ ≤ 32202; omega) (h9.e hI_149 hK_149 (by omega) (by omega) (by omega))
                        · skip
                          by_cases q_24_12 : (nI w) = 12
                          · skip
                            rw [q_24_12]
                            refine k_tableIn (x := 12) (off := 241) (tgt := 265) X dL_act_24 (by decide) (by decide) rfl (by decide) ?_
                            refine k_aload_n X (q := 2) dL_act_265 rfl rfl ?_
                            refine k_iload_n X (q := 1) dL_act_266 rfl rfl ?_
                            refine k_iload_n X (q := 3) dL_act_267 rfl rfl ?_
                            refine k_iconst X (v := 5) dL_act_268 (by decide) ?_
                            refine k_ishr X dL_act_269 (fun v_269_150 ev_269_150 => ?_)
                            refine k_iconst X (v := 3) dL_act_270 (by decide) ?_
                            refine k_gotI X (vL_48 X (S := S_15_11) (c_L_below C.l C.e0 S_15_11 v_269_150 3 (by omega)) (As := [.int v_269_150, .int 3]) (rest := [.int (nI b6), .ref (A 0)]) rfl rfl rfl rfl ⟨Nat.le_of_ble_eq_true rfl, Nat.le_of_ble_eq_true rfl⟩ (Nat.le_of_ble_eq_true rfl) ⟨(by show _ ≤ 606; omega), (by show _ ≤ 32202; omega)⟩ dL_act_271) (fun v_271_152 S_271_153 h_271_150 => ?_)
                            obtain ⟨rfl, b271, hb271, ev_271_152⟩ := h_271_150
                            subst ev_271_152
                            refine k_iconst X (v := 1) dL_act_274 (by decide) ?_
                            refine k_iload_n X (q := 3) dL_act_275 rfl rfl ?_
                            refine k_iconst X (v := 2) dL_act_276 (by decide) ?_
                            refine k_ishr X dL_act_277 (fun v_277_154 ev_277_154 => ?_)
                            refine k_bipush X (v := 60) dL_act_278 (by decide) ?_
                            refine k_gotI X (vL_48 X (S := S_15_11) (c_L_below C.l C.e0 S_15_11 v_277_154 60 (by omega)) (As := [.int v_277_154, .int 60]) (rest := [.int 1, .int (nI b271), .int (nI b6), .ref (A 0)]) rfl rfl rfl rfl ⟨Nat.le_of_ble_eq_true rfl, Nat.le_of_ble_eq_true rfl⟩ (Nat.le_of_ble_eq_true rfl) ⟨(by show _ ≤ 606; omega), (by show _ ≤ 32202; omega)⟩ dL_act_280) (fun v_280_156 S_280_157 h_280_154 => ?_)
                            obtain ⟨rfl, b280, hb280, ev_280_156⟩ := h_280_154
                            subst ev_280_156
                            refine k_iadd X dL_act_283 (fun v_283_158 ev_283_158 => ?_)
                            have hv284 : v_283_158 = nI (1 + b280) := by rw [ev_283_158, show (1 : Int32) = nI 1 from rfl, nI_add]
                            subst hv284
                            refine k_xgotI X (k_runVX X Y.1 (S := S_15_11) (κ := 11) (n0 := 3) rfl (fun _ _ _ _ => rfl) (kGV qmL_95 qiX11_lease qeX11_lease qIX11 qcX11_lease) (by decide +kernel) (st_0 hI_12.st).1 (st_0 hI_12.st).2 (c_X11_lease C.l C.e0 S_15_11 (nI b6) (nI b271) (nI (1 + b280)) A n cz _ _ _ hI_12  (by omega) hfl) (As := [.int (nI b6), .int (nI b271), .int (nI (1 + b280))]) (rest := []) rfl rfl rfl rfl ⟨Nat.le_of_ble_eq_true rfl, Nat.le_of_ble_eq_true rfl⟩ (Nat.le_of_ble_eq_true rfl) ⟨(by show _ ≤ 606; omega), (by show _ ≤ 32202; omega)⟩ dL_act_284) (fun E9 S9 hE9 hx9 => ?_) (fun v_284_160 S_284_161 h_284_158 => ?_)
                            · subst hx9
                              refine k_act X Y.1 hT hE9 ⟨by omega, by omega⟩ (fun a9 h9 hh9 => ?_)
                              rcases hh9 with rfl | rfl | rfl
                              · skip
                                refine k_astore X [(5, .ref a9), (4, .int (nI b18)), (3, .int (nI b6)), (0, .ref (A 0)), (1, .int x), (2, .int 12)] dL_act_384 (by decide) rfl ?_
                                exact k_vret X E dL_act_386 (by show _ ≤ 606; omega) (by show _ ≤ 32202; omega) (h9.e hI_12 hK_12 (by omega) (by omega) (by omega))
                              · skip
                                refine k_astore X [(5, .ref a9), (4, .int (nI b18)), (3, .int (nI b6)), (0, .ref (A 0)), (1, .int x), (2, .int 12)] dL_act_387 (by decide) rfl ?_
                                exact k_vret X E dL_act_389 (by show _ ≤ 606; omega) (by show _ ≤ 32202; omega) (h9.e hI_12 hK_12 (by omega) (by omega) (by omega))
                              · skip
                                refine k_astore X [(5, .ref a9), (4, .int (nI b18)), (3, .int (nI b6)), (0, .ref (A 0)), (1, .int x), (2, .int 12)] dL_act_390 (by decide) rfl ?_
                                exact k_vret X E dL_act_392 (by show _ ≤ 606; omega) (by show _ ≤ 32202; omega) (h9.e hI_12 hK_12 (by omega) (by omega) (by omega))
                            · skip
                              obtain ⟨hI_162, hx_162⟩ := h_284_158
                              have hK_162 := (hK_12).tr hx_162
                              refine k_pop X dL_act_287 rfl ?_
                              refine k_goto (tgt := 381) X dL_act_288 (by decide) ?_
                              refine k_goto (tgt := 393) X dL_act_381 (by decide) ?_
                              exact k_vret X E dL_act_393 (by show _ ≤ 606; omega) (by show _ ≤ 32202; omega) (h9.e hI_162 hK_162 (by omega) (by omega) (by omega))
                          · skip
                            by_cases q_24_13 : (nI w) = 13
                            · skip
                              rw [q_24_13]
                              refine k_tableIn (x := 13) (off := 267) (tgt := 291) X dL_act_24 (by decide) (by decide) rfl (by decide) ?_
                              refine k_aload_n X (q := 2) dL_act_291 rfl rfl ?_
                              refine k_iload_n X (q := 1) dL_act_292 rfl rfl ?_
                              refine k_xgotI X (k_runVX X Y.1 (S := S_15_11) (κ := 11) (n0 := 1) rfl (fun _ _ _ _ => rfl) (kGV qmL_98 qiX11_bear qeX11_bear qIX11 qcX11_bear) (by decide +kernel) (st_0 hI_12.st).1 (st_0 hI_12.st).2 (c_X11_bear C.l C.e0 S_15_11 (nI b6) A n cz _ _ _ hI_12  (by omega) hfl) (As := [.int (nI b6)]) (rest := []) rfl rfl rfl rfl ⟨Nat.le_of_ble_eq_true rfl, Nat.le_of_ble_eq_true rfl⟩ (Nat.le_of_ble_eq_true rfl) ⟨(by show _ ≤ 606; omega), (by show _ ≤ 32202; omega)⟩ dL_act_293) (fun E9 S9 hE9 hx9 => ?_) (fun v_293_164 S_293_165 h_293_162 => ?_)
                              · subst hx9
                                refine k_act X Y.1 hT hE9 ⟨by omega, by omega⟩ (fun a9 h9 hh9 => ?_)
                                rcases hh9 with rfl | rfl | rfl
                                · skip
                                  refine k_astore X [(5, .ref a9), (4, .int (nI b18)), (3, .int (nI b6)), (0, .ref (A 0)), (1, .int x), (2, .int 13)] dL_act_384 (by decide) rfl ?_
                                  exact k_vret X E dL_act_386 (by show _ ≤ 606; omega) (by show _ ≤ 32202; omega) (h9.e hI_12 hK_12 (by omega) (by omega) (by omega))
                                · skip
                                  refine k_astore X [(5, .ref a9), (4, .int (nI b18)), (3, .int (nI b6)), (0, .ref (A 0)), (1, .int x), (2, .int 13)] dL_act_387 (by decide) rfl ?_
                                  exact k_vret X E dL_act_389 (by show _ ≤ 606; omega) (by show _ ≤ 32202; omega) (h9.e hI_12 hK_12 (by omega) (by omega) (by omega))
                                · skip
                                  refine k_astore X [(5, .ref a9), (4, .int (nI b18)), (3, .int (nI b6)), (0, .ref (A 0)), (1, .int x), (2, .int 13)] dL_act_390 (by decide) rfl ?_
                                  exact k_vret X E dL_act_392 (by show _ ≤ 606; omega) (by show _ ≤ 32202; omega) (h9.e hI_12 hK_12 (by omega) (by omega) (by omega))
                              · skip
                                obtain ⟨hI_166, hx_166⟩ := h_293_162
                                have hK_166 := (hK_12).tr hx_166
                                refine k_pop X dL_act_296 rfl ?_
                                refine k_goto (tgt := 381) X dL_act_297 (by decide) ?_
                                refine k_goto (tgt := 393) X dL_act_381 (by decide) ?_
                                exact k_vret X E dL_act_393 (by show _ ≤ 606; omega) (by show _ ≤ 32202; omega) (h9.e hI_166 hK_166 (by omega) (by omega) (by omega))
                            · skip
                              by_cases q_24_14 : (nI w) = 14
                              · skip
                                rw [q_24_14]
                                refine k_tableIn (x := 14) (off := 276) (tgt := 300) X dL_act_24 (by decide) (by decide) rfl (by decide) ?_
                                refine k_aload_n X (q := 2) dL_act_300 rfl rfl ?_
                                refine k_iload_n X (q := 1) dL_act_301 rfl rfl ?_
                                refine k_iload X (q := 0) dL_act_302 rfl ?_
                                refine k_xgotI X (k_runVX X Y.1 (S := S_15_11) (κ := 11) (n0 := 2) rfl (fun _ _ _ _ => rfl) (kGV qmL_101 qiX11_claim qeX11_claim qIX11 qcX11_claim) (by decide +kernel) (st_0 hI_12.st).1 (st_0 hI_12.st).2 (c_X11_claim C.l C.e0 S_15_11 (nI b6) (nI b18) A n cz _ _ _ hI_12  (by omega) hfl) (As := [.int (nI b6), .int (nI b18)]) (rest := []) rfl rfl rfl rfl ⟨Nat.le_of_ble_eq_true rfl, Nat.le_of_ble_eq_true rfl⟩ (Nat.le_of_ble_eq_true rfl) ⟨(by show _ ≤ 606; omega), (by show _ ≤ 32202; omega)⟩ dL_act_304) (fun E9 S9 hE9 hx9 => ?_) (fun v_304_168 S_304_169 h_304_166 => ?_)
                                · subst hx9
                                  refine k_act X Y.1 hT hE9 ⟨by omega, by omega⟩ (fun a9 h9 hh9 => ?_)
                                  rcases hh9 with rfl | rfl | rfl
                                  · skip
                                    refine k_astore X [(5, .ref a9), (4, .int (nI b18)), (3, .int (nI b6)), (0, .ref (A 0)), (1, .int x), (2, .int 14)] dL_act_384 (by decide) rfl ?_
                                    exact k_vret X E dL_act_386 (by show _ ≤ 606; omega) (by show _ ≤ 32202; omega) (h9.e hI_12 hK_12 (by omega) (by omega) (by omega))
                                  · skip
                                    refine k_astore X [(5, .ref a9), (4, .int (nI b18)), (3, .int (nI b6)), (0, .ref (A 0)), (1, .int x), (2, .int 14)] dL_act_387 (by decide) rfl ?_
                                    exact k_vret X E dL_act_389 (by show _ ≤ 606; omega) (by show _ ≤ 32202; omega) (h9.e hI_12 hK_12 (by omega) (by omega) (by omega))
                                  · skip
                                    refine k_astore X [(5, .ref a9), (4, .int (nI b18)), (3, .int (nI b6)), (0, .ref (A 0)), (1, .int x), (2, .int 14)] dL_act_390 (by decide) rfl ?_
                                    exact k_vret X E dL_act_392 (by show _ ≤ 606; omega) (by show _ ≤ 32202; omega) (h9.e hI_12 hK_12 (by omega) (by omega) (by omega))
                                · skip
                                  obtain ⟨hI_170, hx_170⟩ := h_304_166
                                  have hK_170 := (hK_12).tr hx_170
                                  refine k_pop X dL_act_307 rfl ?_
                                  refine k_goto (tgt := 381) X dL_act_308 (by decide) ?_
                                  refine k_goto (tgt := 393) X dL_act_381 (by decide) ?_
                                  exact k_vret X E dL_act_393 (by show _ ≤ 606; omega) (by show _ ≤ 32202; omega) (h9.e hI_170 hK_170 (by omega) (by omega) (by omega))
                              · skip
                                by_cases q_24_15 : (nI w) = 15
                                · skip
                                  rw [q_24_15]
                                  refine k_tableIn (x := 15) (off := 287) (tgt := 311) X dL_act_24 (by decide) (by decide) rfl (by decide) ?_
                                  refine k_aload_n X (q := 2) dL_act_311 rfl rfl ?_
                                  refine k_iconst X (v := 1) dL_act_312 (by decide) ?_
                                  refine k_iload_n X (q := 3) dL_act_313 rfl rfl ?_
                                  refine k_iconst X (v := 4) dL_act_314 (by decide) ?_
                                  refine k_ishr X dL_act_315 (fun v_315_171 ev_315_171 => ?_)
                                  refine k_bipush X (v := 15) dL_act_316 (by decide) ?_
                                  refine k_gotI X (vL_48 X (S := S_15_11) (c_L_below C.l C.e0 S_15_11 v_315_171 15 (by omega)) (As := [.int v_315_171, .int 15]) (rest := [.int 1, .ref (A 0)]) rfl rfl rfl rfl ⟨Nat.le_of_ble_eq_true rfl, Nat.le_of_ble_eq_true rfl⟩ (Nat.le_of_ble_eq_true rfl) ⟨(by show _ ≤ 606; omega), (by show _ ≤ 32202; omega)⟩ dL_act_318) (fun v_318_173 S_318_174 h_318_171 => ?_)
                                  obtain ⟨rfl, b318, hb318, ev_318_173⟩ := h_318_171
                                  subst ev_318_173
                                  refine k_iadd X dL_act_321 (fun v_321_175 ev_321_175 => ?_)
                                  have hv322 : v_321_175 = nI (1 + b318) := by rw [ev_321_175, show (1 : Int32) = nI 1 from rfl, nI_add]
                                  subst hv322
                                  refine k_xgotI X (k_runVX X Y.1 (S := S_15_11) (κ := 11) (n0 := 1) rfl (fun _ _ _ _ => rfl) (kGV qmL_104 qiX11_levy qeX11_levy qIX11 qcX11_levy) (by decide +kernel) (st_0 hI_12.st).1 (st_0 hI_12.st).2 (c_X11_levy C.l C.e0 S_15_11 (nI (1 + b318)) A n cz _ _ _ hI_12  (by omega) hfl) (As := [.int (nI (1 + b318))]) (rest := []) rfl rfl rfl rfl ⟨Nat.le_of_ble_eq_true rfl, Nat.le_of_ble_eq_true rfl⟩ (Nat.le_of_ble_eq_true rfl) ⟨(by show _ ≤ 606; omega), (by show _ ≤ 32202; omega)⟩ dL_act_322) (fun E9 S9 hE9 hx9 => ?_) (fun v_322_177 S_322_178 h_322_175 => ?_)
                                  · subst hx9
                                    refine k_act X Y.1 hT hE9 ⟨by omega, by omega⟩ (fun a9 h9 hh9 => ?_)
                                    rcases hh9 with rfl | rfl | rfl
                                    · skip
                                      refine k_astore X [(5, .ref a9), (4, .int (nI b18)), (3, .int (nI b6)), (0, .ref (A 0)), (1, .int x), (2, .int 15)] dL_act_384 (by decide) rfl ?_
                                      exact k_vret X E dL_act_386 (by show _ ≤ 606; omega) (by show _ ≤ 32202; omega) (h9.e hI_12 hK_12 (by omega) (by omega) (by omega))
                                    · skip
                                      refine k_astore X [(5, .ref a9), (4, .int (nI b18)), (3, .int (nI b6)), (0, .ref (A 0)), (1, .int x), (2, .int 15)] dL_act_387 (by decide) rfl ?_
                                      exact k_vret X E dL_act_389 (by show _ ≤ 606; omega) (by show _ ≤ 32202; omega) (h9.e hI_12 hK_12 (by omega) (by omega) (by omega))
                                    · skip
                                      refine k_astore X [(5, .ref a9), (4, .int (nI b18)), (3, .int (nI b6)), (0, .ref (A 0)), (1, .int x), (2, .int 15)] dL_act_390 (by decide) rfl ?_
                                      exact k_vret X E dL_act_392 (by show _ ≤ 606; omega) (by show _ ≤ 32202; omega) (h9.e hI_12 hK_12 (by omega) (by omega) (by omega))
                                  · skip
                                    obtain ⟨hI_179, hx_179⟩ := h_322_175
                                    have hK_179 := (hK_12).tr hx_179
                                    refine k_pop X dL_act_325 rfl ?_
                                    refine k_goto (tgt := 381) X dL_act_326 (by decide) ?_
                                    refine k_goto (tgt := 393) X dL_act_381 (by decide) ?_
                                    exact k_vret X E dL_act_393 (by show _ ≤ 606; omega) (by show _ ≤ 32202; omega) (h9.e hI_179 hK_179 (by omega) (by omega) (by omega))
                                · skip
                                  by_cases q_24_16 : (nI w) = 16
                                  · skip
                                    rw [q_24_16]
                                    refine k_tableIn (x := 16) (off := 305) (tgt := 329) X dL_act_24 (by decide) (by decide) rfl (by decide) ?_
                                    refine k_aload_n X (q := 2) dL_act_329 rfl rfl ?_
                                    refine k_xgotI X (k_runVX X Y.1 (S := S_15_11) (κ := 11) (n0 := 0) rfl (fun _ _ _ _ => rfl) (kGV qmL_107 qiX11_sherds qeX11_sherds qIX11 qcX11_sherds) (by decide +kernel) (st_0 hI_12.st).1 (st_0 hI_12.st).2 (c_X11_sherds C.l C.e0 S_15_11  A n cz _ _ _ hI_12  (by omega) hfl) (As := []) (rest := []) rfl rfl rfl rfl ⟨Nat.le_of_ble_eq_true rfl, Nat.le_of_ble_eq_true rfl⟩ (Nat.le_of_ble_eq_true rfl) ⟨(by show _ ≤ 606; omega), (by show _ ≤ 32202; omega)⟩ dL_act_330) (fun E9 S9 hE9 hx9 => ?_) (fun v_330_181 S_330_182 h_330_179 => ?_)
                                    · subst hx9
                                      refine k_act X Y.1 hT hE9 ⟨by omega, by omega⟩ (fun a9 h9 hh9 => ?_)
                                      rcases hh9 with rfl | rfl | rfl
                                      · skip
                                        refine k_astore X [(5, .ref a9), (4, .int (nI b18)), (3, .int (nI b6)), (0, .ref (A 0)), (1, .int x), (2, .int 16)] dL_act_384 (by decide) rfl ?_
                                        exact k_vret X E dL_act_386 (by show _ ≤ 606; omega) (by show _ ≤ 32202; omega) (h9.e hI_12 hK_12 (by omega) (by omega) (by omega))
                                      · skip
                                        refine k_astore X [(5, .ref a9), (4, .int (nI b18)), (3, .int (nI b6)), (0, .ref (A 0)), (1, .int x), (2, .int 16)] dL_act_387 (by decide) rfl ?_
                                        exact k_vret X E dL_act_389 (by show _ ≤ 606; omega) (by show _ ≤ 32202; omega) (h9.e hI_12 hK_12 (by omega) (by omega) (by omega))
                                      · skip
                                        refine k_astore X [(5, .ref a9), (4, .int (nI b18)), (3, .int (nI b6)), (0, .ref (A 0)), (1, .int x), (2, .int 16)] dL_act_390 (by decide) rfl ?_
                                        exact k_vret X E dL_act_392 (by show _ ≤ 606; omega) (by show _ ≤ 32202; omega) (h9.e hI_12 hK_12 (by omega) (by omega) (by omega))
                                    · skip
                                      obtain ⟨hI_183, hx_183⟩ := h_330_179
                                      have hK_183 := (hK_12).tr hx_183
                                      refine k_pop X dL_act_333 rfl ?_
                                      refine k_goto (tgt := 381) X dL_act_334 (by decide) ?_
                                      refine k_goto (tgt := 393) X dL_act_381 (by decide) ?_
                                      exact k_vret X E dL_act_393 (by show _ ≤ 606; omega) (by show _ ≤ 32202; omega) (h9.e hI_183 hK_183 (by omega) (by omega) (by omega))
                                  · skip
                                    by_cases q_24_17 : (nI w) = 17
                                    · skip
                                      rw [q_24_17]
                                      refine k_tableIn (x := 17) (off := 313) (tgt := 337) X dL_act_24 (by decide) (by decide) rfl (by decide) ?_
                                      refine k_aload_n X (q := 2) dL_act_337 rfl rfl ?_
                                      refine k_iload_n X (q := 3) dL_act_338 rfl rfl ?_
                                      refine k_iconst X (v := 3) dL_act_339 (by decide) ?_
                                      refine k_ishr X dL_act_340 (fun v_340_184 ev_340_184 => ?_)
                                      refine k_bipush X (v := 16) dL_act_341 (by decide) ?_
                                      refine k_gotI X (vL_48 X (S := S_15_11) (c_L_below C.l C.e0 S_15_11 v_340_184 16 (by omega)) (As := [.int v_340_184, .int 16]) (rest := [.ref (A 0)]) rfl rfl rfl rfl ⟨Nat.le_of_ble_eq_true rfl, Nat.le_of_ble_eq_true rfl⟩ (Nat.le_of_ble_eq_true rfl) ⟨(by show _ ≤ 606; omega), (by show _ ≤ 32202; omega)⟩ dL_act_343) (fun v_343_186 S_343_187 h_343_184 => ?_)
                                      obtain ⟨rfl, b343, hb343, ev_343_186⟩ := h_343_184
                                      subst ev_343_186
                                      refine k_iload_n X (q := 3) dL_act_346 rfl rfl ?_
                                      refine k_iconst X (v := 2) dL_act_347 (by decide) ?_
                                      refine k_gotI X (vL_48 X (S := S_15_11) (c_L_below C.l C.e0 S_15_11 x 2 (by omega)) (As := [.int x, .int 2]) (rest := [.int (nI b343), .ref (A 0)]) rfl rfl rfl rfl ⟨Nat.le_of_ble_eq_true rfl, Nat.le_of_ble_eq_true rfl⟩ (Nat.le_of_ble_eq_true rfl) ⟨(by show _ ≤ 606; omega), (by show _ ≤ 32202; omega)⟩ dL_act_348) (fun v_348_189 S_348_190 h_348_187 => ?_)
                                      obtain ⟨rfl, b348, hb348, ev_348_189⟩ := h_348_187
                                      subst ev_348_189
                                      refine k_if_ne (tgt := 358) X dL_act_351 (by decide) (fun c_351 => ?_) (fun c_351 => ?_)
                                      · skip
                                        refine k_iconst X (v := 0) dL_act_358 (by decide) ?_
                                        refine k_xgotI X (k_runVX X Y.1 (S := S_15_11) (κ := 11) (n0 := 2) rfl (fun _ _ _ _ => rfl) (kGV qmL_110 qiX11_rise qeX11_rise qIX11 qcX11_rise) (by decide +kernel) (st_0 hI_12.st).1 (st_0 hI_12.st).2 (c_X11_rise C.l C.e0 S_15_11 (nI b343) 0 A n cz _ _ _ hI_12  (by omega) hfl) (As := [.int (nI b343), .int 0]) (rest := []) rfl rfl rfl rfl ⟨Nat.le_of_ble_eq_true rfl, Nat.le_of_ble_eq_true rfl⟩ (Nat.le_of_ble_eq_true rfl) ⟨(by show _ ≤ 606; omega), (by show _ ≤ 32202; omega)⟩ dL_act_359) (fun E9 S9 hE9 hx9 => ?_) (fun v_359_192 S_359_193 h_359_190 => ?_)
                                        · subst hx9
                                          refine k_act X Y.1 hT hE9 ⟨by omega, by omega⟩ (fun a9 h9 hh9 => ?_)
                                          rcases hh9 with rfl | rfl | rfl
                                          · skip
                                            refine k_astore X [(5, .ref a9), (4, .int (nI b18)), (3, .int (nI b6)), (0, .ref (A 0)), (1, .int x), (2, .int 17)] dL_act_384 (by decide) rfl ?_
                                            exact k_vret X E dL_act_386 (by show _ ≤ 606; omega) (by show _ ≤ 32202; omega) (h9.e hI_12 hK_12 (by omega) (by omega) (by omega))
                                          · skip
                                            refine k_astore X [(5, .ref a9), (4, .int (nI b18)), (3, .int (nI b6)), (0, .ref (A 0)), (1, .int x), (2, .int 17)] dL_act_387 (by decide) rfl ?_
                                            exact k_vret X E dL_act_389 (by show _ ≤ 606; omega) (by show _ ≤ 32202; omega) (h9.e hI_12 hK_12 (by omega) (by omega) (by omega))
                                          · skip
                                            refine k_astore X [(5, .ref a9), (4, .int (nI b18)), (3, .int (nI b6)), (0, .ref (A 0)), (1, .int x), (2, .int 17)] dL_act_390 (by decide) rfl ?_
                                            exact k_vret X E dL_act_392 (by show _ ≤ 606; omega) (by show _ ≤ 32202; omega) (h9.e hI_12 hK_12 (by omega) (by omega) (by omega))
                                        · skip
                                          obtain ⟨hI_194, hx_194⟩ := h_359_190
                                          have hK_194 := (hK_12).tr hx_194
                                          refine k_pop X dL_act_362 rfl ?_
                                          refine k_goto (tgt := 381) X dL_act_363 (by decide) ?_
                                          refine k_goto (tgt := 393) X dL_act_381 (by decide) ?_
                                          exact k_vret X E dL_act_393 (by show _ ≤ 606; omega) (by show _ ≤ 32202; omega) (h9.e hI_194 hK_194 (by omega) (by omega) (by omega))
                                      · skip
                                        refine k_iconst X (v := 1) dL_act_354 (by decide) ?_
                                        refine k_goto (tgt := 359) X dL_act_355 (by decide) ?_
                                        refine k_xgotI X (k_runVX X Y.1 (S := S_15_11) (κ := 11) (n0 := 2) rfl (fun _ _ _ _ => rfl) (kGV qmL_110 qiX11_rise qeX11_rise qIX11 qcX11_rise) (by decide +kernel) (st_0 hI_12.st).1 (st_0 hI_12.st).2 (c_X11_rise C.l C.e0 S_15_11 (nI b343) 1 A n cz _ _ _ hI_12  (by omega) hfl) (As := [.int (nI b343), .int 1]) (rest := []) rfl rfl rfl rfl ⟨Nat.le_of_ble_eq_true rfl, Nat.le_of_ble_eq_true rfl⟩ (Nat.le_of_ble_eq_true rfl) ⟨(by show _ ≤ 606; omega), (by show _ ≤ 32202; omega)⟩ dL_act_359) (fun E9 S9 hE9 hx9 => ?_) (fun v_359_196 S_359_197 h_359_194 => ?_)
                                        · subst hx9
                                          refine k_act X Y.1 hT hE9 ⟨by omega, by omega⟩ (fun a9 h9 hh9 => ?_)
                                          rcases hh9 with rfl | rfl | rfl
                                          · skip
                                            refine k_astore X [(5, .ref a9), (4, .int (nI b18)), (3, .int (nI b6)), (0, .ref (A 0)), (1, .int x), (2, .int 17)] dL_act_384 (by decide) rfl ?_
                                            exact k_vret X E dL_act_386 (by show _ ≤ 606; omega) (by show _ ≤ 32202; omega) (h9.e hI_12 hK_12 (by omega) (by omega) (by omega))
                                          · skip
                                            refine k_astore X [(5, .ref a9), (4, .int (nI b18)), (3, .int (nI b6)), (0, .ref (A 0)), (1, .int x), (2, .int 17)] dL_act_387 (by decide) rfl ?_
                                            exact k_vret X E dL_act_389 (by show _ ≤ 606; omega) (by show _ ≤ 32202; omega) (h9.e hI_12 hK_12 (by omega) (by omega) (by omega))
                                          · skip
                                            refine k_astore X [(5, .ref a9), (4, .int (nI b18)), (3, .int (nI b6)), (0, .ref (A 0)), (1, .int x), (2, .int 17)] dL_act_390 (by decide) rfl ?_
                                            exact k_vret X E dL_act_392 (by show _ ≤ 606; omega) (by show _ ≤ 32202; omega) (h9.e hI_12 hK_12 (by omega) (by omega) (by omega))
                                        · skip
                                          obtain ⟨hI_198, hx_198⟩ := h_359_194
                                          have hK_198 := (hK_12).tr hx_198
                                          refine k_pop X dL_act_362 rfl ?_
                                          refine k_goto (tgt := 381) X dL_act_363 (by decide) ?_
                                          refine k_goto (tgt := 393) X dL_act_381 (by decide) ?_
                                          exact k_vret X E dL_act_393 (by show _ ≤ 606; omega) (by show _ ≤ 32202; omega) (h9.e hI_198 hK_198 (by omega) (by omega) (by omega))
                                    · skip
                                      refine k_tableOut (tgt := 366) X dL_act_24 (ktsw (N := 17) (by omega) (fun k hk => by
                                        rcases (show k = 0 ∨ k = 1 ∨ k = 2 ∨ k = 3 ∨ k = 4 ∨ k = 5 ∨ k = 6 ∨ k = 7 ∨ k = 8 ∨ k = 9 ∨ k = 10 ∨ k = 11 ∨ k = 12 ∨ k = 13 ∨ k = 14 ∨ k = 15 ∨ k = 16 ∨ k = 17 by omega) with rfl | rfl | rfl | rfl | rfl | rfl | rfl | rfl | rfl | rfl | rfl | rfl | rfl | rfl | rfl | rfl | rfl | rfl
                                        · exact q_24_0
                                        · exact q_24_1
                                        · exact q_24_2
                                        · exact q_24_3
                                        · exact q_24_4
                                        · exact q_24_5
                                        · exact q_24_6
                                        · exact q_24_7
                                        · exact q_24_8
                                        · exact q_24_9
                                        · exact q_24_10
                                        · exact q_24_11
                                        · exact q_24_12
                                        · exact q_24_13
                                        · exact q_24_14
                                        · exact q_24_15
                                        · exact q_24_16
                                        · exact q_24_17)) (by decide) ?_
                                      refine k_aload_n X (q := 2) dL_act_366 rfl rfl ?_
                                      refine k_iconst X (v := 1) dL_act_367 (by decide) ?_
                                      refine k_iload_n X (q := 3) dL_act_368 rfl rfl ?_
                                      refine k_iconst X (v := 2) dL_act_369 (by decide) ?_
                                      refine k_ishr X dL_act_370 (fun v_370_199 ev_370_199 => ?_)
                                      refine k_bipush X (v := 9) dL_act_371 (by decide) ?_
                                      refine k_gotI X (vL_48 X (S := S_15_11) (c_L_below C.l C.e0 S_15_11 v_370_199 9 (by omega)) (As := [.int v_370_199, .int 9]) (rest := [.int 1, .ref (A 0)]) rfl rfl rfl rfl ⟨Nat.le_of_ble_eq_true rfl, Nat.le_of_ble_eq_true rfl⟩ (Nat.le_of_ble_eq_true rfl) ⟨(by show _ ≤ 606; omega), (by show _ ≤ 32202; omega)⟩ dL_act_373) (fun v_373_201 S_373_202 h_373_199 => ?_)
                                      obtain ⟨rfl, b373, hb373, ev_373_201⟩ := h_373_199
                                      subst ev_373_201
                                      refine k_iadd X dL_act_376 (fun v_376_203 ev_376_203 => ?_)
                                      have hv377 : v_376_203 = nI (1 + b373) := by rw [ev_376_203, show (1 : Int32) = nI 1 from rfl, nI_add]
                                      subst hv377
                                      refine k_xgotI X (k_runVX X Y.1 (S := S_15_11) (κ := 11) (n0 := 1) rfl (fun _ _ _ _ => rfl) (kGV qmL_114 qiX11_pass qeX11_pass qIX11 qcX11_pass) (by decide +kernel) (st_0 hI_12.st).1 (st_0 hI_12.st).2 (c_X11_pass C.l C.e0 S_15_11 A n cz _ _ _ hI_12 (1 + b373) dd (by omega) hdd (hK_12.2.1.trans hday) (by omega) hfl) (As := [.int (nI (1 + b373))]) (rest := []) rfl rfl rfl rfl ⟨Nat.le_of_ble_eq_true rfl, Nat.le_of_ble_eq_true rfl⟩ (Nat.le_of_ble_eq_true rfl) ⟨(by show _ ≤ 606; omega), (by show _ ≤ 32202; omega)⟩ dL_act_377) (fun E9 S9 hE9 hx9 => ?_) (fun v_377_205 S_377_206 h_377_203 => ?_)
                                      · subst hx9
                                        refine k_act X Y.1 hT hE9 ⟨by omega, by omega⟩ (fun a9 h9 hh9 => ?_)
                                        rcases hh9 with rfl | rfl | rfl
                                        · skip
                                          refine k_astore X [(5, .ref a9), (4, .int (nI b18)), (3, .int (nI b6)), (0, .ref (A 0)), (1, .int x), (2, .int (nI w))] dL_act_384 (by decide) rfl ?_
                                          exact k_vret X E dL_act_386 (by show _ ≤ 606; omega) (by show _ ≤ 32202; omega) (h9.e hI_12 hK_12 (by omega) (by omega) (by omega))
                                        · skip
                                          refine k_astore X [(5, .ref a9), (4, .int (nI b18)), (3, .int (nI b6)), (0, .ref (A 0)), (1, .int x), (2, .int (nI w))] dL_act_387 (by decide) rfl ?_
                                          exact k_vret X E dL_act_389 (by show _ ≤ 606; omega) (by show _ ≤ 32202; omega) (h9.e hI_12 hK_12 (by omega) (by omega) (by omega))
                                        · skip
                                          refine k_astore X [(5, .ref a9), (4, .int (nI b18)), (3, .int (nI b6)), (0, .ref (A 0)), (1, .int x), (2, .int (nI w))] dL_act_390 (by decide) rfl ?_
                                          exact k_vret X E dL_act_392 (by show _ ≤ 606; omega) (by show _ ≤ 32202; omega) (h9.e hI_12 hK_12 (by omega) (by omega) (by omega))
                                      · skip
                                        obtain ⟨hI_9, hday9, hp9, hr9⟩ := h_377_203
                                        refine k_pop X dL_act_380 rfl ?_
                                        refine k_goto (tgt := 393) X dL_act_381 (by decide) ?_
                                        exact k_vret X E dL_act_393 (by show _ ≤ 606; omega) (by show _ ≤ 32202; omega) (h9.p (d9 := (1 + b373)) (by omega) hI_9 hday9 hp9 (Int.le_trans hK_12.2.2.2.2 hr9) (by omega) (by omega) (by omega))
