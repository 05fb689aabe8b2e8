/-! THE LAW, OVER THE WORLD -/
def kS0 : kS := ([], fun _ => 0, fun _ => 0, fun _ => 0, fun _ _ => 0, fun _ _ => none)
theorem kT9.ke {e0 : Nat × Nat} {A : Nat → Nat} {n : Nat} {cz : Nat → Nat} {i dd : Nat} {S S9 : kS} (h : kT9 e0 A n cz i dd S) (hI : kI e0 A n cz (1932 * i + 230 * dd) (8 * i + 64 * dd) (300 * i + 240 * dd) S9) (hK : kKe A S S9) : kT9 e0 A n cz i dd S9 := ⟨hI, hK.2.1.trans h.2.1, h.2.2.1, h.2.2.2.ke h.1 hI hK⟩
theorem kT9.s {e0 : Nat × Nat} {A : Nat → Nat} {n : Nat} {cz : Nat → Nat} {S S9 : kS} (h0 : kI e0 A n cz 0 0 0 S) (hz : kZc A S) (hI : kI e0 A n cz 0 0 0 S9) (hK : kKe A S S9) : kT9 e0 A n cz 0 0 S9 :=
  ⟨hI.mono (by omega) (by omega) (by omega), hK.2.1.trans (hz.1.1.trans nI_0.symm), by omega, (kPr.no hz.1.2.2.2.2.2.2.2).ke h0 hI hK⟩
theorem kill_lt {x y : Int32} (h : y.toInt ≤ x.toInt) : ¬ x < y := fun z => by have := Int32.lt_iff_toInt_lt.mp z; omega
set_option maxHeartbeats 1000000 in
set_option maxRecDepth 20000 in
theorem law_walk {cK nK : Nat} (hcK : 90000 ≤ cK) (hnK : 3400000 ≤ nK) (C : kC) (Zs : kXs9) (X : kX C RL cL_law 6 ({ frames := 16, cells := cK, slots := nK, locals := 640 } : Room)) (Y : kLC Zs C) (hfl : C.l.stackTraces = false) (hL : Zs.2.1 ≤ 260) (hend : ∀ (S : kS) (k n : Nat) (lv : List (Nat × Value)), k ≤ cK → n ≤ nK → kG C 6 S k n 203 lv [.int 1]) : kG C 6 kS0 0 0 0 [(0, .ref Zs.1)] [] := by
  refine nL_10 X 0 (by show _ ≤ cK; omega) (by show _ ≤ nK; omega) dL_law_0 (fun a_0_1 fa_0_1 => ?_)
  have hq9 : kOj (kS0.nw a_0_1 11 0 0) a_0_1 11 0 0 := ⟨nw_self (S := kS0) (κ := 11) (ρ := 0) (n := 0), nw_Oq (S := kS0) (κ := 11) (ρ := 0) (n := 0), nw_Nq (S := kS0) (κ := 11) (ρ := 0) (n := 0)⟩
  have hO9 : ∀ z, z ∈ (kS0.nw a_0_1 11 0 0).L → (kS0.nw a_0_1 11 0 0).O z = 0 := fun z hz => by
    rcases nwL'.mp hz with e | e
    · exact absurd e List.not_mem_nil
    · rw [nwO', if_pos e]
  refine k_dup X dL_law_3 rfl ?_
  refine k_gotV X (vL_44 X (S := (kS0.nw a_0_1 11 0 0)) (c_X11_init C.l C.e0 (kS0.nw a_0_1 11 0 0) a_0_1 hq9 hO9) (As := []) (rest := [.ref a_0_1]) rfl rfl rfl rfl ⟨Nat.le_of_ble_eq_true rfl, Nat.le_of_ble_eq_true rfl⟩ (Nat.le_of_ble_eq_true rfl) ⟨(by show _ ≤ cK; omega), (by show _ ≤ nK; omega)⟩ dL_law_4) (fun S_4_3 h_4_1 => ?_)
  obtain ⟨A, hA0, hZ⟩ := h_4_1
  subst hA0
  refine k_astore_n X [(1, .ref (A 0)), (0, .ref Zs.1)] dL_law_7 rfl (by decide) rfl ?_
  refine k_aload_n X (q := 0) dL_law_8 rfl rfl ?_
  refine k_bipush X (v := 20) dL_law_9 (by decide) ?_
  refine k_aload_n X (q := 1) dL_law_11 rfl rfl ?_
  refine k_iconst X (v := 1) dL_law_12 (by decide) ?_
  refine k_gotI X (k_runSL X Y (S := S_4_3) (n0 := 2) (kGS qmL_45 qsL_cell qIL qcL_cell) (by decide +kernel) (c_L_cell C.l C.e0 Zs S_4_3 1 (by omega) hL) (As := [.ref Zs.1, .int 1]) (rest := [.int 20, .ref (A 0)]) rfl rfl rfl rfl ⟨Nat.le_of_ble_eq_true rfl, Nat.le_of_ble_eq_true rfl⟩ (Nat.le_of_ble_eq_true rfl) ⟨(by show _ ≤ cK; omega), (by show _ ≤ nK; omega)⟩ dL_law_13) (fun v_13_5 S_13_6 h_13_3 => ?_)
  subst h_13_3
  refine k_bipush X (v := 21) dL_law_16 (by decide) ?_
  refine k_gotI X (vL_48 X (S := S_4_3) (c_L_below C.l C.e0 S_4_3 v_13_5 21 (by omega)) (As := [.int v_13_5, .int 21]) (rest := [.int 20, .ref (A 0)]) rfl rfl rfl rfl ⟨Nat.le_of_ble_eq_true rfl, Nat.le_of_ble_eq_true rfl⟩ (Nat.le_of_ble_eq_true rfl) ⟨(by show _ ≤ cK; omega), (by show _ ≤ nK; omega)⟩ dL_law_18) (fun v_18_8 S_18_9 h_18_6 => ?_)
  obtain ⟨rfl, b18, hb18, ev_18_8⟩ := h_18_6
  subst ev_18_8
  refine k_iadd X dL_law_21 (fun v_21_10 ev_21_10 => ?_)
  have hv18 : v_21_10 = nI (20 + b18) := by rw [ev_21_10, show (20 : Int32) = nI 20 from rfl, nI_add]
  subst hv18
  refine k_aload_n X (q := 1) dL_law_22 rfl rfl ?_
  refine k_iconst X (v := 2) dL_law_23 (by decide) ?_
  refine k_gotI X (k_runSL X Y (S := S_4_3) (n0 := 2) (kGS qmL_45 qsL_cell qIL qcL_cell) (by decide +kernel) (c_L_cell C.l C.e0 Zs S_4_3 2 (by omega) hL) (As := [.ref Zs.1, .int 2]) (rest := [.int (nI (20 + b18)), .ref (A 0)]) rfl rfl rfl rfl ⟨Nat.le_of_ble_eq_true rfl, Nat.le_of_ble_eq_true rfl⟩ (Nat.le_of_ble_eq_true rfl) ⟨(by show _ ≤ cK; omega), (by show _ ≤ nK; omega)⟩ dL_law_24) (fun v_24_12 S_24_13 h_24_10 => ?_)
  subst h_24_10
  refine k_bipush X (v := 100) dL_law_27 (by decide) ?_
  refine k_gotI X (vL_48 X (S := S_4_3) (c_L_below C.l C.e0 S_4_3 v_24_12 100 (by omega)) (As := [.int v_24_12, .int 100]) (rest := [.int (nI (20 + b18)), .ref (A 0)]) rfl rfl rfl rfl ⟨Nat.le_of_ble_eq_true rfl, Nat.le_of_ble_eq_true rfl⟩ (Nat.le_of_ble_eq_true rfl) ⟨(by show _ ≤ cK; omega), (by show _ ≤ nK; omega)⟩ dL_law_29) (fun v_29_15 S_29_16 h_29_13 => ?_)
  obtain ⟨rfl, b29, hb29, ev_29_15⟩ := h_29_13
  subst ev_29_15
  refine k_gotI X (vL_51 X (S := S_4_3) ⟨(st_0 hZ.1).1, (st_0 hZ.1).2⟩ (c_X11_found C.l C.e0 S_4_3 A _ hZ (20 + b18) b29 (by omega) (by omega)) (As := [.int (nI (20 + b18)), .int (nI b29)]) (rest := []) rfl rfl rfl rfl ⟨Nat.le_of_ble_eq_true rfl, Nat.le_of_ble_eq_true rfl⟩ (Nat.le_of_ble_eq_true rfl) ⟨(by show _ ≤ cK; omega), (by show _ ≤ nK; omega)⟩ dL_law_32) (fun v_32_18 S_32_19 h_32_16 => ?_)
  obtain ⟨cz, hZ⟩ := h_32_16
  obtain ⟨n, hn9⟩ : ∃ z, z = (20 + b18) := ⟨_, rfl⟩
  rw [← hn9] at hZ
  have hn : 20 ≤ n ∧ n ≤ 40 := by omega
  have h := hZ.kI hn
  have hzc := hZ.2.2.2.2.2.2.2.2.2
  refine k_pop X dL_law_35 rfl ?_
  refine k_aload_n X (q := 0) dL_law_36 rfl rfl ?_
  refine k_iconst X (v := 1) dL_law_37 (by decide) ?_
  refine k_aload_n X (q := 1) dL_law_38 rfl rfl ?_
  refine k_iconst X (v := 3) dL_law_39 (by decide) ?_
  refine k_gotI X (k_runSL X Y (S := S_32_19) (n0 := 2) (kGS qmL_45 qsL_cell qIL qcL_cell) (by decide +kernel) (c_L_cell C.l C.e0 Zs S_32_19 3 (by omega) hL) (As := [.ref Zs.1, .int 3]) (rest := [.int 1, .ref (A 0)]) rfl rfl rfl rfl ⟨Nat.le_of_ble_eq_true rfl, Nat.le_of_ble_eq_true rfl⟩ (Nat.le_of_ble_eq_true rfl) ⟨(by show _ ≤ cK; omega), (by show _ ≤ nK; omega)⟩ dL_law_40) (fun v_40_21 S_40_22 h_40_19 => ?_)
  subst h_40_19
  refine k_bipush X (v := 60) dL_law_43 (by decide) ?_
  refine k_gotI X (vL_48 X (S := S_32_19) (c_L_below C.l C.e0 S_32_19 v_40_21 60 (by omega)) (As := [.int v_40_21, .int 60]) (rest := [.int 1, .ref (A 0)]) rfl rfl rfl rfl ⟨Nat.le_of_ble_eq_true rfl, Nat.le_of_ble_eq_true rfl⟩ (Nat.le_of_ble_eq_true rfl) ⟨(by show _ ≤ cK; omega), (by show _ ≤ nK; omega)⟩ dL_law_45) (fun v_45_24 S_45_25 h_45_22 => ?_)
  obtain ⟨rfl, b45, hb45, ev_45_24⟩ := h_45_22
  subst ev_45_24
  refine k_iadd X dL_law_48 (fun v_48_26 ev_48_26 => ?_)
  have hv45 : v_48_26 = nI (1 + b45) := by rw [ev_48_26, show (1 : Int32) = nI 1 from rfl, nI_add]
  subst hv45
  refine k_iconst X (v := 1) dL_law_49 (by decide) ?_
  refine k_aload_n X (q := 1) dL_law_50 rfl rfl ?_
  refine k_iconst X (v := 4) dL_law_51 (by decide) ?_
  refine k_gotI X (k_runSL X Y (S := S_32_19) (n0 := 2) (kGS qmL_45 qsL_cell qIL qcL_cell) (by decide +kernel) (c_L_cell C.l C.e0 Zs S_32_19 4 (by omega) hL) (As := [.ref Zs.1, .int 4]) (rest := [.int 1, .int (nI (1 + b45)), .ref (A 0)]) rfl rfl rfl rfl ⟨Nat.le_of_ble_eq_true rfl, Nat.le_of_ble_eq_true rfl⟩ (Nat.le_of_ble_eq_true rfl) ⟨(by show _ ≤ cK; omega), (by show _ ≤ nK; omega)⟩ dL_law_52) (fun v_52_28 S_52_29 h_52_26 => ?_)
  subst h_52_26
  refine k_bipush X (v := 99) dL_law_55 (by decide) ?_
  refine k_gotI X (vL_48 X (S := S_32_19) (c_L_below C.l C.e0 S_32_19 v_52_28 99 (by omega)) (As := [.int v_52_28, .int 99]) (rest := [.int 1, .int (nI (1 + b45)), .ref (A 0)]) rfl rfl rfl rfl ⟨Nat.le_of_ble_eq_true rfl, Nat.le_of_ble_eq_true rfl⟩ (Nat.le_of_ble_eq_true rfl) ⟨(by show _ ≤ cK; omega), (by show _ ≤ nK; omega)⟩ dL_law_57) (fun v_57_31 S_57_32 h_57_29 => ?_)
  obtain ⟨rfl, b57, hb57, ev_57_31⟩ := h_57_29
  subst ev_57_31
  refine k_iadd X dL_law_60 (fun v_60_33 ev_60_33 => ?_)
  have hv57 : v_60_33 = nI (1 + b57) := by rw [ev_60_33, show (1 : Int32) = nI 1 from rfl, nI_add]
  subst hv57
  refine k_gotI X (vL_54 X (S := S_32_19) ⟨(st_0 h.st).1, (st_0 h.st).2⟩ (c_X11_ally C.l C.e0 S_32_19 A n cz 0 0 0 h (1 + b45) (1 + b57) 0 (by omega) (by omega) (by omega) (hzc.2.2.2.2.1.trans nI_0.symm) (by omega)) (As := [.int (nI (1 + b45)), .int (nI (1 + b57))]) (rest := []) rfl rfl rfl rfl ⟨Nat.le_of_ble_eq_true rfl, Nat.le_of_ble_eq_true rfl⟩ (Nat.le_of_ble_eq_true rfl) ⟨(by show _ ≤ cK; omega), (by show _ ≤ nK; omega)⟩ dL_law_61) (fun v_61_35 S_61_36 h_61_33 => ?_)
  obtain ⟨hIa, hKa⟩ := h_61_33
  have hT0 := kT9.s h hzc hIa hKa
  refine k_pop X dL_law_64 rfl ?_
  refine k_iconst X (v := 0) dL_law_65 (by decide) ?_
  refine k_istore_n X [(2, .int 0), (1, .ref (A 0)), (0, .ref Zs.1)] dL_law_66 rfl (by decide) rfl ?_
  refine k_room (k' := 137 + 1100 * 0) (n' := 4330 + 46000 * 0) (by omega) (by omega) ?_
  have L_67 : ∀ (N : Nat) (i : Nat) (x : Int32) (Si : kS) (dd : Nat), 70 - i = N → x = nI i → (i ≤ 70 ∧ kT9 C.e0 A n cz i dd Si) → kG C 6 Si (137 + 1100 * i) (4330 + 46000 * i) 67 [(2, .int x), (1, .ref (A 0)), (0, .ref Zs.1)] [] := by
    intro N
    induction N using Nat.strongRecOn with
    | _ N ih =>
    intro i x Si dd hMs h67_0 h67_1
    subst h67_0
    obtain ⟨hin, h9⟩ := h67_1
    have hdd := h9.2.2.1
    have h := h9.1
    obtain ⟨L, hQ⟩ := h.ql
    have hn9 := h.n40
    refine k_iload_n X (q := 0) dL_law_67 rfl rfl ?_
    refine k_bipush X (v := 70) dL_law_68 (by decide) ?_
    refine k_icmp_ge (tgt := 202) X dL_law_70 (by decide) (fun c_70 => ?_) (fun c_70 => ?_)
    · skip
      refine k_iconst X (v := 1) dL_law_202 (by decide) ?_
      exact hend _ _ _ _ (by omega) (by omega)
    · skip
      have hlt : i < 70 := lt_of_nle (m := 70) c_70 (by omega)
      have h9b := h9.2.1
      refine k_aload_n X (q := 2) dL_law_73 rfl rfl ?_
      refine k_iload_n X (q := 0) dL_law_74 rfl rfl ?_
      refine k_bipush X (v := 16) dL_law_75 (by decide) ?_
      refine k_irem X dL_law_77 (by decide) (fun v_77_37 ev_77_37 => ?_)
      have hv78 : v_77_37 = nI (i % 16) := by rw [ev_77_37]; exact pk_rem (d := 16) (by omega) (by omega) (by omega)
      subst hv78
      refine k_gotI X (k_runSL X Y (S := Si) (n0 := 2) (kGS qmL_45 qsL_cell qIL qcL_cell) (by decide +kernel) (c_L_cell C.l C.e0 Zs Si (i % 16) (by omega) hL) (As := [.ref Zs.1, .int (nI (i % 16))]) (rest := []) rfl rfl rfl rfl ⟨Nat.le_of_ble_eq_true rfl, Nat.le_of_ble_eq_true rfl⟩ (Nat.le_of_ble_eq_true rfl) ⟨(by show _ ≤ cK; omega), (by show _ ≤ nK; omega)⟩ dL_law_78) (fun v_78_39 S_78_40 h_78_37 => ?_)
      subst h_78_37
      refine k_bipush X (v := 41) dL_law_81 (by decide) ?_
      refine k_iload_n X (q := 0) dL_law_83 rfl rfl ?_
      refine k_imul X dL_law_84 (fun v_84_41 ev_84_41 => ?_)
      refine k_iadd X dL_law_85 (fun v_85_42 ev_85_42 => ?_)
      refine k_istore_n X [(3, .int v_85_42), (2, .int (nI i)), (1, .ref (A 0)), (0, .ref Zs.1)] dL_law_86 rfl (by decide) rfl ?_
      refine k_aload_n X (q := 2) dL_law_87 rfl rfl ?_
      refine k_iconst X (v := 4) dL_law_88 (by decide) ?_
      refine k_gotI X (vL_9 X (S := Si) ⟨(st_0 h.st).1, (st_0 h.st).2⟩ (c_X11_city C.l C.e0 Si  A n cz _ _ _ h L hQ 4 (by omega) (by omega)) (As := [.int (nI 4)]) (rest := []) rfl rfl rfl rfl ⟨Nat.le_of_ble_eq_true rfl, Nat.le_of_ble_eq_true rfl⟩ (Nat.le_of_ble_eq_true rfl) ⟨(by show _ ≤ cK; omega), (by show _ ≤ nK; omega)⟩ dL_law_89) (fun v_89_44 S_89_45 h_89_42 => ?_)
      obtain ⟨hI_46, hx_46, hm_46⟩ := h_89_42
      have hK_46 := (kKe.rf).tr hx_46
      obtain ⟨hf_46, ev_89_44⟩ := hm_46
      have hQ_46 := hQ.fr h.st hf_46
      refine k_istore X [(4, .int v_89_44), (3, .int v_85_42), (2, .int (nI i)), (1, .ref (A 0)), (0, .ref Zs.1)] dL_law_92 (by decide) rfl ?_
      refine k_aload_n X (q := 3) dL_law_94 rfl rfl ?_
      refine k_iconst X (v := 0) dL_law_95 (by decide) ?_
      refine k_gotI X (vL_9 X (S := S_89_45) ⟨(st_0 hI_46.st).1, (st_0 hI_46.st).2⟩ (c_X11_city C.l C.e0 S_89_45  A n cz _ _ _ hI_46 L hQ_46 0 (by omega) (by omega)) (As := [.int (nI 0)]) (rest := []) rfl rfl rfl rfl ⟨Nat.le_of_ble_eq_true rfl, Nat.le_of_ble_eq_true rfl⟩ (Nat.le_of_ble_eq_true rfl) ⟨(by show _ ≤ cK; omega), (by show _ ≤ nK; omega)⟩ dL_law_96) (fun v_96_48 S_96_49 h_96_46 => ?_)
      obtain ⟨hI_50, hx_50, hm_50⟩ := h_96_46
      have hK_50 := (hK_46).tr hx_50
      obtain ⟨hg_50, ev_96_48⟩ := hm_50
      have hf_50 := hf_46.trR hg_50
      replace ev_96_48 := ev_96_48.trans (kQcity_v h hQ hf_46 _)
      have hQ_50 := hQ.fr h.st hf_50
      refine k_istore X [(5, .int v_96_48), (4, .int v_89_44), (3, .int v_85_42), (2, .int (nI i)), (1, .ref (A 0)), (0, .ref Zs.1)] dL_law_99 (by decide) rfl ?_
      refine k_aload_n X (q := 4) dL_law_101 rfl rfl ?_
      refine k_iload_n X (q := 2) dL_law_102 rfl rfl ?_
      refine k_iconst X (v := 2) dL_law_103 (by decide) ?_
      refine k_ishr X dL_law_104 (fun v_104_51 ev_104_51 => ?_)
      refine k_iload_n X (q := 2) dL_law_105 rfl rfl ?_
      refine k_bipush X (v := 20) dL_law_106 (by decide) ?_
      refine k_gotI X (vL_48 X (S := S_96_49) (c_L_below C.l C.e0 S_96_49 v_85_42 20 (by omega)) (As := [.int v_85_42, .int 20]) (rest := [.int v_104_51, .ref (A 0)]) rfl rfl rfl rfl ⟨Nat.le_of_ble_eq_true rfl, Nat.le_of_ble_eq_true rfl⟩ (Nat.le_of_ble_eq_true rfl) ⟨(by show _ ≤ cK; omega), (by show _ ≤ nK; omega)⟩ dL_law_108) (fun v_108_53 S_108_54 h_108_51 => ?_)
      obtain ⟨rfl, b108, hb108, ev_108_53⟩ := h_108_51
      subst ev_108_53
      have h9a := h9.ke hI_50 hK_50
      refine k_gotV X (k_runA X Y (S := S_96_49) (c_L_act C.l C.e0 Zs S_96_49 v_104_51 b108 A n cz i dd h9a (by omega) hfl) (As := [.ref (A 0), .int v_104_51, .int (nI b108)]) (rest := []) rfl rfl rfl rfl ⟨Nat.le_of_ble_eq_true rfl, Nat.le_of_ble_eq_true rfl⟩ (Nat.le_of_ble_eq_true rfl) ⟨(by show _ ≤ cK; omega), (by show _ ≤ nK; omega)⟩ dL_law_111) (fun S9 hp9 => ?_)
      obtain ⟨d2, hd2, h9, hr9⟩ := hp9
      have hdr9 := Int.le_trans hK_50.2.2.2.2 hr9
      have hd29 := h9.2.2.1
      have h := h9.1
      obtain ⟨L, hQ⟩ := h.ql
      refine k_aload_n X (q := 4) dL_law_114 rfl rfl ?_
      refine k_iconst X (v := 4) dL_law_115 (by decide) ?_
      refine k_gotI X (vL_9 X (S := S9) ⟨(st_0 h.st).1, (st_0 h.st).2⟩ (c_X11_city C.l C.e0 S9  A n cz _ _ _ h L hQ 4 (by omega) (by omega)) (As := [.int (nI 4)]) (rest := []) rfl rfl rfl rfl ⟨Nat.le_of_ble_eq_true rfl, Nat.le_of_ble_eq_true rfl⟩ (Nat.le_of_ble_eq_true rfl) ⟨(by show _ ≤ cK; omega), (by show _ ≤ nK; omega)⟩ dL_law_116) (fun v_116_56 S_116_57 h_116_54 => ?_)
      obtain ⟨hI_58, hx_58, hm_58⟩ := h_116_54
      have hK_58 := (kKe.rf).tr hx_58
      obtain ⟨hf_58, ev_116_56⟩ := hm_58
      have hQ_58 := hQ.fr h.st hf_58
      refine k_iload X (q := 1) dL_law_119 rfl ?_
      refine k_icmp_lt (tgt := 176) X dL_law_121 (by decide) (fun c_121 => ?_) (fun c_121 => ?_)
      · skip
        exact absurd c_121 (kill_lt (by rw [ev_116_56, ev_89_44]; exact hdr9))
      · skip
        refine k_aload_n X (q := 4) dL_law_124 rfl rfl ?_
        refine k_iconst X (v := 0) dL_law_125 (by decide) ?_
        refine k_gotI X (vL_9 X (S := S_116_57) ⟨(st_0 hI_58.st).1, (st_0 hI_58.st).2⟩ (c_X11_city C.l C.e0 S_116_57  A n cz _ _ _ hI_58 L hQ_58 0 (by omega) (by omega)) (As := [.int (nI 0)]) (rest := []) rfl rfl rfl rfl ⟨Nat.le_of_ble_eq_true rfl, Nat.le_of_ble_eq_true rfl⟩ (Nat.le_of_ble_eq_true rfl) ⟨(by show _ ≤ cK; omega), (by show _ ≤ nK; omega)⟩ dL_law_126) (fun v_126_60 S_126_61 h_126_58 => ?_)
        obtain ⟨hI_62, hx_62, hm_62⟩ := h_126_58
        have hK_62 := (hK_58).tr hx_62
        obtain ⟨hg_62, ev_126_60⟩ := hm_62
        have hf_62 := hf_58.trR hg_62
        replace ev_126_60 := ev_126_60.trans (kQcity_v h hQ hf_58 _)
        have hQ_62 := hQ.fr h.st hf_62
        refine k_iload X (q := 0) dL_law_129 rfl ?_
        refine k_icmp_lt (tgt := 176) X dL_law_131 (by decide) (fun c_131 => ?_) (fun c_131 => ?_)
        · skip
          exact absurd c_131 (by rw [ev_126_60, ev_96_48]; show ¬ S9.I (A 1) 0 < Si.I (A 1) 0; rw [h9.2.1, h9b]; exact nI_nlt hd2 (by omega))
        · skip
          refine k_aload_n X (q := 4) dL_law_134 rfl rfl ?_
          refine k_iconst X (v := 0) dL_law_135 (by decide) ?_
          refine k_gotI X (vL_61 X (S := S_126_61) ⟨(st_0 hI_62.st).1, (st_0 hI_62.st).2⟩ (c_X11_money C.l C.e0 S_126_61   A n cz _ _ _ hI_62 L hQ_62 0 (by omega)) (As := [.int (nI 0)]) (rest := []) rfl rfl rfl rfl ⟨Nat.le_of_ble_eq_true rfl, Nat.le_of_ble_eq_true rfl⟩ (Nat.le_of_ble_eq_true rfl) ⟨(by show _ ≤ cK; omega), (by show _ ≤ nK; omega)⟩ dL_law_136) (fun v_136_64 S_136_65 h_136_62 => ?_)
          obtain ⟨rfl, ev_136_64⟩ := h_136_62
          replace ev_136_64 := ev_136_64.trans (kQmoney_v h hf_62 _)
          refine k_sipush X (v := 300) dL_law_139 (by decide) ?_
          refine k_aload_n X (q := 4) dL_law_142 rfl rfl ?_
          refine k_bipush X (v := 7) dL_law_143 (by decide) ?_
          refine k_gotI X (vL_61 X (S := S_126_61) ⟨(st_0 hI_62.st).1, (st_0 hI_62.st).2⟩ (c_X11_money C.l C.e0 S_126_61   A n cz _ _ _ hI_62 L hQ_62 7 (by omega)) (As := [.int (nI 7)]) (rest := [.int 300, .int v_136_64]) rfl rfl rfl rfl ⟨Nat.le_of_ble_eq_true rfl, Nat.le_of_ble_eq_true rfl⟩ (Nat.le_of_ble_eq_true rfl) ⟨(by show _ ≤ cK; omega), (by show _ ≤ nK; omega)⟩ dL_law_145) (fun v_145_67 S_145_68 h_145_65 => ?_)
          obtain ⟨rfl, ev_145_67⟩ := h_145_65
          replace ev_145_67 := ev_145_67.trans (kQmoney_v h hf_62 _)
          refine k_iadd X dL_law_148 (fun v_148_69 ev_148_69 => ?_)
          refine k_aload_n X (q := 4) dL_law_149 rfl rfl ?_
          refine k_bipush X (v := 8) dL_law_150 (by decide) ?_
          refine k_gotI X (vL_61 X (S := S_126_61) ⟨(st_0 hI_62.st).1, (st_0 hI_62.st).2⟩ (c_X11_money C.l C.e0 S_126_61   A n cz _ _ _ hI_62 L hQ_62 8 (by omega)) (As := [.int (nI 8)]) (rest := [.int v_148_69, .int v_136_64]) rfl rfl rfl rfl ⟨Nat.le_of_ble_eq_true rfl, Nat.le_of_ble_eq_true rfl⟩ (Nat.le_of_ble_eq_true rfl) ⟨(by show _ ≤ cK; omega), (by show _ ≤ nK; omega)⟩ dL_law_152) (fun v_152_71 S_152_72 h_152_69 => ?_)
          obtain ⟨rfl, ev_152_71⟩ := h_152_69
          replace ev_152_71 := ev_152_71.trans (kQmoney_v h hf_62 _)
          refine k_isub X dL_law_155 (fun v_155_73 ev_155_73 => ?_)
          refine k_icmp_ne (tgt := 176) X dL_law_156 (by decide) (fun c_156 => ?_) (fun c_156 => ?_)
          · skip
            exact absurd (by rw [ev_136_64, ev_155_73, ev_148_69, ev_145_67, ev_152_71]; exact h.snd1 (by omega)) c_156
          · skip
            refine k_aload_n X (q := 4) dL_law_159 rfl rfl ?_
            refine k_iconst X (v := 0) dL_law_160 (by decide) ?_
            refine k_gotI X (vL_61 X (S := S_126_61) ⟨(st_0 hI_62.st).1, (st_0 hI_62.st).2⟩ (c_X11_money C.l C.e0 S_126_61   A n cz _ _ _ hI_62 L hQ_62 0 (by omega)) (As := [.int (nI 0)]) (rest := []) rfl rfl rfl rfl ⟨Nat.le_of_ble_eq_true rfl, Nat.le_of_ble_eq_true rfl⟩ (Nat.le_of_ble_eq_true rfl) ⟨(by show _ ≤ cK; omega), (by show _ ≤ nK; omega)⟩ dL_law_161) (fun v_161_75 S_161_76 h_161_73 => ?_)
            obtain ⟨rfl, ev_161_75⟩ := h_161_73
            replace ev_161_75 := ev_161_75.trans (kQmoney_v h hf_62 _)
            refine k_if_lt (tgt := 176) X dL_law_164 (by decide) (fun c_164 => ?_) (fun c_164 => ?_)
            · skip
              exact absurd c_164 (by rw [ev_161_75]; exact i0_nlt h.my.2.1)
            · skip
              refine k_aload_n X (q := 4) dL_law_167 rfl rfl ?_
              refine k_bipush X (v := 7) dL_law_168 (by decide) ?_
              refine k_gotI X (vL_9 X (S := S_126_61) ⟨(st_0 hI_62.st).1, (st_0 hI_62.st).2⟩ (c_X11_city C.l C.e0 S_126_61  A n cz _ _ _ hI_62 L hQ_62 7 (by omega) (by omega)) (As := [.int (nI 7)]) (rest := []) rfl rfl rfl rfl ⟨Nat.le_of_ble_eq_true rfl, Nat.le_of_ble_eq_true rfl⟩ (Nat.le_of_ble_eq_true rfl) ⟨(by show _ ≤ cK; omega), (by show _ ≤ nK; omega)⟩ dL_law_170) (fun v_170_78 S_170_79 h_170_76 => ?_)
              obtain ⟨hI_80, hx_80, hm_80⟩ := h_170_76
              have hK_80 := (hK_62).tr hx_80
              obtain ⟨hg_80, ev_170_78⟩ := hm_80
              have hf_80 := hf_62.trR hg_80
              replace ev_170_78 := ev_170_78.trans (kQcity_v h hQ hf_62 _)
              have hQ_80 := hQ.fr h.st hf_80
              refine k_if_ge (tgt := 178) X dL_law_173 (by decide) (fun c_173 => ?_) (fun c_173 => ?_)
              · skip
                refine k_iload_n X (q := 3) dL_law_178 rfl rfl ?_
                refine k_bipush X (v := 7) dL_law_179 (by decide) ?_
                refine k_irem X dL_law_181 (by decide) (fun v_181_81 ev_181_81 => ?_)
                refine k_bipush X (v := 6) dL_law_182 (by decide) ?_
                refine k_icmp_ne (tgt := 196) X dL_law_184 (by decide) (fun c_184 => ?_) (fun c_184 => ?_)
                · skip
                  obtain ⟨v_196_82, ev_196_82⟩ : ∃ z : Int32, z = (nI i) + 1 := ⟨_, rfl⟩
                  refine k_iinc X (q := 3) (v := v_196_82) [(2, .int v_196_82), (5, .int v_96_48), (4, .int v_89_44), (3, .int v_85_42), (1, .ref (A 0)), (0, .ref Zs.1)] dL_law_196 rfl (by rw [ev_196_82]; rfl) (by decide) rfl ?_
                  refine k_goto (tgt := 67) X dL_law_199 (by decide) ?_
                  refine k_lv [0, 4, 5] _ rfl ?_
                  refine k_room (k' := 137 + 1100 * (i + 1)) (n' := 4330 + 46000 * (i + 1)) (by omega) (by omega) ?_
                  exact ih (70 - (i + 1)) (by omega) (i + 1) _ _ _ rfl (by rw [ev_196_82, nI_1]) ⟨by omega, h9.ke hI_80 hK_80⟩
                · skip
                  refine k_aload_n X (q := 4) dL_law_187 rfl rfl ?_
                  refine k_gotI X (k_runSL X Y (S := S_170_79) (n0 := 1) (kGS qmL_64 qsL_isAsked qIL qcL_isAsked) (by decide +kernel) (c_L_isAsked C.l C.e0 Zs S_170_79 A n cz _ _ _ hI_80 (h9.2.2.2.ke h hI_80 hK_80) (by omega)) (As := [.ref (A 0)]) (rest := []) rfl rfl rfl rfl ⟨Nat.le_of_ble_eq_true rfl, Nat.le_of_ble_eq_true rfl⟩ (Nat.le_of_ble_eq_true rfl) ⟨(by show _ ≤ cK; omega), (by show _ ≤ nK; omega)⟩ dL_law_188) (fun v_188_84 S_188_85 h_188_82 => ?_)
                  obtain ⟨hI_85, hx_85, ev_188_84⟩ := h_188_82
                  have hK_85 := (hK_80).tr hx_85
                  rw [ev_188_84]
                  refine k_if_ne (tgt := 196) X dL_law_191 (by decide) (fun c_191 => ?_) (fun c_191 => ?_)
                  · skip
                    obtain ⟨v_196_87, ev_196_87⟩ : ∃ z : Int32, z = (nI i) + 1 := ⟨_, rfl⟩
                    refine k_iinc X (q := 3) (v := v_196_87) [(2, .int v_196_87), (5, .int v_96_48), (4, .int v_89_44), (3, .int v_85_42), (1, .ref (A 0)), (0, .ref Zs.1)] dL_law_196 rfl (by rw [ev_196_87]; rfl) (by decide) rfl ?_
                    refine k_goto (tgt := 67) X dL_law_199 (by decide) ?_
                    refine k_lv [0, 4, 5] _ rfl ?_
                    refine k_room (k' := 137 + 1100 * (i + 1)) (n' := 4330 + 46000 * (i + 1)) (by omega) (by omega) ?_
                    exact ih (70 - (i + 1)) (by omega) (i + 1) _ _ _ rfl (by rw [ev_196_87, nI_1]) ⟨by omega, h9.ke hI_85 hK_85⟩
                  · skip
                    exact absurd c_191 (by decide)
              · skip
                exact absurd (by rw [ev_170_78]; exact i0_le h.ms.2.1.1) c_173
  refine k_lv [0, 1, 2] _ rfl ?_
  exact L_67 _ 0 0 _ 0 rfl nI_0.symm ⟨by omega, hT0⟩
