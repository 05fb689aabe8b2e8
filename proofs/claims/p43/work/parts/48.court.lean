section KCO
variable {e0 : Nat × Nat} {A : Nat → Nat} {n : Nat} {cz : Nat → Nat} {T G E : Nat} {S S' : kS}
theorem kI.sta (h : kI e0 A n cz T G E S) {i : Nat} (hi : i < n) (hq : ¬ (S.I (cz i) 6 = 3 ∨ S.I (cz i) 6 = 4 ∨ S.I (cz i) 6 = 5)) : S.I (cz i) 6 = 1 ∨ S.I (cz i) 6 = 2 := by
  obtain ⟨⟨s, h1, h2, h3⟩, -⟩ := h.ci hi
  rcases (show s = 1 ∨ s = 2 ∨ s = 3 ∨ s = 4 by omega) with rfl | rfl | rfl | rfl
  · exact Or.inl h3
  · exact Or.inr h3
  · exact absurd (Or.inl h3) hq
  · exact absurd (Or.inr (Or.inl h3)) hq
theorem kLs.pos {a κ m : Nat} {xs : Nat → Nat} (h : kLs e0 S a κ m xs) (h2 : kb (decide (S.I a 2 = 0)) = 0) : 0 < m := by
  rcases Nat.eq_zero_or_pos m with g | g
  · have h5 := h.2.1
    rw [g, nI_0] at h5
    simp [kb, h5] at h2
  · exact g
theorem no15 {b : Nat} (h : S.O b = 202) : ¬ kRo S 15 b := fun z => by
  unfold kRo at z
  omega
theorem no15' {b : Nat} (h : S.O b = 201 ∨ S.O b = 202) : ¬ kRo S 15 b := fun z => by
  unfold kRo at z
  omega
theorem va_up_in {m v : Nat} {xs : Nat → Nat} {Q : Nat → Prop} (h : ∀ t, t < m → Q (xs t)) (hv : Q v) : ∀ t, t < m + 1 → Q (va_up xs m v t) := fun t ht => by
  unfold va_up
  by_cases e : t = m
  · rw [if_pos e]; exact hv
  · rw [if_neg e]; exact h t (by omega)
end KCO
set_option maxHeartbeats 1000000 in
set_option maxRecDepth 20000 in
theorem c_X4_sit (l : Launch) (e0 : Nat × Nat) (S : kS)  (A : Nat → Nat) (n : Nat) (cz : Nat → Nat) (T G Z : Nat) (h : kI e0 A n cz T G Z S)  (hb : T + 1288 ≤ 900000 ∧ G + 8 ≤ 60000 ∧ Z + 0 ≤ 150000) : kM l e0 yX4_sit cX4_sit 6 (Option.some Jvm.ClassFile.FieldType.int) ({ frames := 11, cells := 384, slots := 20480, locals := 286 } : Room) 384 20480 [.ref (A 3)] S (kQi (fun v S9 => kI e0 A n cz (T + 1288) (G + 8) (Z + 0) S9 ∧ kKe A S S9)) := by
  refine kMetE (by decide +kernel) (Nat.le_of_ble_eq_true rfl) (fun C he hl X E hm => ?_)
  have X : kX C RX4 cX4_sit 6 ({ frames := 11, cells := 384, slots := 20480, locals := 286 } : Room) := X
  subst he hl
  show kG C 6 S 0 0 0 [(0, .ref (A 3))] []
  have hn := h.n40
  obtain ⟨m, xs1, hL1, hm8, -⟩ := h.sl
  refine k_aload_n X (q := 0) dX4_sit_0 rfl rfl ?_
  refine k_aload_n X (q := 0) dX4_sit_1 rfl rfl ?_
  refine gX4_40s X (S := S) (st_3 h.st).1 (st_3 h.st).2 (sr_3_0 h.st) dX4_sit_2 ?_
  refine gX4_179 X (S := S) (st_1 h.st).1 (st_1 h.st).2 dX4_sit_5 (fun v_5_1 ev_5_1 => ?_)
  refine pX4_37 X (S := S) (st_3 h.st).1 (st_3 h.st).2 dX4_sit_8 ?_
  have hLk_2 := (hL1).uI (b := (A 3)) (j := 8) (v := v_5_1) (κb := 4) ⟨(st_3 h.st).1, (st_3 h.st).2⟩ (by decide)
  obtain ⟨hI_3, hx_3⟩ := (⟨h.fI (i := 8) (v := v_5_1) (so_3 h.st) (by unfold pSM; omega) (by unfold pVM pCi pHo pCh pLe pMy pMs pOf; omega) (by unfold pLu; omega), h.fIk (i := 8) (v := v_5_1) (so_3 h.st) (by unfold pKe; omega)⟩ : _ ∧ _)
  have hK_3 := (kKe.rf).tr hx_3
  refine k_bipush X (v := 60) dX4_sit_11 (by decide) ?_
  refine k_istore_n X [(1, .int 60), (0, .ref (A 3))] dX4_sit_13 rfl (by decide) rfl ?_
  refine k_iconst X (v := 0) dX4_sit_14 (by decide) ?_
  refine k_istore_n X [(2, .int 0), (1, .int 60), (0, .ref (A 3))] dX4_sit_15 rfl (by decide) rfl ?_
  refine k_aload_n X (q := 2) dX4_sit_16 rfl rfl ?_
  refine gX4_12s X (S := (S.uI (A 3) 8 v_5_1)) (st_3 hI_3.st).1 (st_3 hI_3.st).2 (sr_3_1 hI_3.st) dX4_sit_17 ?_
  refine k_gotI X (vX4_48 X (S := (S.uI (A 3) 8 v_5_1)) ⟨(st_15 hI_3.st).1, (st_15 hI_3.st).2⟩ (c_Jx4a65c_size_8abf5 C.l C.e0 (S.uI (A 3) 8 v_5_1) (A 15) (st_15 hI_3.st)) (As := []) (rest := []) rfl rfl rfl rfl ⟨Nat.le_of_ble_eq_true rfl, Nat.le_of_ble_eq_true rfl⟩ (Nat.le_of_ble_eq_true rfl) ⟨(by show _ ≤ 384; omega), (by show _ ≤ 20480; omega)⟩ dX4_sit_20) (fun v_20_5 S_20_6 h_20_3 => ?_)
  obtain ⟨rfl, ev_20_5⟩ := h_20_3
  have hz_v_20_5 : nI m = v_20_5 := by rw [ev_20_5]; exact (hLk_2).2.1.symm
  subst hz_v_20_5
  refine k_istore_n X [(3, .int (nI m)), (2, .int 0), (1, .int 60), (0, .ref (A 3))] dX4_sit_23 rfl (by decide) rfl ?_
  refine k_iconst X (v := 0) dX4_sit_24 (by decide) ?_
  refine k_istore X [(4, .int 0), (3, .int (nI m)), (2, .int 0), (1, .int 60), (0, .ref (A 3))] dX4_sit_25 (by decide) rfl ?_
  have L_27 : ∀ (N : Nat) (i : Nat) (x y w9 : Int32) (Si : kS), m - i = N → x = nI i → (i ≤ m ∧ kI C.e0 A n cz (T + 161 * i) (G + i) Z Si ∧ kKe A S Si) → kG C 6 Si (48 * i) (2560 * i) 27 [(4, .int x), (3, .int (nI m)), (2, .int w9), (1, .int y), (0, .ref (A 3))] [] := by
    intro N
    induction N using Nat.strongRecOn with
    | _ N ih =>
    intro i x y w9 Si hMs h27_0 h27_1
    subst h27_0
    obtain ⟨him, hIi, hKi⟩ := h27_1
    refine k_iload X (q := 0) dX4_sit_27 rfl ?_
    refine k_iload_n X (q := 1) dX4_sit_29 rfl rfl ?_
    refine k_icmp_ge (tgt := 130) X dX4_sit_30 (by decide) (fun c_30 => ?_) (fun c_30 => ?_)
    · skip
      refine k_iload_n X (q := 2) dX4_sit_130 rfl rfl ?_
      exact k_iret X E dX4_sit_131 (by show _ ≤ 384; omega) (by show _ ≤ 20480; omega) (⟨hIi.mono (by omega) (by omega) (by omega), hKi⟩)
    · skip
      have hlt : i < m := lt_of_nle c_30 (by omega)
      obtain ⟨mi, xs, hLs, hmi8, hxs⟩ := hIi.sl
      obtain ⟨cc, hLc⟩ := hLs.c
      refine k_aload_n X (q := 4) dX4_sit_33 rfl rfl ?_
      refine gX4_12s X (S := Si) (st_3 hIi.st).1 (st_3 hIi.st).2 (sr_3_1 hIi.st) dX4_sit_34 ?_
      refine k_gotI X (vX4_182 X (S := Si) ⟨(st_15 hIi.st).1, (st_15 hIi.st).2⟩ (c_Jx4a65c_isEmpty_aae02 C.l C.e0 Si (A 15) (st_15 hIi.st)) (As := []) (rest := []) rfl rfl rfl rfl ⟨Nat.le_of_ble_eq_true rfl, Nat.le_of_ble_eq_true rfl⟩ (Nat.le_of_ble_eq_true rfl) ⟨(by show _ ≤ 384; omega), (by show _ ≤ 20480; omega)⟩ dX4_sit_37) (fun v_37_8 S_37_9 h_37_6 => ?_)
      obtain ⟨rfl, ev_37_8⟩ := h_37_6
      refine k_if_ne (tgt := 130) X dX4_sit_40 (by decide) (fun c_40 => ?_) (fun c_40 => ?_)
      · skip
        rw [ev_37_8] at c_40
        refine k_iload_n X (q := 2) dX4_sit_130 rfl rfl ?_
        exact k_iret X E dX4_sit_131 (by show _ ≤ 384; omega) (by show _ ≤ 20480; omega) (⟨hIi.mono (by omega) (by omega) (by omega), hKi⟩)
      · skip
        rw [ev_37_8] at c_40
        have hmi0 := hLs.pos c_40
        refine k_aload_n X (q := 4) dX4_sit_43 rfl rfl ?_
        refine gX4_12s X (S := Si) (st_3 hIi.st).1 (st_3 hIi.st).2 (sr_3_1 hIi.st) dX4_sit_44 ?_
        refine k_iconst X (v := 0) dX4_sit_47 (by decide) ?_
        show kG C 6 Si ((48 * i) + 0) ((2560 * i) + 0) 48 [(4, .int (nI i)), (3, .int (nI m)), (2, .int w9), (1, .int y), (0, .ref (A 3))] [.int (nI 0), .ref (A 15)]
        refine k_gotQ X (vX4_52 X (S := Si) ⟨(st_15 hIi.st).1, (st_15 hIi.st).2⟩ (c_Jx4a65c_get_915e3 C.l C.e0 Si (A 15) 10 mi 0 xs (hLs) hmi0) (As := [.int (nI 0)]) (rest := []) rfl rfl rfl rfl ⟨Nat.le_of_ble_eq_true rfl, Nat.le_of_ble_eq_true rfl⟩ (Nat.le_of_ble_eq_true rfl) ⟨(by show _ ≤ 384; omega), (by show _ ≤ 20480; omega)⟩ dX4_sit_48) (fun r_48_11 S_48_12 h_48_9 => ?_)
        obtain ⟨rfl, er_48_11⟩ := h_48_9
        subst er_48_11
        refine tX4_56 X (S := Si) ⟨(kLs.el (hLs) hmi0).1, (kLs.el (hLs) hmi0).2⟩ dX4_sit_51 ?_
        refine k_astore X [(5, .ref (xs 0)), (4, .int (nI i)), (3, .int (nI m)), (2, .int w9), (1, .int y), (0, .ref (A 3))] dX4_sit_54 (by decide) rfl ?_
        obtain ⟨a, b, t, hu, ha, hb9, hab⟩ := kSu.sv (hxs 0 hmi0)
        refine k_aload X (q := 0) dX4_sit_56 rfl ?_
        refine k_gotI X (vX4_185 X (S := Si) ⟨hu.1.1, hu.1.2⟩ (c_X10_isMoot C.l C.e0 Si (xs 0) n cz a b _ _ hu ha hb9 hab (hIi.at ha) (hIi.at hb9)) (As := []) (rest := []) rfl rfl rfl rfl ⟨Nat.le_of_ble_eq_true rfl, Nat.le_of_ble_eq_true rfl⟩ (Nat.le_of_ble_eq_true rfl) ⟨(by show _ ≤ 384; omega), (by show _ ≤ 20480; omega)⟩ dX4_sit_58) (fun v_58_14 S_58_15 h_58_12 => ?_)
        obtain ⟨rfl, hmoot⟩ := h_58_12
        refine k_if_eq (tgt := 86) X dX4_sit_61 (by decide) (fun c_61 => ?_) (fun c_61 => ?_)
        · skip
          obtain ⟨q1, q2⟩ := hmoot c_61
          have hsa := hIi.sta ha q1
          have hsb := hIi.sta hb9 q2
          refine k_aload X (q := 0) dX4_sit_86 rfl ?_
          refine k_gotI X (vX4_188 X (S := Si) ⟨hu.1.1, hu.1.2⟩ (c_X10_water C.l C.e0 Si (xs 0)  ⟨hu.1.1, hu.1.2⟩) (As := []) (rest := []) rfl rfl rfl rfl ⟨Nat.le_of_ble_eq_true rfl, Nat.le_of_ble_eq_true rfl⟩ (Nat.le_of_ble_eq_true rfl) ⟨(by show _ ≤ 384; omega), (by show _ ≤ 20480; omega)⟩ dX4_sit_88) (fun v_88_17 S_88_18 h_88_15 => ?_)
          obtain ⟨rfl, ev_88_17⟩ := h_88_15
          refine k_iload_n X (q := 4) dX4_sit_91 rfl rfl ?_
          refine k_icmp_le (tgt := 98) X dX4_sit_92 (by decide) (fun c_92 => ?_) (fun c_92 => ?_)
          · skip
            refine k_iload_n X (q := 4) dX4_sit_98 rfl rfl ?_
            refine k_aload X (q := 0) dX4_sit_99 rfl ?_
            refine k_gotI X (vX4_188 X (S := Si) ⟨hu.1.1, hu.1.2⟩ (c_X10_water C.l C.e0 Si (xs 0)  ⟨hu.1.1, hu.1.2⟩) (As := []) (rest := [.int y]) rfl rfl rfl rfl ⟨Nat.le_of_ble_eq_true rfl, Nat.le_of_ble_eq_true rfl⟩ (Nat.le_of_ble_eq_true rfl) ⟨(by show _ ≤ 384; omega), (by show _ ≤ 20480; omega)⟩ dX4_sit_101) (fun v_101_20 S_101_21 h_101_18 => ?_)
            obtain ⟨rfl, ev_101_20⟩ := h_101_18
            refine k_isub X dX4_sit_104 (fun v_104_22 ev_104_22 => ?_)
            refine k_istore_n X [(1, .int v_104_22), (5, .ref (xs 0)), (4, .int (nI i)), (3, .int (nI m)), (2, .int w9), (0, .ref (A 3))] dX4_sit_105 rfl (by decide) rfl ?_
            refine k_aload_n X (q := 5) dX4_sit_106 rfl rfl ?_
            refine gX4_12s X (S := Si) (st_3 hIi.st).1 (st_3 hIi.st).2 (sr_3_1 hIi.st) dX4_sit_107 ?_
            refine k_iconst X (v := 0) dX4_sit_110 (by decide) ?_
            show kG C 6 Si ((48 * i) + 0 + 0 + 0 + 0 + 0) ((2560 * i) + 0 + 0 + 0 + 0 + 0) 111 [(1, .int v_104_22), (5, .ref (xs 0)), (4, .int (nI i)), (3, .int (nI m)), (2, .int w9), (0, .ref (A 3))] [.int (nI 0), .ref (A 15)]
            refine k_gotQ X (vX4_151 X (S := Si) ⟨(st_15 hIi.st).1, (st_15 hIi.st).2⟩ (c_Jx4a65c_remove_915e3 C.l C.e0 Si (A 15) 10 mi cc 0 xs kEl_10 hLc hmi0 (by omega)) (As := [.int (nI 0)]) (rest := []) rfl rfl rfl rfl ⟨Nat.le_of_ble_eq_true rfl, Nat.le_of_ble_eq_true rfl⟩ (Nat.le_of_ble_eq_true rfl) ⟨(by show _ ≤ 384; omega), (by show _ ≤ 20480; omega)⟩ dX4_sit_111) (fun r_111_24 S_111_25 h_111_22 => ?_)
            obtain ⟨-, hfr, hlr⟩ := h_111_22
            rw [so_15 hIi.st] at hfr
            have huR := hu.kp (hfr.kp (fun b hb z => no15' z))
            have hIc := fun k (hk : k < n) => (hfr.2 _ (hIi.at hk).1 (fun z => by unfold kRo at z; rw [hIi.oc k hk] at z; omega)).1
            obtain ⟨hI_26, hx_26⟩ := hIi.frS hfr ⟨mi - 1, _, hlr.s, by omega, kxr_in (fun t ht => (hxs t ht).fr hfr (fun b hb z => no15 z)) hmi0⟩ (by omega)
            have hK_26 := (hKi).tr hx_26
            refine k_pop X dX4_sit_114 (va_cat _) ?_
            refine k_aload_n X (q := 5) dX4_sit_115 rfl rfl ?_
            refine k_aload X (q := 1) dX4_sit_116 rfl ?_
            refine k_gotV X (vX4_191 X (S := S_111_25) ⟨(st_3 hI_26.st).1, (st_3 hI_26.st).2⟩ (c_X4_judge C.l C.e0 S_111_25 (xs 0) A n cz _ _ _ hI_26 a b _ _ huR ha hb9 hab (by rw [hIc a ha 6]; exact hsa) (by rw [hIc b hb9 6]; exact hsb) (by omega)) (As := [.ref (xs 0)]) (rest := []) rfl rfl rfl rfl ⟨Nat.le_of_ble_eq_true rfl, Nat.le_of_ble_eq_true rfl⟩ (Nat.le_of_ble_eq_true rfl) ⟨(by show _ ≤ 384; omega), (by show _ ≤ 20480; omega)⟩ dX4_sit_118) (fun S_118_28 h_118_26 => ?_)
            obtain ⟨hI_29, hx_29⟩ := h_118_26
            have hK_29 := (hK_26).tr hx_29
            obtain ⟨v_121_30, ev_121_30⟩ : ∃ z : Int32, z = w9 + 1 := ⟨_, rfl⟩
            refine k_iinc X (q := 4) (v := v_121_30) [(2, .int v_121_30), (1, .int v_104_22), (5, .ref (xs 0)), (4, .int (nI i)), (3, .int (nI m)), (0, .ref (A 3))] dX4_sit_121 rfl (by rw [ev_121_30]; rfl) (by decide) rfl ?_
            obtain ⟨v_124_31, ev_124_31⟩ : ∃ z : Int32, z = (nI i) + 1 := ⟨_, rfl⟩
            refine k_iinc X (q := 3) (v := v_124_31) [(4, .int v_124_31), (2, .int v_121_30), (1, .int v_104_22), (5, .ref (xs 0)), (3, .int (nI m)), (0, .ref (A 3))] dX4_sit_124 rfl (by rw [ev_124_31]; rfl) (by decide) rfl ?_
            refine k_goto (tgt := 27) X dX4_sit_127 (by decide) ?_
            refine k_lv [0, 4, 1, 2, 5] _ rfl ?_
            refine k_room (k' := 48 * (i + 1)) (n' := 2560 * (i + 1)) (by omega) (by omega) ?_
            exact ih (m - (i + 1)) (by omega) (i + 1) _ _ _ _ rfl (by rw [ev_124_31, nI_1]) ⟨by omega, hI_29.mono (by omega) (by omega) (by omega), hK_29⟩
          · skip
            refine k_goto (tgt := 130) X dX4_sit_95 (by decide) ?_
            refine k_iload_n X (q := 3) dX4_sit_130 rfl rfl ?_
            exact k_iret X E dX4_sit_131 (by show _ ≤ 384; omega) (by show _ ≤ 20480; omega) (⟨hIi.mono (by omega) (by omega) (by omega), hKi⟩)
        · skip
          refine k_aload_n X (q := 5) dX4_sit_64 rfl rfl ?_
          refine gX4_12s X (S := Si) (st_3 hIi.st).1 (st_3 hIi.st).2 (sr_3_1 hIi.st) dX4_sit_65 ?_
          refine k_iconst X (v := 0) dX4_sit_68 (by decide) ?_
          show kG C 6 Si ((48 * i) + 0 + 0 + 0) ((2560 * i) + 0 + 0 + 0) 69 [(5, .ref (xs 0)), (4, .int (nI i)), (3, .int (nI m)), (2, .int w9), (1, .int y), (0, .ref (A 3))] [.int (nI 0), .ref (A 15)]
          refine k_gotQ X (vX4_151 X (S := Si) ⟨(st_15 hIi.st).1, (st_15 hIi.st).2⟩ (c_Jx4a65c_remove_915e3 C.l C.e0 Si (A 15) 10 mi cc 0 xs kEl_10 hLc hmi0 (by omega)) (As := [.int (nI 0)]) (rest := []) rfl rfl rfl rfl ⟨Nat.le_of_ble_eq_true rfl, Nat.le_of_ble_eq_true rfl⟩ (Nat.le_of_ble_eq_true rfl) ⟨(by show _ ≤ 384; omega), (by show _ ≤ 20480; omega)⟩ dX4_sit_69) (fun r_69_33 S_69_34 h_69_31 => ?_)
          obtain ⟨-, hfr, hlr⟩ := h_69_31
          rw [so_15 hIi.st] at hfr
          have huR := hu.kp (hfr.kp (fun b hb z => no15' z))
          have hIc := fun k (hk : k < n) => (hfr.2 _ (hIi.at hk).1 (fun z => by unfold kRo at z; rw [hIi.oc k hk] at z; omega)).1
          obtain ⟨hI_35, hx_35⟩ := hIi.frS hfr ⟨mi - 1, _, hlr.s, by omega, kxr_in (fun t ht => (hxs t ht).fr hfr (fun b hb z => no15 z)) hmi0⟩ (by omega)
          have hK_35 := (hKi).tr hx_35
          refine k_pop X dX4_sit_72 (va_cat _) ?_
          refine k_aload_n X (q := 5) dX4_sit_73 rfl rfl ?_
          refine k_dup X dX4_sit_74 rfl ?_
          refine gX4_34 X (S := S_69_34) (st_3 hI_35.st).1 (st_3 hI_35.st).2 dX4_sit_75 (fun v_75_36 ev_75_36 => ?_)
          refine k_iconst X (v := 1) dX4_sit_78 (by decide) ?_
          refine k_iadd X dX4_sit_79 (fun v_79_37 ev_79_37 => ?_)
          refine pX4_34 X (S := S_69_34) (st_3 hI_35.st).1 (st_3 hI_35.st).2 dX4_sit_80 ?_
          obtain ⟨hI_38, hx_38⟩ := (⟨hI_35.fI (i := 7) (v := v_79_37) (so_3 hI_35.st) (by unfold pSM; omega) (by unfold pVM pCi pHo pCh pLe pMy pMs pOf; omega) (by unfold pLu; omega), hI_35.fIk (i := 7) (v := v_79_37) (so_3 hI_35.st) (by unfold pKe; omega)⟩ : _ ∧ _)
          have hK_38 := (hK_35).tr hx_38
          refine k_goto (tgt := 124) X dX4_sit_83 (by decide) ?_
          obtain ⟨v_124_39, ev_124_39⟩ : ∃ z : Int32, z = (nI i) + 1 := ⟨_, rfl⟩
          refine k_iinc X (q := 1) (v := v_124_39) [(4, .int v_124_39), (5, .ref (xs 0)), (3, .int (nI m)), (2, .int w9), (1, .int y), (0, .ref (A 3))] dX4_sit_124 rfl (by rw [ev_124_39]; rfl) (by decide) rfl ?_
          refine k_goto (tgt := 27) X dX4_sit_127 (by decide) ?_
          refine k_lv [0, 2, 3, 4, 5] _ rfl ?_
          refine k_room (k' := 48 * (i + 1)) (n' := 2560 * (i + 1)) (by omega) (by omega) ?_
          exact ih (m - (i + 1)) (by omega) (i + 1) _ _ _ _ rfl (by rw [ev_124_39, nI_1]) ⟨by omega, hI_38.mono (by omega) (by omega) (by omega), hK_38⟩
  refine k_lv [0, 1, 2, 3, 4] _ rfl ?_
  exact L_27 _ 0 0 _ _ _ rfl nI_0.symm ⟨by omega, hI_3, hK_3⟩
set_option maxHeartbeats 1000000 in
set_option maxRecDepth 20000 in
theorem c_X4_dropPublicSuits (l : Launch) (e0 : Nat × Nat) (S : kS)  (A : Nat → Nat) (n : Nat) (cz : Nat → Nat) (T G Z : Nat) (h : kI e0 A n cz T G Z S)  (hb : T + 0 ≤ 900000 ∧ G + 0 ≤ 60000 ∧ Z + 0 ≤ 150000) : kM l e0 yX4_dropPublicSuits cX4_dropPublicSuits 2 none ({ frames := 3, cells := 0, slots := 0, locals := 106 } : Room) 0 0 [.ref (A 3)] S (kQv (fun S9 => kI e0 A n cz (T + 0) (G + 0) (Z + 0) S9 ∧ kKe A S S9)) := by
  refine kMetE (by decide +kernel) (Nat.le_of_ble_eq_true rfl) (fun C he hl X E hm => ?_)
  have X : kX C RX4 cX4_dropPublicSuits 2 ({ frames := 3, cells := 0, slots := 0, locals := 106 } : Room) := X
  subst he hl
  show kG C 2 S 0 0 0 [(0, .ref (A 3))] []
  have hn := h.n40
  obtain ⟨m, xs1, hL1, hm8, hxs1⟩ := h.sl
  refine k_aload_n X (q := 0) dX4_dropPublicSuits_0 rfl rfl ?_
  refine gX4_12s X (S := S) (st_3 h.st).1 (st_3 h.st).2 (sr_3_1 h.st) dX4_dropPublicSuits_1 ?_
  refine k_gotI X (vX4_48 X (S := S) ⟨(st_15 h.st).1, (st_15 h.st).2⟩ (c_Jx4a65c_size_8abf5 C.l C.e0 S (A 15) (st_15 h.st)) (As := []) (rest := []) rfl rfl rfl rfl ⟨Nat.le_of_ble_eq_true rfl, Nat.le_of_ble_eq_true rfl⟩ (Nat.le_of_ble_eq_true rfl) ⟨Nat.le_of_ble_eq_true rfl, Nat.le_of_ble_eq_true rfl⟩ dX4_dropPublicSuits_4) (fun v_4_2 S_4_3 h_4_0 => ?_)
  obtain ⟨rfl, ev_4_2⟩ := h_4_0
  have hz_v_4_2 : nI m = v_4_2 := by rw [ev_4_2]; exact (hL1).2.1.symm
  subst hz_v_4_2
  refine k_iconst X (v := 1) dX4_dropPublicSuits_7 (by decide) ?_
  refine k_isub X dX4_dropPublicSuits_8 (fun v_8_4 ev_8_4 => ?_)
  refine k_istore_n X [(1, .int v_8_4), (0, .ref (A 3))] dX4_dropPublicSuits_9 rfl (by decide) rfl ?_
  have L_10 : ∀ (N : Nat) (i : Nat) (x : Int32) (Si : kS), i = N → x = nI i + -1 → (kI C.e0 A n cz T G Z Si ∧ kKe A S Si ∧ ∃ mi xs, kLs C.e0 Si (A 15) 10 mi xs ∧ i ≤ mi ∧ mi ≤ 8 ∧ ∀ t, t < mi → kSu Si n cz (xs t)) → kG C 2 Si 0 0 10 [(1, .int x), (0, .ref (A 3))] [] := by
    intro N
    induction N using Nat.strongRecOn with
    | _ N ih =>
    intro i x Si hMs h10_0 h10_1
    subst h10_0
    obtain ⟨hIi, hKi, mi, xs, hLs, him, hmi8, hxs⟩ := h10_1
    obtain ⟨cc, hLc⟩ := hLs.c
    refine k_iload_n X (q := 0) dX4_dropPublicSuits_10 rfl rfl ?_
    refine k_if_lt (tgt := 56) X dX4_dropPublicSuits_11 (by decide) (fun c_11 => ?_) (fun c_11 => ?_)
    · skip
      exact k_vret X E dX4_dropPublicSuits_56 (Nat.le_of_ble_eq_true rfl) (Nat.le_of_ble_eq_true rfl) (⟨hIi.mono (by omega) (by omega) (by omega), hKi⟩)
    · skip
      have hi0 : 0 < i := by
        rcases Nat.eq_zero_or_pos i with g | g
        · rw [g] at c_11; exact absurd (by decide) c_11
        · exact g
      have hlt : i - 1 < mi := by omega
      rw [nI_dec hi0]
      refine k_aload_n X (q := 1) dX4_dropPublicSuits_14 rfl rfl ?_
      refine gX4_12s X (S := Si) (st_3 hIi.st).1 (st_3 hIi.st).2 (sr_3_1 hIi.st) dX4_dropPublicSuits_15 ?_
      refine k_iload_n X (q := 0) dX4_dropPublicSuits_18 rfl rfl ?_
      refine k_gotQ X (vX4_52 X (S := Si) ⟨(st_15 hIi.st).1, (st_15 hIi.st).2⟩ (c_Jx4a65c_get_915e3 C.l C.e0 Si (A 15) 10 mi (i - 1) xs (hLs) hlt) (As := [.int (nI (i - 1))]) (rest := []) rfl rfl rfl rfl ⟨Nat.le_of_ble_eq_true rfl, Nat.le_of_ble_eq_true rfl⟩ (Nat.le_of_ble_eq_true rfl) ⟨Nat.le_of_ble_eq_true rfl, Nat.le_of_ble_eq_true rfl⟩ dX4_dropPublicSuits_19) (fun r_19_6 S_19_7 h_19_4 => ?_)
      obtain ⟨rfl, er_19_6⟩ := h_19_4
      subst er_19_6
      refine tX4_56 X (S := Si) ⟨(kLs.el (hLs) hlt).1, (kLs.el (hLs) hlt).2⟩ dX4_dropPublicSuits_22 ?_
      refine k_gotI X (vX4_194 X (S := Si) ⟨(kLs.el (hLs) hlt).1, (kLs.el (hLs) hlt).2⟩ (c_X10_isPrivate C.l C.e0 Si (xs (i - 1))  ⟨(kLs.el (hLs) hlt).1, (kLs.el (hLs) hlt).2⟩) (As := []) (rest := []) rfl rfl rfl rfl ⟨Nat.le_of_ble_eq_true rfl, Nat.le_of_ble_eq_true rfl⟩ (Nat.le_of_ble_eq_true rfl) ⟨Nat.le_of_ble_eq_true rfl, Nat.le_of_ble_eq_true rfl⟩ dX4_dropPublicSuits_25) (fun v_25_9 S_25_10 h_25_7 => ?_)
      obtain ⟨rfl, ev_25_9⟩ := h_25_7
      refine k_if_ne (tgt := 50) X dX4_dropPublicSuits_28 (by decide) (fun c_28 => ?_) (fun c_28 => ?_)
      · skip
        rw [ev_25_9] at c_28
        obtain ⟨v_50_11, ev_50_11⟩ : ∃ z : Int32, z = (nI (i - 1)) + (-1) := ⟨_, rfl⟩
        refine k_iinc X (q := 0) (v := v_50_11) [(1, .int v_50_11), (0, .ref (A 3))] dX4_dropPublicSuits_50 rfl (by rw [ev_50_11]; rfl) (by decide) rfl ?_
        refine k_goto (tgt := 10) X dX4_dropPublicSuits_53 (by decide) ?_
        refine k_lv [0, 1] _ rfl ?_
        exact ih (i - 1) (by omega) (i - 1) _ _ rfl ev_50_11 ⟨hIi, hKi, mi, xs, hLs, by omega, hmi8, hxs⟩
      · skip
        rw [ev_25_9] at c_28
        refine k_aload_n X (q := 1) dX4_dropPublicSuits_31 rfl rfl ?_
        refine gX4_12s X (S := Si) (st_3 hIi.st).1 (st_3 hIi.st).2 (sr_3_1 hIi.st) dX4_dropPublicSuits_32 ?_
        refine k_iload_n X (q := 0) dX4_dropPublicSuits_35 rfl rfl ?_
        refine k_gotQ X (vX4_151 X (S := Si) ⟨(st_15 hIi.st).1, (st_15 hIi.st).2⟩ (c_Jx4a65c_remove_915e3 C.l C.e0 Si (A 15) 10 mi cc (i - 1) xs kEl_10 hLc hlt (by omega)) (As := [.int (nI (i - 1))]) (rest := []) rfl rfl rfl rfl ⟨Nat.le_of_ble_eq_true rfl, Nat.le_of_ble_eq_true rfl⟩ (Nat.le_of_ble_eq_true rfl) ⟨Nat.le_of_ble_eq_true rfl, Nat.le_of_ble_eq_true rfl⟩ dX4_dropPublicSuits_36) (fun r_36_13 S_36_14 h_36_11 => ?_)
        obtain ⟨-, hfr, hlr⟩ := h_36_11
        rw [so_15 hIi.st] at hfr
        have hxs2 := kxr_in (Q := fun x => kSu S_36_14 n cz x) (fun t ht => (hxs t ht).fr hfr (fun b hb z => no15 z)) hlt
        obtain ⟨hI_15, hx_15⟩ := hIi.frS hfr ⟨mi - 1, _, hlr.s, by omega, hxs2⟩ (by omega)
        have hK_15 := (hKi).tr hx_15
        refine k_pop X dX4_dropPublicSuits_39 (va_cat _) ?_
        refine k_aload_n X (q := 1) dX4_dropPublicSuits_40 rfl rfl ?_
        refine k_dup X dX4_dropPublicSuits_41 rfl ?_
        refine gX4_34 X (S := S_36_14) (st_3 hI_15.st).1 (st_3 hI_15.st).2 dX4_dropPublicSuits_42 (fun v_42_16 ev_42_16 => ?_)
        refine k_iconst X (v := 1) dX4_dropPublicSuits_45 (by decide) ?_
        refine k_iadd X dX4_dropPublicSuits_46 (fun v_46_17 ev_46_17 => ?_)
        refine pX4_34 X (S := S_36_14) (st_3 hI_15.st).1 (st_3 hI_15.st).2 dX4_dropPublicSuits_47 ?_
        obtain ⟨hI_18, hx_18⟩ := (⟨hI_15.fI (i := 7) (v := v_46_17) (so_3 hI_15.st) (by unfold pSM; omega) (by unfold pVM pCi pHo pCh pLe pMy pMs pOf; omega) (by unfold pLu; omega), hI_15.fIk (i := 7) (v := v_46_17) (so_3 hI_15.st) (by unfold pKe; omega)⟩ : _ ∧ _)
        have hK_18 := (hK_15).tr hx_18
        have hxs3 : ∀ t, t < mi - 1 → kSu (S_36_14.uI (A 3) 7 v_46_17) n cz (kxr xs (i - 1) t) := fun t ht => (hxs2 t ht).go (W := fun ρ j => ρ = 3) (kGo.rf.uI (fun _ => so_3 hI_15.st)) (fun j z => by omega)
        obtain ⟨v_50_19, ev_50_19⟩ : ∃ z : Int32, z = (nI (i - 1)) + (-1) := ⟨_, rfl⟩
        refine k_iinc X (q := 0) (v := v_50_19) [(1, .int v_50_19), (0, .ref (A 3))] dX4_dropPublicSuits_50 rfl (by rw [ev_50_19]; rfl) (by decide) rfl ?_
        refine k_goto (tgt := 10) X dX4_dropPublicSuits_53 (by decide) ?_
        refine k_lv [0, 1] _ rfl ?_
        exact ih (i - 1) (by omega) (i - 1) _ _ rfl ev_50_19 ⟨hI_18, hK_18, mi - 1, _, (hlr.s.uI (b := A 3) (κb := 4) ⟨(st_3 hI_15.st).1, (st_3 hI_15.st).2⟩ (by decide)), by omega, by omega, hxs3⟩
  refine k_lv [0, 1] _ rfl ?_
  exact L_10 _ m _ S rfl (by rw [ev_8_4, Int32.sub_eq_add_neg]) ⟨h, kKe.rf, m, xs1, hL1, by omega, hm8, hxs1⟩
set_option maxHeartbeats 1000000 in
set_option maxRecDepth 20000 in
theorem c_X4_bring (l : Launch) (e0 : Nat × Nat) (S : kS) (u : Nat) (A : Nat → Nat) (n : Nat) (cz : Nat → Nat) (T G Z : Nat) (h : kI e0 A n cz T G Z S) (i j t : Nat) (d : Option Nat) (hu : kSv S u (cz i) (cz j) d t) (hi : i < n) (hj : j < n) (hij : ¬ i = j) (m : Nat) (xs : Nat → Nat) (hL : kLs e0 S (A 15) 10 m xs) (hm8 : m < 8) (hxs : ∀ t, t < m → kSu S n cz (xs t)) (hb : T + 0 ≤ 900000 ∧ G + 0 ≤ 60000 ∧ Z + 0 ≤ 150000) : kM l e0 yX4_bring cX4_bring 2 (Option.some Jvm.ClassFile.FieldType.int) ({ frames := 7, cells := 1, slots := 73, locals := 191 } : Room) 1 73 [.ref (A 3), .ref u] S (kQi (fun v S9 => kI e0 A n cz (T + 0) (G + 0) (Z + 0) S9 ∧ kKe A S S9)) := by
  refine kMetE (by decide +kernel) (Nat.le_of_ble_eq_true rfl) (fun C he hl X E hm => ?_)
  have X : kX C RX4 cX4_bring 2 ({ frames := 7, cells := 1, slots := 73, locals := 191 } : Room) := X
  subst he hl
  show kG C 2 S 0 0 0 [(0, .ref (A 3)), (1, .ref u)] []
  have hn := h.n40
  obtain ⟨cc, hlc⟩ := hL.c
  refine k_aload_n X (q := 0) dX4_bring_0 rfl rfl ?_
  refine gX4_12s X (S := S) (st_3 h.st).1 (st_3 h.st).2 (sr_3_1 h.st) dX4_bring_1 ?_
  refine k_aload_n X (q := 1) dX4_bring_4 rfl rfl ?_
  refine k_gotI X (vX4_44 X (S := S) ⟨(st_15 h.st).1, (st_15 h.st).2⟩ (c_Jx4a65c_add_9ea2d C.l C.e0 S (A 15) 10 m cc u xs kEl_10 hlc hu.1 (by omega)) (As := [.ref u]) (rest := []) rfl rfl rfl rfl ⟨Nat.le_of_ble_eq_true rfl, Nat.le_of_ble_eq_true rfl⟩ (Nat.le_of_ble_eq_true rfl) ⟨(by show _ ≤ 1; have := kmc_le cc m; omega), (by show _ ≤ 73; have := kms_le hlc.cap (by omega); omega)⟩ dX4_bring_5) (fun v_5_2 S_5_3 h_5_0 => ?_)
  obtain ⟨-, hfa, hla⟩ := h_5_0
  rw [so_15 h.st] at hfa
  have hxs2 := va_up_in (Q := fun x => kSu S_5_3 n cz x) (fun t ht => (hxs t ht).fr hfa (fun b hb z => no15 z)) ((hu.su hi hj h.who hij).fr hfa (fun b hb z => no15 z))
  obtain ⟨hI_4, hx_4⟩ := h.frS hfa ⟨m + 1, _, hla.s, by omega, hxs2⟩ (by omega)
  have hK_4 := (kKe.rf).tr hx_4
  refine k_pop X dX4_bring_8 rfl ?_
  refine k_aload_n X (q := 0) dX4_bring_9 rfl rfl ?_
  refine gX4_12s X (S := S_5_3) (st_3 hI_4.st).1 (st_3 hI_4.st).2 (sr_3_1 hI_4.st) dX4_bring_10 ?_
  refine k_gotI X (vX4_48 X (S := S_5_3) ⟨(st_15 hI_4.st).1, (st_15 hI_4.st).2⟩ (c_Jx4a65c_size_8abf5 C.l C.e0 S_5_3 (A 15) (st_15 hI_4.st)) (As := []) (rest := []) rfl rfl rfl rfl ⟨Nat.le_of_ble_eq_true rfl, Nat.le_of_ble_eq_true rfl⟩ (Nat.le_of_ble_eq_true rfl) ⟨(by show _ ≤ 1; have := kmc_le cc m; omega), (by show _ ≤ 73; have := kms_le hlc.cap (by omega); omega)⟩ dX4_bring_13) (fun v_13_6 S_13_7 h_13_4 => ?_)
  obtain ⟨rfl, ev_13_6⟩ := h_13_4
  have hz_v_13_6 : nI (m + 1) = v_13_6 := by rw [ev_13_6]; exact (hla.s).2.1.symm
  subst hz_v_13_6
  refine k_iconst X (v := 1) dX4_bring_16 (by decide) ?_
  refine k_isub X dX4_bring_17 (fun v_17_8 ev_17_8 => ?_)
  exact k_iret X E dX4_bring_18 (by show _ ≤ 1; have := kmc_le cc m; omega) (by show _ ≤ 73; have := kms_le hlc.cap (by omega); omega) (⟨hI_4.mono (by omega) (by omega) (by omega), hK_4⟩)
