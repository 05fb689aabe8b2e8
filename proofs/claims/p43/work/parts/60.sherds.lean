theorem khol_v {S : kS} {A : Nat → Nat} {m md j : Nat} {xs xd : Nat → Nat} (h : khol S A m xs md xd j = true) : kval S A m xs (xd j) = true ∧ ∀ i, i < md → j < i → S.I (xd i) 2 = S.I (xd j) 2 → kval S A m xs (xd i) = false := by
  unfold khol at h
  simp only [Bool.and_eq_true, Option.isNone_iff_eq_none] at h
  refine ⟨h.1, fun i hi hji ht => ?_⟩
  have h3 := kff_no md h.2 i hi
  simp only [hji, ht, decide_true, Bool.true_and] at h3
  simpa using h3
theorem kval_far {S : kS} {A : Nat → Nat} {m d : Nat} {xs : Nat → Nat} (h : kval S A m xs d = true) : (!decide (kvat S (A 43) (S.I d 2) = -1) && decide (6 < kabs (kvat S (A 43) (S.I d 2) - S.I d 3))) = false := by
  unfold kval at h
  cases g1 : decide (kvat S (A 43) (S.I d 2) = -1) <;> cases g2 : decide (6 < kabs (kvat S (A 43) (S.I d 2) - S.I d 3)) <;> simp_all
set_option maxHeartbeats 1000000 in
set_option maxRecDepth 20000 in
theorem c_X0_areDecreesSound (l : Launch) (e0 : Nat × Nat) (S : kS)  (A : Nat → Nat) (hst : kSt A S) (m : Nat) (xs : Nat → Nat) (hL : kLs e0 S (A 15) 10 m xs) (hm9 : m ≤ 100) (md : Nat) (xd : Nat → Nat) (hLd : kLs e0 S (A 19) 7 md xd) (hmd : md ≤ 100) : kM l e0 yX0_areDecreesSound cX0_areDecreesSound 5 (Option.some Jvm.ClassFile.FieldType.boolean) ({ frames := 6, cells := 0, slots := 0, locals := 131 } : Room) 0 0 [.ref (A 4)] S (kQi (fun v S9 => S = S9 ∧ v = 1)) := by
  refine kMetE (by decide +kernel) (Nat.le_of_ble_eq_true rfl) (fun C he hl X E hm => ?_)
  have X : kX C RX0 cX0_areDecreesSound 5 ({ frames := 6, cells := 0, slots := 0, locals := 131 } : Room) := X
  subst he hl
  show kG C 5 S 0 0 0 [(0, .ref (A 4))] []
  refine k_iconst X (v := 0) dX0_areDecreesSound_0 (by decide) ?_
  refine k_istore_n X [(1, .int 0), (0, .ref (A 4))] dX0_areDecreesSound_1 rfl (by decide) rfl ?_
  have L_2 : ∀ (N : Nat) (t : Nat) (x : Int32), 8 - t = N → x = nI t → t ≤ 8 → kG C 5 S 0 0 2 [(1, .int x), (0, .ref (A 4))] [] := by
    intro N
    induction N using Nat.strongRecOn with
    | _ N ih =>
    intro t x hMs h2_0 h2_1
    subst h2_0
    refine k_iload_n X (q := 0) dX0_areDecreesSound_2 rfl rfl ?_
    refine k_bipush X (v := 8) dX0_areDecreesSound_3 (by decide) ?_
    refine k_icmp_ge (tgt := 94) X dX0_areDecreesSound_5 (by decide) (fun c_5 => ?_) (fun c_5 => ?_)
    · skip
      refine k_iconst X (v := 1) dX0_areDecreesSound_94 (by decide) ?_
      exact k_zret X E (Or.inr rfl) dX0_areDecreesSound_95 (Nat.le_of_ble_eq_true rfl) (Nat.le_of_ble_eq_true rfl) (⟨rfl, rfl⟩)
    · skip
      have ht8 : t < 8 := lt_of_nle (m := 8) c_5 (by omega)
      refine k_iconst X (v := 0) dX0_areDecreesSound_8 (by decide) ?_
      refine k_istore_n X [(2, .int 0), (1, .int (nI t)), (0, .ref (A 4))] dX0_areDecreesSound_9 rfl (by decide) rfl ?_
      refine k_iconst X (v := 0) dX0_areDecreesSound_10 (by decide) ?_
      refine k_istore_n X [(3, .int 0), (2, .int 0), (1, .int (nI t)), (0, .ref (A 4))] dX0_areDecreesSound_11 rfl (by decide) rfl ?_
      have L_12 : ∀ (N : Nat) (i : Nat) (y w9 : Int32), md - i = N → y = nI i → (i ≤ md ∧ (w9 = 0 ∨ (w9 = 1 ∧ ∃ j, j < i ∧ khol S A m xs md xd j = true ∧ S.I (xd j) 2 = nI t))) → kG C 5 S 0 0 12 [(3, .int y), (2, .int w9), (1, .int (nI t)), (0, .ref (A 4))] [] := by
        intro N
        induction N using Nat.strongRecOn with
        | _ N ih12 =>
        intro i y w9 hMs h12_0 h12_1
        subst h12_0
        obtain ⟨hi9, hz⟩ := h12_1
        refine k_iload_n X (q := 0) dX0_areDecreesSound_12 rfl rfl ?_
        refine k_aload_n X (q := 3) dX0_areDecreesSound_13 rfl rfl ?_
        refine gX0_18s X (S := S) (st_4 hst).1 (st_4 hst).2 (sr_4_3 hst) dX0_areDecreesSound_14 ?_
        refine k_gotI X (vX0_84 X (S := S) ⟨(st_19 hst).1, (st_19 hst).2⟩ (c_Jx4a65c_size_8abf5 C.l C.e0 S (A 19) (st_19 hst)) (As := []) (rest := [.int (nI i)]) rfl rfl rfl rfl ⟨Nat.le_of_ble_eq_true rfl, Nat.le_of_ble_eq_true rfl⟩ (Nat.le_of_ble_eq_true rfl) ⟨Nat.le_of_ble_eq_true rfl, Nat.le_of_ble_eq_true rfl⟩ dX0_areDecreesSound_17) (fun v_17_2 S_17_3 h_17_0 => ?_)
        obtain ⟨rfl, ev_17_2⟩ := h_17_0
        have hz_v_17_2 : nI md = v_17_2 := by rw [ev_17_2]; exact (hLd).2.1.symm
        subst hz_v_17_2
        refine k_icmp_ge (tgt := 81) X dX0_areDecreesSound_20 (by decide) (fun c_20 => ?_) (fun c_20 => ?_)
        · skip
          refine k_iload_n X (q := 1) dX0_areDecreesSound_81 rfl rfl ?_
          refine k_iconst X (v := 1) dX0_areDecreesSound_82 (by decide) ?_
          refine k_icmp_le (tgt := 88) X dX0_areDecreesSound_83 (by decide) (fun c_83 => ?_) (fun c_83 => ?_)
          · skip
            obtain ⟨v_88_4, ev_88_4⟩ : ∃ z : Int32, z = (nI t) + 1 := ⟨_, rfl⟩
            refine k_iinc X (q := 2) (v := v_88_4) [(1, .int v_88_4), (3, .int (nI i)), (2, .int w9), (0, .ref (A 4))] dX0_areDecreesSound_88 rfl (by rw [ev_88_4]; rfl) (by decide) rfl ?_
            refine k_goto (tgt := 2) X dX0_areDecreesSound_91 (by decide) ?_
            refine k_lv [0, 3] _ rfl ?_
            exact ih (8 - (t + 1)) (by omega) (t + 1) _ rfl (by rw [ev_88_4, nI_1]) (by omega)
          · skip
            refine k_iconst X (v := 0) dX0_areDecreesSound_86 (by decide) ?_
            exact k_zret X E (Or.inl rfl) dX0_areDecreesSound_87 (Nat.le_of_ble_eq_true rfl) (Nat.le_of_ble_eq_true rfl) (⟨rfl, by exfalso; rcases hz with z | ⟨z, -⟩ <;> (rw [z] at c_83; exact absurd c_83 (by decide))⟩)
        · skip
          have hlt : i < md := lt_of_nle c_20 (by omega)
          refine k_aload_n X (q := 3) dX0_areDecreesSound_23 rfl rfl ?_
          refine gX0_18s X (S := S) (st_4 hst).1 (st_4 hst).2 (sr_4_3 hst) dX0_areDecreesSound_24 ?_
          refine k_iload_n X (q := 0) dX0_areDecreesSound_27 rfl rfl ?_
          refine k_gotQ X (vX0_88 X (S := S) ⟨(st_19 hst).1, (st_19 hst).2⟩ (c_Jx4a65c_get_915e3 C.l C.e0 S (A 19) 7 md i xd (hLd) hlt) (As := [.int (nI i)]) (rest := []) rfl rfl rfl rfl ⟨Nat.le_of_ble_eq_true rfl, Nat.le_of_ble_eq_true rfl⟩ (Nat.le_of_ble_eq_true rfl) ⟨Nat.le_of_ble_eq_true rfl, Nat.le_of_ble_eq_true rfl⟩ dX0_areDecreesSound_28) (fun r_28_6 S_28_7 h_28_4 => ?_)
          obtain ⟨rfl, er_28_6⟩ := h_28_4
          subst er_28_6
          refine tX0_65 X (S := S) ⟨(kLs.el (hLd) hlt).1, (kLs.el (hLd) hlt).2⟩ dX0_areDecreesSound_31 ?_
          refine k_astore X [(4, .ref (xd i)), (3, .int (nI i)), (2, .int w9), (1, .int (nI t)), (0, .ref (A 4))] dX0_areDecreesSound_34 (by decide) rfl ?_
          refine k_aload X (q := 0) dX0_areDecreesSound_36 rfl ?_
          refine gX0_64 X (S := S) (kLs.el (hLd) hlt).1 (kLs.el (hLd) hlt).2 dX0_areDecreesSound_38 (fun v_38_8 ev_38_8 => ?_)
          refine k_iload_n X (q := 3) dX0_areDecreesSound_41 rfl rfl ?_
          refine k_icmp_ne (tgt := 75) X dX0_areDecreesSound_42 (by decide) (fun c_42 => ?_) (fun c_42 => ?_)
          · skip
            obtain ⟨v_75_9, ev_75_9⟩ : ∃ z : Int32, z = (nI i) + 1 := ⟨_, rfl⟩
            refine k_iinc X (q := 1) (v := v_75_9) [(3, .int v_75_9), (4, .ref (xd i)), (2, .int w9), (1, .int (nI t)), (0, .ref (A 4))] dX0_areDecreesSound_75 rfl (by rw [ev_75_9]; rfl) (by decide) rfl ?_
            refine k_goto (tgt := 12) X dX0_areDecreesSound_78 (by decide) ?_
            refine k_lv [0, 2, 3, 4] _ rfl ?_
            exact ih12 (md - (i + 1)) (by omega) (i + 1) _ _ rfl (by rw [ev_75_9, nI_1]) ⟨by omega, hz.elim Or.inl (fun ⟨z1, j, z2, z3⟩ => Or.inr ⟨z1, j, by omega, z3⟩)⟩
          · skip
            refine k_aload_n X (q := 4) dX0_areDecreesSound_45 rfl rfl ?_
            refine k_iload_n X (q := 1) dX0_areDecreesSound_46 rfl rfl ?_
            refine k_gotI X (vX0_199 X (S := S) ⟨(st_4 hst).1, (st_4 hst).2⟩ (c_X0_isHolding C.l C.e0 S  A hst m xs (hL) (by omega) md xd (hLd) (by omega) i hlt) (As := [.int (nI i)]) (rest := []) rfl rfl rfl rfl ⟨Nat.le_of_ble_eq_true rfl, Nat.le_of_ble_eq_true rfl⟩ (Nat.le_of_ble_eq_true rfl) ⟨Nat.le_of_ble_eq_true rfl, Nat.le_of_ble_eq_true rfl⟩ dX0_areDecreesSound_47) (fun v_47_11 S_47_12 h_47_9 => ?_)
            obtain ⟨rfl, ev_47_11⟩ := h_47_9
            refine k_if_eq (tgt := 75) X dX0_areDecreesSound_50 (by decide) (fun c_50 => ?_) (fun c_50 => ?_)
            · skip
              rw [ev_47_11] at c_50
              obtain ⟨v_75_13, ev_75_13⟩ : ∃ z : Int32, z = (nI i) + 1 := ⟨_, rfl⟩
              refine k_iinc X (q := 1) (v := v_75_13) [(3, .int v_75_13), (4, .ref (xd i)), (2, .int w9), (1, .int (nI t)), (0, .ref (A 4))] dX0_areDecreesSound_75 rfl (by rw [ev_75_13]; rfl) (by decide) rfl ?_
              refine k_goto (tgt := 12) X dX0_areDecreesSound_78 (by decide) ?_
              refine k_lv [0, 2, 3, 4] _ rfl ?_
              exact ih12 (md - (i + 1)) (by omega) (i + 1) _ _ rfl (by rw [ev_75_13, nI_1]) ⟨by omega, hz.elim Or.inl (fun ⟨z1, j, z2, z3⟩ => Or.inr ⟨z1, j, by omega, z3⟩)⟩
            · skip
              rw [ev_47_11] at c_50
              have ht9 : S.I (xd i) 2 = nI t := by rw [← ev_38_8]; exact c_42
              have hkh : khol S A m xs md xd i = true := by
                cases g : khol S A m xs md xd i
                · simp [kb, g] at c_50
                · rfl
              obtain ⟨hk1, hk2⟩ := khol_v hkh
              have hw0 : w9 = 0 := by
                rcases hz with z | ⟨-, j, z1, z2, z3⟩
                · exact z
                · obtain ⟨-, g2⟩ := khol_v z2
                  have g3 := g2 i hlt z1 (by rw [ht9, z3])
                  rw [hk1] at g3; cases g3
              obtain ⟨v_53_14, ev_53_14⟩ : ∃ z : Int32, z = w9 + 1 := ⟨_, rfl⟩
              refine k_iinc X (q := 2) (v := v_53_14) [(2, .int v_53_14), (4, .ref (xd i)), (3, .int (nI i)), (1, .int (nI t)), (0, .ref (A 4))] dX0_areDecreesSound_53 rfl (by rw [ev_53_14]; rfl) (by decide) rfl ?_
              have hone : v_53_14 = 1 := by rw [ev_53_14, hw0]; rfl
              refine k_aload_n X (q := 4) dX0_areDecreesSound_56 rfl rfl ?_
              refine gX0_21s X (S := S) (st_4 hst).1 (st_4 hst).2 (sr_4_4 hst) dX0_areDecreesSound_57 ?_
              refine k_iload_n X (q := 3) dX0_areDecreesSound_60 rfl rfl ?_
              refine k_iald X (S := S) (st_43 hst).1 (st_43 hst).2 (show vp_in (nI t) (S.N (A 43)) from by rw [sn_43 hst]; exact vp_in_nI (by omega) (by omega)) dX0_areDecreesSound_61 (fun v_61_15 ev_61_15 => ?_)
              refine k_aload X (q := 1) dX0_areDecreesSound_62 rfl ?_
              refine gX0_73 X (S := S) (kLs.el (hLd) hlt).1 (kLs.el (hLd) hlt).2 dX0_areDecreesSound_64 (fun v_64_16 ev_64_16 => ?_)
              refine k_gotI X (vX0_56 X (S := S) (c_X0_isTooFar C.l C.e0 S v_61_15 v_64_16  ) (As := [.int v_61_15, .int v_64_16]) (rest := []) rfl rfl rfl rfl ⟨Nat.le_of_ble_eq_true rfl, Nat.le_of_ble_eq_true rfl⟩ (Nat.le_of_ble_eq_true rfl) ⟨Nat.le_of_ble_eq_true rfl, Nat.le_of_ble_eq_true rfl⟩ dX0_areDecreesSound_67) (fun v_67_18 S_67_19 h_67_16 => ?_)
              obtain ⟨rfl, ev_67_18⟩ := h_67_16
              refine k_if_eq (tgt := 75) X dX0_areDecreesSound_70 (by decide) (fun c_70 => ?_) (fun c_70 => ?_)
              · skip
                rw [ev_67_18] at c_70
                obtain ⟨v_75_20, ev_75_20⟩ : ∃ z : Int32, z = (nI i) + 1 := ⟨_, rfl⟩
                refine k_iinc X (q := 2) (v := v_75_20) [(3, .int v_75_20), (2, .int v_53_14), (4, .ref (xd i)), (1, .int (nI t)), (0, .ref (A 4))] dX0_areDecreesSound_75 rfl (by rw [ev_75_20]; rfl) (by decide) rfl ?_
                refine k_goto (tgt := 12) X dX0_areDecreesSound_78 (by decide) ?_
                refine k_lv [0, 1, 3, 4] _ rfl ?_
                exact ih12 (md - (i + 1)) (by omega) (i + 1) _ _ rfl (by rw [ev_75_20, nI_1]) ⟨by omega, Or.inr ⟨hone, i, by omega, hkh, ht9⟩⟩
              · skip
                rw [ev_67_18] at c_70
                refine k_iconst X (v := 0) dX0_areDecreesSound_73 (by decide) ?_
                exact k_zret X E (Or.inl rfl) dX0_areDecreesSound_74 (Nat.le_of_ble_eq_true rfl) (Nat.le_of_ble_eq_true rfl) (⟨rfl, by exfalso; have g9 := kval_far hk1; rw [nI_clamp (by omega), ← kvat_in (S := S) (sn_43 hst) ht8 (by omega), ← ht9] at ev_61_15; simp [kb, ev_61_15, ev_64_16, g9] at c_70⟩)
      refine k_lv [0, 1, 2, 3] _ rfl ?_
      exact L_12 _ 0 0 0 rfl nI_0.symm ⟨by omega, Or.inl rfl⟩
  refine k_lv [0, 1] _ rfl ?_
  exact L_2 _ 0 0 rfl nI_0.symm (Nat.zero_le _)
set_option maxHeartbeats 1000000 in
set_option maxRecDepth 20000 in
theorem c_X0_isAhead (l : Launch) (e0 : Nat × Nat) (S : kS) (c : Nat) (d : Nat) (e : Nat)  (hc : S.at c 1) (hd : S.at d 1) (he9 : S.at e 1) : kM l e0 yX0_isAhead cX0_isAhead 4 (Option.some Jvm.ClassFile.FieldType.boolean) ({ frames := 2, cells := 0, slots := 0, locals := 45 } : Room) 0 0 [.ref c, .ref d, .ref e] S (kQi (fun v S9 => S = S9)) := by
  refine kMetE (by decide +kernel) (Nat.le_of_ble_eq_true rfl) (fun C he hl X E hm => ?_)
  have X : kX C RX0 cX0_isAhead 4 ({ frames := 2, cells := 0, slots := 0, locals := 45 } : Room) := X
  subst he hl
  show kG C 4 S 0 0 0 [(0, .ref c), (1, .ref d), (2, .ref e)] []
  refine k_aload_n X (q := 0) dX0_isAhead_0 rfl rfl ?_
  refine gX0_227 X (S := S) hc.1 hc.2 dX0_isAhead_1 (fun v_1_1 ev_1_1 => ?_)
  refine k_aload_n X (q := 2) dX0_isAhead_4 rfl rfl ?_
  refine gX0_227 X (S := S) he9.1 he9.2 dX0_isAhead_5 (fun v_5_2 ev_5_2 => ?_)
  refine k_gotI X (vX0_60 X (S := S) (c_X11_gap C.l C.e0 S v_1_1 v_5_2 ) (As := [.int v_1_1, .int v_5_2]) (rest := []) rfl rfl rfl rfl ⟨Nat.le_of_ble_eq_true rfl, Nat.le_of_ble_eq_true rfl⟩ (Nat.le_of_ble_eq_true rfl) ⟨Nat.le_of_ble_eq_true rfl, Nat.le_of_ble_eq_true rfl⟩ dX0_isAhead_8) (fun v_8_4 S_8_5 h_8_2 => ?_)
  obtain ⟨rfl, ev_8_4⟩ := h_8_2
  refine k_aload_n X (q := 1) dX0_isAhead_11 rfl rfl ?_
  refine gX0_227 X (S := S) hd.1 hd.2 dX0_isAhead_12 (fun v_12_6 ev_12_6 => ?_)
  refine k_aload_n X (q := 2) dX0_isAhead_15 rfl rfl ?_
  refine gX0_227 X (S := S) he9.1 he9.2 dX0_isAhead_16 (fun v_16_7 ev_16_7 => ?_)
  refine k_gotI X (vX0_60 X (S := S) (c_X11_gap C.l C.e0 S v_12_6 v_16_7 ) (As := [.int v_12_6, .int v_16_7]) (rest := [.int v_8_4]) rfl rfl rfl rfl ⟨Nat.le_of_ble_eq_true rfl, Nat.le_of_ble_eq_true rfl⟩ (Nat.le_of_ble_eq_true rfl) ⟨Nat.le_of_ble_eq_true rfl, Nat.le_of_ble_eq_true rfl⟩ dX0_isAhead_19) (fun v_19_9 S_19_10 h_19_7 => ?_)
  obtain ⟨rfl, ev_19_9⟩ := h_19_7
  refine k_isub X dX0_isAhead_22 (fun v_22_11 ev_22_11 => ?_)
  refine k_istore_n X [(3, .int v_22_11), (0, .ref c), (1, .ref d), (2, .ref e)] dX0_isAhead_23 rfl (by decide) rfl ?_
  refine k_iload_n X (q := 0) dX0_isAhead_24 rfl rfl ?_
  refine k_if_gt (tgt := 43) X dX0_isAhead_25 (by decide) (fun c_25 => ?_) (fun c_25 => ?_)
  · skip
    refine k_iconst X (v := 1) dX0_isAhead_43 (by decide) ?_
    refine k_goto (tgt := 48) X dX0_isAhead_44 (by decide) ?_
    exact k_zret X E (Or.inr rfl) dX0_isAhead_48 (Nat.le_of_ble_eq_true rfl) (Nat.le_of_ble_eq_true rfl) rfl
  · skip
    refine k_iload_n X (q := 0) dX0_isAhead_28 rfl rfl ?_
    refine k_if_ne (tgt := 47) X dX0_isAhead_29 (by decide) (fun c_29 => ?_) (fun c_29 => ?_)
    · skip
      refine k_iconst X (v := 0) dX0_isAhead_47 (by decide) ?_
      exact k_zret X E (Or.inl rfl) dX0_isAhead_48 (Nat.le_of_ble_eq_true rfl) (Nat.le_of_ble_eq_true rfl) rfl
    · skip
      refine k_aload_n X (q := 1) dX0_isAhead_32 rfl rfl ?_
      refine gX0_230 X (S := S) hc.1 hc.2 dX0_isAhead_33 (fun v_33_12 ev_33_12 => ?_)
      refine k_aload_n X (q := 2) dX0_isAhead_36 rfl rfl ?_
      refine gX0_230 X (S := S) hd.1 hd.2 dX0_isAhead_37 (fun v_37_13 ev_37_13 => ?_)
      refine k_icmp_le (tgt := 47) X dX0_isAhead_40 (by decide) (fun c_40 => ?_) (fun c_40 => ?_)
      · skip
        refine k_iconst X (v := 0) dX0_isAhead_47 (by decide) ?_
        exact k_zret X E (Or.inl rfl) dX0_isAhead_48 (Nat.le_of_ble_eq_true rfl) (Nat.le_of_ble_eq_true rfl) rfl
      · skip
        refine k_iconst X (v := 1) dX0_isAhead_43 (by decide) ?_
        refine k_goto (tgt := 48) X dX0_isAhead_44 (by decide) ?_
        exact k_zret X E (Or.inr rfl) dX0_isAhead_48 (Nat.le_of_ble_eq_true rfl) (Nat.le_of_ble_eq_true rfl) rfl
set_option maxHeartbeats 1000000 in
set_option maxRecDepth 20000 in
theorem c_X0_mostForeignTo (l : Launch) (e0 : Nat × Nat) (S : kS) (c : Nat) (A : Nat → Nat) (n : Nat) (cz : Nat → Nat) (hst : kSt A S) (hC : kLs e0 S (A 10) 1 n cz) (hn : n ≤ 40) (hc : S.at c 1) : kM l e0 yX0_mostForeignTo cX0_mostForeignTo 5 (Option.some (Jvm.ClassFile.FieldType.object "Kleroterion$Citizen")) ({ frames := 3, cells := 0, slots := 0, locals := 68 } : Room) 0 0 [.ref (A 4), .ref c] S (kQq (fun v S9 => S = S9 ∧ (v = none ∨ ∃ z, z < n ∧ v = some (cz z)))) := by
  refine kMetE (by decide +kernel) (Nat.le_of_ble_eq_true rfl) (fun C he hl X E hm => ?_)
  have X : kX C RX0 cX0_mostForeignTo 5 ({ frames := 3, cells := 0, slots := 0, locals := 68 } : Room) := X
  subst he hl
  show kG C 5 S 0 0 0 [(0, .ref (A 4)), (1, .ref c)] []
  refine k_null X dX0_mostForeignTo_0 ?_
  refine k_astore_nQ X (r := none) [(2, .null), (0, .ref (A 4)), (1, .ref c)] dX0_mostForeignTo_1 rfl (by decide) rfl ?_
  refine k_iconst X (v := 0) dX0_mostForeignTo_2 (by decide) ?_
  refine k_istore_n X [(3, .int 0), (2, .null), (0, .ref (A 4)), (1, .ref c)] dX0_mostForeignTo_3 rfl (by decide) rfl ?_
  have L_4 : ∀ (N : Nat) (i : Nat) (x : Int32) (o : Option Nat), n - i = N → x = nI i → (i ≤ n ∧ (o = none ∨ ∃ z, z < n ∧ o = some (cz z))) → kG C 5 S 0 0 4 [(3, .int x), (2, va_rf o), (0, .ref (A 4)), (1, .ref c)] [] := by
    intro N
    induction N using Nat.strongRecOn with
    | _ N ih =>
    intro i x o hMs h4_0 h4_1
    subst h4_0
    obtain ⟨hBi, hor⟩ := h4_1
    refine k_iload_n X (q := 0) dX0_mostForeignTo_4 rfl rfl ?_
    refine k_aload_n X (q := 2) dX0_mostForeignTo_5 rfl rfl ?_
    refine gX0_38s X (S := S) (st_4 hst).1 (st_4 hst).2 (sr_4_0 hst) dX0_mostForeignTo_6 ?_
    refine gX0_79s X (S := S) (st_1 hst).1 (st_1 hst).2 (sr_1_12 hst) dX0_mostForeignTo_9 ?_
    refine k_gotI X (vX0_84 X (S := S) ⟨(st_10 hst).1, (st_10 hst).2⟩ (c_Jx4a65c_size_8abf5 C.l C.e0 S (A 10) (st_10 hst)) (As := []) (rest := [.int (nI i)]) rfl rfl rfl rfl ⟨Nat.le_of_ble_eq_true rfl, Nat.le_of_ble_eq_true rfl⟩ (Nat.le_of_ble_eq_true rfl) ⟨Nat.le_of_ble_eq_true rfl, Nat.le_of_ble_eq_true rfl⟩ dX0_mostForeignTo_12) (fun v_12_2 S_12_3 h_12_0 => ?_)
    obtain ⟨rfl, ev_12_2⟩ := h_12_0
    have hz_v_12_2 : nI n = v_12_2 := by rw [ev_12_2]; exact (hC).2.1.symm
    subst hz_v_12_2
    refine k_icmp_ge (tgt := 71) X dX0_mostForeignTo_15 (by decide) (fun c_15 => ?_) (fun c_15 => ?_)
    · skip
      refine k_aload_nQ X (q := 1) dX0_mostForeignTo_71 rfl rfl ?_
      exact k_aret X E (r := o) (Or.inl ⟨_, rfl⟩) dX0_mostForeignTo_72 (Nat.le_of_ble_eq_true rfl) (Nat.le_of_ble_eq_true rfl) (⟨rfl, hor⟩)
    · skip
      have hlti : i < n := lt_of_nle c_15 (by omega)
      refine k_aload_n X (q := 2) dX0_mostForeignTo_18 rfl rfl ?_
      refine gX0_38s X (S := S) (st_4 hst).1 (st_4 hst).2 (sr_4_0 hst) dX0_mostForeignTo_19 ?_
      refine gX0_79s X (S := S) (st_1 hst).1 (st_1 hst).2 (sr_1_12 hst) dX0_mostForeignTo_22 ?_
      refine k_iload_n X (q := 0) dX0_mostForeignTo_25 rfl rfl ?_
      refine k_gotQ X (vX0_88 X (S := S) ⟨(st_10 hst).1, (st_10 hst).2⟩ (c_Jx4a65c_get_915e3 C.l C.e0 S (A 10) 1 n i cz (hC) hlti) (As := [.int (nI i)]) (rest := []) rfl rfl rfl rfl ⟨Nat.le_of_ble_eq_true rfl, Nat.le_of_ble_eq_true rfl⟩ (Nat.le_of_ble_eq_true rfl) ⟨Nat.le_of_ble_eq_true rfl, Nat.le_of_ble_eq_true rfl⟩ dX0_mostForeignTo_26) (fun r_26_5 S_26_6 h_26_3 => ?_)
      obtain ⟨rfl, er_26_5⟩ := h_26_3
      subst er_26_5
      refine tX0_92 X (S := S) ⟨(kLs.el (hC) hlti).1, (kLs.el (hC) hlti).2⟩ dX0_mostForeignTo_29 ?_
      refine k_astore X [(4, .ref (cz i)), (3, .int (nI i)), (2, va_rf o), (0, .ref (A 4)), (1, .ref c)] dX0_mostForeignTo_32 (by decide) rfl ?_
      refine k_aload X (q := 0) dX0_mostForeignTo_34 rfl ?_
      refine k_aload_n X (q := 4) dX0_mostForeignTo_36 rfl rfl ?_
      refine k_acmp_eq (rx := some (cz i)) (ry := some c) (tgt := 65) X dX0_mostForeignTo_37 (by decide) (fun c_37 => ?_) (fun c_37 => ?_)
      · skip
        obtain ⟨v_65_7, ev_65_7⟩ : ∃ z : Int32, z = (nI i) + 1 := ⟨_, rfl⟩
        refine k_iinc X (q := 1) (v := v_65_7) [(3, .int v_65_7), (4, .ref (cz i)), (2, va_rf o), (0, .ref (A 4)), (1, .ref c)] dX0_mostForeignTo_65 rfl (by rw [ev_65_7]; rfl) (by decide) (by simp [List.filter, va_cat]) ?_
        refine k_goto (tgt := 4) X dX0_mostForeignTo_68 (by decide) ?_
        refine k_lv [0, 2, 3, 4] _ rfl ?_
        exact ih (n - (i + 1)) (by omega) (i + 1) _ o rfl (by rw [ev_65_7, nI_1]) ⟨by omega, hor⟩
      · skip
        refine k_aload X (q := 0) dX0_mostForeignTo_40 rfl ?_
        refine k_gotI X (vX0_94 X (S := S) ⟨(kLs.el (hC) hlti).1, (kLs.el (hC) hlti).2⟩ (c_X1_isFull C.l C.e0 S (cz i) (kLs.el (hC) hlti)) (As := []) (rest := []) rfl rfl rfl rfl ⟨Nat.le_of_ble_eq_true rfl, Nat.le_of_ble_eq_true rfl⟩ (Nat.le_of_ble_eq_true rfl) ⟨Nat.le_of_ble_eq_true rfl, Nat.le_of_ble_eq_true rfl⟩ dX0_mostForeignTo_42) (fun v_42_9 S_42_10 h_42_7 => ?_)
        obtain ⟨rfl, ev_42_9⟩ := h_42_7
        refine k_if_eq (tgt := 65) X dX0_mostForeignTo_45 (by decide) (fun c_45 => ?_) (fun c_45 => ?_)
        · skip
          rw [ev_42_9] at c_45
          obtain ⟨v_65_11, ev_65_11⟩ : ∃ z : Int32, z = (nI i) + 1 := ⟨_, rfl⟩
          refine k_iinc X (q := 1) (v := v_65_11) [(3, .int v_65_11), (4, .ref (cz i)), (2, va_rf o), (0, .ref (A 4)), (1, .ref c)] dX0_mostForeignTo_65 rfl (by rw [ev_65_11]; rfl) (by decide) (by simp [List.filter, va_cat]) ?_
          refine k_goto (tgt := 4) X dX0_mostForeignTo_68 (by decide) ?_
          refine k_lv [0, 2, 3, 4] _ rfl ?_
          exact ih (n - (i + 1)) (by omega) (i + 1) _ o rfl (by rw [ev_65_11, nI_1]) ⟨by omega, hor⟩
        · skip
          rw [ev_42_9] at c_45
          refine k_aload_nQ X (q := 2) dX0_mostForeignTo_48 rfl rfl ?_
          refine k_ifnull (tgt := 62) X dX0_mostForeignTo_49 (by decide) (fun c_49 => ?_) (fun a_49_12 c_49 => ?_)
          · skip
            subst c_49
            refine k_aload X (q := 0) dX0_mostForeignTo_62 rfl ?_
            refine k_astore_n X [(2, .ref (cz i)), (4, .ref (cz i)), (3, .int (nI i)), (0, .ref (A 4)), (1, .ref c)] dX0_mostForeignTo_64 rfl (by decide) rfl ?_
            obtain ⟨v_65_13, ev_65_13⟩ : ∃ z : Int32, z = (nI i) + 1 := ⟨_, rfl⟩
            refine k_iinc X (q := 2) (v := v_65_13) [(3, .int v_65_13), (2, .ref (cz i)), (4, .ref (cz i)), (0, .ref (A 4)), (1, .ref c)] dX0_mostForeignTo_65 rfl (by rw [ev_65_13]; rfl) (by decide) rfl ?_
            refine k_goto (tgt := 4) X dX0_mostForeignTo_68 (by decide) ?_
            refine k_lv [0, 1, 3, 4] _ rfl ?_
            exact ih (n - (i + 1)) (by omega) (i + 1) _ (some (cz i)) rfl (by rw [ev_65_13, nI_1]) ⟨by omega, Or.inr ⟨_, hlti, rfl⟩⟩
          · skip
            subst c_49
            obtain ⟨b, hb, hzb⟩ : ∃ z, z < n ∧ a_49_12 = cz z := by
              rcases hor with z | ⟨z, z1, z2⟩
              · cases z
              · exact ⟨z, z1, Option.some.inj z2⟩
            subst hzb
            refine k_aload X (q := 0) dX0_mostForeignTo_52 rfl ?_
            refine k_aload_n X (q := 2) dX0_mostForeignTo_54 rfl rfl ?_
            refine k_aload_n X (q := 4) dX0_mostForeignTo_55 rfl rfl ?_
            refine k_gotI X (vX0_223 X (S := S) (c_X0_isAhead C.l C.e0 S (cz i) (cz b) c  ⟨(kLs.el (hC) hlti).1, (kLs.el (hC) hlti).2⟩ ⟨(kLs.el hC hb).1, (kLs.el hC hb).2⟩ ⟨hc.1, hc.2⟩) (As := [.ref (cz i), .ref (cz b), .ref c]) (rest := []) rfl rfl rfl rfl ⟨Nat.le_of_ble_eq_true rfl, Nat.le_of_ble_eq_true rfl⟩ (Nat.le_of_ble_eq_true rfl) ⟨Nat.le_of_ble_eq_true rfl, Nat.le_of_ble_eq_true rfl⟩ dX0_mostForeignTo_56) (fun v_56_15 S_56_16 h_56_13 => ?_)
            subst h_56_13
            refine k_if_eq (tgt := 65) X dX0_mostForeignTo_59 (by decide) (fun c_59 => ?_) (fun c_59 => ?_)
            · skip
              obtain ⟨v_65_17, ev_65_17⟩ : ∃ z : Int32, z = (nI i) + 1 := ⟨_, rfl⟩
              refine k_iinc X (q := 1) (v := v_65_17) [(3, .int v_65_17), (4, .ref (cz i)), (2, .ref (cz b)), (0, .ref (A 4)), (1, .ref c)] dX0_mostForeignTo_65 rfl (by rw [ev_65_17]; rfl) (by decide) rfl ?_
              refine k_goto (tgt := 4) X dX0_mostForeignTo_68 (by decide) ?_
              refine k_lv [0, 2, 3, 4] _ rfl ?_
              exact ih (n - (i + 1)) (by omega) (i + 1) _ (some (cz b)) rfl (by rw [ev_65_17, nI_1]) ⟨by omega, Or.inr ⟨_, hb, rfl⟩⟩
            · skip
              refine k_aload X (q := 0) dX0_mostForeignTo_62 rfl ?_
              refine k_astore_n X [(2, .ref (cz i)), (4, .ref (cz i)), (3, .int (nI i)), (0, .ref (A 4)), (1, .ref c)] dX0_mostForeignTo_64 rfl (by decide) rfl ?_
              obtain ⟨v_65_18, ev_65_18⟩ : ∃ z : Int32, z = (nI i) + 1 := ⟨_, rfl⟩
              refine k_iinc X (q := 2) (v := v_65_18) [(3, .int v_65_18), (2, .ref (cz i)), (4, .ref (cz i)), (0, .ref (A 4)), (1, .ref c)] dX0_mostForeignTo_65 rfl (by rw [ev_65_18]; rfl) (by decide) rfl ?_
              refine k_goto (tgt := 4) X dX0_mostForeignTo_68 (by decide) ?_
              refine k_lv [0, 1, 3, 4] _ rfl ?_
              exact ih (n - (i + 1)) (by omega) (i + 1) _ (some (cz i)) rfl (by rw [ev_65_18, nI_1]) ⟨by omega, Or.inr ⟨_, hlti, rfl⟩⟩
  refine k_lv [0, 1, 2, 3] _ rfl ?_
  exact L_4 _ 0 0 none rfl nI_0.symm ⟨by omega, Or.inl rfl⟩
